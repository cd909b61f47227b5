theorem dX7_letterAt_14 : decode cX7_letterAt 14 = .ok (.goto 4, 3) := by decide +kernel
theorem dX7_letterAt_17 : decode cX7_letterAt 17 = .ok (.iconst (-1), 1) := by decide +kernel
theorem dX7_letterAt_18 : decode cX7_letterAt 18 = .ok (.ireturn, 1) := by decide +kernel
theorem dX7_isFigure_0 : decode cX7_isFigure 0 = .ok (.iload_n 0, 1) := by decide +kernel
theorem dX7_isFigure_1 : decode cX7_isFigure 1 = .ok (.bipush 48, 2) := by decide +kernel
theorem dX7_isFigure_3 : decode cX7_isFigure 3 = .ok (.bipush 57, 2) := by decide +kernel
theorem dX7_isFigure_5 : decode cX7_isFigure 5 = .ok (.invokestatic 64, 3) := by decide +kernel
theorem dX7_isFigure_8 : decode cX7_isFigure 8 = .ok (.ireturn, 1) := by decide +kernel
theorem dX7_next_0 : decode cX7_next 0 = .ok (.aload_n 0, 1) := by decide +kernel
theorem dX7_next_1 : decode cX7_next 1 = .ok (.aload_n 0, 1) := by decide +kernel
theorem dX7_next_2 : decode cX7_next 2 = .ok (.getfield 74, 3) := by decide +kernel
theorem dX7_next_5 : decode cX7_next 5 = .ok (.invokevirtual 77, 3) := by decide +kernel
theorem dX7_next_8 : decode cX7_next 8 = .ok (.bipush 32, 2) := by decide +kernel
theorem dX7_next_10 : decode cX7_next 10 = .ok (.if_icmp .ne 16, 3) := by decide +kernel
theorem dX7_next_13 : decode cX7_next 13 = .ok (.aload_n 0, 1) := by decide +kernel
theorem dX7_next_14 : decode cX7_next 14 = .ok (.dup, 1) := by decide +kernel
theorem dX7_next_15 : decode cX7_next 15 = .ok (.getfield 74, 3) := by decide +kernel
theorem dX7_next_18 : decode cX7_next 18 = .ok (.iconst 1, 1) := by decide +kernel
theorem dX7_next_19 : decode cX7_next 19 = .ok (.iadd, 1) := by decide +kernel
theorem dX7_next_20 : decode cX7_next 20 = .ok (.putfield 74, 3) := by decide +kernel
theorem dX7_next_23 : decode cX7_next 23 = .ok (.goto (-23), 3) := by decide +kernel
theorem dX7_next_26 : decode cX7_next 26 = .ok (.aload_n 0, 1) := by decide +kernel
theorem dX7_next_27 : decode cX7_next 27 = .ok (.aload_n 0, 1) := by decide +kernel
theorem dX7_next_28 : decode cX7_next 28 = .ok (.getfield 74, 3) := by decide +kernel
theorem dX7_next_31 : decode cX7_next 31 = .ok (.putfield 81, 3) := by decide +kernel
theorem dX7_next_34 : decode cX7_next 34 = .ok (.aload_n 0, 1) := by decide +kernel
theorem dX7_next_35 : decode cX7_next 35 = .ok (.aload_n 0, 1) := by decide +kernel
theorem dX7_next_36 : decode cX7_next 36 = .ok (.getfield 74, 3) := by decide +kernel
theorem dX7_next_39 : decode cX7_next 39 = .ok (.invokevirtual 77, 3) := by decide +kernel
theorem dX7_next_42 : decode cX7_next 42 = .ok (.istore_n 1, 1) := by decide +kernel
theorem dX7_next_43 : decode cX7_next 43 = .ok (.aload_n 0, 1) := by decide +kernel
theorem dX7_next_44 : decode cX7_next 44 = .ok (.iconst 0, 1) := by decide +kernel
theorem dX7_next_45 : decode cX7_next 45 = .ok (.putfield 84, 3) := by decide +kernel
theorem dX7_next_48 : decode cX7_next 48 = .ok (.iload_n 1, 1) := by decide +kernel
theorem dX7_next_49 : decode cX7_next 49 = .ok (.ifCond .ge 11, 3) := by decide +kernel
theorem dX7_next_52 : decode cX7_next 52 = .ok (.aload_n 0, 1) := by decide +kernel
theorem dX7_next_53 : decode cX7_next 53 = .ok (.iconst 0, 1) := by decide +kernel
theorem dX7_next_54 : decode cX7_next 54 = .ok (.putfield 87, 3) := by decide +kernel
theorem dX7_next_57 : decode cX7_next 57 = .ok (.goto 176, 3) := by decide +kernel
theorem dX7_next_60 : decode cX7_next 60 = .ok (.iload_n 1, 1) := by decide +kernel
theorem dX7_next_61 : decode cX7_next 61 = .ok (.invokestatic 90, 3) := by decide +kernel
theorem dX7_next_64 : decode cX7_next 64 = .ok (.ifCond .eq 111, 3) := by decide +kernel
theorem dX7_next_67 : decode cX7_next 67 = .ok (.aload_n 0, 1) := by decide +kernel
theorem dX7_next_68 : decode cX7_next 68 = .ok (.aload_n 0, 1) := by decide +kernel
theorem dX7_next_69 : decode cX7_next 69 = .ok (.getfield 74, 3) := by decide +kernel
theorem dX7_next_72 : decode cX7_next 72 = .ok (.invokevirtual 77, 3) := by decide +kernel
theorem dX7_next_75 : decode cX7_next 75 = .ok (.invokestatic 90, 3) := by decide +kernel
theorem dX7_next_78 : decode cX7_next 78 = .ok (.ifCond .eq 56, 3) := by decide +kernel
theorem dX7_next_81 : decode cX7_next 81 = .ok (.aload_n 0, 1) := by decide +kernel
theorem dX7_next_82 : decode cX7_next 82 = .ok (.aload_n 0, 1) := by decide +kernel
theorem dX7_next_83 : decode cX7_next 83 = .ok (.getfield 84, 3) := by decide +kernel
theorem dX7_next_86 : decode cX7_next 86 = .ok (.sipush 200, 3) := by decide +kernel
theorem dX7_next_89 : decode cX7_next 89 = .ok (.if_icmp .le 10, 3) := by decide +kernel
theorem dX7_next_92 : decode cX7_next 92 = .ok (.aload_n 0, 1) := by decide +kernel
theorem dX7_next_93 : decode cX7_next 93 = .ok (.getfield 84, 3) := by decide +kernel
theorem dX7_next_96 : decode cX7_next 96 = .ok (.goto 22, 3) := by decide +kernel
theorem dX7_next_99 : decode cX7_next 99 = .ok (.bipush 10, 2) := by decide +kernel
theorem dX7_next_101 : decode cX7_next 101 = .ok (.aload_n 0, 1) := by decide +kernel
theorem dX7_next_102 : decode cX7_next 102 = .ok (.getfield 84, 3) := by decide +kernel
theorem dX7_next_105 : decode cX7_next 105 = .ok (.imul, 1) := by decide +kernel
theorem dX7_next_106 : decode cX7_next 106 = .ok (.aload_n 0, 1) := by decide +kernel
theorem dX7_next_107 : decode cX7_next 107 = .ok (.aload_n 0, 1) := by decide +kernel
theorem dX7_next_108 : decode cX7_next 108 = .ok (.getfield 74, 3) := by decide +kernel
theorem dX7_next_111 : decode cX7_next 111 = .ok (.invokevirtual 77, 3) := by decide +kernel
theorem dX7_next_114 : decode cX7_next 114 = .ok (.iadd, 1) := by decide +kernel
theorem dX7_next_115 : decode cX7_next 115 = .ok (.bipush 48, 2) := by decide +kernel
theorem dX7_next_117 : decode cX7_next 117 = .ok (.isub, 1) := by decide +kernel
theorem dX7_next_118 : decode cX7_next 118 = .ok (.putfield 84, 3) := by decide +kernel
theorem dX7_next_121 : decode cX7_next 121 = .ok (.aload_n 0, 1) := by decide +kernel
theorem dX7_next_122 : decode cX7_next 122 = .ok (.dup, 1) := by decide +kernel
theorem dX7_next_123 : decode cX7_next 123 = .ok (.getfield 74, 3) := by decide +kernel
theorem dX7_next_126 : decode cX7_next 126 = .ok (.iconst 1, 1) := by decide +kernel
theorem dX7_next_127 : decode cX7_next 127 = .ok (.iadd, 1) := by decide +kernel
theorem dX7_next_128 : decode cX7_next 128 = .ok (.putfield 74, 3) := by decide +kernel
theorem dX7_next_131 : decode cX7_next 131 = .ok (.goto (-64), 3) := by decide +kernel
theorem dX7_next_134 : decode cX7_next 134 = .ok (.aload_n 0, 1) := by decide +kernel
theorem dX7_next_135 : decode cX7_next 135 = .ok (.aload_n 0, 1) := by decide +kernel
theorem dX7_next_136 : decode cX7_next 136 = .ok (.getfield 84, 3) := by decide +kernel
theorem dX7_next_139 : decode cX7_next 139 = .ok (.sipush 200, 3) := by decide +kernel
theorem dX7_next_142 : decode cX7_next 142 = .ok (.if_icmp .gt 22, 3) := by decide +kernel
theorem dX7_next_145 : decode cX7_next 145 = .ok (.iload_n 1, 1) := by decide +kernel
theorem dX7_next_146 : decode cX7_next 146 = .ok (.bipush 48, 2) := by decide +kernel
theorem dX7_next_148 : decode cX7_next 148 = .ok (.if_icmp .ne 20, 3) := by decide +kernel
theorem dX7_next_151 : decode cX7_next 151 = .ok (.aload_n 0, 1) := by decide +kernel
theorem dX7_next_152 : decode cX7_next 152 = .ok (.getfield 74, 3) := by decide +kernel
theorem dX7_next_155 : decode cX7_next 155 = .ok (.aload_n 0, 1) := by decide +kernel
theorem dX7_next_156 : decode cX7_next 156 = .ok (.getfield 81, 3) := by decide +kernel
theorem dX7_next_159 : decode cX7_next 159 = .ok (.isub, 1) := by decide +kernel
theorem dX7_next_160 : decode cX7_next 160 = .ok (.iconst 1, 1) := by decide +kernel
theorem dX7_next_161 : decode cX7_next 161 = .ok (.if_icmp .le 7, 3) := by decide +kernel
theorem dX7_next_164 : decode cX7_next 164 = .ok (.iconst 4, 1) := by decide +kernel
theorem dX7_next_165 : decode cX7_next 165 = .ok (.goto 4, 3) := by decide +kernel
theorem dX7_next_168 : decode cX7_next 168 = .ok (.iconst 2, 1) := by decide +kernel
theorem dX7_next_169 : decode cX7_next 169 = .ok (.putfield 87, 3) := by decide +kernel
theorem dX7_next_172 : decode cX7_next 172 = .ok (.goto 61, 3) := by decide +kernel
theorem dX7_next_175 : decode cX7_next 175 = .ok (.aload_n 0, 1) := by decide +kernel
theorem dX7_next_176 : decode cX7_next 176 = .ok (.iload_n 1, 1) := by decide +kernel
theorem dX7_next_177 : decode cX7_next 177 = .ok (.bipush 115, 2) := by decide +kernel
theorem dX7_next_179 : decode cX7_next 179 = .ok (.if_icmp .eq 21, 3) := by decide +kernel
theorem dX7_next_182 : decode cX7_next 182 = .ok (.iload_n 1, 1) := by decide +kernel
theorem dX7_next_183 : decode cX7_next 183 = .ok (.bipush 116, 2) := by decide +kernel
theorem dX7_next_185 : decode cX7_next 185 = .ok (.if_icmp .eq 15, 3) := by decide +kernel
theorem dX7_next_188 : decode cX7_next 188 = .ok (.iload_n 1, 1) := by decide +kernel
theorem dX7_next_189 : decode cX7_next 189 = .ok (.bipush 104, 2) := by decide +kernel
theorem dX7_next_191 : decode cX7_next 191 = .ok (.if_icmp .eq 9, 3) := by decide +kernel
theorem dX7_next_194 : decode cX7_next 194 = .ok (.iload_n 1, 1) := by decide +kernel
theorem dX7_next_195 : decode cX7_next 195 = .ok (.bipush 101, 2) := by decide +kernel
theorem dX7_next_197 : decode cX7_next 197 = .ok (.if_icmp .ne 7, 3) := by decide +kernel
theorem dX7_next_200 : decode cX7_next 200 = .ok (.iconst 1, 1) := by decide +kernel
theorem dX7_next_201 : decode cX7_next 201 = .ok (.goto 14, 3) := by decide +kernel
theorem dX7_next_204 : decode cX7_next 204 = .ok (.iload_n 1, 1) := by decide +kernel
theorem dX7_next_205 : decode cX7_next 205 = .ok (.bipush 59, 2) := by decide +kernel
theorem dX7_next_207 : decode cX7_next 207 = .ok (.if_icmp .ne 7, 3) := by decide +kernel
theorem dX7_next_210 : decode cX7_next 210 = .ok (.iconst 3, 1) := by decide +kernel
theorem dX7_next_211 : decode cX7_next 211 = .ok (.goto 4, 3) := by decide +kernel
theorem dX7_next_214 : decode cX7_next 214 = .ok (.iconst 4, 1) := by decide +kernel
theorem dX7_next_215 : decode cX7_next 215 = .ok (.putfield 87, 3) := by decide +kernel
theorem dX7_next_218 : decode cX7_next 218 = .ok (.aload_n 0, 1) := by decide +kernel
theorem dX7_next_219 : decode cX7_next 219 = .ok (.iload_n 1, 1) := by decide +kernel
theorem dX7_next_220 : decode cX7_next 220 = .ok (.putfield 84, 3) := by decide +kernel
theorem dX7_next_223 : decode cX7_next 223 = .ok (.aload_n 0, 1) := by decide +kernel
theorem dX7_next_224 : decode cX7_next 224 = .ok (.dup, 1) := by decide +kernel
theorem dX7_next_225 : decode cX7_next 225 = .ok (.getfield 74, 3) := by decide +kernel
theorem dX7_next_228 : decode cX7_next 228 = .ok (.iconst 1, 1) := by decide +kernel
theorem dX7_next_229 : decode cX7_next 229 = .ok (.iadd, 1) := by decide +kernel
theorem dX7_next_230 : decode cX7_next 230 = .ok (.putfield 74, 3) := by decide +kernel
theorem dX7_next_233 : decode cX7_next 233 = .ok (.return_, 1) := by decide +kernel
theorem dX7_takesNumber_0 : decode cX7_takesNumber 0 = .ok (.aload_n 0, 1) := by decide +kernel
theorem dX7_takesNumber_1 : decode cX7_takesNumber 1 = .ok (.getfield 94, 3) := by decide +kernel
theorem dX7_takesNumber_4 : decode cX7_takesNumber 4 = .ok (.ifCond .ne 27, 3) := by decide +kernel
theorem dX7_takesNumber_7 : decode cX7_takesNumber 7 = .ok (.aload_n 0, 1) := by decide +kernel
theorem dX7_takesNumber_8 : decode cX7_takesNumber 8 = .ok (.getfield 87, 3) := by decide +kernel
theorem dX7_takesNumber_11 : decode cX7_takesNumber 11 = .ok (.iconst 2, 1) := by decide +kernel
theorem dX7_takesNumber_12 : decode cX7_takesNumber 12 = .ok (.if_icmp .ne 19, 3) := by decide +kernel
theorem dX7_takesNumber_15 : decode cX7_takesNumber 15 = .ok (.aload_n 0, 1) := by decide +kernel
theorem dX7_takesNumber_16 : decode cX7_takesNumber 16 = .ok (.getfield 84, 3) := by decide +kernel
theorem dX7_takesNumber_19 : decode cX7_takesNumber 19 = .ok (.iload_n 1, 1) := by decide +kernel
theorem dX7_takesNumber_20 : decode cX7_takesNumber 20 = .ok (.iload_n 2, 1) := by decide +kernel
theorem dX7_takesNumber_21 : decode cX7_takesNumber 21 = .ok (.invokestatic 64, 3) := by decide +kernel
theorem dX7_takesNumber_24 : decode cX7_takesNumber 24 = .ok (.ifCond .eq 7, 3) := by decide +kernel
theorem dX7_takesNumber_27 : decode cX7_takesNumber 27 = .ok (.iconst 1, 1) := by decide +kernel
theorem dX7_takesNumber_28 : decode cX7_takesNumber 28 = .ok (.goto 4, 3) := by decide +kernel
theorem dX7_takesNumber_31 : decode cX7_takesNumber 31 = .ok (.iconst 0, 1) := by decide +kernel
theorem dX7_takesNumber_32 : decode cX7_takesNumber 32 = .ok (.istore_n 3, 1) := by decide +kernel
theorem dX7_takesNumber_33 : decode cX7_takesNumber 33 = .ok (.aload_n 0, 1) := by decide +kernel
theorem dX7_takesNumber_34 : decode cX7_takesNumber 34 = .ok (.iload_n 3, 1) := by decide +kernel
theorem dX7_takesNumber_35 : decode cX7_takesNumber 35 = .ok (.ifCond .ne 7, 3) := by decide +kernel
theorem dX7_takesNumber_38 : decode cX7_takesNumber 38 = .ok (.iconst 1, 1) := by decide +kernel
theorem dX7_takesNumber_39 : decode cX7_takesNumber 39 = .ok (.goto 4, 3) := by decide +kernel
theorem dX7_takesNumber_42 : decode cX7_takesNumber 42 = .ok (.iconst 0, 1) := by decide +kernel
theorem dX7_takesNumber_43 : decode cX7_takesNumber 43 = .ok (.putfield 94, 3) := by decide +kernel
theorem dX7_takesNumber_46 : decode cX7_takesNumber 46 = .ok (.aload_n 0, 1) := by decide +kernel
theorem dX7_takesNumber_47 : decode cX7_takesNumber 47 = .ok (.getfield 84, 3) := by decide +kernel
theorem dX7_takesNumber_50 : decode cX7_takesNumber 50 = .ok (.istore 4, 2) := by decide +kernel
theorem dX7_takesNumber_52 : decode cX7_takesNumber 52 = .ok (.iload_n 3, 1) := by decide +kernel
theorem dX7_takesNumber_53 : decode cX7_takesNumber 53 = .ok (.ifCond .eq 7, 3) := by decide +kernel
theorem dX7_takesNumber_56 : decode cX7_takesNumber 56 = .ok (.aload_n 0, 1) := by decide +kernel
theorem dX7_takesNumber_57 : decode cX7_takesNumber 57 = .ok (.invokevirtual 98, 3) := by decide +kernel
theorem dX7_takesNumber_60 : decode cX7_takesNumber 60 = .ok (.iload_n 3, 1) := by decide +kernel
theorem dX7_takesNumber_61 : decode cX7_takesNumber 61 = .ok (.ifCond .eq 8, 3) := by decide +kernel
theorem dX7_takesNumber_64 : decode cX7_takesNumber 64 = .ok (.iload 4, 2) := by decide +kernel
theorem dX7_takesNumber_66 : decode cX7_takesNumber 66 = .ok (.goto 4, 3) := by decide +kernel
theorem dX7_takesNumber_69 : decode cX7_takesNumber 69 = .ok (.iconst 0, 1) := by decide +kernel
theorem dX7_takesNumber_70 : decode cX7_takesNumber 70 = .ok (.ireturn, 1) := by decide +kernel
theorem dX7_readSeat_0 : decode cX7_readSeat 0 = .ok (.aload_n 0, 1) := by decide +kernel
theorem dX7_readSeat_1 : decode cX7_readSeat 1 = .ok (.getfield 45, 3) := by decide +kernel
theorem dX7_readSeat_4 : decode cX7_readSeat 4 = .ok (.iconst 2, 1) := by decide +kernel
theorem dX7_readSeat_5 : decode cX7_readSeat 5 = .ok (.aload_n 0, 1) := by decide +kernel
theorem dX7_readSeat_6 : decode cX7_readSeat 6 = .ok (.getfield 101, 3) := by decide +kernel
theorem dX7_readSeat_9 : decode cX7_readSeat 9 = .ok (.imul, 1) := by decide +kernel
theorem dX7_readSeat_10 : decode cX7_readSeat 10 = .ok (.aload_n 0, 1) := by decide +kernel
theorem dX7_readSeat_11 : decode cX7_readSeat 11 = .ok (.iconst 0, 1) := by decide +kernel
theorem dX7_readSeat_12 : decode cX7_readSeat 12 = .ok (.bipush 9, 2) := by decide +kernel
theorem dX7_readSeat_14 : decode cX7_readSeat 14 = .ok (.invokevirtual 104, 3) := by decide +kernel
theorem dX7_readSeat_17 : decode cX7_readSeat 17 = .ok (.iastore, 1) := by decide +kernel
theorem dX7_readSeat_18 : decode cX7_readSeat 18 = .ok (.aload_n 0, 1) := by decide +kernel
theorem dX7_readSeat_19 : decode cX7_readSeat 19 = .ok (.getfield 45, 3) := by decide +kernel
theorem dX7_readSeat_22 : decode cX7_readSeat 22 = .ok (.iconst 2, 1) := by decide +kernel
theorem dX7_readSeat_23 : decode cX7_readSeat 23 = .ok (.aload_n 0, 1) := by decide +kernel
theorem dX7_readSeat_24 : decode cX7_readSeat 24 = .ok (.getfield 101, 3) := by decide +kernel
theorem dX7_readSeat_27 : decode cX7_readSeat 27 = .ok (.imul, 1) := by decide +kernel
theorem dX7_readSeat_28 : decode cX7_readSeat 28 = .ok (.iconst 1, 1) := by decide +kernel
theorem dX7_readSeat_29 : decode cX7_readSeat 29 = .ok (.iadd, 1) := by decide +kernel
theorem dX7_readSeat_30 : decode cX7_readSeat 30 = .ok (.aload_n 0, 1) := by decide +kernel
theorem dX7_readSeat_31 : decode cX7_readSeat 31 = .ok (.iconst 0, 1) := by decide +kernel
theorem dX7_readSeat_32 : decode cX7_readSeat 32 = .ok (.bipush 9, 2) := by decide +kernel
theorem dX7_readSeat_34 : decode cX7_readSeat 34 = .ok (.invokevirtual 104, 3) := by decide +kernel
theorem dX7_readSeat_37 : decode cX7_readSeat 37 = .ok (.iastore, 1) := by decide +kernel
theorem dX7_readSeat_38 : decode cX7_readSeat 38 = .ok (.aload_n 0, 1) := by decide +kernel
theorem dX7_readSeat_39 : decode cX7_readSeat 39 = .ok (.dup, 1) := by decide +kernel
theorem dX7_readSeat_40 : decode cX7_readSeat 40 = .ok (.getfield 101, 3) := by decide +kernel
theorem dX7_readSeat_43 : decode cX7_readSeat 43 = .ok (.iconst 1, 1) := by decide +kernel
theorem dX7_readSeat_44 : decode cX7_readSeat 44 = .ok (.iadd, 1) := by decide +kernel
theorem dX7_readSeat_45 : decode cX7_readSeat 45 = .ok (.putfield 101, 3) := by decide +kernel
theorem dX7_readSeat_48 : decode cX7_readSeat 48 = .ok (.return_, 1) := by decide +kernel
theorem dX7_readThing_0 : decode cX7_readThing 0 = .ok (.iconst 4, 1) := by decide +kernel
theorem dX7_readThing_1 : decode cX7_readThing 1 = .ok (.aload_n 0, 1) := by decide +kernel
theorem dX7_readThing_2 : decode cX7_readThing 2 = .ok (.getfield 108, 3) := by decide +kernel
theorem dX7_readThing_5 : decode cX7_readThing 5 = .ok (.imul, 1) := by decide +kernel
theorem dX7_readThing_6 : decode cX7_readThing 6 = .ok (.istore_n 1, 1) := by decide +kernel
theorem dX7_readThing_7 : decode cX7_readThing 7 = .ok (.aload_n 0, 1) := by decide +kernel
theorem dX7_readThing_8 : decode cX7_readThing 8 = .ok (.getfield 48, 3) := by decide +kernel
theorem dX7_readThing_11 : decode cX7_readThing 11 = .ok (.iload_n 1, 1) := by decide +kernel
theorem dX7_readThing_12 : decode cX7_readThing 12 = .ok (.aload_n 0, 1) := by decide +kernel
theorem dX7_readThing_13 : decode cX7_readThing 13 = .ok (.iconst 0, 1) := by decide +kernel
theorem dX7_readThing_14 : decode cX7_readThing 14 = .ok (.aload_n 0, 1) := by decide +kernel
theorem dX7_readThing_15 : decode cX7_readThing 15 = .ok (.getfield 101, 3) := by decide +kernel
theorem dX7_readThing_18 : decode cX7_readThing 18 = .ok (.iconst 1, 1) := by decide +kernel
theorem dX7_readThing_19 : decode cX7_readThing 19 = .ok (.isub, 1) := by decide +kernel
theorem dX7_readThing_20 : decode cX7_readThing 20 = .ok (.invokevirtual 104, 3) := by decide +kernel
theorem dX7_readThing_23 : decode cX7_readThing 23 = .ok (.iastore, 1) := by decide +kernel
theorem dX7_readThing_24 : decode cX7_readThing 24 = .ok (.aload_n 0, 1) := by decide +kernel
theorem dX7_readThing_25 : decode cX7_readThing 25 = .ok (.getfield 48, 3) := by decide +kernel
theorem dX7_readThing_28 : decode cX7_readThing 28 = .ok (.iload_n 1, 1) := by decide +kernel
theorem dX7_readThing_29 : decode cX7_readThing 29 = .ok (.iconst 1, 1) := by decide +kernel
theorem dX7_readThing_30 : decode cX7_readThing 30 = .ok (.iadd, 1) := by decide +kernel
theorem dX7_readThing_31 : decode cX7_readThing 31 = .ok (.aload_n 0, 1) := by decide +kernel
theorem dX7_readThing_32 : decode cX7_readThing 32 = .ok (.iconst 0, 1) := by decide +kernel
theorem dX7_readThing_33 : decode cX7_readThing 33 = .ok (.bipush 31, 2) := by decide +kernel
theorem dX7_readThing_35 : decode cX7_readThing 35 = .ok (.invokevirtual 104, 3) := by decide +kernel
theorem dX7_readThing_38 : decode cX7_readThing 38 = .ok (.iastore, 1) := by decide +kernel
theorem dX7_readThing_39 : decode cX7_readThing 39 = .ok (.aload_n 0, 1) := by decide +kernel
theorem dX7_readThing_40 : decode cX7_readThing 40 = .ok (.getfield 48, 3) := by decide +kernel
theorem dX7_readThing_43 : decode cX7_readThing 43 = .ok (.iload_n 1, 1) := by decide +kernel
theorem dX7_readThing_44 : decode cX7_readThing 44 = .ok (.iconst 2, 1) := by decide +kernel
theorem dX7_readThing_45 : decode cX7_readThing 45 = .ok (.iadd, 1) := by decide +kernel
theorem dX7_readThing_46 : decode cX7_readThing 46 = .ok (.aload_n 0, 1) := by decide +kernel
theorem dX7_readThing_47 : decode cX7_readThing 47 = .ok (.iconst 0, 1) := by decide +kernel
theorem dX7_readThing_48 : decode cX7_readThing 48 = .ok (.iconst 5, 1) := by decide +kernel
theorem dX7_readThing_49 : decode cX7_readThing 49 = .ok (.invokevirtual 104, 3) := by decide +kernel
theorem dX7_readThing_52 : decode cX7_readThing 52 = .ok (.iastore, 1) := by decide +kernel
theorem dX7_readThing_53 : decode cX7_readThing 53 = .ok (.aload_n 0, 1) := by decide +kernel
theorem dX7_readThing_54 : decode cX7_readThing 54 = .ok (.aload_n 0, 1) := by decide +kernel
theorem dX7_readThing_55 : decode cX7_readThing 55 = .ok (.getfield 94, 3) := by decide +kernel
theorem dX7_readThing_58 : decode cX7_readThing 58 = .ok (.ifCond .ne 26, 3) := by decide +kernel
theorem dX7_readThing_61 : decode cX7_readThing 61 = .ok (.aload_n 0, 1) := by decide +kernel
theorem dX7_readThing_62 : decode cX7_readThing 62 = .ok (.getfield 87, 3) := by decide +kernel
theorem dX7_readThing_65 : decode cX7_readThing 65 = .ok (.iconst 2, 1) := by decide +kernel
theorem dX7_readThing_66 : decode cX7_readThing 66 = .ok (.if_icmp .ne 22, 3) := by decide +kernel
theorem dX7_readThing_69 : decode cX7_readThing 69 = .ok (.aload_n 0, 1) := by decide +kernel
theorem dX7_readThing_70 : decode cX7_readThing 70 = .ok (.getfield 84, 3) := by decide +kernel
theorem dX7_readThing_73 : decode cX7_readThing 73 = .ok (.aload_n 0, 1) := by decide +kernel
theorem dX7_readThing_74 : decode cX7_readThing 74 = .ok (.getfield 48, 3) := by decide +kernel
theorem dX7_readThing_77 : decode cX7_readThing 77 = .ok (.iload_n 1, 1) := by decide +kernel
theorem dX7_readThing_78 : decode cX7_readThing 78 = .ok (.iconst 2, 1) := by decide +kernel
theorem dX7_readThing_79 : decode cX7_readThing 79 = .ok (.iadd, 1) := by decide +kernel
theorem dX7_readThing_80 : decode cX7_readThing 80 = .ok (.iaload, 1) := by decide +kernel
theorem dX7_readThing_81 : decode cX7_readThing 81 = .ok (.if_icmp .ne 7, 3) := by decide +kernel
theorem dX7_readThing_84 : decode cX7_readThing 84 = .ok (.iconst 1, 1) := by decide +kernel
theorem dX7_readThing_85 : decode cX7_readThing 85 = .ok (.goto 4, 3) := by decide +kernel
theorem dX7_readThing_88 : decode cX7_readThing 88 = .ok (.iconst 0, 1) := by decide +kernel
theorem dX7_readThing_89 : decode cX7_readThing 89 = .ok (.putfield 94, 3) := by decide +kernel
theorem dX7_readThing_92 : decode cX7_readThing 92 = .ok (.aload_n 0, 1) := by decide +kernel
theorem dX7_readThing_93 : decode cX7_readThing 93 = .ok (.getfield 48, 3) := by decide +kernel
theorem dX7_readThing_96 : decode cX7_readThing 96 = .ok (.iload_n 1, 1) := by decide +kernel
theorem dX7_readThing_97 : decode cX7_readThing 97 = .ok (.iconst 3, 1) := by decide +kernel
theorem dX7_readThing_98 : decode cX7_readThing 98 = .ok (.iadd, 1) := by decide +kernel
theorem dX7_readThing_99 : decode cX7_readThing 99 = .ok (.aload_n 0, 1) := by decide +kernel
theorem dX7_readThing_100 : decode cX7_readThing 100 = .ok (.iconst 0, 1) := by decide +kernel
theorem dX7_readThing_101 : decode cX7_readThing 101 = .ok (.iconst 5, 1) := by decide +kernel
theorem dX7_readThing_102 : decode cX7_readThing 102 = .ok (.invokevirtual 104, 3) := by decide +kernel
theorem dX7_readThing_105 : decode cX7_readThing 105 = .ok (.iastore, 1) := by decide +kernel
theorem dX7_readThing_106 : decode cX7_readThing 106 = .ok (.aload_n 0, 1) := by decide +kernel
theorem dX7_readThing_107 : decode cX7_readThing 107 = .ok (.dup, 1) := by decide +kernel
theorem dX7_readThing_108 : decode cX7_readThing 108 = .ok (.getfield 108, 3) := by decide +kernel
theorem dX7_readThing_111 : decode cX7_readThing 111 = .ok (.iconst 1, 1) := by decide +kernel
theorem dX7_readThing_112 : decode cX7_readThing 112 = .ok (.iadd, 1) := by decide +kernel
theorem dX7_readThing_113 : decode cX7_readThing 113 = .ok (.putfield 108, 3) := by decide +kernel
theorem dX7_readThing_116 : decode cX7_readThing 116 = .ok (.return_, 1) := by decide +kernel
theorem dX7_readItem_0 : decode cX7_readItem 0 = .ok (.aload_n 0, 1) := by decide +kernel
theorem dX7_readItem_1 : decode cX7_readItem 1 = .ok (.getfield 84, 3) := by decide +kernel
theorem dX7_readItem_4 : decode cX7_readItem 4 = .ok (.istore_n 1, 1) := by decide +kernel
theorem dX7_readItem_5 : decode cX7_readItem 5 = .ok (.iload_n 1, 1) := by decide +kernel
theorem dX7_readItem_6 : decode cX7_readItem 6 = .ok (.bipush 115, 2) := by decide +kernel
theorem dX7_readItem_8 : decode cX7_readItem 8 = .ok (.if_icmp .ne 19, 3) := by decide +kernel
theorem dX7_readItem_11 : decode cX7_readItem 11 = .ok (.aload_n 0, 1) := by decide +kernel
theorem dX7_readItem_12 : decode cX7_readItem 12 = .ok (.getfield 101, 3) := by decide +kernel
theorem dX7_readItem_15 : decode cX7_readItem 15 = .ok (.iconst 4, 1) := by decide +kernel
theorem dX7_readItem_16 : decode cX7_readItem 16 = .ok (.if_icmp .ge 7, 3) := by decide +kernel
theorem dX7_readItem_19 : decode cX7_readItem 19 = .ok (.iconst 1, 1) := by decide +kernel
theorem dX7_readItem_20 : decode cX7_readItem 20 = .ok (.goto 62, 3) := by decide +kernel
theorem dX7_readItem_23 : decode cX7_readItem 23 = .ok (.iconst 0, 1) := by decide +kernel
theorem dX7_readItem_24 : decode cX7_readItem 24 = .ok (.goto 58, 3) := by decide +kernel
theorem dX7_readItem_27 : decode cX7_readItem 27 = .ok (.iload_n 1, 1) := by decide +kernel
theorem dX7_readItem_28 : decode cX7_readItem 28 = .ok (.bipush 116, 2) := by decide +kernel
theorem dX7_readItem_30 : decode cX7_readItem 30 = .ok (.if_icmp .ne 19, 3) := by decide +kernel
theorem dX7_readItem_33 : decode cX7_readItem 33 = .ok (.aload_n 0, 1) := by decide +kernel
theorem dX7_readItem_34 : decode cX7_readItem 34 = .ok (.getfield 108, 3) := by decide +kernel
theorem dX7_readItem_37 : decode cX7_readItem 37 = .ok (.iconst 4, 1) := by decide +kernel
theorem dX7_readItem_38 : decode cX7_readItem 38 = .ok (.if_icmp .ge 7, 3) := by decide +kernel
theorem dX7_readItem_41 : decode cX7_readItem 41 = .ok (.iconst 1, 1) := by decide +kernel
theorem dX7_readItem_42 : decode cX7_readItem 42 = .ok (.goto 40, 3) := by decide +kernel
theorem dX7_readItem_45 : decode cX7_readItem 45 = .ok (.iconst 0, 1) := by decide +kernel
theorem dX7_readItem_46 : decode cX7_readItem 46 = .ok (.goto 36, 3) := by decide +kernel
theorem dX7_readItem_49 : decode cX7_readItem 49 = .ok (.iload_n 1, 1) := by decide +kernel
theorem dX7_readItem_50 : decode cX7_readItem 50 = .ok (.bipush 104, 2) := by decide +kernel
theorem dX7_readItem_52 : decode cX7_readItem 52 = .ok (.if_icmp .ne 18, 3) := by decide +kernel
theorem dX7_readItem_55 : decode cX7_readItem 55 = .ok (.aload_n 0, 1) := by decide +kernel
theorem dX7_readItem_56 : decode cX7_readItem 56 = .ok (.getfield 111, 3) := by decide +kernel
theorem dX7_readItem_59 : decode cX7_readItem 59 = .ok (.ifCond .ge 7, 3) := by decide +kernel
theorem dX7_readItem_62 : decode cX7_readItem 62 = .ok (.iconst 1, 1) := by decide +kernel
theorem dX7_readItem_63 : decode cX7_readItem 63 = .ok (.goto 19, 3) := by decide +kernel
theorem dX7_readItem_66 : decode cX7_readItem 66 = .ok (.iconst 0, 1) := by decide +kernel
theorem dX7_readItem_67 : decode cX7_readItem 67 = .ok (.goto 15, 3) := by decide +kernel
theorem dX7_readItem_70 : decode cX7_readItem 70 = .ok (.aload_n 0, 1) := by decide +kernel
theorem dX7_readItem_71 : decode cX7_readItem 71 = .ok (.getfield 114, 3) := by decide +kernel
theorem dX7_readItem_74 : decode cX7_readItem 74 = .ok (.ifCond .ge 7, 3) := by decide +kernel
theorem dX7_readItem_77 : decode cX7_readItem 77 = .ok (.iconst 1, 1) := by decide +kernel
theorem dX7_readItem_78 : decode cX7_readItem 78 = .ok (.goto 4, 3) := by decide +kernel
theorem dX7_readItem_81 : decode cX7_readItem 81 = .ok (.iconst 0, 1) := by decide +kernel
theorem dX7_readItem_82 : decode cX7_readItem 82 = .ok (.istore_n 2, 1) := by decide +kernel
theorem dX7_readItem_83 : decode cX7_readItem 83 = .ok (.aload_n 0, 1) := by decide +kernel
theorem dX7_readItem_84 : decode cX7_readItem 84 = .ok (.getfield 87, 3) := by decide +kernel
theorem dX7_readItem_87 : decode cX7_readItem 87 = .ok (.iconst 1, 1) := by decide +kernel
theorem dX7_readItem_88 : decode cX7_readItem 88 = .ok (.if_icmp .ne 7, 3) := by decide +kernel
theorem dX7_readItem_91 : decode cX7_readItem 91 = .ok (.iload_n 2, 1) := by decide +kernel
theorem dX7_readItem_92 : decode cX7_readItem 92 = .ok (.ifCond .ne 9, 3) := by decide +kernel
theorem dX7_readItem_95 : decode cX7_readItem 95 = .ok (.aload_n 0, 1) := by decide +kernel
theorem dX7_readItem_96 : decode cX7_readItem 96 = .ok (.iconst 1, 1) := by decide +kernel
theorem dX7_readItem_97 : decode cX7_readItem 97 = .ok (.putfield 94, 3) := by decide +kernel
theorem dX7_readItem_100 : decode cX7_readItem 100 = .ok (.return_, 1) := by decide +kernel
theorem dX7_readItem_101 : decode cX7_readItem 101 = .ok (.aload_n 0, 1) := by decide +kernel
theorem dX7_readItem_102 : decode cX7_readItem 102 = .ok (.invokevirtual 98, 3) := by decide +kernel
theorem dX7_readItem_105 : decode cX7_readItem 105 = .ok (.iload_n 1, 1) := by decide +kernel
theorem dX7_readItem_106 : decode cX7_readItem 106 = .ok (.bipush 115, 2) := by decide +kernel
theorem dX7_readItem_108 : decode cX7_readItem 108 = .ok (.if_icmp .ne 10, 3) := by decide +kernel
theorem dX7_readItem_111 : decode cX7_readItem 111 = .ok (.aload_n 0, 1) := by decide +kernel
theorem dX7_readItem_112 : decode cX7_readItem 112 = .ok (.invokevirtual 117, 3) := by decide +kernel
theorem dX7_readItem_115 : decode cX7_readItem 115 = .ok (.goto 47, 3) := by decide +kernel
theorem dX7_readItem_118 : decode cX7_readItem 118 = .ok (.iload_n 1, 1) := by decide +kernel
theorem dX7_readItem_119 : decode cX7_readItem 119 = .ok (.bipush 116, 2) := by decide +kernel
theorem dX7_readItem_121 : decode cX7_readItem 121 = .ok (.if_icmp .ne 10, 3) := by decide +kernel
theorem dX7_readItem_124 : decode cX7_readItem 124 = .ok (.aload_n 0, 1) := by decide +kernel
theorem dX7_readItem_125 : decode cX7_readItem 125 = .ok (.invokevirtual 120, 3) := by decide +kernel
theorem dX7_readItem_128 : decode cX7_readItem 128 = .ok (.goto 34, 3) := by decide +kernel
theorem dX7_readItem_131 : decode cX7_readItem 131 = .ok (.iload_n 1, 1) := by decide +kernel
theorem dX7_readItem_132 : decode cX7_readItem 132 = .ok (.bipush 104, 2) := by decide +kernel
theorem dX7_readItem_134 : decode cX7_readItem 134 = .ok (.if_icmp .ne 16, 3) := by decide +kernel
theorem dX7_readItem_137 : decode cX7_readItem 137 = .ok (.aload_n 0, 1) := by decide +kernel
theorem dX7_readItem_138 : decode cX7_readItem 138 = .ok (.aload_n 0, 1) := by decide +kernel
theorem dX7_readItem_139 : decode cX7_readItem 139 = .ok (.iconst 1, 1) := by decide +kernel
theorem dX7_readItem_140 : decode cX7_readItem 140 = .ok (.iconst 4, 1) := by decide +kernel
theorem dX7_readItem_141 : decode cX7_readItem 141 = .ok (.invokevirtual 104, 3) := by decide +kernel
theorem dX7_readItem_144 : decode cX7_readItem 144 = .ok (.putfield 111, 3) := by decide +kernel
theorem dX7_readItem_147 : decode cX7_readItem 147 = .ok (.goto 15, 3) := by decide +kernel
theorem dX7_readItem_150 : decode cX7_readItem 150 = .ok (.aload_n 0, 1) := by decide +kernel
theorem dX7_readItem_151 : decode cX7_readItem 151 = .ok (.aload_n 0, 1) := by decide +kernel
theorem dX7_readItem_152 : decode cX7_readItem 152 = .ok (.iconst 1, 1) := by decide +kernel
theorem dX7_readItem_153 : decode cX7_readItem 153 = .ok (.sipush 200, 3) := by decide +kernel
theorem dX7_readItem_156 : decode cX7_readItem 156 = .ok (.invokevirtual 104, 3) := by decide +kernel
theorem dX7_readItem_159 : decode cX7_readItem 159 = .ok (.putfield 114, 3) := by decide +kernel
theorem dX7_readItem_162 : decode cX7_readItem 162 = .ok (.aload_n 0, 1) := by decide +kernel
theorem dX7_readItem_163 : decode cX7_readItem 163 = .ok (.aload_n 0, 1) := by decide +kernel
theorem dX7_readItem_164 : decode cX7_readItem 164 = .ok (.getfield 94, 3) := by decide +kernel
theorem dX7_readItem_167 : decode cX7_readItem 167 = .ok (.ifCond .ne 11, 3) := by decide +kernel
theorem dX7_readItem_170 : decode cX7_readItem 170 = .ok (.aload_n 0, 1) := by decide +kernel
theorem dX7_readItem_171 : decode cX7_readItem 171 = .ok (.getfield 87, 3) := by decide +kernel
theorem dX7_readItem_174 : decode cX7_readItem 174 = .ok (.iconst 3, 1) := by decide +kernel
theorem dX7_readItem_175 : decode cX7_readItem 175 = .ok (.if_icmp .eq 7, 3) := by decide +kernel
theorem dX7_readItem_178 : decode cX7_readItem 178 = .ok (.iconst 1, 1) := by decide +kernel
theorem dX7_readItem_179 : decode cX7_readItem 179 = .ok (.goto 4, 3) := by decide +kernel
theorem dX7_readItem_182 : decode cX7_readItem 182 = .ok (.iconst 0, 1) := by decide +kernel
theorem dX7_readItem_183 : decode cX7_readItem 183 = .ok (.putfield 94, 3) := by decide +kernel
theorem dX7_readItem_186 : decode cX7_readItem 186 = .ok (.aload_n 0, 1) := by decide +kernel
theorem dX7_readItem_187 : decode cX7_readItem 187 = .ok (.getfield 94, 3) := by decide +kernel
theorem dX7_readItem_190 : decode cX7_readItem 190 = .ok (.ifCond .ne 7, 3) := by decide +kernel
theorem dX7_readItem_193 : decode cX7_readItem 193 = .ok (.aload_n 0, 1) := by decide +kernel
theorem dX7_readItem_194 : decode cX7_readItem 194 = .ok (.invokevirtual 98, 3) := by decide +kernel
theorem dX7_readItem_197 : decode cX7_readItem 197 = .ok (.return_, 1) := by decide +kernel
theorem dX7_hall_0 : decode cX7_hall 0 = .ok (.aload_n 0, 1) := by decide +kernel
theorem dX7_hall_1 : decode cX7_hall 1 = .ok (.iconst 0, 1) := by decide +kernel
theorem dX7_hall_2 : decode cX7_hall 2 = .ok (.putfield 74, 3) := by decide +kernel
theorem dX7_hall_5 : decode cX7_hall 5 = .ok (.aload_n 0, 1) := by decide +kernel
theorem dX7_hall_6 : decode cX7_hall 6 = .ok (.iconst 0, 1) := by decide +kernel
theorem dX7_hall_7 : decode cX7_hall 7 = .ok (.putfield 94, 3) := by decide +kernel
theorem dX7_hall_10 : decode cX7_hall 10 = .ok (.aload_n 0, 1) := by decide +kernel
theorem dX7_hall_11 : decode cX7_hall 11 = .ok (.iconst 0, 1) := by decide +kernel
theorem dX7_hall_12 : decode cX7_hall 12 = .ok (.putfield 123, 3) := by decide +kernel
theorem dX7_hall_15 : decode cX7_hall 15 = .ok (.aload_n 0, 1) := by decide +kernel
theorem dX7_hall_16 : decode cX7_hall 16 = .ok (.iconst 0, 1) := by decide +kernel
theorem dX7_hall_17 : decode cX7_hall 17 = .ok (.putfield 101, 3) := by decide +kernel
theorem dX7_hall_20 : decode cX7_hall 20 = .ok (.aload_n 0, 1) := by decide +kernel
theorem dX7_hall_21 : decode cX7_hall 21 = .ok (.iconst 0, 1) := by decide +kernel
theorem dX7_hall_22 : decode cX7_hall 22 = .ok (.putfield 108, 3) := by decide +kernel
theorem dX7_hall_25 : decode cX7_hall 25 = .ok (.aload_n 0, 1) := by decide +kernel
theorem dX7_hall_26 : decode cX7_hall 26 = .ok (.iconst (-1), 1) := by decide +kernel
theorem dX7_hall_27 : decode cX7_hall 27 = .ok (.putfield 111, 3) := by decide +kernel
theorem dX7_hall_30 : decode cX7_hall 30 = .ok (.aload_n 0, 1) := by decide +kernel
theorem dX7_hall_31 : decode cX7_hall 31 = .ok (.iconst (-1), 1) := by decide +kernel
theorem dX7_hall_32 : decode cX7_hall 32 = .ok (.putfield 114, 3) := by decide +kernel
theorem dX7_hall_35 : decode cX7_hall 35 = .ok (.aload_n 0, 1) := by decide +kernel
theorem dX7_hall_36 : decode cX7_hall 36 = .ok (.invokevirtual 98, 3) := by decide +kernel
theorem dX7_hall_39 : decode cX7_hall 39 = .ok (.aload_n 0, 1) := by decide +kernel
theorem dX7_hall_40 : decode cX7_hall 40 = .ok (.getfield 87, 3) := by decide +kernel
theorem dX7_hall_43 : decode cX7_hall 43 = .ok (.ifCond .eq 27, 3) := by decide +kernel
theorem dX7_hall_46 : decode cX7_hall 46 = .ok (.aload_n 0, 1) := by decide +kernel
theorem dX7_hall_47 : decode cX7_hall 47 = .ok (.getfield 94, 3) := by decide +kernel
theorem dX7_hall_50 : decode cX7_hall 50 = .ok (.ifCond .ne 20, 3) := by decide +kernel
theorem dX7_hall_53 : decode cX7_hall 53 = .ok (.aload_n 0, 1) := by decide +kernel
theorem dX7_hall_54 : decode cX7_hall 54 = .ok (.invokevirtual 126, 3) := by decide +kernel
theorem dX7_hall_57 : decode cX7_hall 57 = .ok (.aload_n 0, 1) := by decide +kernel
theorem dX7_hall_58 : decode cX7_hall 58 = .ok (.dup, 1) := by decide +kernel
theorem dX7_hall_59 : decode cX7_hall 59 = .ok (.getfield 123, 3) := by decide +kernel
theorem dX7_hall_62 : decode cX7_hall 62 = .ok (.iconst 1, 1) := by decide +kernel
theorem dX7_hall_63 : decode cX7_hall 63 = .ok (.iadd, 1) := by decide +kernel
theorem dX7_hall_64 : decode cX7_hall 64 = .ok (.putfield 123, 3) := by decide +kernel
theorem dX7_hall_67 : decode cX7_hall 67 = .ok (.goto (-28), 3) := by decide +kernel
theorem dX7_hall_70 : decode cX7_hall 70 = .ok (.aload_n 0, 1) := by decide +kernel
theorem dX7_hall_71 : decode cX7_hall 71 = .ok (.getfield 94, 3) := by decide +kernel
theorem dX7_hall_74 : decode cX7_hall 74 = .ok (.ifCond .eq 11, 3) := by decide +kernel
theorem dX7_hall_77 : decode cX7_hall 77 = .ok (.bipush (-10), 2) := by decide +kernel
theorem dX7_hall_79 : decode cX7_hall 79 = .ok (.aload_n 0, 1) := by decide +kernel
theorem dX7_hall_80 : decode cX7_hall 80 = .ok (.getfield 81, 3) := by decide +kernel
theorem dX7_hall_83 : decode cX7_hall 83 = .ok (.isub, 1) := by decide +kernel
theorem dX7_hall_84 : decode cX7_hall 84 = .ok (.ireturn, 1) := by decide +kernel
theorem dX7_hall_85 : decode cX7_hall 85 = .ok (.aload_n 0, 1) := by decide +kernel
theorem dX7_hall_86 : decode cX7_hall 86 = .ok (.invokevirtual 129, 3) := by decide +kernel
theorem dX7_hall_89 : decode cX7_hall 89 = .ok (.aload_n 0, 1) := by decide +kernel
theorem dX7_hall_90 : decode cX7_hall 90 = .ok (.getfield 123, 3) := by decide +kernel
theorem dX7_hall_93 : decode cX7_hall 93 = .ok (.ireturn, 1) := by decide +kernel
theorem dX7_settles_0 : decode cX7_settles 0 = .ok (.aload_n 0, 1) := by decide +kernel
theorem dX7_settles_1 : decode cX7_settles 1 = .ok (.aload_n 0, 1) := by decide +kernel
theorem dX7_settles_2 : decode cX7_settles 2 = .ok (.getfield 101, 3) := by decide +kernel
theorem dX7_settles_5 : decode cX7_settles 5 = .ok (.putfield 61, 3) := by decide +kernel
theorem dX7_settles_8 : decode cX7_settles 8 = .ok (.aload_n 0, 1) := by decide +kernel
theorem dX7_settles_9 : decode cX7_settles 9 = .ok (.aload_n 0, 1) := by decide +kernel
theorem dX7_settles_10 : decode cX7_settles 10 = .ok (.getfield 108, 3) := by decide +kernel
theorem dX7_settles_13 : decode cX7_settles 13 = .ok (.putfield 68, 3) := by decide +kernel
theorem dX7_settles_16 : decode cX7_settles 16 = .ok (.iconst 0, 1) := by decide +kernel
theorem dX7_settles_17 : decode cX7_settles 17 = .ok (.istore_n 1, 1) := by decide +kernel
theorem dX7_settles_18 : decode cX7_settles 18 = .ok (.iload_n 1, 1) := by decide +kernel
theorem dX7_settles_19 : decode cX7_settles 19 = .ok (.bipush 8, 2) := by decide +kernel
theorem dX7_settles_21 : decode cX7_settles 21 = .ok (.if_icmp .ge 21, 3) := by decide +kernel
theorem dX7_settles_24 : decode cX7_settles 24 = .ok (.aload_n 0, 1) := by decide +kernel
theorem dX7_settles_25 : decode cX7_settles 25 = .ok (.getfield 7, 3) := by decide +kernel
theorem dX7_settles_28 : decode cX7_settles 28 = .ok (.iload_n 1, 1) := by decide +kernel
theorem dX7_settles_29 : decode cX7_settles 29 = .ok (.aload_n 0, 1) := by decide +kernel
theorem dX7_settles_30 : decode cX7_settles 30 = .ok (.getfield 45, 3) := by decide +kernel
theorem dX7_settles_33 : decode cX7_settles 33 = .ok (.iload_n 1, 1) := by decide +kernel
theorem dX7_settles_34 : decode cX7_settles 34 = .ok (.iaload, 1) := by decide +kernel
theorem dX7_settles_35 : decode cX7_settles 35 = .ok (.iastore, 1) := by decide +kernel
theorem dX7_settles_36 : decode cX7_settles 36 = .ok (.iinc 1 1, 3) := by decide +kernel
theorem dX7_settles_39 : decode cX7_settles 39 = .ok (.goto (-21), 3) := by decide +kernel
theorem dX7_settles_42 : decode cX7_settles 42 = .ok (.iconst 0, 1) := by decide +kernel
theorem dX7_settles_43 : decode cX7_settles 43 = .ok (.istore_n 1, 1) := by decide +kernel
theorem dX7_settles_44 : decode cX7_settles 44 = .ok (.iload_n 1, 1) := by decide +kernel
theorem dX7_settles_45 : decode cX7_settles 45 = .ok (.bipush 16, 2) := by decide +kernel
theorem dX7_settles_47 : decode cX7_settles 47 = .ok (.if_icmp .ge 21, 3) := by decide +kernel
theorem dX7_settles_50 : decode cX7_settles 50 = .ok (.aload_n 0, 1) := by decide +kernel
theorem dX7_settles_51 : decode cX7_settles 51 = .ok (.getfield 13, 3) := by decide +kernel
theorem dX7_settles_54 : decode cX7_settles 54 = .ok (.iload_n 1, 1) := by decide +kernel
theorem dX7_settles_55 : decode cX7_settles 55 = .ok (.aload_n 0, 1) := by decide +kernel
theorem dX7_settles_56 : decode cX7_settles 56 = .ok (.getfield 48, 3) := by decide +kernel
theorem dX7_settles_59 : decode cX7_settles 59 = .ok (.iload_n 1, 1) := by decide +kernel
theorem dX7_settles_60 : decode cX7_settles 60 = .ok (.iaload, 1) := by decide +kernel
theorem dX7_settles_61 : decode cX7_settles 61 = .ok (.iastore, 1) := by decide +kernel
theorem dX7_settles_62 : decode cX7_settles 62 = .ok (.iinc 1 1, 3) := by decide +kernel
theorem dX7_settles_65 : decode cX7_settles 65 = .ok (.goto (-21), 3) := by decide +kernel
theorem dX7_settles_68 : decode cX7_settles 68 = .ok (.aload_n 0, 1) := by decide +kernel
theorem dX7_settles_69 : decode cX7_settles 69 = .ok (.aload_n 0, 1) := by decide +kernel
theorem dX7_settles_70 : decode cX7_settles 70 = .ok (.getfield 111, 3) := by decide +kernel
theorem dX7_settles_73 : decode cX7_settles 73 = .ok (.ifCond .ge 7, 3) := by decide +kernel
theorem dX7_settles_76 : decode cX7_settles 76 = .ok (.iconst 2, 1) := by decide +kernel
theorem dX7_settles_77 : decode cX7_settles 77 = .ok (.goto 7, 3) := by decide +kernel
theorem dX7_settles_80 : decode cX7_settles 80 = .ok (.aload_n 0, 1) := by decide +kernel
theorem dX7_settles_81 : decode cX7_settles 81 = .ok (.getfield 111, 3) := by decide +kernel
theorem dX7_settles_84 : decode cX7_settles 84 = .ok (.putfield 16, 3) := by decide +kernel
theorem dX7_settles_87 : decode cX7_settles 87 = .ok (.aload_n 0, 1) := by decide +kernel
theorem dX7_settles_88 : decode cX7_settles 88 = .ok (.aload_n 0, 1) := by decide +kernel
theorem dX7_settles_89 : decode cX7_settles 89 = .ok (.getfield 114, 3) := by decide +kernel
theorem dX7_settles_92 : decode cX7_settles 92 = .ok (.ifCond .ge 8, 3) := by decide +kernel
theorem dX7_settles_95 : decode cX7_settles 95 = .ok (.bipush 60, 2) := by decide +kernel
theorem dX7_settles_97 : decode cX7_settles 97 = .ok (.goto 7, 3) := by decide +kernel
theorem dX7_settles_100 : decode cX7_settles 100 = .ok (.aload_n 0, 1) := by decide +kernel
theorem dX7_settles_101 : decode cX7_settles 101 = .ok (.getfield 114, 3) := by decide +kernel
theorem dX7_settles_104 : decode cX7_settles 104 = .ok (.putfield 20, 3) := by decide +kernel
theorem dX7_settles_107 : decode cX7_settles 107 = .ok (.iconst 0, 1) := by decide +kernel
theorem dX7_settles_108 : decode cX7_settles 108 = .ok (.istore_n 1, 1) := by decide +kernel
theorem dX7_settles_109 : decode cX7_settles 109 = .ok (.iload_n 1, 1) := by decide +kernel
theorem dX7_settles_110 : decode cX7_settles 110 = .ok (.bipush 7, 2) := by decide +kernel
theorem dX7_settles_112 : decode cX7_settles 112 = .ok (.if_icmp .ge 16, 3) := by decide +kernel
theorem dX7_settles_115 : decode cX7_settles 115 = .ok (.aload_n 0, 1) := by decide +kernel
theorem dX7_settles_116 : decode cX7_settles 116 = .ok (.getfield 23, 3) := by decide +kernel
theorem dX7_settles_119 : decode cX7_settles 119 = .ok (.iload_n 1, 1) := by decide +kernel
theorem dX7_settles_120 : decode cX7_settles 120 = .ok (.iconst 0, 1) := by decide +kernel
theorem dX7_settles_121 : decode cX7_settles 121 = .ok (.iastore, 1) := by decide +kernel
theorem dX7_settles_122 : decode cX7_settles 122 = .ok (.iinc 1 1, 3) := by decide +kernel
theorem dX7_settles_125 : decode cX7_settles 125 = .ok (.goto (-16), 3) := by decide +kernel
theorem dX7_settles_128 : decode cX7_settles 128 = .ok (.aload_n 0, 1) := by decide +kernel
theorem dX7_settles_129 : decode cX7_settles 129 = .ok (.getfield 23, 3) := by decide +kernel
theorem dX7_settles_132 : decode cX7_settles 132 = .ok (.iconst 1, 1) := by decide +kernel
theorem dX7_settles_133 : decode cX7_settles 133 = .ok (.iconst 4, 1) := by decide +kernel
theorem dX7_settles_134 : decode cX7_settles 134 = .ok (.iastore, 1) := by decide +kernel
theorem dX7_settles_135 : decode cX7_settles 135 = .ok (.iconst 0, 1) := by decide +kernel
theorem dX7_settles_136 : decode cX7_settles 136 = .ok (.istore_n 1, 1) := by decide +kernel
theorem dX7_settles_137 : decode cX7_settles 137 = .ok (.iload_n 1, 1) := by decide +kernel
theorem dX7_settles_138 : decode cX7_settles 138 = .ok (.iconst 4, 1) := by decide +kernel
theorem dX7_settles_139 : decode cX7_settles 139 = .ok (.if_icmp .ge 37, 3) := by decide +kernel
theorem dX7_settles_142 : decode cX7_settles 142 = .ok (.aload_n 0, 1) := by decide +kernel
theorem dX7_settles_143 : decode cX7_settles 143 = .ok (.getfield 23, 3) := by decide +kernel
theorem dX7_settles_146 : decode cX7_settles 146 = .ok (.iconst 2, 1) := by decide +kernel
theorem dX7_settles_147 : decode cX7_settles 147 = .ok (.iload_n 1, 1) := by decide +kernel
theorem dX7_settles_148 : decode cX7_settles 148 = .ok (.iadd, 1) := by decide +kernel
theorem dX7_settles_149 : decode cX7_settles 149 = .ok (.iload_n 1, 1) := by decide +kernel
theorem dX7_settles_150 : decode cX7_settles 150 = .ok (.aload_n 0, 1) := by decide +kernel
theorem dX7_settles_151 : decode cX7_settles 151 = .ok (.getfield 68, 3) := by decide +kernel
theorem dX7_settles_154 : decode cX7_settles 154 = .ok (.if_icmp .ge 14, 3) := by decide +kernel
theorem dX7_settles_157 : decode cX7_settles 157 = .ok (.aload_n 0, 1) := by decide +kernel
theorem dX7_settles_158 : decode cX7_settles 158 = .ok (.getfield 13, 3) := by decide +kernel
theorem dX7_settles_161 : decode cX7_settles 161 = .ok (.iconst 4, 1) := by decide +kernel
theorem dX7_settles_162 : decode cX7_settles 162 = .ok (.iload_n 1, 1) := by decide +kernel
theorem dX7_settles_163 : decode cX7_settles 163 = .ok (.imul, 1) := by decide +kernel
theorem dX7_settles_164 : decode cX7_settles 164 = .ok (.iaload, 1) := by decide +kernel
theorem dX7_settles_165 : decode cX7_settles 165 = .ok (.goto 4, 3) := by decide +kernel
theorem dX7_settles_168 : decode cX7_settles 168 = .ok (.iconst 0, 1) := by decide +kernel
theorem dX7_settles_169 : decode cX7_settles 169 = .ok (.iastore, 1) := by decide +kernel
theorem dX7_settles_170 : decode cX7_settles 170 = .ok (.iinc 1 1, 3) := by decide +kernel
theorem dX7_settles_173 : decode cX7_settles 173 = .ok (.goto (-36), 3) := by decide +kernel
theorem dX7_settles_176 : decode cX7_settles 176 = .ok (.aload_n 0, 1) := by decide +kernel
theorem dX7_settles_177 : decode cX7_settles 177 = .ok (.iconst 0, 1) := by decide +kernel
theorem dX7_settles_178 : decode cX7_settles 178 = .ok (.putfield 132, 3) := by decide +kernel
theorem dX7_settles_181 : decode cX7_settles 181 = .ok (.aload_n 0, 1) := by decide +kernel
theorem dX7_settles_182 : decode cX7_settles 182 = .ok (.iconst 0, 1) := by decide +kernel
theorem dX7_settles_183 : decode cX7_settles 183 = .ok (.putfield 135, 3) := by decide +kernel
theorem dX7_settles_186 : decode cX7_settles 186 = .ok (.aload_n 0, 1) := by decide +kernel
theorem dX7_settles_187 : decode cX7_settles 187 = .ok (.iconst 0, 1) := by decide +kernel
theorem dX7_settles_188 : decode cX7_settles 188 = .ok (.putfield 138, 3) := by decide +kernel
theorem dX7_settles_191 : decode cX7_settles 191 = .ok (.aload_n 0, 1) := by decide +kernel
theorem dX7_settles_192 : decode cX7_settles 192 = .ok (.iconst 0, 1) := by decide +kernel
theorem dX7_settles_193 : decode cX7_settles 193 = .ok (.putfield 141, 3) := by decide +kernel
theorem dX7_settles_196 : decode cX7_settles 196 = .ok (.aload_n 0, 1) := by decide +kernel
theorem dX7_settles_197 : decode cX7_settles 197 = .ok (.getfield 32, 3) := by decide +kernel
theorem dX7_settles_200 : decode cX7_settles 200 = .ok (.iconst 0, 1) := by decide +kernel
theorem dX7_settles_201 : decode cX7_settles 201 = .ok (.iconst 0, 1) := by decide +kernel
theorem dX7_settles_202 : decode cX7_settles 202 = .ok (.bastore, 1) := by decide +kernel
theorem dX7_settles_203 : decode cX7_settles 203 = .ok (.aload_n 0, 1) := by decide +kernel
theorem dX7_settles_204 : decode cX7_settles 204 = .ok (.getfield 32, 3) := by decide +kernel
theorem dX7_settles_207 : decode cX7_settles 207 = .ok (.iconst 1, 1) := by decide +kernel
theorem dX7_settles_208 : decode cX7_settles 208 = .ok (.iconst 0, 1) := by decide +kernel
theorem dX7_settles_209 : decode cX7_settles 209 = .ok (.bastore, 1) := by decide +kernel
theorem dX7_settles_210 : decode cX7_settles 210 = .ok (.aload_n 0, 1) := by decide +kernel
theorem dX7_settles_211 : decode cX7_settles 211 = .ok (.iconst 0, 1) := by decide +kernel
theorem dX7_settles_212 : decode cX7_settles 212 = .ok (.putfield 71, 3) := by decide +kernel
theorem dX7_settles_215 : decode cX7_settles 215 = .ok (.return_, 1) := by decide +kernel
theorem dX7_way_0 : decode cX7_way 0 = .ok (.iload_n 1, 1) := by decide +kernel
theorem dX7_way_1 : decode cX7_way 1 = .ok (.iconst 4, 1) := by decide +kernel
theorem dX7_way_2 : decode cX7_way 2 = .ok (.if_icmp .ne 7, 3) := by decide +kernel
theorem dX7_way_5 : decode cX7_way 5 = .ok (.iconst 0, 1) := by decide +kernel
theorem dX7_way_6 : decode cX7_way 6 = .ok (.goto 11, 3) := by decide +kernel
theorem dX7_way_9 : decode cX7_way 9 = .ok (.aload_n 0, 1) := by decide +kernel
theorem dX7_way_10 : decode cX7_way 10 = .ok (.getfield 7, 3) := by decide +kernel
theorem dX7_way_13 : decode cX7_way 13 = .ok (.iconst 2, 1) := by decide +kernel
theorem dX7_way_14 : decode cX7_way 14 = .ok (.iload_n 1, 1) := by decide +kernel
theorem dX7_way_15 : decode cX7_way 15 = .ok (.imul, 1) := by decide +kernel
theorem dX7_way_16 : decode cX7_way 16 = .ok (.iaload, 1) := by decide +kernel
theorem dX7_way_17 : decode cX7_way 17 = .ok (.iload_n 2, 1) := by decide +kernel
theorem dX7_way_18 : decode cX7_way 18 = .ok (.iconst 4, 1) := by decide +kernel
theorem dX7_way_19 : decode cX7_way 19 = .ok (.if_icmp .ne 7, 3) := by decide +kernel
theorem dX7_way_22 : decode cX7_way 22 = .ok (.iconst 0, 1) := by decide +kernel
theorem dX7_way_23 : decode cX7_way 23 = .ok (.goto 11, 3) := by decide +kernel
theorem dX7_way_26 : decode cX7_way 26 = .ok (.aload_n 0, 1) := by decide +kernel
theorem dX7_way_27 : decode cX7_way 27 = .ok (.getfield 7, 3) := by decide +kernel
theorem dX7_way_30 : decode cX7_way 30 = .ok (.iconst 2, 1) := by decide +kernel
theorem dX7_way_31 : decode cX7_way 31 = .ok (.iload_n 2, 1) := by decide +kernel
theorem dX7_way_32 : decode cX7_way 32 = .ok (.imul, 1) := by decide +kernel
theorem dX7_way_33 : decode cX7_way 33 = .ok (.iaload, 1) := by decide +kernel
theorem dX7_way_34 : decode cX7_way 34 = .ok (.isub, 1) := by decide +kernel
theorem dX7_way_35 : decode cX7_way 35 = .ok (.istore_n 3, 1) := by decide +kernel
theorem dX7_way_36 : decode cX7_way 36 = .ok (.iload_n 1, 1) := by decide +kernel
theorem dX7_way_37 : decode cX7_way 37 = .ok (.iconst 4, 1) := by decide +kernel
theorem dX7_way_38 : decode cX7_way 38 = .ok (.if_icmp .ne 7, 3) := by decide +kernel
theorem dX7_way_41 : decode cX7_way 41 = .ok (.iconst 0, 1) := by decide +kernel
theorem dX7_way_42 : decode cX7_way 42 = .ok (.goto 13, 3) := by decide +kernel
theorem dX7_way_45 : decode cX7_way 45 = .ok (.aload_n 0, 1) := by decide +kernel
theorem dX7_way_46 : decode cX7_way 46 = .ok (.getfield 7, 3) := by decide +kernel
theorem dX7_way_49 : decode cX7_way 49 = .ok (.iconst 2, 1) := by decide +kernel
theorem dX7_way_50 : decode cX7_way 50 = .ok (.iload_n 1, 1) := by decide +kernel
theorem dX7_way_51 : decode cX7_way 51 = .ok (.imul, 1) := by decide +kernel
theorem dX7_way_52 : decode cX7_way 52 = .ok (.iconst 1, 1) := by decide +kernel
theorem dX7_way_53 : decode cX7_way 53 = .ok (.iadd, 1) := by decide +kernel
theorem dX7_way_54 : decode cX7_way 54 = .ok (.iaload, 1) := by decide +kernel
theorem dX7_way_55 : decode cX7_way 55 = .ok (.iload_n 2, 1) := by decide +kernel
theorem dX7_way_56 : decode cX7_way 56 = .ok (.iconst 4, 1) := by decide +kernel
theorem dX7_way_57 : decode cX7_way 57 = .ok (.if_icmp .ne 7, 3) := by decide +kernel
theorem dX7_way_60 : decode cX7_way 60 = .ok (.iconst 0, 1) := by decide +kernel
theorem dX7_way_61 : decode cX7_way 61 = .ok (.goto 13, 3) := by decide +kernel
theorem dX7_way_64 : decode cX7_way 64 = .ok (.aload_n 0, 1) := by decide +kernel
theorem dX7_way_65 : decode cX7_way 65 = .ok (.getfield 7, 3) := by decide +kernel
theorem dX7_way_68 : decode cX7_way 68 = .ok (.iconst 2, 1) := by decide +kernel
theorem dX7_way_69 : decode cX7_way 69 = .ok (.iload_n 2, 1) := by decide +kernel
theorem dX7_way_70 : decode cX7_way 70 = .ok (.imul, 1) := by decide +kernel
theorem dX7_way_71 : decode cX7_way 71 = .ok (.iconst 1, 1) := by decide +kernel
theorem dX7_way_72 : decode cX7_way 72 = .ok (.iadd, 1) := by decide +kernel
theorem dX7_way_73 : decode cX7_way 73 = .ok (.iaload, 1) := by decide +kernel
theorem dX7_way_74 : decode cX7_way 74 = .ok (.isub, 1) := by decide +kernel
theorem dX7_way_75 : decode cX7_way 75 = .ok (.istore 4, 2) := by decide +kernel
theorem dX7_way_77 : decode cX7_way 77 = .ok (.iload_n 3, 1) := by decide +kernel
theorem dX7_way_78 : decode cX7_way 78 = .ok (.invokestatic 144, 3) := by decide +kernel
theorem dX7_way_81 : decode cX7_way 81 = .ok (.iload 4, 2) := by decide +kernel
theorem dX7_way_83 : decode cX7_way 83 = .ok (.invokestatic 144, 3) := by decide +kernel
theorem dX7_way_86 : decode cX7_way 86 = .ok (.iadd, 1) := by decide +kernel
theorem dX7_way_87 : decode cX7_way 87 = .ok (.ireturn, 1) := by decide +kernel
theorem dX7_inMind_0 : decode cX7_inMind 0 = .ok (.iconst 0, 1) := by decide +kernel
theorem dX7_inMind_1 : decode cX7_inMind 1 = .ok (.istore_n 2, 1) := by decide +kernel
theorem dX7_inMind_2 : decode cX7_inMind 2 = .ok (.iconst 0, 1) := by decide +kernel
theorem dX7_inMind_3 : decode cX7_inMind 3 = .ok (.istore_n 3, 1) := by decide +kernel
theorem dX7_inMind_4 : decode cX7_inMind 4 = .ok (.iload_n 3, 1) := by decide +kernel
theorem dX7_inMind_5 : decode cX7_inMind 5 = .ok (.aload_n 0, 1) := by decide +kernel
theorem dX7_inMind_6 : decode cX7_inMind 6 = .ok (.getfield 68, 3) := by decide +kernel
theorem dX7_inMind_9 : decode cX7_inMind 9 = .ok (.if_icmp .ge 31, 3) := by decide +kernel
theorem dX7_inMind_12 : decode cX7_inMind 12 = .ok (.iload_n 2, 1) := by decide +kernel
theorem dX7_inMind_13 : decode cX7_inMind 13 = .ok (.aload_n 0, 1) := by decide +kernel
theorem dX7_inMind_14 : decode cX7_inMind 14 = .ok (.getfield 23, 3) := by decide +kernel
theorem dX7_inMind_17 : decode cX7_inMind 17 = .ok (.iconst 2, 1) := by decide +kernel
theorem dX7_inMind_18 : decode cX7_inMind 18 = .ok (.iload_n 3, 1) := by decide +kernel
theorem dX7_inMind_19 : decode cX7_inMind 19 = .ok (.iadd, 1) := by decide +kernel
theorem dX7_inMind_20 : decode cX7_inMind 20 = .ok (.iaload, 1) := by decide +kernel
theorem dX7_inMind_21 : decode cX7_inMind 21 = .ok (.iload_n 1, 1) := by decide +kernel
theorem dX7_inMind_22 : decode cX7_inMind 22 = .ok (.if_icmp .ne 9, 3) := by decide +kernel
theorem dX7_inMind_25 : decode cX7_inMind 25 = .ok (.iconst 1, 1) := by decide +kernel
theorem dX7_inMind_26 : decode cX7_inMind 26 = .ok (.iload_n 3, 1) := by decide +kernel
theorem dX7_inMind_27 : decode cX7_inMind 27 = .ok (.ishl, 1) := by decide +kernel
theorem dX7_inMind_28 : decode cX7_inMind 28 = .ok (.goto 4, 3) := by decide +kernel
theorem dX7_inMind_31 : decode cX7_inMind 31 = .ok (.iconst 0, 1) := by decide +kernel
theorem dX7_inMind_32 : decode cX7_inMind 32 = .ok (.ior, 1) := by decide +kernel
theorem dX7_inMind_33 : decode cX7_inMind 33 = .ok (.istore_n 2, 1) := by decide +kernel
theorem dX7_inMind_34 : decode cX7_inMind 34 = .ok (.iinc 3 1, 3) := by decide +kernel
theorem dX7_inMind_37 : decode cX7_inMind 37 = .ok (.goto (-33), 3) := by decide +kernel
theorem dX7_inMind_40 : decode cX7_inMind 40 = .ok (.iload_n 2, 1) := by decide +kernel
theorem dX7_inMind_41 : decode cX7_inMind 41 = .ok (.ireturn, 1) := by decide +kernel
theorem dX7_strays_0 : decode cX7_strays 0 = .ok (.iconst 0, 1) := by decide +kernel
theorem dX7_strays_1 : decode cX7_strays 1 = .ok (.istore_n 1, 1) := by decide +kernel
theorem dX7_strays_2 : decode cX7_strays 2 = .ok (.iconst 0, 1) := by decide +kernel
theorem dX7_strays_3 : decode cX7_strays 3 = .ok (.istore_n 2, 1) := by decide +kernel
theorem dX7_strays_4 : decode cX7_strays 4 = .ok (.iload_n 2, 1) := by decide +kernel
theorem dX7_strays_5 : decode cX7_strays 5 = .ok (.aload_n 0, 1) := by decide +kernel
theorem dX7_strays_6 : decode cX7_strays 6 = .ok (.getfield 68, 3) := by decide +kernel
theorem dX7_strays_9 : decode cX7_strays 9 = .ok (.if_icmp .ge 38, 3) := by decide +kernel
theorem dX7_strays_12 : decode cX7_strays 12 = .ok (.iload_n 1, 1) := by decide +kernel
theorem dX7_strays_13 : decode cX7_strays 13 = .ok (.aload_n 0, 1) := by decide +kernel
theorem dX7_strays_14 : decode cX7_strays 14 = .ok (.getfield 23, 3) := by decide +kernel
theorem dX7_strays_17 : decode cX7_strays 17 = .ok (.iconst 2, 1) := by decide +kernel
theorem dX7_strays_18 : decode cX7_strays 18 = .ok (.iload_n 2, 1) := by decide +kernel
theorem dX7_strays_19 : decode cX7_strays 19 = .ok (.iadd, 1) := by decide +kernel
theorem dX7_strays_20 : decode cX7_strays 20 = .ok (.iaload, 1) := by decide +kernel
theorem dX7_strays_21 : decode cX7_strays 21 = .ok (.aload_n 0, 1) := by decide +kernel
theorem dX7_strays_22 : decode cX7_strays 22 = .ok (.getfield 13, 3) := by decide +kernel
theorem dX7_strays_25 : decode cX7_strays 25 = .ok (.iconst 4, 1) := by decide +kernel
theorem dX7_strays_26 : decode cX7_strays 26 = .ok (.iload_n 2, 1) := by decide +kernel
theorem dX7_strays_27 : decode cX7_strays 27 = .ok (.imul, 1) := by decide +kernel
theorem dX7_strays_28 : decode cX7_strays 28 = .ok (.iaload, 1) := by decide +kernel
theorem dX7_strays_29 : decode cX7_strays 29 = .ok (.if_icmp .ne 7, 3) := by decide +kernel
theorem dX7_strays_32 : decode cX7_strays 32 = .ok (.iconst 0, 1) := by decide +kernel
theorem dX7_strays_33 : decode cX7_strays 33 = .ok (.goto 6, 3) := by decide +kernel
theorem dX7_strays_36 : decode cX7_strays 36 = .ok (.iconst 1, 1) := by decide +kernel
theorem dX7_strays_37 : decode cX7_strays 37 = .ok (.iload_n 2, 1) := by decide +kernel
theorem dX7_strays_38 : decode cX7_strays 38 = .ok (.ishl, 1) := by decide +kernel
theorem dX7_strays_39 : decode cX7_strays 39 = .ok (.ior, 1) := by decide +kernel
theorem dX7_strays_40 : decode cX7_strays 40 = .ok (.istore_n 1, 1) := by decide +kernel
theorem dX7_strays_41 : decode cX7_strays 41 = .ok (.iinc 2 1, 3) := by decide +kernel
theorem dX7_strays_44 : decode cX7_strays 44 = .ok (.goto (-40), 3) := by decide +kernel
theorem dX7_strays_47 : decode cX7_strays 47 = .ok (.iload_n 1, 1) := by decide +kernel
theorem dX7_strays_48 : decode cX7_strays 48 = .ok (.ireturn, 1) := by decide +kernel
theorem dX7_seat_0 : decode cX7_seat 0 = .ok (.aload_n 0, 1) := by decide +kernel
theorem dX7_seat_1 : decode cX7_seat 1 = .ok (.iload_n 1, 1) := by decide +kernel
theorem dX7_seat_2 : decode cX7_seat 2 = .ok (.invokevirtual 147, 3) := by decide +kernel
theorem dX7_seat_5 : decode cX7_seat 5 = .ok (.ifCond .ne 5, 3) := by decide +kernel
theorem dX7_seat_8 : decode cX7_seat 8 = .ok (.iconst (-1), 1) := by decide +kernel
theorem dX7_seat_9 : decode cX7_seat 9 = .ok (.ireturn, 1) := by decide +kernel
theorem dX7_seat_10 : decode cX7_seat 10 = .ok (.iload_n 2, 1) := by decide +kernel
theorem dX7_seat_11 : decode cX7_seat 11 = .ok (.tableswitch 58 0 3 #[29, 29, 40, 46], 29) := by decide +kernel
theorem dX7_seat_40 : decode cX7_seat 40 = .ok (.aload_n 0, 1) := by decide +kernel
theorem dX7_seat_41 : decode cX7_seat 41 = .ok (.getfield 7, 3) := by decide +kernel
theorem dX7_seat_44 : decode cX7_seat 44 = .ok (.iconst 2, 1) := by decide +kernel
theorem dX7_seat_45 : decode cX7_seat 45 = .ok (.iload_n 1, 1) := by decide +kernel
theorem dX7_seat_46 : decode cX7_seat 46 = .ok (.imul, 1) := by decide +kernel
theorem dX7_seat_47 : decode cX7_seat 47 = .ok (.iload_n 2, 1) := by decide +kernel
theorem dX7_seat_48 : decode cX7_seat 48 = .ok (.iadd, 1) := by decide +kernel
theorem dX7_seat_49 : decode cX7_seat 49 = .ok (.iaload, 1) := by decide +kernel
theorem dX7_seat_50 : decode cX7_seat 50 = .ok (.ireturn, 1) := by decide +kernel
theorem dX7_seat_51 : decode cX7_seat 51 = .ok (.aload_n 0, 1) := by decide +kernel
theorem dX7_seat_52 : decode cX7_seat 52 = .ok (.iload_n 1, 1) := by decide +kernel
theorem dX7_seat_53 : decode cX7_seat 53 = .ok (.invokevirtual 150, 3) := by decide +kernel
theorem dX7_seat_56 : decode cX7_seat 56 = .ok (.ireturn, 1) := by decide +kernel
theorem dX7_seat_57 : decode cX7_seat 57 = .ok (.aload_n 0, 1) := by decide +kernel
theorem dX7_seat_58 : decode cX7_seat 58 = .ok (.aload_n 0, 1) := by decide +kernel
theorem dX7_seat_59 : decode cX7_seat 59 = .ok (.getfield 23, 3) := by decide +kernel
theorem dX7_seat_62 : decode cX7_seat 62 = .ok (.iconst 1, 1) := by decide +kernel
theorem dX7_seat_63 : decode cX7_seat 63 = .ok (.iaload, 1) := by decide +kernel
theorem dX7_seat_64 : decode cX7_seat 64 = .ok (.iload_n 1, 1) := by decide +kernel
theorem dX7_seat_65 : decode cX7_seat 65 = .ok (.invokevirtual 153, 3) := by decide +kernel
theorem dX7_seat_68 : decode cX7_seat 68 = .ok (.ireturn, 1) := by decide +kernel
theorem dX7_seat_69 : decode cX7_seat 69 = .ok (.iconst (-1), 1) := by decide +kernel
theorem dX7_seat_70 : decode cX7_seat 70 = .ok (.ireturn, 1) := by decide +kernel
theorem dX7_orNone_0 : decode cX7_orNone 0 = .ok (.iload_n 0, 1) := by decide +kernel
theorem dX7_orNone_1 : decode cX7_orNone 1 = .ok (.iconst 4, 1) := by decide +kernel
theorem dX7_orNone_2 : decode cX7_orNone 2 = .ok (.if_icmp .ne 8, 3) := by decide +kernel
theorem dX7_orNone_5 : decode cX7_orNone 5 = .ok (.bipush (-9), 2) := by decide +kernel
theorem dX7_orNone_7 : decode cX7_orNone 7 = .ok (.goto 4, 3) := by decide +kernel
theorem dX7_orNone_10 : decode cX7_orNone 10 = .ok (.iload_n 0, 1) := by decide +kernel
theorem dX7_orNone_11 : decode cX7_orNone 11 = .ok (.ireturn, 1) := by decide +kernel
theorem dX7_thing_0 : decode cX7_thing 0 = .ok (.aload_n 0, 1) := by decide +kernel
theorem dX7_thing_1 : decode cX7_thing 1 = .ok (.iload_n 1, 1) := by decide +kernel
theorem dX7_thing_2 : decode cX7_thing 2 = .ok (.invokevirtual 156, 3) := by decide +kernel
theorem dX7_thing_5 : decode cX7_thing 5 = .ok (.ifCond .eq 12, 3) := by decide +kernel
theorem dX7_thing_8 : decode cX7_thing 8 = .ok (.iload_n 2, 1) := by decide +kernel
theorem dX7_thing_9 : decode cX7_thing 9 = .ok (.iconst 0, 1) := by decide +kernel
theorem dX7_thing_10 : decode cX7_thing 10 = .ok (.iconst 5, 1) := by decide +kernel
theorem dX7_thing_11 : decode cX7_thing 11 = .ok (.invokestatic 64, 3) := by decide +kernel
theorem dX7_thing_14 : decode cX7_thing 14 = .ok (.ifCond .ne 5, 3) := by decide +kernel
theorem dX7_thing_17 : decode cX7_thing 17 = .ok (.iconst (-1), 1) := by decide +kernel
theorem dX7_thing_18 : decode cX7_thing 18 = .ok (.ireturn, 1) := by decide +kernel
theorem dX7_thing_19 : decode cX7_thing 19 = .ok (.iload_n 2, 1) := by decide +kernel
theorem dX7_thing_20 : decode cX7_thing 20 = .ok (.iconst 4, 1) := by decide +kernel
theorem dX7_thing_21 : decode cX7_thing 21 = .ok (.if_icmp .ge 16, 3) := by decide +kernel
theorem dX7_thing_24 : decode cX7_thing 24 = .ok (.aload_n 0, 1) := by decide +kernel
theorem dX7_thing_25 : decode cX7_thing 25 = .ok (.getfield 13, 3) := by decide +kernel
theorem dX7_thing_28 : decode cX7_thing 28 = .ok (.iconst 4, 1) := by decide +kernel
theorem dX7_thing_29 : decode cX7_thing 29 = .ok (.iload_n 1, 1) := by decide +kernel
theorem dX7_thing_30 : decode cX7_thing 30 = .ok (.imul, 1) := by decide +kernel
theorem dX7_thing_31 : decode cX7_thing 31 = .ok (.iload_n 2, 1) := by decide +kernel
theorem dX7_thing_32 : decode cX7_thing 32 = .ok (.iadd, 1) := by decide +kernel
theorem dX7_thing_33 : decode cX7_thing 33 = .ok (.iaload, 1) := by decide +kernel
theorem dX7_thing_34 : decode cX7_thing 34 = .ok (.goto 33, 3) := by decide +kernel
theorem dX7_thing_37 : decode cX7_thing 37 = .ok (.iload_n 2, 1) := by decide +kernel
theorem dX7_thing_38 : decode cX7_thing 38 = .ok (.iconst 4, 1) := by decide +kernel
theorem dX7_thing_39 : decode cX7_thing 39 = .ok (.if_icmp .ne 17, 3) := by decide +kernel
theorem dX7_thing_42 : decode cX7_thing 42 = .ok (.aload_n 0, 1) := by decide +kernel
theorem dX7_thing_43 : decode cX7_thing 43 = .ok (.getfield 23, 3) := by decide +kernel
theorem dX7_thing_46 : decode cX7_thing 46 = .ok (.iconst 2, 1) := by decide +kernel
theorem dX7_thing_47 : decode cX7_thing 47 = .ok (.iload_n 1, 1) := by decide +kernel
theorem dX7_thing_48 : decode cX7_thing 48 = .ok (.iadd, 1) := by decide +kernel
theorem dX7_thing_49 : decode cX7_thing 49 = .ok (.iaload, 1) := by decide +kernel
theorem dX7_thing_50 : decode cX7_thing 50 = .ok (.invokestatic 159, 3) := by decide +kernel
theorem dX7_thing_53 : decode cX7_thing 53 = .ok (.goto 14, 3) := by decide +kernel
theorem dX7_thing_56 : decode cX7_thing 56 = .ok (.aload_n 0, 1) := by decide +kernel
theorem dX7_thing_57 : decode cX7_thing 57 = .ok (.getfield 23, 3) := by decide +kernel
theorem dX7_thing_60 : decode cX7_thing 60 = .ok (.bipush 6, 2) := by decide +kernel
theorem dX7_thing_62 : decode cX7_thing 62 = .ok (.iaload, 1) := by decide +kernel
theorem dX7_thing_63 : decode cX7_thing 63 = .ok (.iload_n 1, 1) := by decide +kernel
theorem dX7_thing_64 : decode cX7_thing 64 = .ok (.ishr, 1) := by decide +kernel
theorem dX7_thing_65 : decode cX7_thing 65 = .ok (.iconst 1, 1) := by decide +kernel
theorem dX7_thing_66 : decode cX7_thing 66 = .ok (.iand, 1) := by decide +kernel
theorem dX7_thing_67 : decode cX7_thing 67 = .ok (.ireturn, 1) := by decide +kernel
theorem dX7_now_0 : decode cX7_now 0 = .ok (.iload_n 1, 1) := by decide +kernel
theorem dX7_now_1 : decode cX7_now 1 = .ok (.tableswitch 80 0 5 #[39, 46, 56, 62, 67, 75], 39) := by decide +kernel
theorem dX7_now_40 : decode cX7_now 40 = .ok (.aload_n 0, 1) := by decide +kernel
theorem dX7_now_41 : decode cX7_now 41 = .ok (.getfield 23, 3) := by decide +kernel
theorem dX7_now_44 : decode cX7_now 44 = .ok (.iconst 0, 1) := by decide +kernel
theorem dX7_now_45 : decode cX7_now 45 = .ok (.iaload, 1) := by decide +kernel
theorem dX7_now_46 : decode cX7_now 46 = .ok (.ireturn, 1) := by decide +kernel
theorem dX7_now_47 : decode cX7_now 47 = .ok (.aload_n 0, 1) := by decide +kernel
theorem dX7_now_48 : decode cX7_now 48 = .ok (.getfield 23, 3) := by decide +kernel
theorem dX7_now_51 : decode cX7_now 51 = .ok (.iconst 1, 1) := by decide +kernel
theorem dX7_now_52 : decode cX7_now 52 = .ok (.iaload, 1) := by decide +kernel
theorem dX7_now_53 : decode cX7_now 53 = .ok (.invokestatic 159, 3) := by decide +kernel
theorem dX7_now_56 : decode cX7_now 56 = .ok (.ireturn, 1) := by decide +kernel
theorem dX7_now_57 : decode cX7_now 57 = .ok (.aload_n 0, 1) := by decide +kernel
theorem dX7_now_58 : decode cX7_now 58 = .ok (.iconst 4, 1) := by decide +kernel
theorem dX7_now_59 : decode cX7_now 59 = .ok (.invokevirtual 150, 3) := by decide +kernel
theorem dX7_now_62 : decode cX7_now 62 = .ok (.ireturn, 1) := by decide +kernel
theorem dX7_now_63 : decode cX7_now 63 = .ok (.aload_n 0, 1) := by decide +kernel
theorem dX7_now_64 : decode cX7_now 64 = .ok (.invokevirtual 162, 3) := by decide +kernel
theorem dX7_now_67 : decode cX7_now 67 = .ok (.ireturn, 1) := by decide +kernel
theorem dX7_now_68 : decode cX7_now 68 = .ok (.aload_n 0, 1) := by decide +kernel
theorem dX7_now_69 : decode cX7_now 69 = .ok (.getfield 23, 3) := by decide +kernel
theorem dX7_now_72 : decode cX7_now 72 = .ok (.bipush 6, 2) := by decide +kernel
theorem dX7_now_74 : decode cX7_now 74 = .ok (.iaload, 1) := by decide +kernel
theorem dX7_now_75 : decode cX7_now 75 = .ok (.ireturn, 1) := by decide +kernel
theorem dX7_now_76 : decode cX7_now 76 = .ok (.aload_n 0, 1) := by decide +kernel
theorem dX7_now_77 : decode cX7_now 77 = .ok (.getfield 135, 3) := by decide +kernel
theorem dX7_now_80 : decode cX7_now 80 = .ok (.ireturn, 1) := by decide +kernel
theorem dX7_now_81 : decode cX7_now 81 = .ok (.iconst (-1), 1) := by decide +kernel
theorem dX7_now_82 : decode cX7_now 82 = .ok (.ireturn, 1) := by decide +kernel
theorem dX7_remembers_0 : decode cX7_remembers 0 = .ok (.aload_n 0, 1) := by decide +kernel
theorem dX7_remembers_1 : decode cX7_remembers 1 = .ok (.getfield 135, 3) := by decide +kernel
theorem dX7_remembers_4 : decode cX7_remembers 4 = .ok (.bipush 10, 2) := by decide +kernel
theorem dX7_remembers_6 : decode cX7_remembers 6 = .ok (.if_icmp .ne 42, 3) := by decide +kernel
theorem dX7_remembers_9 : decode cX7_remembers 9 = .ok (.iconst 0, 1) := by decide +kernel
theorem dX7_remembers_10 : decode cX7_remembers 10 = .ok (.istore_n 1, 1) := by decide +kernel
theorem dX7_remembers_11 : decode cX7_remembers 11 = .ok (.iload_n 1, 1) := by decide +kernel
theorem dX7_remembers_12 : decode cX7_remembers 12 = .ok (.bipush 63, 2) := by decide +kernel
theorem dX7_remembers_14 : decode cX7_remembers 14 = .ok (.if_icmp .ge 24, 3) := by decide +kernel
theorem dX7_remembers_17 : decode cX7_remembers 17 = .ok (.aload_n 0, 1) := by decide +kernel
theorem dX7_remembers_18 : decode cX7_remembers 18 = .ok (.getfield 26, 3) := by decide +kernel
theorem dX7_remembers_21 : decode cX7_remembers 21 = .ok (.iload_n 1, 1) := by decide +kernel
theorem dX7_remembers_22 : decode cX7_remembers 22 = .ok (.aload_n 0, 1) := by decide +kernel
theorem dX7_remembers_23 : decode cX7_remembers 23 = .ok (.getfield 26, 3) := by decide +kernel
theorem dX7_remembers_26 : decode cX7_remembers 26 = .ok (.iload_n 1, 1) := by decide +kernel
theorem dX7_remembers_27 : decode cX7_remembers 27 = .ok (.bipush 7, 2) := by decide +kernel
theorem dX7_remembers_29 : decode cX7_remembers 29 = .ok (.iadd, 1) := by decide +kernel
theorem dX7_remembers_30 : decode cX7_remembers 30 = .ok (.iaload, 1) := by decide +kernel
theorem dX7_remembers_31 : decode cX7_remembers 31 = .ok (.iastore, 1) := by decide +kernel
theorem dX7_remembers_32 : decode cX7_remembers 32 = .ok (.iinc 1 1, 3) := by decide +kernel
theorem dX7_remembers_35 : decode cX7_remembers 35 = .ok (.goto (-24), 3) := by decide +kernel
theorem dX7_remembers_38 : decode cX7_remembers 38 = .ok (.aload_n 0, 1) := by decide +kernel
theorem dX7_remembers_39 : decode cX7_remembers 39 = .ok (.dup, 1) := by decide +kernel
theorem dX7_remembers_40 : decode cX7_remembers 40 = .ok (.getfield 135, 3) := by decide +kernel
theorem dX7_remembers_43 : decode cX7_remembers 43 = .ok (.iconst 1, 1) := by decide +kernel
theorem dX7_remembers_44 : decode cX7_remembers 44 = .ok (.isub, 1) := by decide +kernel
theorem dX7_remembers_45 : decode cX7_remembers 45 = .ok (.putfield 135, 3) := by decide +kernel
theorem dX7_remembers_48 : decode cX7_remembers 48 = .ok (.aload_n 0, 1) := by decide +kernel
theorem dX7_remembers_49 : decode cX7_remembers 49 = .ok (.getfield 26, 3) := by decide +kernel
theorem dX7_remembers_52 : decode cX7_remembers 52 = .ok (.bipush 7, 2) := by decide +kernel
theorem dX7_remembers_54 : decode cX7_remembers 54 = .ok (.aload_n 0, 1) := by decide +kernel
theorem dX7_remembers_55 : decode cX7_remembers 55 = .ok (.getfield 135, 3) := by decide +kernel
theorem dX7_remembers_58 : decode cX7_remembers 58 = .ok (.imul, 1) := by decide +kernel
theorem dX7_remembers_59 : decode cX7_remembers 59 = .ok (.aload_n 0, 1) := by decide +kernel
theorem dX7_remembers_60 : decode cX7_remembers 60 = .ok (.getfield 23, 3) := by decide +kernel
theorem dX7_remembers_63 : decode cX7_remembers 63 = .ok (.iconst 0, 1) := by decide +kernel
theorem dX7_remembers_64 : decode cX7_remembers 64 = .ok (.invokestatic 166, 3) := by decide +kernel
theorem dX7_remembers_67 : decode cX7_remembers 67 = .ok (.aload_n 0, 1) := by decide +kernel
theorem dX7_remembers_68 : decode cX7_remembers 68 = .ok (.dup, 1) := by decide +kernel
theorem dX7_remembers_69 : decode cX7_remembers 69 = .ok (.getfield 135, 3) := by decide +kernel
theorem dX7_remembers_72 : decode cX7_remembers 72 = .ok (.iconst 1, 1) := by decide +kernel
theorem dX7_remembers_73 : decode cX7_remembers 73 = .ok (.iadd, 1) := by decide +kernel
theorem dX7_remembers_74 : decode cX7_remembers 74 = .ok (.putfield 135, 3) := by decide +kernel
theorem dX7_remembers_77 : decode cX7_remembers 77 = .ok (.return_, 1) := by decide +kernel
theorem dX7_goes_0 : decode cX7_goes 0 = .ok (.aload_n 0, 1) := by decide +kernel
theorem dX7_goes_1 : decode cX7_goes 1 = .ok (.iload_n 1, 1) := by decide +kernel
theorem dX7_goes_2 : decode cX7_goes 2 = .ok (.invokevirtual 147, 3) := by decide +kernel
theorem dX7_goes_5 : decode cX7_goes 5 = .ok (.ifCond .ne 5, 3) := by decide +kernel
theorem dX7_goes_8 : decode cX7_goes 8 = .ok (.iconst (-1), 1) := by decide +kernel
theorem dX7_goes_9 : decode cX7_goes 9 = .ok (.ireturn, 1) := by decide +kernel
theorem dX7_goes_10 : decode cX7_goes 10 = .ok (.aload_n 0, 1) := by decide +kernel
theorem dX7_goes_11 : decode cX7_goes 11 = .ok (.aload_n 0, 1) := by decide +kernel
theorem dX7_goes_12 : decode cX7_goes 12 = .ok (.getfield 23, 3) := by decide +kernel
theorem dX7_goes_15 : decode cX7_goes 15 = .ok (.iconst 1, 1) := by decide +kernel
theorem dX7_goes_16 : decode cX7_goes 16 = .ok (.iaload, 1) := by decide +kernel
theorem dX7_goes_17 : decode cX7_goes 17 = .ok (.iload_n 1, 1) := by decide +kernel
theorem dX7_goes_18 : decode cX7_goes 18 = .ok (.invokevirtual 153, 3) := by decide +kernel
theorem dX7_goes_21 : decode cX7_goes 21 = .ok (.istore_n 2, 1) := by decide +kernel
theorem dX7_goes_22 : decode cX7_goes 22 = .ok (.aload_n 0, 1) := by decide +kernel
theorem dX7_goes_23 : decode cX7_goes 23 = .ok (.getfield 23, 3) := by decide +kernel
theorem dX7_goes_26 : decode cX7_goes 26 = .ok (.iconst 1, 1) := by decide +kernel
theorem dX7_goes_27 : decode cX7_goes 27 = .ok (.iaload, 1) := by decide +kernel
theorem dX7_goes_28 : decode cX7_goes 28 = .ok (.iload_n 1, 1) := by decide +kernel
theorem dX7_goes_29 : decode cX7_goes 29 = .ok (.if_icmp .eq 17, 3) := by decide +kernel
theorem dX7_goes_32 : decode cX7_goes 32 = .ok (.aload_n 0, 1) := by decide +kernel
theorem dX7_goes_33 : decode cX7_goes 33 = .ok (.getfield 23, 3) := by decide +kernel
theorem dX7_goes_36 : decode cX7_goes 36 = .ok (.iconst 0, 1) := by decide +kernel
theorem dX7_goes_37 : decode cX7_goes 37 = .ok (.iaload, 1) := by decide +kernel
theorem dX7_goes_38 : decode cX7_goes 38 = .ok (.iload_n 2, 1) := by decide +kernel
theorem dX7_goes_39 : decode cX7_goes 39 = .ok (.iadd, 1) := by decide +kernel
theorem dX7_goes_40 : decode cX7_goes 40 = .ok (.sipush 999, 3) := by decide +kernel
theorem dX7_goes_43 : decode cX7_goes 43 = .ok (.if_icmp .le 6, 3) := by decide +kernel
theorem dX7_goes_46 : decode cX7_goes 46 = .ok (.bipush (-2), 2) := by decide +kernel
theorem dX7_goes_48 : decode cX7_goes 48 = .ok (.ireturn, 1) := by decide +kernel
theorem dX7_goes_49 : decode cX7_goes 49 = .ok (.aload_n 0, 1) := by decide +kernel
theorem dX7_goes_50 : decode cX7_goes 50 = .ok (.invokevirtual 170, 3) := by decide +kernel
theorem dX7_goes_53 : decode cX7_goes 53 = .ok (.aload_n 0, 1) := by decide +kernel
theorem dX7_goes_54 : decode cX7_goes 54 = .ok (.getfield 23, 3) := by decide +kernel
theorem dX7_goes_57 : decode cX7_goes 57 = .ok (.iconst 0, 1) := by decide +kernel
theorem dX7_goes_58 : decode cX7_goes 58 = .ok (.dup2, 1) := by decide +kernel
theorem dX7_goes_59 : decode cX7_goes 59 = .ok (.iaload, 1) := by decide +kernel
theorem dX7_goes_60 : decode cX7_goes 60 = .ok (.iload_n 2, 1) := by decide +kernel
theorem dX7_goes_61 : decode cX7_goes 61 = .ok (.iadd, 1) := by decide +kernel
theorem dX7_goes_62 : decode cX7_goes 62 = .ok (.iastore, 1) := by decide +kernel
theorem dX7_goes_63 : decode cX7_goes 63 = .ok (.aload_n 0, 1) := by decide +kernel
theorem dX7_goes_64 : decode cX7_goes 64 = .ok (.getfield 23, 3) := by decide +kernel
theorem dX7_goes_67 : decode cX7_goes 67 = .ok (.iconst 1, 1) := by decide +kernel
theorem dX7_goes_68 : decode cX7_goes 68 = .ok (.iload_n 1, 1) := by decide +kernel
theorem dX7_goes_69 : decode cX7_goes 69 = .ok (.iastore, 1) := by decide +kernel
theorem dX7_goes_70 : decode cX7_goes 70 = .ok (.iload_n 2, 1) := by decide +kernel
theorem dX7_goes_71 : decode cX7_goes 71 = .ok (.ireturn, 1) := by decide +kernel
theorem dX7_takes_0 : decode cX7_takes 0 = .ok (.aload_n 0, 1) := by decide +kernel
theorem dX7_takes_1 : decode cX7_takes 1 = .ok (.iload_n 1, 1) := by decide +kernel
theorem dX7_takes_2 : decode cX7_takes 2 = .ok (.invokevirtual 156, 3) := by decide +kernel
theorem dX7_takes_5 : decode cX7_takes 5 = .ok (.ifCond .ne 5, 3) := by decide +kernel
theorem dX7_takes_8 : decode cX7_takes 8 = .ok (.iconst (-1), 1) := by decide +kernel
theorem dX7_takes_9 : decode cX7_takes 9 = .ok (.ireturn, 1) := by decide +kernel
theorem dX7_takes_10 : decode cX7_takes 10 = .ok (.aload_n 0, 1) := by decide +kernel
theorem dX7_takes_11 : decode cX7_takes 11 = .ok (.getfield 23, 3) := by decide +kernel
theorem dX7_takes_14 : decode cX7_takes 14 = .ok (.iconst 1, 1) := by decide +kernel
theorem dX7_takes_15 : decode cX7_takes 15 = .ok (.iaload, 1) := by decide +kernel
theorem dX7_takes_16 : decode cX7_takes 16 = .ok (.iconst 4, 1) := by decide +kernel
theorem dX7_takes_17 : decode cX7_takes 17 = .ok (.if_icmp .eq 47, 3) := by decide +kernel
theorem dX7_takes_20 : decode cX7_takes 20 = .ok (.aload_n 0, 1) := by decide +kernel
theorem dX7_takes_21 : decode cX7_takes 21 = .ok (.getfield 23, 3) := by decide +kernel
theorem dX7_takes_24 : decode cX7_takes 24 = .ok (.iconst 2, 1) := by decide +kernel
theorem dX7_takes_25 : decode cX7_takes 25 = .ok (.iload_n 1, 1) := by decide +kernel
theorem dX7_takes_26 : decode cX7_takes 26 = .ok (.iadd, 1) := by decide +kernel
theorem dX7_takes_27 : decode cX7_takes 27 = .ok (.iaload, 1) := by decide +kernel
theorem dX7_takes_28 : decode cX7_takes 28 = .ok (.aload_n 0, 1) := by decide +kernel
theorem dX7_takes_29 : decode cX7_takes 29 = .ok (.getfield 23, 3) := by decide +kernel
theorem dX7_takes_32 : decode cX7_takes 32 = .ok (.iconst 1, 1) := by decide +kernel
theorem dX7_takes_33 : decode cX7_takes 33 = .ok (.iaload, 1) := by decide +kernel
theorem dX7_takes_34 : decode cX7_takes 34 = .ok (.if_icmp .ne 30, 3) := by decide +kernel
theorem dX7_takes_37 : decode cX7_takes 37 = .ok (.aload_n 0, 1) := by decide +kernel
theorem dX7_takes_38 : decode cX7_takes 38 = .ok (.iconst 4, 1) := by decide +kernel
theorem dX7_takes_39 : decode cX7_takes 39 = .ok (.invokevirtual 150, 3) := by decide +kernel
theorem dX7_takes_42 : decode cX7_takes 42 = .ok (.invokestatic 173, 3) := by decide +kernel
theorem dX7_takes_45 : decode cX7_takes 45 = .ok (.aload_n 0, 1) := by decide +kernel
theorem dX7_takes_46 : decode cX7_takes 46 = .ok (.getfield 16, 3) := by decide +kernel
theorem dX7_takes_49 : decode cX7_takes 49 = .ok (.if_icmp .eq 15, 3) := by decide +kernel
theorem dX7_takes_52 : decode cX7_takes 52 = .ok (.aload_n 0, 1) := by decide +kernel
theorem dX7_takes_53 : decode cX7_takes 53 = .ok (.getfield 23, 3) := by decide +kernel
theorem dX7_takes_56 : decode cX7_takes 56 = .ok (.iconst 0, 1) := by decide +kernel
theorem dX7_takes_57 : decode cX7_takes 57 = .ok (.iaload, 1) := by decide +kernel
theorem dX7_takes_58 : decode cX7_takes 58 = .ok (.sipush 999, 3) := by decide +kernel
theorem dX7_takes_61 : decode cX7_takes 61 = .ok (.if_icmp .ne 6, 3) := by decide +kernel
theorem dX7_takes_64 : decode cX7_takes 64 = .ok (.bipush (-2), 2) := by decide +kernel
theorem dX7_takes_66 : decode cX7_takes 66 = .ok (.ireturn, 1) := by decide +kernel
theorem dX7_takes_67 : decode cX7_takes 67 = .ok (.aload_n 0, 1) := by decide +kernel
theorem dX7_takes_68 : decode cX7_takes 68 = .ok (.invokevirtual 170, 3) := by decide +kernel
theorem dX7_takes_71 : decode cX7_takes 71 = .ok (.aload_n 0, 1) := by decide +kernel
theorem dX7_takes_72 : decode cX7_takes 72 = .ok (.getfield 23, 3) := by decide +kernel
theorem dX7_takes_75 : decode cX7_takes 75 = .ok (.iconst 0, 1) := by decide +kernel
theorem dX7_takes_76 : decode cX7_takes 76 = .ok (.dup2, 1) := by decide +kernel
theorem dX7_takes_77 : decode cX7_takes 77 = .ok (.iaload, 1) := by decide +kernel
theorem dX7_takes_78 : decode cX7_takes 78 = .ok (.iconst 1, 1) := by decide +kernel
theorem dX7_takes_79 : decode cX7_takes 79 = .ok (.iadd, 1) := by decide +kernel
theorem dX7_takes_80 : decode cX7_takes 80 = .ok (.iastore, 1) := by decide +kernel
theorem dX7_takes_81 : decode cX7_takes 81 = .ok (.aload_n 0, 1) := by decide +kernel
theorem dX7_takes_82 : decode cX7_takes 82 = .ok (.getfield 23, 3) := by decide +kernel
theorem dX7_takes_85 : decode cX7_takes 85 = .ok (.iconst 2, 1) := by decide +kernel
theorem dX7_takes_86 : decode cX7_takes 86 = .ok (.iload_n 1, 1) := by decide +kernel
theorem dX7_takes_87 : decode cX7_takes 87 = .ok (.iadd, 1) := by decide +kernel
theorem dX7_takes_88 : decode cX7_takes 88 = .ok (.iconst 4, 1) := by decide +kernel
theorem dX7_takes_89 : decode cX7_takes 89 = .ok (.iastore, 1) := by decide +kernel
theorem dX7_takes_90 : decode cX7_takes 90 = .ok (.aload_n 0, 1) := by decide +kernel
theorem dX7_takes_91 : decode cX7_takes 91 = .ok (.getfield 23, 3) := by decide +kernel
theorem dX7_takes_94 : decode cX7_takes 94 = .ok (.bipush 6, 2) := by decide +kernel
theorem dX7_takes_96 : decode cX7_takes 96 = .ok (.dup2, 1) := by decide +kernel
theorem dX7_takes_97 : decode cX7_takes 97 = .ok (.iaload, 1) := by decide +kernel
theorem dX7_takes_98 : decode cX7_takes 98 = .ok (.iconst 1, 1) := by decide +kernel
theorem dX7_takes_99 : decode cX7_takes 99 = .ok (.iload_n 1, 1) := by decide +kernel
theorem dX7_takes_100 : decode cX7_takes 100 = .ok (.ishl, 1) := by decide +kernel
theorem dX7_takes_101 : decode cX7_takes 101 = .ok (.ior, 1) := by decide +kernel
theorem dX7_takes_102 : decode cX7_takes 102 = .ok (.iastore, 1) := by decide +kernel
theorem dX7_takes_103 : decode cX7_takes 103 = .ok (.aload_n 0, 1) := by decide +kernel
theorem dX7_takes_104 : decode cX7_takes 104 = .ok (.iconst 4, 1) := by decide +kernel
theorem dX7_takes_105 : decode cX7_takes 105 = .ok (.invokevirtual 150, 3) := by decide +kernel
theorem dX7_takes_108 : decode cX7_takes 108 = .ok (.invokestatic 173, 3) := by decide +kernel
theorem dX7_takes_111 : decode cX7_takes 111 = .ok (.ireturn, 1) := by decide +kernel
theorem dX7_leaves_0 : decode cX7_leaves 0 = .ok (.aload_n 0, 1) := by decide +kernel
theorem dX7_leaves_1 : decode cX7_leaves 1 = .ok (.iload_n 1, 1) := by decide +kernel
theorem dX7_leaves_2 : decode cX7_leaves 2 = .ok (.invokevirtual 156, 3) := by decide +kernel
theorem dX7_leaves_5 : decode cX7_leaves 5 = .ok (.ifCond .ne 5, 3) := by decide +kernel
theorem dX7_leaves_8 : decode cX7_leaves 8 = .ok (.iconst (-1), 1) := by decide +kernel
theorem dX7_leaves_9 : decode cX7_leaves 9 = .ok (.ireturn, 1) := by decide +kernel
theorem dX7_leaves_10 : decode cX7_leaves 10 = .ok (.aload_n 0, 1) := by decide +kernel
theorem dX7_leaves_11 : decode cX7_leaves 11 = .ok (.getfield 23, 3) := by decide +kernel
theorem dX7_leaves_14 : decode cX7_leaves 14 = .ok (.iconst 2, 1) := by decide +kernel
theorem dX7_leaves_15 : decode cX7_leaves 15 = .ok (.iload_n 1, 1) := by decide +kernel
theorem dX7_leaves_16 : decode cX7_leaves 16 = .ok (.iadd, 1) := by decide +kernel
theorem dX7_leaves_17 : decode cX7_leaves 17 = .ok (.iaload, 1) := by decide +kernel
theorem dX7_leaves_18 : decode cX7_leaves 18 = .ok (.iconst 4, 1) := by decide +kernel
theorem dX7_leaves_19 : decode cX7_leaves 19 = .ok (.if_icmp .ne 25, 3) := by decide +kernel
theorem dX7_leaves_22 : decode cX7_leaves 22 = .ok (.aload_n 0, 1) := by decide +kernel
theorem dX7_leaves_23 : decode cX7_leaves 23 = .ok (.getfield 23, 3) := by decide +kernel
theorem dX7_leaves_26 : decode cX7_leaves 26 = .ok (.iconst 1, 1) := by decide +kernel
theorem dX7_leaves_27 : decode cX7_leaves 27 = .ok (.iaload, 1) := by decide +kernel
theorem dX7_leaves_28 : decode cX7_leaves 28 = .ok (.iconst 4, 1) := by decide +kernel
theorem dX7_leaves_29 : decode cX7_leaves 29 = .ok (.if_icmp .eq 15, 3) := by decide +kernel
theorem dX7_leaves_32 : decode cX7_leaves 32 = .ok (.aload_n 0, 1) := by decide +kernel
theorem dX7_leaves_33 : decode cX7_leaves 33 = .ok (.getfield 23, 3) := by decide +kernel
theorem dX7_leaves_36 : decode cX7_leaves 36 = .ok (.iconst 0, 1) := by decide +kernel
theorem dX7_leaves_37 : decode cX7_leaves 37 = .ok (.iaload, 1) := by decide +kernel
theorem dX7_leaves_38 : decode cX7_leaves 38 = .ok (.sipush 999, 3) := by decide +kernel
theorem dX7_leaves_41 : decode cX7_leaves 41 = .ok (.if_icmp .ne 6, 3) := by decide +kernel
theorem dX7_leaves_44 : decode cX7_leaves 44 = .ok (.bipush (-2), 2) := by decide +kernel
theorem dX7_leaves_46 : decode cX7_leaves 46 = .ok (.ireturn, 1) := by decide +kernel
theorem dX7_leaves_47 : decode cX7_leaves 47 = .ok (.aload_n 0, 1) := by decide +kernel
theorem dX7_leaves_48 : decode cX7_leaves 48 = .ok (.invokevirtual 170, 3) := by decide +kernel
theorem dX7_leaves_51 : decode cX7_leaves 51 = .ok (.aload_n 0, 1) := by decide +kernel
theorem dX7_leaves_52 : decode cX7_leaves 52 = .ok (.getfield 23, 3) := by decide +kernel
theorem dX7_leaves_55 : decode cX7_leaves 55 = .ok (.iconst 0, 1) := by decide +kernel
theorem dX7_leaves_56 : decode cX7_leaves 56 = .ok (.dup2, 1) := by decide +kernel
theorem dX7_leaves_57 : decode cX7_leaves 57 = .ok (.iaload, 1) := by decide +kernel
theorem dX7_leaves_58 : decode cX7_leaves 58 = .ok (.iconst 1, 1) := by decide +kernel
theorem dX7_leaves_59 : decode cX7_leaves 59 = .ok (.iadd, 1) := by decide +kernel
theorem dX7_leaves_60 : decode cX7_leaves 60 = .ok (.iastore, 1) := by decide +kernel
theorem dX7_leaves_61 : decode cX7_leaves 61 = .ok (.aload_n 0, 1) := by decide +kernel
theorem dX7_leaves_62 : decode cX7_leaves 62 = .ok (.getfield 23, 3) := by decide +kernel
theorem dX7_leaves_65 : decode cX7_leaves 65 = .ok (.iconst 2, 1) := by decide +kernel
theorem dX7_leaves_66 : decode cX7_leaves 66 = .ok (.iload_n 1, 1) := by decide +kernel
theorem dX7_leaves_67 : decode cX7_leaves 67 = .ok (.iadd, 1) := by decide +kernel
theorem dX7_leaves_68 : decode cX7_leaves 68 = .ok (.aload_n 0, 1) := by decide +kernel
theorem dX7_leaves_69 : decode cX7_leaves 69 = .ok (.getfield 23, 3) := by decide +kernel
theorem dX7_leaves_72 : decode cX7_leaves 72 = .ok (.iconst 1, 1) := by decide +kernel
theorem dX7_leaves_73 : decode cX7_leaves 73 = .ok (.iaload, 1) := by decide +kernel
theorem dX7_leaves_74 : decode cX7_leaves 74 = .ok (.iastore, 1) := by decide +kernel
theorem dX7_leaves_75 : decode cX7_leaves 75 = .ok (.aload_n 0, 1) := by decide +kernel
theorem dX7_leaves_76 : decode cX7_leaves 76 = .ok (.iconst 4, 1) := by decide +kernel
theorem dX7_leaves_77 : decode cX7_leaves 77 = .ok (.invokevirtual 150, 3) := by decide +kernel
theorem dX7_leaves_80 : decode cX7_leaves 80 = .ok (.invokestatic 173, 3) := by decide +kernel
theorem dX7_leaves_83 : decode cX7_leaves 83 = .ok (.ireturn, 1) := by decide +kernel
theorem dX7_encores_0 : decode cX7_encores 0 = .ok (.iload_n 1, 1) := by decide +kernel
theorem dX7_encores_1 : decode cX7_encores 1 = .ok (.iconst 1, 1) := by decide +kernel
theorem dX7_encores_2 : decode cX7_encores 2 = .ok (.bipush 30, 2) := by decide +kernel
theorem dX7_encores_4 : decode cX7_encores 4 = .ok (.invokestatic 64, 3) := by decide +kernel
theorem dX7_encores_7 : decode cX7_encores 7 = .ok (.ifCond .ne 5, 3) := by decide +kernel
theorem dX7_encores_10 : decode cX7_encores 10 = .ok (.iconst (-1), 1) := by decide +kernel
theorem dX7_encores_11 : decode cX7_encores 11 = .ok (.ireturn, 1) := by decide +kernel
theorem dX7_encores_12 : decode cX7_encores 12 = .ok (.aload_n 0, 1) := by decide +kernel
theorem dX7_encores_13 : decode cX7_encores 13 = .ok (.getfield 23, 3) := by decide +kernel
theorem dX7_encores_16 : decode cX7_encores 16 = .ok (.iconst 0, 1) := by decide +kernel
theorem dX7_encores_17 : decode cX7_encores 17 = .ok (.iaload, 1) := by decide +kernel
theorem dX7_encores_18 : decode cX7_encores 18 = .ok (.iload_n 1, 1) := by decide +kernel
theorem dX7_encores_19 : decode cX7_encores 19 = .ok (.iadd, 1) := by decide +kernel
theorem dX7_encores_20 : decode cX7_encores 20 = .ok (.sipush 999, 3) := by decide +kernel
theorem dX7_encores_23 : decode cX7_encores 23 = .ok (.if_icmp .le 6, 3) := by decide +kernel
theorem dX7_encores_26 : decode cX7_encores 26 = .ok (.bipush (-2), 2) := by decide +kernel
theorem dX7_encores_28 : decode cX7_encores 28 = .ok (.ireturn, 1) := by decide +kernel
theorem dX7_encores_29 : decode cX7_encores 29 = .ok (.aload_n 0, 1) := by decide +kernel
theorem dX7_encores_30 : decode cX7_encores 30 = .ok (.invokevirtual 170, 3) := by decide +kernel
theorem dX7_encores_33 : decode cX7_encores 33 = .ok (.aload_n 0, 1) := by decide +kernel
theorem dX7_encores_34 : decode cX7_encores 34 = .ok (.getfield 23, 3) := by decide +kernel
theorem dX7_encores_37 : decode cX7_encores 37 = .ok (.iconst 0, 1) := by decide +kernel
theorem dX7_encores_38 : decode cX7_encores 38 = .ok (.dup2, 1) := by decide +kernel
theorem dX7_encores_39 : decode cX7_encores 39 = .ok (.iaload, 1) := by decide +kernel
theorem dX7_encores_40 : decode cX7_encores 40 = .ok (.iload_n 1, 1) := by decide +kernel
theorem dX7_encores_41 : decode cX7_encores 41 = .ok (.iadd, 1) := by decide +kernel
theorem dX7_encores_42 : decode cX7_encores 42 = .ok (.iastore, 1) := by decide +kernel
theorem dX7_encores_43 : decode cX7_encores 43 = .ok (.aload_n 0, 1) := by decide +kernel
theorem dX7_encores_44 : decode cX7_encores 44 = .ok (.getfield 23, 3) := by decide +kernel
theorem dX7_encores_47 : decode cX7_encores 47 = .ok (.iconst 0, 1) := by decide +kernel
theorem dX7_encores_48 : decode cX7_encores 48 = .ok (.iaload, 1) := by decide +kernel
theorem dX7_encores_49 : decode cX7_encores 49 = .ok (.ireturn, 1) := by decide +kernel
theorem dX7_undo_0 : decode cX7_undo 0 = .ok (.aload_n 0, 1) := by decide +kernel
theorem dX7_undo_1 : decode cX7_undo 1 = .ok (.getfield 135, 3) := by decide +kernel
theorem dX7_undo_4 : decode cX7_undo 4 = .ok (.ifCond .ne 6, 3) := by decide +kernel
theorem dX7_undo_7 : decode cX7_undo 7 = .ok (.bipush (-2), 2) := by decide +kernel
theorem dX7_undo_9 : decode cX7_undo 9 = .ok (.ireturn, 1) := by decide +kernel
theorem dX7_undo_10 : decode cX7_undo 10 = .ok (.aload_n 0, 1) := by decide +kernel
theorem dX7_undo_11 : decode cX7_undo 11 = .ok (.dup, 1) := by decide +kernel
theorem dX7_undo_12 : decode cX7_undo 12 = .ok (.getfield 135, 3) := by decide +kernel
theorem dX7_undo_15 : decode cX7_undo 15 = .ok (.iconst 1, 1) := by decide +kernel
theorem dX7_undo_16 : decode cX7_undo 16 = .ok (.isub, 1) := by decide +kernel
theorem dX7_undo_17 : decode cX7_undo 17 = .ok (.putfield 135, 3) := by decide +kernel
theorem dX7_undo_20 : decode cX7_undo 20 = .ok (.aload_n 0, 1) := by decide +kernel
theorem dX7_undo_21 : decode cX7_undo 21 = .ok (.getfield 23, 3) := by decide +kernel
theorem dX7_undo_24 : decode cX7_undo 24 = .ok (.iconst 0, 1) := by decide +kernel
theorem dX7_undo_25 : decode cX7_undo 25 = .ok (.aload_n 0, 1) := by decide +kernel
theorem dX7_undo_26 : decode cX7_undo 26 = .ok (.getfield 26, 3) := by decide +kernel
theorem dX7_undo_29 : decode cX7_undo 29 = .ok (.bipush 7, 2) := by decide +kernel
theorem dX7_undo_31 : decode cX7_undo 31 = .ok (.aload_n 0, 1) := by decide +kernel
theorem dX7_undo_32 : decode cX7_undo 32 = .ok (.getfield 135, 3) := by decide +kernel
theorem dX7_undo_35 : decode cX7_undo 35 = .ok (.imul, 1) := by decide +kernel
theorem dX7_undo_36 : decode cX7_undo 36 = .ok (.invokestatic 166, 3) := by decide +kernel
theorem dX7_undo_39 : decode cX7_undo 39 = .ok (.aload_n 0, 1) := by decide +kernel
theorem dX7_undo_40 : decode cX7_undo 40 = .ok (.getfield 135, 3) := by decide +kernel
theorem dX7_undo_43 : decode cX7_undo 43 = .ok (.ireturn, 1) := by decide +kernel
theorem dX7_fives_0 : decode cX7_fives 0 = .ok (.iconst 1, 1) := by decide +kernel
theorem dX7_fives_1 : decode cX7_fives 1 = .ok (.istore_n 1, 1) := by decide +kernel
theorem dX7_fives_2 : decode cX7_fives 2 = .ok (.iconst 0, 1) := by decide +kernel
theorem dX7_fives_3 : decode cX7_fives 3 = .ok (.istore_n 2, 1) := by decide +kernel
theorem dX7_fives_4 : decode cX7_fives 4 = .ok (.iload_n 2, 1) := by decide +kernel
theorem dX7_fives_5 : decode cX7_fives 5 = .ok (.iload_n 0, 1) := by decide +kernel
theorem dX7_fives_6 : decode cX7_fives 6 = .ok (.if_icmp .ge 13, 3) := by decide +kernel
theorem dX7_fives_9 : decode cX7_fives 9 = .ok (.iload_n 1, 1) := by decide +kernel
theorem dX7_fives_10 : decode cX7_fives 10 = .ok (.iconst 5, 1) := by decide +kernel
theorem dX7_fives_11 : decode cX7_fives 11 = .ok (.imul, 1) := by decide +kernel
theorem dX7_fives_12 : decode cX7_fives 12 = .ok (.istore_n 1, 1) := by decide +kernel
theorem dX7_fives_13 : decode cX7_fives 13 = .ok (.iinc 2 1, 3) := by decide +kernel
theorem dX7_fives_16 : decode cX7_fives 16 = .ok (.goto (-12), 3) := by decide +kernel
theorem dX7_fives_19 : decode cX7_fives 19 = .ok (.iload_n 1, 1) := by decide +kernel
theorem dX7_fives_20 : decode cX7_fives 20 = .ok (.ireturn, 1) := by decide +kernel
theorem dX7_whereIn_0 : decode cX7_whereIn 0 = .ok (.iload_n 0, 1) := by decide +kernel
theorem dX7_whereIn_1 : decode cX7_whereIn 1 = .ok (.iconst 1, 1) := by decide +kernel
theorem dX7_whereIn_2 : decode cX7_whereIn 2 = .ok (.iload_n 1, 1) := by decide +kernel
theorem dX7_whereIn_3 : decode cX7_whereIn 3 = .ok (.iadd, 1) := by decide +kernel
theorem dX7_whereIn_4 : decode cX7_whereIn 4 = .ok (.invokestatic 176, 3) := by decide +kernel
theorem dX7_whereIn_7 : decode cX7_whereIn 7 = .ok (.idiv, 1) := by decide +kernel
theorem dX7_whereIn_8 : decode cX7_whereIn 8 = .ok (.iconst 5, 1) := by decide +kernel
theorem dX7_whereIn_9 : decode cX7_whereIn 9 = .ok (.irem, 1) := by decide +kernel
theorem dX7_whereIn_10 : decode cX7_whereIn 10 = .ok (.ireturn, 1) := by decide +kernel
theorem dX7_comesBy_0 : decode cX7_comesBy 0 = .ok (.iload_n 2, 1) := by decide +kernel
theorem dX7_comesBy_1 : decode cX7_comesBy 1 = .ok (.aload_n 0, 1) := by decide +kernel
theorem dX7_comesBy_2 : decode cX7_comesBy 2 = .ok (.getfield 52, 3) := by decide +kernel
theorem dX7_comesBy_5 : decode cX7_comesBy 5 = .ok (.iload_n 1, 1) := by decide +kernel
theorem dX7_comesBy_6 : decode cX7_comesBy 6 = .ok (.iaload, 1) := by decide +kernel
theorem dX7_comesBy_7 : decode cX7_comesBy 7 = .ok (.if_icmp .ge 54, 3) := by decide +kernel
theorem dX7_comesBy_10 : decode cX7_comesBy 10 = .ok (.aload_n 0, 1) := by decide +kernel
theorem dX7_comesBy_11 : decode cX7_comesBy 11 = .ok (.getfield 52, 3) := by decide +kernel
theorem dX7_comesBy_14 : decode cX7_comesBy 14 = .ok (.iload_n 1, 1) := by decide +kernel
theorem dX7_comesBy_15 : decode cX7_comesBy 15 = .ok (.iload_n 2, 1) := by decide +kernel
theorem dX7_comesBy_16 : decode cX7_comesBy 16 = .ok (.iastore, 1) := by decide +kernel
theorem dX7_comesBy_17 : decode cX7_comesBy 17 = .ok (.aload_n 0, 1) := by decide +kernel
theorem dX7_comesBy_18 : decode cX7_comesBy 18 = .ok (.iload_n 2, 1) := by decide +kernel
theorem dX7_comesBy_19 : decode cX7_comesBy 19 = .ok (.aload_n 0, 1) := by decide +kernel
theorem dX7_comesBy_20 : decode cX7_comesBy 20 = .ok (.getfield 179, 3) := by decide +kernel
theorem dX7_comesBy_23 : decode cX7_comesBy 23 = .ok (.if_icmp .le 7, 3) := by decide +kernel
theorem dX7_comesBy_26 : decode cX7_comesBy 26 = .ok (.iload_n 2, 1) := by decide +kernel
theorem dX7_comesBy_27 : decode cX7_comesBy 27 = .ok (.goto 7, 3) := by decide +kernel
theorem dX7_comesBy_30 : decode cX7_comesBy 30 = .ok (.aload_n 0, 1) := by decide +kernel
theorem dX7_comesBy_31 : decode cX7_comesBy 31 = .ok (.getfield 179, 3) := by decide +kernel
theorem dX7_comesBy_34 : decode cX7_comesBy 34 = .ok (.putfield 179, 3) := by decide +kernel
theorem dX7_comesBy_37 : decode cX7_comesBy 37 = .ok (.aload_n 0, 1) := by decide +kernel
theorem dX7_comesBy_38 : decode cX7_comesBy 38 = .ok (.aload_n 0, 1) := by decide +kernel
theorem dX7_comesBy_39 : decode cX7_comesBy 39 = .ok (.getfield 182, 3) := by decide +kernel
theorem dX7_comesBy_42 : decode cX7_comesBy 42 = .ok (.ifCond .ne 11, 3) := by decide +kernel
theorem dX7_comesBy_45 : decode cX7_comesBy 45 = .ok (.iload_n 2, 1) := by decide +kernel
theorem dX7_comesBy_46 : decode cX7_comesBy 46 = .ok (.aload_n 0, 1) := by decide +kernel
theorem dX7_comesBy_47 : decode cX7_comesBy 47 = .ok (.getfield 185, 3) := by decide +kernel
theorem dX7_comesBy_50 : decode cX7_comesBy 50 = .ok (.if_icmp .ne 7, 3) := by decide +kernel
theorem dX7_comesBy_53 : decode cX7_comesBy 53 = .ok (.iconst 1, 1) := by decide +kernel
theorem dX7_comesBy_54 : decode cX7_comesBy 54 = .ok (.goto 4, 3) := by decide +kernel
theorem dX7_comesBy_57 : decode cX7_comesBy 57 = .ok (.iconst 0, 1) := by decide +kernel
theorem dX7_comesBy_58 : decode cX7_comesBy 58 = .ok (.putfield 182, 3) := by decide +kernel
theorem dX7_comesBy_61 : decode cX7_comesBy 61 = .ok (.return_, 1) := by decide +kernel
theorem dX7_handsOf_0 : decode cX7_handsOf 0 = .ok (.iconst 0, 1) := by decide +kernel
theorem dX7_handsOf_1 : decode cX7_handsOf 1 = .ok (.istore_n 2, 1) := by decide +kernel
theorem dX7_handsOf_2 : decode cX7_handsOf 2 = .ok (.iconst 0, 1) := by decide +kernel
theorem dX7_handsOf_3 : decode cX7_handsOf 3 = .ok (.istore_n 3, 1) := by decide +kernel
theorem dX7_handsOf_4 : decode cX7_handsOf 4 = .ok (.iload_n 3, 1) := by decide +kernel
theorem dX7_handsOf_5 : decode cX7_handsOf 5 = .ok (.aload_n 0, 1) := by decide +kernel
theorem dX7_handsOf_6 : decode cX7_handsOf 6 = .ok (.getfield 68, 3) := by decide +kernel
theorem dX7_handsOf_9 : decode cX7_handsOf 9 = .ok (.if_icmp .ge 26, 3) := by decide +kernel
theorem dX7_handsOf_12 : decode cX7_handsOf 12 = .ok (.iload_n 2, 1) := by decide +kernel
theorem dX7_handsOf_13 : decode cX7_handsOf 13 = .ok (.iload_n 1, 1) := by decide +kernel
theorem dX7_handsOf_14 : decode cX7_handsOf 14 = .ok (.iload_n 3, 1) := by decide +kernel
theorem dX7_handsOf_15 : decode cX7_handsOf 15 = .ok (.invokestatic 188, 3) := by decide +kernel
theorem dX7_handsOf_18 : decode cX7_handsOf 18 = .ok (.iconst 4, 1) := by decide +kernel
theorem dX7_handsOf_19 : decode cX7_handsOf 19 = .ok (.if_icmp .ne 7, 3) := by decide +kernel
theorem dX7_handsOf_22 : decode cX7_handsOf 22 = .ok (.iconst 1, 1) := by decide +kernel
theorem dX7_handsOf_23 : decode cX7_handsOf 23 = .ok (.goto 4, 3) := by decide +kernel
theorem dX7_handsOf_26 : decode cX7_handsOf 26 = .ok (.iconst 0, 1) := by decide +kernel
theorem dX7_handsOf_27 : decode cX7_handsOf 27 = .ok (.iadd, 1) := by decide +kernel
theorem dX7_handsOf_28 : decode cX7_handsOf 28 = .ok (.istore_n 2, 1) := by decide +kernel
theorem dX7_handsOf_29 : decode cX7_handsOf 29 = .ok (.iinc 3 1, 3) := by decide +kernel
theorem dX7_handsOf_32 : decode cX7_handsOf 32 = .ok (.goto (-28), 3) := by decide +kernel
theorem dX7_handsOf_35 : decode cX7_handsOf 35 = .ok (.iload_n 2, 1) := by decide +kernel
theorem dX7_handsOf_36 : decode cX7_handsOf 36 = .ok (.ireturn, 1) := by decide +kernel
theorem dX7_goesBack_0 : decode cX7_goesBack 0 = .ok (.iload_n 1, 1) := by decide +kernel
theorem dX7_goesBack_1 : decode cX7_goesBack 1 = .ok (.iconst 5, 1) := by decide +kernel
theorem dX7_goesBack_2 : decode cX7_goesBack 2 = .ok (.irem, 1) := by decide +kernel
theorem dX7_goesBack_3 : decode cX7_goesBack 3 = .ok (.istore_n 2, 1) := by decide +kernel
theorem dX7_goesBack_4 : decode cX7_goesBack 4 = .ok (.aload_n 0, 1) := by decide +kernel
theorem dX7_goesBack_5 : decode cX7_goesBack 5 = .ok (.getfield 52, 3) := by decide +kernel
theorem dX7_goesBack_8 : decode cX7_goesBack 8 = .ok (.iload_n 1, 1) := by decide +kernel
theorem dX7_goesBack_9 : decode cX7_goesBack 9 = .ok (.iaload, 1) := by decide +kernel
theorem dX7_goesBack_10 : decode cX7_goesBack 10 = .ok (.istore_n 3, 1) := by decide +kernel
theorem dX7_goesBack_11 : decode cX7_goesBack 11 = .ok (.iconst 0, 1) := by decide +kernel
theorem dX7_goesBack_12 : decode cX7_goesBack 12 = .ok (.istore 4, 2) := by decide +kernel
theorem dX7_goesBack_14 : decode cX7_goesBack 14 = .ok (.iload 4, 2) := by decide +kernel
theorem dX7_goesBack_16 : decode cX7_goesBack 16 = .ok (.iconst 4, 1) := by decide +kernel
theorem dX7_goesBack_17 : decode cX7_goesBack 17 = .ok (.if_icmp .gt 49, 3) := by decide +kernel
theorem dX7_goesBack_20 : decode cX7_goesBack 20 = .ok (.iload 4, 2) := by decide +kernel
theorem dX7_goesBack_22 : decode cX7_goesBack 22 = .ok (.iload_n 2, 1) := by decide +kernel
theorem dX7_goesBack_23 : decode cX7_goesBack 23 = .ok (.if_icmp .eq 37, 3) := by decide +kernel
theorem dX7_goesBack_26 : decode cX7_goesBack 26 = .ok (.iload 4, 2) := by decide +kernel
theorem dX7_goesBack_28 : decode cX7_goesBack 28 = .ok (.aload_n 0, 1) := by decide +kernel
theorem dX7_goesBack_29 : decode cX7_goesBack 29 = .ok (.getfield 61, 3) := by decide +kernel
theorem dX7_goesBack_32 : decode cX7_goesBack 32 = .ok (.if_icmp .lt 9, 3) := by decide +kernel
theorem dX7_goesBack_35 : decode cX7_goesBack 35 = .ok (.iload 4, 2) := by decide +kernel
theorem dX7_goesBack_37 : decode cX7_goesBack 37 = .ok (.iconst 4, 1) := by decide +kernel
theorem dX7_goesBack_38 : decode cX7_goesBack 38 = .ok (.if_icmp .ne 22, 3) := by decide +kernel
theorem dX7_goesBack_41 : decode cX7_goesBack 41 = .ok (.aload_n 0, 1) := by decide +kernel
theorem dX7_goesBack_42 : decode cX7_goesBack 42 = .ok (.iload_n 1, 1) := by decide +kernel
theorem dX7_goesBack_43 : decode cX7_goesBack 43 = .ok (.iload_n 2, 1) := by decide +kernel
theorem dX7_goesBack_44 : decode cX7_goesBack 44 = .ok (.isub, 1) := by decide +kernel
theorem dX7_goesBack_45 : decode cX7_goesBack 45 = .ok (.iload 4, 2) := by decide +kernel
theorem dX7_goesBack_47 : decode cX7_goesBack 47 = .ok (.iadd, 1) := by decide +kernel
theorem dX7_goesBack_48 : decode cX7_goesBack 48 = .ok (.iload_n 3, 1) := by decide +kernel
theorem dX7_goesBack_49 : decode cX7_goesBack 49 = .ok (.aload_n 0, 1) := by decide +kernel
theorem dX7_goesBack_50 : decode cX7_goesBack 50 = .ok (.iload 4, 2) := by decide +kernel
theorem dX7_goesBack_52 : decode cX7_goesBack 52 = .ok (.iload_n 2, 1) := by decide +kernel
theorem dX7_goesBack_53 : decode cX7_goesBack 53 = .ok (.invokevirtual 153, 3) := by decide +kernel
theorem dX7_goesBack_56 : decode cX7_goesBack 56 = .ok (.iadd, 1) := by decide +kernel
theorem dX7_goesBack_57 : decode cX7_goesBack 57 = .ok (.invokevirtual 191, 3) := by decide +kernel
theorem dX7_goesBack_60 : decode cX7_goesBack 60 = .ok (.iinc 4 1, 3) := by decide +kernel
theorem dX7_goesBack_63 : decode cX7_goesBack 63 = .ok (.goto (-49), 3) := by decide +kernel
theorem dX7_goesBack_66 : decode cX7_goesBack 66 = .ok (.aload_n 0, 1) := by decide +kernel
theorem dX7_goesBack_67 : decode cX7_goesBack 67 = .ok (.iload_n 1, 1) := by decide +kernel
theorem dX7_goesBack_68 : decode cX7_goesBack 68 = .ok (.invokevirtual 195, 3) := by decide +kernel
theorem dX7_goesBack_71 : decode cX7_goesBack 71 = .ok (.aload_n 0, 1) := by decide +kernel
theorem dX7_goesBack_72 : decode cX7_goesBack 72 = .ok (.getfield 16, 3) := by decide +kernel
theorem dX7_goesBack_75 : decode cX7_goesBack 75 = .ok (.if_icmp .ge 7, 3) := by decide +kernel
theorem dX7_goesBack_78 : decode cX7_goesBack 78 = .ok (.iconst 1, 1) := by decide +kernel
theorem dX7_goesBack_79 : decode cX7_goesBack 79 = .ok (.goto 4, 3) := by decide +kernel
theorem dX7_goesBack_82 : decode cX7_goesBack 82 = .ok (.iconst 0, 1) := by decide +kernel
theorem dX7_goesBack_83 : decode cX7_goesBack 83 = .ok (.istore 4, 2) := by decide +kernel
theorem dX7_goesBack_85 : decode cX7_goesBack 85 = .ok (.iload_n 1, 1) := by decide +kernel
theorem dX7_goesBack_86 : decode cX7_goesBack 86 = .ok (.aload_n 0, 1) := by decide +kernel
theorem dX7_goesBack_87 : decode cX7_goesBack 87 = .ok (.getfield 198, 3) := by decide +kernel
theorem dX7_goesBack_90 : decode cX7_goesBack 90 = .ok (.idiv, 1) := by decide +kernel
theorem dX7_goesBack_91 : decode cX7_goesBack 91 = .ok (.istore 5, 2) := by decide +kernel
theorem dX7_goesBack_93 : decode cX7_goesBack 93 = .ok (.iconst 0, 1) := by decide +kernel
theorem dX7_goesBack_94 : decode cX7_goesBack 94 = .ok (.istore 6, 2) := by decide +kernel
theorem dX7_goesBack_96 : decode cX7_goesBack 96 = .ok (.iload 6, 2) := by decide +kernel
theorem dX7_goesBack_98 : decode cX7_goesBack 98 = .ok (.aload_n 0, 1) := by decide +kernel
theorem dX7_goesBack_99 : decode cX7_goesBack 99 = .ok (.getfield 68, 3) := by decide +kernel
theorem dX7_goesBack_102 : decode cX7_goesBack 102 = .ok (.if_icmp .ge 107, 3) := by decide +kernel
theorem dX7_goesBack_105 : decode cX7_goesBack 105 = .ok (.iload_n 1, 1) := by decide +kernel
theorem dX7_goesBack_106 : decode cX7_goesBack 106 = .ok (.iload 6, 2) := by decide +kernel
theorem dX7_goesBack_108 : decode cX7_goesBack 108 = .ok (.invokestatic 188, 3) := by decide +kernel
theorem dX7_goesBack_111 : decode cX7_goesBack 111 = .ok (.istore 7, 2) := by decide +kernel
theorem dX7_goesBack_113 : decode cX7_goesBack 113 = .ok (.iconst 1, 1) := by decide +kernel
theorem dX7_goesBack_114 : decode cX7_goesBack 114 = .ok (.iload 6, 2) := by decide +kernel
theorem dX7_goesBack_116 : decode cX7_goesBack 116 = .ok (.iadd, 1) := by decide +kernel
theorem dX7_goesBack_117 : decode cX7_goesBack 117 = .ok (.invokestatic 176, 3) := by decide +kernel
theorem dX7_goesBack_120 : decode cX7_goesBack 120 = .ok (.istore 8, 2) := by decide +kernel
theorem dX7_goesBack_122 : decode cX7_goesBack 122 = .ok (.iload 7, 2) := by decide +kernel
theorem dX7_goesBack_124 : decode cX7_goesBack 124 = .ok (.iconst 4, 1) := by decide +kernel
theorem dX7_goesBack_125 : decode cX7_goesBack 125 = .ok (.if_icmp .ne 52, 3) := by decide +kernel
theorem dX7_goesBack_128 : decode cX7_goesBack 128 = .ok (.iload 5, 2) := by decide +kernel
theorem dX7_goesBack_130 : decode cX7_goesBack 130 = .ok (.iload 6, 2) := by decide +kernel
theorem dX7_goesBack_132 : decode cX7_goesBack 132 = .ok (.invokestatic 201, 3) := by decide +kernel
theorem dX7_goesBack_135 : decode cX7_goesBack 135 = .ok (.ifCond .ne 42, 3) := by decide +kernel
theorem dX7_goesBack_138 : decode cX7_goesBack 138 = .ok (.iload_n 1, 1) := by decide +kernel
theorem dX7_goesBack_139 : decode cX7_goesBack 139 = .ok (.iconst 4, 1) := by decide +kernel
theorem dX7_goesBack_140 : decode cX7_goesBack 140 = .ok (.iload_n 2, 1) := by decide +kernel
theorem dX7_goesBack_141 : decode cX7_goesBack 141 = .ok (.isub, 1) := by decide +kernel
theorem dX7_goesBack_142 : decode cX7_goesBack 142 = .ok (.iload 8, 2) := by decide +kernel
theorem dX7_goesBack_144 : decode cX7_goesBack 144 = .ok (.imul, 1) := by decide +kernel
theorem dX7_goesBack_145 : decode cX7_goesBack 145 = .ok (.isub, 1) := by decide +kernel
theorem dX7_goesBack_146 : decode cX7_goesBack 146 = .ok (.istore 9, 2) := by decide +kernel
theorem dX7_goesBack_148 : decode cX7_goesBack 148 = .ok (.aload_n 0, 1) := by decide +kernel
theorem dX7_goesBack_149 : decode cX7_goesBack 149 = .ok (.iload 9, 2) := by decide +kernel
theorem dX7_goesBack_151 : decode cX7_goesBack 151 = .ok (.iload_n 3, 1) := by decide +kernel
theorem dX7_goesBack_152 : decode cX7_goesBack 152 = .ok (.iconst 1, 1) := by decide +kernel
theorem dX7_goesBack_153 : decode cX7_goesBack 153 = .ok (.iadd, 1) := by decide +kernel
theorem dX7_goesBack_154 : decode cX7_goesBack 154 = .ok (.invokevirtual 191, 3) := by decide +kernel
theorem dX7_goesBack_157 : decode cX7_goesBack 157 = .ok (.aload_n 0, 1) := by decide +kernel
theorem dX7_goesBack_158 : decode cX7_goesBack 158 = .ok (.iload 9, 2) := by decide +kernel
theorem dX7_goesBack_160 : decode cX7_goesBack 160 = .ok (.aload_n 0, 1) := by decide +kernel
theorem dX7_goesBack_161 : decode cX7_goesBack 161 = .ok (.getfield 198, 3) := by decide +kernel
theorem dX7_goesBack_164 : decode cX7_goesBack 164 = .ok (.iload 6, 2) := by decide +kernel
theorem dX7_goesBack_166 : decode cX7_goesBack 166 = .ok (.ishl, 1) := by decide +kernel
theorem dX7_goesBack_167 : decode cX7_goesBack 167 = .ok (.iadd, 1) := by decide +kernel
theorem dX7_goesBack_168 : decode cX7_goesBack 168 = .ok (.iload_n 3, 1) := by decide +kernel
theorem dX7_goesBack_169 : decode cX7_goesBack 169 = .ok (.iconst 1, 1) := by decide +kernel
theorem dX7_goesBack_170 : decode cX7_goesBack 170 = .ok (.iadd, 1) := by decide +kernel
theorem dX7_goesBack_171 : decode cX7_goesBack 171 = .ok (.invokevirtual 191, 3) := by decide +kernel
theorem dX7_goesBack_174 : decode cX7_goesBack 174 = .ok (.goto 29, 3) := by decide +kernel
theorem dX7_goesBack_177 : decode cX7_goesBack 177 = .ok (.iload 7, 2) := by decide +kernel
theorem dX7_goesBack_179 : decode cX7_goesBack 179 = .ok (.iload_n 2, 1) := by decide +kernel
theorem dX7_goesBack_180 : decode cX7_goesBack 180 = .ok (.if_icmp .ne 23, 3) := by decide +kernel
theorem dX7_goesBack_183 : decode cX7_goesBack 183 = .ok (.iload 4, 2) := by decide +kernel
theorem dX7_goesBack_185 : decode cX7_goesBack 185 = .ok (.ifCond .eq 18, 3) := by decide +kernel
theorem dX7_goesBack_188 : decode cX7_goesBack 188 = .ok (.aload_n 0, 1) := by decide +kernel
theorem dX7_goesBack_189 : decode cX7_goesBack 189 = .ok (.iload_n 1, 1) := by decide +kernel
theorem dX7_goesBack_190 : decode cX7_goesBack 190 = .ok (.iconst 4, 1) := by decide +kernel
theorem dX7_goesBack_191 : decode cX7_goesBack 191 = .ok (.iload_n 2, 1) := by decide +kernel
theorem dX7_goesBack_192 : decode cX7_goesBack 192 = .ok (.isub, 1) := by decide +kernel
theorem dX7_goesBack_193 : decode cX7_goesBack 193 = .ok (.iload 8, 2) := by decide +kernel
theorem dX7_goesBack_195 : decode cX7_goesBack 195 = .ok (.imul, 1) := by decide +kernel
theorem dX7_goesBack_196 : decode cX7_goesBack 196 = .ok (.iadd, 1) := by decide +kernel
theorem dX7_goesBack_197 : decode cX7_goesBack 197 = .ok (.iload_n 3, 1) := by decide +kernel
theorem dX7_goesBack_198 : decode cX7_goesBack 198 = .ok (.iconst 1, 1) := by decide +kernel
theorem dX7_goesBack_199 : decode cX7_goesBack 199 = .ok (.iadd, 1) := by decide +kernel
theorem dX7_goesBack_200 : decode cX7_goesBack 200 = .ok (.invokevirtual 191, 3) := by decide +kernel
theorem dX7_goesBack_203 : decode cX7_goesBack 203 = .ok (.iinc 6 1, 3) := by decide +kernel
theorem dX7_goesBack_206 : decode cX7_goesBack 206 = .ok (.goto (-110), 3) := by decide +kernel
theorem dX7_goesBack_209 : decode cX7_goesBack 209 = .ok (.return_, 1) := by decide +kernel
theorem dX7_isBack_0 : decode cX7_isBack 0 = .ok (.iconst 1, 1) := by decide +kernel
theorem dX7_isBack_1 : decode cX7_isBack 1 = .ok (.istore_n 2, 1) := by decide +kernel
theorem dX7_isBack_2 : decode cX7_isBack 2 = .ok (.iconst 0, 1) := by decide +kernel
theorem dX7_isBack_3 : decode cX7_isBack 3 = .ok (.istore_n 3, 1) := by decide +kernel
theorem dX7_isBack_4 : decode cX7_isBack 4 = .ok (.iload_n 3, 1) := by decide +kernel
theorem dX7_isBack_5 : decode cX7_isBack 5 = .ok (.aload_n 0, 1) := by decide +kernel
theorem dX7_isBack_6 : decode cX7_isBack 6 = .ok (.getfield 68, 3) := by decide +kernel
theorem dX7_isBack_9 : decode cX7_isBack 9 = .ok (.if_icmp .ge 35, 3) := by decide +kernel
theorem dX7_isBack_12 : decode cX7_isBack 12 = .ok (.iload_n 2, 1) := by decide +kernel
theorem dX7_isBack_13 : decode cX7_isBack 13 = .ok (.ifCond .eq 23, 3) := by decide +kernel
theorem dX7_isBack_16 : decode cX7_isBack 16 = .ok (.iload_n 1, 1) := by decide +kernel
theorem dX7_isBack_17 : decode cX7_isBack 17 = .ok (.iload_n 3, 1) := by decide +kernel
theorem dX7_isBack_18 : decode cX7_isBack 18 = .ok (.invokestatic 188, 3) := by decide +kernel
theorem dX7_isBack_21 : decode cX7_isBack 21 = .ok (.aload_n 0, 1) := by decide +kernel
theorem dX7_isBack_22 : decode cX7_isBack 22 = .ok (.getfield 13, 3) := by decide +kernel
theorem dX7_isBack_25 : decode cX7_isBack 25 = .ok (.iconst 4, 1) := by decide +kernel
theorem dX7_isBack_26 : decode cX7_isBack 26 = .ok (.iload_n 3, 1) := by decide +kernel
theorem dX7_isBack_27 : decode cX7_isBack 27 = .ok (.imul, 1) := by decide +kernel
theorem dX7_isBack_28 : decode cX7_isBack 28 = .ok (.iaload, 1) := by decide +kernel
theorem dX7_isBack_29 : decode cX7_isBack 29 = .ok (.if_icmp .ne 7, 3) := by decide +kernel
theorem dX7_isBack_32 : decode cX7_isBack 32 = .ok (.iconst 1, 1) := by decide +kernel
theorem dX7_isBack_33 : decode cX7_isBack 33 = .ok (.goto 4, 3) := by decide +kernel
theorem dX7_isBack_36 : decode cX7_isBack 36 = .ok (.iconst 0, 1) := by decide +kernel
theorem dX7_isBack_37 : decode cX7_isBack 37 = .ok (.istore_n 2, 1) := by decide +kernel
theorem dX7_isBack_38 : decode cX7_isBack 38 = .ok (.iinc 3 1, 3) := by decide +kernel
theorem dX7_isBack_41 : decode cX7_isBack 41 = .ok (.goto (-37), 3) := by decide +kernel
theorem dX7_isBack_44 : decode cX7_isBack 44 = .ok (.iload_n 2, 1) := by decide +kernel
theorem dX7_isBack_45 : decode cX7_isBack 45 = .ok (.ireturn, 1) := by decide +kernel
theorem dX7_finds_0 : decode cX7_finds 0 = .ok (.aload_n 0, 1) := by decide +kernel
theorem dX7_finds_1 : decode cX7_finds 1 = .ok (.getfield 132, 3) := by decide +kernel
theorem dX7_finds_4 : decode cX7_finds 4 = .ok (.ifCond .eq 4, 3) := by decide +kernel
theorem dX7_finds_7 : decode cX7_finds 7 = .ok (.return_, 1) := by decide +kernel
theorem dX7_finds_8 : decode cX7_finds 8 = .ok (.aload_n 0, 1) := by decide +kernel
theorem dX7_finds_9 : decode cX7_finds 9 = .ok (.iconst 1, 1) := by decide +kernel
theorem dX7_finds_10 : decode cX7_finds 10 = .ok (.putfield 132, 3) := by decide +kernel
theorem dX7_finds_13 : decode cX7_finds 13 = .ok (.aload_n 0, 1) := by decide +kernel
theorem dX7_finds_14 : decode cX7_finds 14 = .ok (.iconst 1, 1) := by decide +kernel
theorem dX7_finds_15 : decode cX7_finds 15 = .ok (.aload_n 0, 1) := by decide +kernel
theorem dX7_finds_16 : decode cX7_finds 16 = .ok (.getfield 68, 3) := by decide +kernel
theorem dX7_finds_19 : decode cX7_finds 19 = .ok (.iadd, 1) := by decide +kernel
theorem dX7_finds_20 : decode cX7_finds 20 = .ok (.invokestatic 176, 3) := by decide +kernel
theorem dX7_finds_23 : decode cX7_finds 23 = .ok (.putfield 198, 3) := by decide +kernel
theorem dX7_finds_26 : decode cX7_finds 26 = .ok (.aload_n 0, 1) := by decide +kernel
theorem dX7_finds_27 : decode cX7_finds 27 = .ok (.getfield 198, 3) := by decide +kernel
theorem dX7_finds_30 : decode cX7_finds 30 = .ok (.aload_n 0, 1) := by decide +kernel
theorem dX7_finds_31 : decode cX7_finds 31 = .ok (.getfield 68, 3) := by decide +kernel
theorem dX7_finds_34 : decode cX7_finds 34 = .ok (.ishl, 1) := by decide +kernel
theorem dX7_finds_35 : decode cX7_finds 35 = .ok (.istore_n 1, 1) := by decide +kernel
theorem dX7_finds_36 : decode cX7_finds 36 = .ok (.iconst 0, 1) := by decide +kernel
theorem dX7_finds_37 : decode cX7_finds 37 = .ok (.istore_n 2, 1) := by decide +kernel
theorem dX7_finds_38 : decode cX7_finds 38 = .ok (.iload_n 2, 1) := by decide +kernel
theorem dX7_finds_39 : decode cX7_finds 39 = .ok (.iload_n 1, 1) := by decide +kernel
theorem dX7_finds_40 : decode cX7_finds 40 = .ok (.if_icmp .ge 37, 3) := by decide +kernel
theorem dX7_finds_43 : decode cX7_finds 43 = .ok (.aload_n 0, 1) := by decide +kernel
theorem dX7_finds_44 : decode cX7_finds 44 = .ok (.getfield 52, 3) := by decide +kernel
theorem dX7_finds_47 : decode cX7_finds 47 = .ok (.iload_n 2, 1) := by decide +kernel
theorem dX7_finds_48 : decode cX7_finds 48 = .ok (.iload_n 2, 1) := by decide +kernel
theorem dX7_finds_49 : decode cX7_finds 49 = .ok (.aload_n 0, 1) := by decide +kernel
theorem dX7_finds_50 : decode cX7_finds 50 = .ok (.getfield 198, 3) := by decide +kernel
theorem dX7_finds_53 : decode cX7_finds 53 = .ok (.if_icmp .ge 15, 3) := by decide +kernel
theorem dX7_finds_56 : decode cX7_finds 56 = .ok (.aload_n 0, 1) := by decide +kernel
theorem dX7_finds_57 : decode cX7_finds 57 = .ok (.iload_n 2, 1) := by decide +kernel
theorem dX7_finds_58 : decode cX7_finds 58 = .ok (.invokevirtual 205, 3) := by decide +kernel
theorem dX7_finds_61 : decode cX7_finds 61 = .ok (.ifCond .eq 7, 3) := by decide +kernel
theorem dX7_finds_64 : decode cX7_finds 64 = .ok (.iconst 0, 1) := by decide +kernel
theorem dX7_finds_65 : decode cX7_finds 65 = .ok (.goto 5, 3) := by decide +kernel
theorem dX7_finds_68 : decode cX7_finds 68 = .ok (.ldc 208, 2) := by decide +kernel
theorem dX7_finds_70 : decode cX7_finds 70 = .ok (.iastore, 1) := by decide +kernel
theorem dX7_finds_71 : decode cX7_finds 71 = .ok (.iinc 2 1, 3) := by decide +kernel
theorem dX7_finds_74 : decode cX7_finds 74 = .ok (.goto (-36), 3) := by decide +kernel
theorem dX7_finds_77 : decode cX7_finds 77 = .ok (.aload_n 0, 1) := by decide +kernel
theorem dX7_finds_78 : decode cX7_finds 78 = .ok (.iconst 0, 1) := by decide +kernel
theorem dX7_finds_79 : decode cX7_finds 79 = .ok (.putfield 185, 3) := by decide +kernel
theorem dX7_finds_82 : decode cX7_finds 82 = .ok (.aload_n 0, 1) := by decide +kernel
theorem dX7_finds_83 : decode cX7_finds 83 = .ok (.iconst 0, 1) := by decide +kernel
theorem dX7_finds_84 : decode cX7_finds 84 = .ok (.putfield 179, 3) := by decide +kernel
theorem dX7_finds_87 : decode cX7_finds 87 = .ok (.aload_n 0, 1) := by decide +kernel
theorem dX7_finds_88 : decode cX7_finds 88 = .ok (.getfield 185, 3) := by decide +kernel
theorem dX7_finds_91 : decode cX7_finds 91 = .ok (.aload_n 0, 1) := by decide +kernel
theorem dX7_finds_92 : decode cX7_finds 92 = .ok (.getfield 179, 3) := by decide +kernel
theorem dX7_finds_95 : decode cX7_finds 95 = .ok (.if_icmp .gt 77, 3) := by decide +kernel
theorem dX7_finds_98 : decode cX7_finds 98 = .ok (.aload_n 0, 1) := by decide +kernel
theorem dX7_finds_99 : decode cX7_finds 99 = .ok (.iconst 1, 1) := by decide +kernel
theorem dX7_finds_100 : decode cX7_finds 100 = .ok (.putfield 182, 3) := by decide +kernel
theorem dX7_finds_103 : decode cX7_finds 103 = .ok (.aload_n 0, 1) := by decide +kernel
theorem dX7_finds_104 : decode cX7_finds 104 = .ok (.getfield 182, 3) := by decide +kernel
theorem dX7_finds_107 : decode cX7_finds 107 = .ok (.ifCond .eq 52, 3) := by decide +kernel
theorem dX7_finds_110 : decode cX7_finds 110 = .ok (.aload_n 0, 1) := by decide +kernel
theorem dX7_finds_111 : decode cX7_finds 111 = .ok (.iconst 0, 1) := by decide +kernel
theorem dX7_finds_112 : decode cX7_finds 112 = .ok (.putfield 182, 3) := by decide +kernel
theorem dX7_finds_115 : decode cX7_finds 115 = .ok (.iconst 0, 1) := by decide +kernel
theorem dX7_finds_116 : decode cX7_finds 116 = .ok (.istore_n 2, 1) := by decide +kernel
theorem dX7_finds_117 : decode cX7_finds 117 = .ok (.iload_n 2, 1) := by decide +kernel
theorem dX7_finds_118 : decode cX7_finds 118 = .ok (.iload_n 1, 1) := by decide +kernel
theorem dX7_finds_119 : decode cX7_finds 119 = .ok (.if_icmp .ge 37, 3) := by decide +kernel
theorem dX7_finds_122 : decode cX7_finds 122 = .ok (.aload_n 0, 1) := by decide +kernel
theorem dX7_finds_123 : decode cX7_finds 123 = .ok (.getfield 52, 3) := by decide +kernel
theorem dX7_finds_126 : decode cX7_finds 126 = .ok (.iload_n 2, 1) := by decide +kernel
theorem dX7_finds_127 : decode cX7_finds 127 = .ok (.iaload, 1) := by decide +kernel
theorem dX7_finds_128 : decode cX7_finds 128 = .ok (.aload_n 0, 1) := by decide +kernel
theorem dX7_finds_129 : decode cX7_finds 129 = .ok (.getfield 185, 3) := by decide +kernel
theorem dX7_finds_132 : decode cX7_finds 132 = .ok (.if_icmp .ne 18, 3) := by decide +kernel
theorem dX7_finds_135 : decode cX7_finds 135 = .ok (.iload_n 2, 1) := by decide +kernel
theorem dX7_finds_136 : decode cX7_finds 136 = .ok (.iconst 5, 1) := by decide +kernel
theorem dX7_finds_137 : decode cX7_finds 137 = .ok (.irem, 1) := by decide +kernel
theorem dX7_finds_138 : decode cX7_finds 138 = .ok (.aload_n 0, 1) := by decide +kernel
theorem dX7_finds_139 : decode cX7_finds 139 = .ok (.getfield 61, 3) := by decide +kernel
theorem dX7_finds_142 : decode cX7_finds 142 = .ok (.if_icmp .ge 8, 3) := by decide +kernel
theorem dX7_finds_145 : decode cX7_finds 145 = .ok (.aload_n 0, 1) := by decide +kernel
theorem dX7_finds_146 : decode cX7_finds 146 = .ok (.iload_n 2, 1) := by decide +kernel
theorem dX7_finds_147 : decode cX7_finds 147 = .ok (.invokevirtual 209, 3) := by decide +kernel
theorem dX7_finds_150 : decode cX7_finds 150 = .ok (.iinc 2 1, 3) := by decide +kernel
theorem dX7_finds_153 : decode cX7_finds 153 = .ok (.goto (-36), 3) := by decide +kernel
theorem dX7_finds_156 : decode cX7_finds 156 = .ok (.goto (-53), 3) := by decide +kernel
theorem dX7_finds_159 : decode cX7_finds 159 = .ok (.aload_n 0, 1) := by decide +kernel
theorem dX7_finds_160 : decode cX7_finds 160 = .ok (.dup, 1) := by decide +kernel
theorem dX7_finds_161 : decode cX7_finds 161 = .ok (.getfield 185, 3) := by decide +kernel
theorem dX7_finds_164 : decode cX7_finds 164 = .ok (.iconst 1, 1) := by decide +kernel
theorem dX7_finds_165 : decode cX7_finds 165 = .ok (.iadd, 1) := by decide +kernel
theorem dX7_finds_166 : decode cX7_finds 166 = .ok (.putfield 185, 3) := by decide +kernel
theorem dX7_finds_169 : decode cX7_finds 169 = .ok (.goto (-82), 3) := by decide +kernel
theorem dX7_finds_172 : decode cX7_finds 172 = .ok (.return_, 1) := by decide +kernel
theorem dX7_nowAs_0 : decode cX7_nowAs 0 = .ok (.aload_n 0, 1) := by decide +kernel
theorem dX7_nowAs_1 : decode cX7_nowAs 1 = .ok (.getfield 23, 3) := by decide +kernel
theorem dX7_nowAs_4 : decode cX7_nowAs 4 = .ok (.iconst 1, 1) := by decide +kernel
theorem dX7_nowAs_5 : decode cX7_nowAs 5 = .ok (.iaload, 1) := by decide +kernel
theorem dX7_nowAs_6 : decode cX7_nowAs 6 = .ok (.istore_n 1, 1) := by decide +kernel
theorem dX7_nowAs_7 : decode cX7_nowAs 7 = .ok (.iconst 0, 1) := by decide +kernel
theorem dX7_nowAs_8 : decode cX7_nowAs 8 = .ok (.istore_n 2, 1) := by decide +kernel
theorem dX7_nowAs_9 : decode cX7_nowAs 9 = .ok (.iload_n 2, 1) := by decide +kernel
theorem dX7_nowAs_10 : decode cX7_nowAs 10 = .ok (.aload_n 0, 1) := by decide +kernel
theorem dX7_nowAs_11 : decode cX7_nowAs 11 = .ok (.getfield 68, 3) := by decide +kernel
theorem dX7_nowAs_14 : decode cX7_nowAs 14 = .ok (.if_icmp .ge 27, 3) := by decide +kernel
theorem dX7_nowAs_17 : decode cX7_nowAs 17 = .ok (.iload_n 1, 1) := by decide +kernel
theorem dX7_nowAs_18 : decode cX7_nowAs 18 = .ok (.aload_n 0, 1) := by decide +kernel
theorem dX7_nowAs_19 : decode cX7_nowAs 19 = .ok (.getfield 23, 3) := by decide +kernel
theorem dX7_nowAs_22 : decode cX7_nowAs 22 = .ok (.iconst 2, 1) := by decide +kernel
theorem dX7_nowAs_23 : decode cX7_nowAs 23 = .ok (.iload_n 2, 1) := by decide +kernel
theorem dX7_nowAs_24 : decode cX7_nowAs 24 = .ok (.iadd, 1) := by decide +kernel
theorem dX7_nowAs_25 : decode cX7_nowAs 25 = .ok (.iaload, 1) := by decide +kernel
theorem dX7_nowAs_26 : decode cX7_nowAs 26 = .ok (.iconst 1, 1) := by decide +kernel
theorem dX7_nowAs_27 : decode cX7_nowAs 27 = .ok (.iload_n 2, 1) := by decide +kernel
theorem dX7_nowAs_28 : decode cX7_nowAs 28 = .ok (.iadd, 1) := by decide +kernel
theorem dX7_nowAs_29 : decode cX7_nowAs 29 = .ok (.invokestatic 176, 3) := by decide +kernel
theorem dX7_nowAs_32 : decode cX7_nowAs 32 = .ok (.imul, 1) := by decide +kernel
theorem dX7_nowAs_33 : decode cX7_nowAs 33 = .ok (.iadd, 1) := by decide +kernel
theorem dX7_nowAs_34 : decode cX7_nowAs 34 = .ok (.istore_n 1, 1) := by decide +kernel
theorem dX7_nowAs_35 : decode cX7_nowAs 35 = .ok (.iinc 2 1, 3) := by decide +kernel
theorem dX7_nowAs_38 : decode cX7_nowAs 38 = .ok (.goto (-29), 3) := by decide +kernel
theorem dX7_nowAs_41 : decode cX7_nowAs 41 = .ok (.iload_n 1, 1) := by decide +kernel
theorem dX7_nowAs_42 : decode cX7_nowAs 42 = .ok (.ireturn, 1) := by decide +kernel
theorem dX7_leastWith_0 : decode cX7_leastWith 0 = .ok (.aload_n 0, 1) := by decide +kernel
theorem dX7_leastWith_1 : decode cX7_leastWith 1 = .ok (.invokevirtual 213, 3) := by decide +kernel
theorem dX7_leastWith_4 : decode cX7_leastWith 4 = .ok (.ldc 208, 2) := by decide +kernel
theorem dX7_leastWith_6 : decode cX7_leastWith 6 = .ok (.istore_n 2, 1) := by decide +kernel
theorem dX7_leastWith_7 : decode cX7_leastWith 7 = .ok (.iconst 0, 1) := by decide +kernel
theorem dX7_leastWith_8 : decode cX7_leastWith 8 = .ok (.istore_n 3, 1) := by decide +kernel
theorem dX7_leastWith_9 : decode cX7_leastWith 9 = .ok (.iload_n 3, 1) := by decide +kernel
theorem dX7_leastWith_10 : decode cX7_leastWith 10 = .ok (.iconst 1, 1) := by decide +kernel
theorem dX7_leastWith_11 : decode cX7_leastWith 11 = .ok (.aload_n 0, 1) := by decide +kernel
theorem dX7_leastWith_12 : decode cX7_leastWith 12 = .ok (.getfield 68, 3) := by decide +kernel
theorem dX7_leastWith_15 : decode cX7_leastWith 15 = .ok (.ishl, 1) := by decide +kernel
theorem dX7_leastWith_16 : decode cX7_leastWith 16 = .ok (.if_icmp .ge 90, 3) := by decide +kernel
theorem dX7_leastWith_19 : decode cX7_leastWith 19 = .ok (.iload_n 3, 1) := by decide +kernel
theorem dX7_leastWith_20 : decode cX7_leastWith 20 = .ok (.aload_n 0, 1) := by decide +kernel
theorem dX7_leastWith_21 : decode cX7_leastWith 21 = .ok (.getfield 23, 3) := by decide +kernel
theorem dX7_leastWith_24 : decode cX7_leastWith 24 = .ok (.bipush 6, 2) := by decide +kernel
theorem dX7_leastWith_26 : decode cX7_leastWith 26 = .ok (.iaload, 1) := by decide +kernel
theorem dX7_leastWith_27 : decode cX7_leastWith 27 = .ok (.iand, 1) := by decide +kernel
theorem dX7_leastWith_28 : decode cX7_leastWith 28 = .ok (.ifCond .ne 43, 3) := by decide +kernel
theorem dX7_leastWith_31 : decode cX7_leastWith 31 = .ok (.iload_n 3, 1) := by decide +kernel
theorem dX7_leastWith_32 : decode cX7_leastWith 32 = .ok (.aload_n 0, 1) := by decide +kernel
theorem dX7_leastWith_33 : decode cX7_leastWith 33 = .ok (.getfield 23, 3) := by decide +kernel
theorem dX7_leastWith_36 : decode cX7_leastWith 36 = .ok (.bipush 6, 2) := by decide +kernel
theorem dX7_leastWith_38 : decode cX7_leastWith 38 = .ok (.iaload, 1) := by decide +kernel
theorem dX7_leastWith_39 : decode cX7_leastWith 39 = .ok (.ior, 1) := by decide +kernel
theorem dX7_leastWith_40 : decode cX7_leastWith 40 = .ok (.invokestatic 173, 3) := by decide +kernel
theorem dX7_leastWith_43 : decode cX7_leastWith 43 = .ok (.iload_n 1, 1) := by decide +kernel
theorem dX7_leastWith_44 : decode cX7_leastWith 44 = .ok (.if_icmp .lt 27, 3) := by decide +kernel
theorem dX7_leastWith_47 : decode cX7_leastWith 47 = .ok (.aload_n 0, 1) := by decide +kernel
theorem dX7_leastWith_48 : decode cX7_leastWith 48 = .ok (.getfield 52, 3) := by decide +kernel
theorem dX7_leastWith_51 : decode cX7_leastWith 51 = .ok (.aload_n 0, 1) := by decide +kernel
theorem dX7_leastWith_52 : decode cX7_leastWith 52 = .ok (.invokevirtual 216, 3) := by decide +kernel
theorem dX7_leastWith_55 : decode cX7_leastWith 55 = .ok (.aload_n 0, 1) := by decide +kernel
theorem dX7_leastWith_56 : decode cX7_leastWith 56 = .ok (.getfield 198, 3) := by decide +kernel
theorem dX7_leastWith_59 : decode cX7_leastWith 59 = .ok (.iload_n 3, 1) := by decide +kernel
theorem dX7_leastWith_60 : decode cX7_leastWith 60 = .ok (.imul, 1) := by decide +kernel
theorem dX7_leastWith_61 : decode cX7_leastWith 61 = .ok (.iadd, 1) := by decide +kernel
theorem dX7_leastWith_62 : decode cX7_leastWith 62 = .ok (.iaload, 1) := by decide +kernel
theorem dX7_leastWith_63 : decode cX7_leastWith 63 = .ok (.iload_n 2, 1) := by decide +kernel
theorem dX7_leastWith_64 : decode cX7_leastWith 64 = .ok (.if_icmp .ge 7, 3) := by decide +kernel
theorem dX7_leastWith_67 : decode cX7_leastWith 67 = .ok (.iconst 1, 1) := by decide +kernel
theorem dX7_leastWith_68 : decode cX7_leastWith 68 = .ok (.goto 4, 3) := by decide +kernel
theorem dX7_leastWith_71 : decode cX7_leastWith 71 = .ok (.iconst 0, 1) := by decide +kernel
theorem dX7_leastWith_72 : decode cX7_leastWith 72 = .ok (.istore 4, 2) := by decide +kernel
theorem dX7_leastWith_74 : decode cX7_leastWith 74 = .ok (.iload 4, 2) := by decide +kernel
theorem dX7_leastWith_76 : decode cX7_leastWith 76 = .ok (.ifCond .eq 22, 3) := by decide +kernel
theorem dX7_leastWith_79 : decode cX7_leastWith 79 = .ok (.aload_n 0, 1) := by decide +kernel
theorem dX7_leastWith_80 : decode cX7_leastWith 80 = .ok (.getfield 52, 3) := by decide +kernel
theorem dX7_leastWith_83 : decode cX7_leastWith 83 = .ok (.aload_n 0, 1) := by decide +kernel
theorem dX7_leastWith_84 : decode cX7_leastWith 84 = .ok (.invokevirtual 216, 3) := by decide +kernel
theorem dX7_leastWith_87 : decode cX7_leastWith 87 = .ok (.aload_n 0, 1) := by decide +kernel
theorem dX7_leastWith_88 : decode cX7_leastWith 88 = .ok (.getfield 198, 3) := by decide +kernel
theorem dX7_leastWith_91 : decode cX7_leastWith 91 = .ok (.iload_n 3, 1) := by decide +kernel
theorem dX7_leastWith_92 : decode cX7_leastWith 92 = .ok (.imul, 1) := by decide +kernel
theorem dX7_leastWith_93 : decode cX7_leastWith 93 = .ok (.iadd, 1) := by decide +kernel
theorem dX7_leastWith_94 : decode cX7_leastWith 94 = .ok (.iaload, 1) := by decide +kernel
theorem dX7_leastWith_95 : decode cX7_leastWith 95 = .ok (.goto 4, 3) := by decide +kernel
theorem dX7_leastWith_98 : decode cX7_leastWith 98 = .ok (.iload_n 2, 1) := by decide +kernel
theorem dX7_leastWith_99 : decode cX7_leastWith 99 = .ok (.istore_n 2, 1) := by decide +kernel
theorem dX7_leastWith_100 : decode cX7_leastWith 100 = .ok (.iinc 3 1, 3) := by decide +kernel
theorem dX7_leastWith_103 : decode cX7_leastWith 103 = .ok (.goto (-94), 3) := by decide +kernel
theorem dX7_leastWith_106 : decode cX7_leastWith 106 = .ok (.iload_n 2, 1) := by decide +kernel
theorem dX7_leastWith_107 : decode cX7_leastWith 107 = .ok (.ireturn, 1) := by decide +kernel
theorem dX7_back_0 : decode cX7_back 0 = .ok (.iload_n 1, 1) := by decide +kernel
theorem dX7_back_1 : decode cX7_back 1 = .ok (.iconst 0, 1) := by decide +kernel
theorem dX7_back_2 : decode cX7_back 2 = .ok (.iconst 1, 1) := by decide +kernel
theorem dX7_back_3 : decode cX7_back 3 = .ok (.invokestatic 64, 3) := by decide +kernel
theorem dX7_back_6 : decode cX7_back 6 = .ok (.ifCond .ne 5, 3) := by decide +kernel
theorem dX7_back_9 : decode cX7_back 9 = .ok (.iconst (-1), 1) := by decide +kernel
theorem dX7_back_10 : decode cX7_back 10 = .ok (.ireturn, 1) := by decide +kernel
theorem dX7_back_11 : decode cX7_back 11 = .ok (.aload_n 0, 1) := by decide +kernel
theorem dX7_back_12 : decode cX7_back 12 = .ok (.invokevirtual 213, 3) := by decide +kernel
theorem dX7_back_15 : decode cX7_back 15 = .ok (.aload_n 0, 1) := by decide +kernel
theorem dX7_back_16 : decode cX7_back 16 = .ok (.invokevirtual 216, 3) := by decide +kernel
theorem dX7_back_19 : decode cX7_back 19 = .ok (.istore_n 2, 1) := by decide +kernel
theorem dX7_back_20 : decode cX7_back 20 = .ok (.aload_n 0, 1) := by decide +kernel
theorem dX7_back_21 : decode cX7_back 21 = .ok (.getfield 52, 3) := by decide +kernel
theorem dX7_back_24 : decode cX7_back 24 = .ok (.iload_n 2, 1) := by decide +kernel
theorem dX7_back_25 : decode cX7_back 25 = .ok (.iaload, 1) := by decide +kernel
theorem dX7_back_26 : decode cX7_back 26 = .ok (.istore_n 3, 1) := by decide +kernel
theorem dX7_back_27 : decode cX7_back 27 = .ok (.iload_n 1, 1) := by decide +kernel
theorem dX7_back_28 : decode cX7_back 28 = .ok (.ifCond .eq 10, 3) := by decide +kernel
theorem dX7_back_31 : decode cX7_back 31 = .ok (.aload_n 0, 1) := by decide +kernel
theorem dX7_back_32 : decode cX7_back 32 = .ok (.invokevirtual 162, 3) := by decide +kernel
theorem dX7_back_35 : decode cX7_back 35 = .ok (.ifCond .ne 14, 3) := by decide +kernel
theorem dX7_back_38 : decode cX7_back 38 = .ok (.iload_n 1, 1) := by decide +kernel
theorem dX7_back_39 : decode cX7_back 39 = .ok (.ifCond .ne 7, 3) := by decide +kernel
theorem dX7_back_42 : decode cX7_back 42 = .ok (.iload_n 3, 1) := by decide +kernel
theorem dX7_back_43 : decode cX7_back 43 = .ok (.goto 5, 3) := by decide +kernel
theorem dX7_back_46 : decode cX7_back 46 = .ok (.bipush (-9), 2) := by decide +kernel
theorem dX7_back_48 : decode cX7_back 48 = .ok (.ireturn, 1) := by decide +kernel
theorem dX7_back_49 : decode cX7_back 49 = .ok (.aload_n 0, 1) := by decide +kernel
theorem dX7_back_50 : decode cX7_back 50 = .ok (.getfield 23, 3) := by decide +kernel
theorem dX7_back_53 : decode cX7_back 53 = .ok (.iconst 1, 1) := by decide +kernel
theorem dX7_back_54 : decode cX7_back 54 = .ok (.iaload, 1) := by decide +kernel
theorem dX7_back_55 : decode cX7_back 55 = .ok (.istore 4, 2) := by decide +kernel
theorem dX7_back_57 : decode cX7_back 57 = .ok (.iconst 0, 1) := by decide +kernel
theorem dX7_back_58 : decode cX7_back 58 = .ok (.istore 5, 2) := by decide +kernel
theorem dX7_back_60 : decode cX7_back 60 = .ok (.iload 5, 2) := by decide +kernel
theorem dX7_back_62 : decode cX7_back 62 = .ok (.aload_n 0, 1) := by decide +kernel
theorem dX7_back_63 : decode cX7_back 63 = .ok (.getfield 61, 3) := by decide +kernel
theorem dX7_back_66 : decode cX7_back 66 = .ok (.if_icmp .ge 44, 3) := by decide +kernel
theorem dX7_back_69 : decode cX7_back 69 = .ok (.iload 5, 2) := by decide +kernel
theorem dX7_back_71 : decode cX7_back 71 = .ok (.iload 4, 2) := by decide +kernel
theorem dX7_back_73 : decode cX7_back 73 = .ok (.if_icmp .eq 31, 3) := by decide +kernel
theorem dX7_back_76 : decode cX7_back 76 = .ok (.aload_n 0, 1) := by decide +kernel
theorem dX7_back_77 : decode cX7_back 77 = .ok (.iload 4, 2) := by decide +kernel
theorem dX7_back_79 : decode cX7_back 79 = .ok (.iload 5, 2) := by decide +kernel
theorem dX7_back_81 : decode cX7_back 81 = .ok (.invokevirtual 153, 3) := by decide +kernel
theorem dX7_back_84 : decode cX7_back 84 = .ok (.aload_n 0, 1) := by decide +kernel
theorem dX7_back_85 : decode cX7_back 85 = .ok (.getfield 52, 3) := by decide +kernel
theorem dX7_back_88 : decode cX7_back 88 = .ok (.iload_n 2, 1) := by decide +kernel
theorem dX7_back_89 : decode cX7_back 89 = .ok (.iload 4, 2) := by decide +kernel
theorem dX7_back_91 : decode cX7_back 91 = .ok (.isub, 1) := by decide +kernel
theorem dX7_back_92 : decode cX7_back 92 = .ok (.iload 5, 2) := by decide +kernel
theorem dX7_back_94 : decode cX7_back 94 = .ok (.iadd, 1) := by decide +kernel
theorem dX7_back_95 : decode cX7_back 95 = .ok (.iaload, 1) := by decide +kernel
theorem dX7_back_96 : decode cX7_back 96 = .ok (.iadd, 1) := by decide +kernel
theorem dX7_back_97 : decode cX7_back 97 = .ok (.iload_n 3, 1) := by decide +kernel
theorem dX7_back_98 : decode cX7_back 98 = .ok (.if_icmp .ne 6, 3) := by decide +kernel
theorem dX7_back_101 : decode cX7_back 101 = .ok (.iload 5, 2) := by decide +kernel
theorem dX7_back_103 : decode cX7_back 103 = .ok (.ireturn, 1) := by decide +kernel
theorem dX7_back_104 : decode cX7_back 104 = .ok (.iinc 5 1, 3) := by decide +kernel
theorem dX7_back_107 : decode cX7_back 107 = .ok (.goto (-47), 3) := by decide +kernel
theorem dX7_back_110 : decode cX7_back 110 = .ok (.iconst 0, 1) := by decide +kernel
theorem dX7_back_111 : decode cX7_back 111 = .ok (.istore 5, 2) := by decide +kernel
theorem dX7_back_113 : decode cX7_back 113 = .ok (.iload 5, 2) := by decide +kernel
theorem dX7_back_115 : decode cX7_back 115 = .ok (.aload_n 0, 1) := by decide +kernel
theorem dX7_back_116 : decode cX7_back 116 = .ok (.getfield 68, 3) := by decide +kernel
theorem dX7_back_119 : decode cX7_back 119 = .ok (.if_icmp .ge 75, 3) := by decide +kernel
theorem dX7_back_122 : decode cX7_back 122 = .ok (.iload 4, 2) := by decide +kernel
theorem dX7_back_124 : decode cX7_back 124 = .ok (.iconst 4, 1) := by decide +kernel
theorem dX7_back_125 : decode cX7_back 125 = .ok (.if_icmp .eq 63, 3) := by decide +kernel
theorem dX7_back_128 : decode cX7_back 128 = .ok (.aload_n 0, 1) := by decide +kernel
theorem dX7_back_129 : decode cX7_back 129 = .ok (.getfield 23, 3) := by decide +kernel
theorem dX7_back_132 : decode cX7_back 132 = .ok (.iconst 2, 1) := by decide +kernel
theorem dX7_back_133 : decode cX7_back 133 = .ok (.iload 5, 2) := by decide +kernel
theorem dX7_back_135 : decode cX7_back 135 = .ok (.iadd, 1) := by decide +kernel
theorem dX7_back_136 : decode cX7_back 136 = .ok (.iaload, 1) := by decide +kernel
theorem dX7_back_137 : decode cX7_back 137 = .ok (.iload 4, 2) := by decide +kernel
theorem dX7_back_139 : decode cX7_back 139 = .ok (.if_icmp .ne 49, 3) := by decide +kernel
theorem dX7_back_142 : decode cX7_back 142 = .ok (.aload_n 0, 1) := by decide +kernel
theorem dX7_back_143 : decode cX7_back 143 = .ok (.iconst 4, 1) := by decide +kernel
theorem dX7_back_144 : decode cX7_back 144 = .ok (.invokevirtual 150, 3) := by decide +kernel
theorem dX7_back_147 : decode cX7_back 147 = .ok (.invokestatic 173, 3) := by decide +kernel
