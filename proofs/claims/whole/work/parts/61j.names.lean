theorem dX6_understand_31 : decode cX6_understand 31 = .ok (.aload_n 0, 1) := by decide +kernel
theorem dX6_understand_32 : decode cX6_understand 32 = .ok (.aload_n 0, 1) := by decide +kernel
theorem dX6_understand_33 : decode cX6_understand 33 = .ok (.invokevirtual 173, 3) := by decide +kernel
theorem dX6_understand_36 : decode cX6_understand 36 = .ok (.putfield 33, 3) := by decide +kernel
theorem dX6_understand_39 : decode cX6_understand 39 = .ok (.aload_n 0, 1) := by decide +kernel
theorem dX6_understand_40 : decode cX6_understand 40 = .ok (.getfield 33, 3) := by decide +kernel
theorem dX6_understand_43 : decode cX6_understand 43 = .ok (.iconst (-1), 1) := by decide +kernel
theorem dX6_understand_44 : decode cX6_understand 44 = .ok (.if_icmp .eq 5, 3) := by decide +kernel
theorem dX6_understand_47 : decode cX6_understand 47 = .ok (.iconst 4, 1) := by decide +kernel
theorem dX6_understand_48 : decode cX6_understand 48 = .ok (.ireturn, 1) := by decide +kernel
theorem dX6_understand_49 : decode cX6_understand 49 = .ok (.aload_n 0, 1) := by decide +kernel
theorem dX6_understand_50 : decode cX6_understand 50 = .ok (.aload_n 0, 1) := by decide +kernel
theorem dX6_understand_51 : decode cX6_understand 51 = .ok (.getfield 95, 3) := by decide +kernel
theorem dX6_understand_54 : decode cX6_understand 54 = .ok (.putfield 105, 3) := by decide +kernel
theorem dX6_understand_57 : decode cX6_understand 57 = .ok (.iconst 0, 1) := by decide +kernel
theorem dX6_understand_58 : decode cX6_understand 58 = .ok (.istore_n 1, 1) := by decide +kernel
theorem dX6_understand_59 : decode cX6_understand 59 = .ok (.iload_n 1, 1) := by decide +kernel
theorem dX6_understand_60 : decode cX6_understand 60 = .ok (.aload_n 0, 1) := by decide +kernel
theorem dX6_understand_61 : decode cX6_understand 61 = .ok (.getfield 95, 3) := by decide +kernel
theorem dX6_understand_64 : decode cX6_understand 64 = .ok (.if_icmp .ge 28, 3) := by decide +kernel
theorem dX6_understand_67 : decode cX6_understand 67 = .ok (.aload_n 0, 1) := by decide +kernel
theorem dX6_understand_68 : decode cX6_understand 68 = .ok (.getfield 45, 3) := by decide +kernel
theorem dX6_understand_71 : decode cX6_understand 71 = .ok (.iload_n 1, 1) := by decide +kernel
theorem dX6_understand_72 : decode cX6_understand 72 = .ok (.aload_n 0, 1) := by decide +kernel
theorem dX6_understand_73 : decode cX6_understand 73 = .ok (.getfield 26, 3) := by decide +kernel
theorem dX6_understand_76 : decode cX6_understand 76 = .ok (.iload_n 1, 1) := by decide +kernel
theorem dX6_understand_77 : decode cX6_understand 77 = .ok (.iaload, 1) := by decide +kernel
theorem dX6_understand_78 : decode cX6_understand 78 = .ok (.iastore, 1) := by decide +kernel
theorem dX6_understand_79 : decode cX6_understand 79 = .ok (.aload_n 0, 1) := by decide +kernel
theorem dX6_understand_80 : decode cX6_understand 80 = .ok (.getfield 48, 3) := by decide +kernel
theorem dX6_understand_83 : decode cX6_understand 83 = .ok (.iload_n 1, 1) := by decide +kernel
theorem dX6_understand_84 : decode cX6_understand 84 = .ok (.iconst (-1), 1) := by decide +kernel
theorem dX6_understand_85 : decode cX6_understand 85 = .ok (.iastore, 1) := by decide +kernel
theorem dX6_understand_86 : decode cX6_understand 86 = .ok (.iinc 1 1, 3) := by decide +kernel
theorem dX6_understand_89 : decode cX6_understand 89 = .ok (.goto (-30), 3) := by decide +kernel
theorem dX6_understand_92 : decode cX6_understand 92 = .ok (.aload_n 0, 1) := by decide +kernel
theorem dX6_understand_93 : decode cX6_understand 93 = .ok (.invokevirtual 176, 3) := by decide +kernel
theorem dX6_understand_96 : decode cX6_understand 96 = .ok (.ireturn, 1) := by decide +kernel
theorem dX6_understand_97 : decode cX6_understand 97 = .ok (.aload_n 0, 1) := by decide +kernel
theorem dX6_understand_98 : decode cX6_understand 98 = .ok (.getfield 149, 3) := by decide +kernel
theorem dX6_understand_101 : decode cX6_understand 101 = .ok (.ifCond .ne 5, 3) := by decide +kernel
theorem dX6_understand_104 : decode cX6_understand 104 = .ok (.iconst 3, 1) := by decide +kernel
theorem dX6_understand_105 : decode cX6_understand 105 = .ok (.ireturn, 1) := by decide +kernel
theorem dX6_understand_106 : decode cX6_understand 106 = .ok (.aload_n 0, 1) := by decide +kernel
theorem dX6_understand_107 : decode cX6_understand 107 = .ok (.aload_n 0, 1) := by decide +kernel
theorem dX6_understand_108 : decode cX6_understand 108 = .ok (.invokevirtual 179, 3) := by decide +kernel
theorem dX6_understand_111 : decode cX6_understand 111 = .ok (.putfield 33, 3) := by decide +kernel
theorem dX6_understand_114 : decode cX6_understand 114 = .ok (.aload_n 0, 1) := by decide +kernel
theorem dX6_understand_115 : decode cX6_understand 115 = .ok (.getfield 33, 3) := by decide +kernel
theorem dX6_understand_118 : decode cX6_understand 118 = .ok (.iconst (-1), 1) := by decide +kernel
theorem dX6_understand_119 : decode cX6_understand 119 = .ok (.if_icmp .eq 5, 3) := by decide +kernel
theorem dX6_understand_122 : decode cX6_understand 122 = .ok (.iconst 4, 1) := by decide +kernel
theorem dX6_understand_123 : decode cX6_understand 123 = .ok (.ireturn, 1) := by decide +kernel
theorem dX6_understand_124 : decode cX6_understand 124 = .ok (.iconst 0, 1) := by decide +kernel
theorem dX6_understand_125 : decode cX6_understand 125 = .ok (.istore_n 1, 1) := by decide +kernel
theorem dX6_understand_126 : decode cX6_understand 126 = .ok (.iconst (-1), 1) := by decide +kernel
theorem dX6_understand_127 : decode cX6_understand 127 = .ok (.istore_n 2, 1) := by decide +kernel
theorem dX6_understand_128 : decode cX6_understand 128 = .ok (.iconst 0, 1) := by decide +kernel
theorem dX6_understand_129 : decode cX6_understand 129 = .ok (.istore_n 3, 1) := by decide +kernel
theorem dX6_understand_130 : decode cX6_understand 130 = .ok (.iload_n 3, 1) := by decide +kernel
theorem dX6_understand_131 : decode cX6_understand 131 = .ok (.aload_n 0, 1) := by decide +kernel
theorem dX6_understand_132 : decode cX6_understand 132 = .ok (.getfield 95, 3) := by decide +kernel
theorem dX6_understand_135 : decode cX6_understand 135 = .ok (.if_icmp .ge 65, 3) := by decide +kernel
theorem dX6_understand_138 : decode cX6_understand 138 = .ok (.iload_n 1, 1) := by decide +kernel
theorem dX6_understand_139 : decode cX6_understand 139 = .ok (.aload_n 0, 1) := by decide +kernel
theorem dX6_understand_140 : decode cX6_understand 140 = .ok (.getfield 26, 3) := by decide +kernel
theorem dX6_understand_143 : decode cX6_understand 143 = .ok (.iload_n 3, 1) := by decide +kernel
theorem dX6_understand_144 : decode cX6_understand 144 = .ok (.iaload, 1) := by decide +kernel
theorem dX6_understand_145 : decode cX6_understand 145 = .ok (.invokestatic 86, 3) := by decide +kernel
theorem dX6_understand_148 : decode cX6_understand 148 = .ok (.ifCond .eq 17, 3) := by decide +kernel
theorem dX6_understand_151 : decode cX6_understand 151 = .ok (.iconst 1, 1) := by decide +kernel
theorem dX6_understand_152 : decode cX6_understand 152 = .ok (.aload_n 0, 1) := by decide +kernel
theorem dX6_understand_153 : decode cX6_understand 153 = .ok (.getfield 26, 3) := by decide +kernel
theorem dX6_understand_156 : decode cX6_understand 156 = .ok (.iload_n 3, 1) := by decide +kernel
theorem dX6_understand_157 : decode cX6_understand 157 = .ok (.iaload, 1) := by decide +kernel
theorem dX6_understand_158 : decode cX6_understand 158 = .ok (.bipush 20, 2) := by decide +kernel
theorem dX6_understand_160 : decode cX6_understand 160 = .ok (.isub, 1) := by decide +kernel
theorem dX6_understand_161 : decode cX6_understand 161 = .ok (.ishl, 1) := by decide +kernel
theorem dX6_understand_162 : decode cX6_understand 162 = .ok (.goto 4, 3) := by decide +kernel
theorem dX6_understand_165 : decode cX6_understand 165 = .ok (.iconst 0, 1) := by decide +kernel
theorem dX6_understand_166 : decode cX6_understand 166 = .ok (.ior, 1) := by decide +kernel
theorem dX6_understand_167 : decode cX6_understand 167 = .ok (.istore_n 1, 1) := by decide +kernel
theorem dX6_understand_168 : decode cX6_understand 168 = .ok (.aload_n 0, 1) := by decide +kernel
theorem dX6_understand_169 : decode cX6_understand 169 = .ok (.getfield 26, 3) := by decide +kernel
theorem dX6_understand_172 : decode cX6_understand 172 = .ok (.iload_n 3, 1) := by decide +kernel
theorem dX6_understand_173 : decode cX6_understand 173 = .ok (.iaload, 1) := by decide +kernel
theorem dX6_understand_174 : decode cX6_understand 174 = .ok (.invokestatic 89, 3) := by decide +kernel
theorem dX6_understand_177 : decode cX6_understand 177 = .ok (.ifCond .eq 15, 3) := by decide +kernel
theorem dX6_understand_180 : decode cX6_understand 180 = .ok (.aload_n 0, 1) := by decide +kernel
theorem dX6_understand_181 : decode cX6_understand 181 = .ok (.getfield 26, 3) := by decide +kernel
theorem dX6_understand_184 : decode cX6_understand 184 = .ok (.iload_n 3, 1) := by decide +kernel
theorem dX6_understand_185 : decode cX6_understand 185 = .ok (.iaload, 1) := by decide +kernel
theorem dX6_understand_186 : decode cX6_understand 186 = .ok (.bipush 30, 2) := by decide +kernel
theorem dX6_understand_188 : decode cX6_understand 188 = .ok (.isub, 1) := by decide +kernel
theorem dX6_understand_189 : decode cX6_understand 189 = .ok (.goto 4, 3) := by decide +kernel
theorem dX6_understand_192 : decode cX6_understand 192 = .ok (.iload_n 2, 1) := by decide +kernel
theorem dX6_understand_193 : decode cX6_understand 193 = .ok (.istore_n 2, 1) := by decide +kernel
theorem dX6_understand_194 : decode cX6_understand 194 = .ok (.iinc 3 1, 3) := by decide +kernel
theorem dX6_understand_197 : decode cX6_understand 197 = .ok (.goto (-67), 3) := by decide +kernel
theorem dX6_understand_200 : decode cX6_understand 200 = .ok (.aload_n 0, 1) := by decide +kernel
theorem dX6_understand_201 : decode cX6_understand 201 = .ok (.aload_n 0, 1) := by decide +kernel
theorem dX6_understand_202 : decode cX6_understand 202 = .ok (.getfield 149, 3) := by decide +kernel
theorem dX6_understand_205 : decode cX6_understand 205 = .ok (.iload_n 1, 1) := by decide +kernel
theorem dX6_understand_206 : decode cX6_understand 206 = .ok (.iload_n 2, 1) := by decide +kernel
theorem dX6_understand_207 : decode cX6_understand 207 = .ok (.invokevirtual 125, 3) := by decide +kernel
theorem dX6_understand_210 : decode cX6_understand 210 = .ok (.istore_n 3, 1) := by decide +kernel
theorem dX6_understand_211 : decode cX6_understand 211 = .ok (.iload_n 3, 1) := by decide +kernel
theorem dX6_understand_212 : decode cX6_understand 212 = .ok (.ifCond .ne 5, 3) := by decide +kernel
theorem dX6_understand_215 : decode cX6_understand 215 = .ok (.iconst 5, 1) := by decide +kernel
theorem dX6_understand_216 : decode cX6_understand 216 = .ok (.ireturn, 1) := by decide +kernel
theorem dX6_understand_217 : decode cX6_understand 217 = .ok (.iload_n 3, 1) := by decide +kernel
theorem dX6_understand_218 : decode cX6_understand 218 = .ok (.invokestatic 128, 3) := by decide +kernel
theorem dX6_understand_221 : decode cX6_understand 221 = .ok (.iconst 1, 1) := by decide +kernel
theorem dX6_understand_222 : decode cX6_understand 222 = .ok (.if_icmp .le 10, 3) := by decide +kernel
theorem dX6_understand_225 : decode cX6_understand 225 = .ok (.aload_n 0, 1) := by decide +kernel
theorem dX6_understand_226 : decode cX6_understand 226 = .ok (.iload_n 3, 1) := by decide +kernel
theorem dX6_understand_227 : decode cX6_understand 227 = .ok (.putfield 149, 3) := by decide +kernel
theorem dX6_understand_230 : decode cX6_understand 230 = .ok (.iconst 1, 1) := by decide +kernel
theorem dX6_understand_231 : decode cX6_understand 231 = .ok (.ireturn, 1) := by decide +kernel
theorem dX6_understand_232 : decode cX6_understand 232 = .ok (.aload_n 0, 1) := by decide +kernel
theorem dX6_understand_233 : decode cX6_understand 233 = .ok (.getfield 48, 3) := by decide +kernel
theorem dX6_understand_236 : decode cX6_understand 236 = .ok (.aload_n 0, 1) := by decide +kernel
theorem dX6_understand_237 : decode cX6_understand 237 = .ok (.getfield 51, 3) := by decide +kernel
theorem dX6_understand_240 : decode cX6_understand 240 = .ok (.iload_n 3, 1) := by decide +kernel
theorem dX6_understand_241 : decode cX6_understand 241 = .ok (.invokestatic 131, 3) := by decide +kernel
theorem dX6_understand_244 : decode cX6_understand 244 = .ok (.iastore, 1) := by decide +kernel
theorem dX6_understand_245 : decode cX6_understand 245 = .ok (.aload_n 0, 1) := by decide +kernel
theorem dX6_understand_246 : decode cX6_understand 246 = .ok (.invokevirtual 176, 3) := by decide +kernel
theorem dX6_understand_249 : decode cX6_understand 249 = .ok (.ireturn, 1) := by decide +kernel
theorem dX6_outcome_0 : decode cX6_outcome 0 = .ok (.aload_n 0, 1) := by decide +kernel
theorem dX6_outcome_1 : decode cX6_outcome 1 = .ok (.iconst 0, 1) := by decide +kernel
theorem dX6_outcome_2 : decode cX6_outcome 2 = .ok (.putfield 54, 3) := by decide +kernel
theorem dX6_outcome_5 : decode cX6_outcome 5 = .ok (.aload_n 0, 1) := by decide +kernel
theorem dX6_outcome_6 : decode cX6_outcome 6 = .ok (.getfield 29, 3) := by decide +kernel
theorem dX6_outcome_9 : decode cX6_outcome 9 = .ok (.ireturn, 1) := by decide +kernel
theorem dX6_wrongAt_0 : decode cX6_wrongAt 0 = .ok (.aload_n 0, 1) := by decide +kernel
theorem dX6_wrongAt_1 : decode cX6_wrongAt 1 = .ok (.iconst 0, 1) := by decide +kernel
theorem dX6_wrongAt_2 : decode cX6_wrongAt 2 = .ok (.putfield 54, 3) := by decide +kernel
theorem dX6_wrongAt_5 : decode cX6_wrongAt 5 = .ok (.aload_n 0, 1) := by decide +kernel
theorem dX6_wrongAt_6 : decode cX6_wrongAt 6 = .ok (.getfield 33, 3) := by decide +kernel
theorem dX6_wrongAt_9 : decode cX6_wrongAt 9 = .ok (.ireturn, 1) := by decide +kernel
theorem dX6_verb_0 : decode cX6_verb 0 = .ok (.aload_n 0, 1) := by decide +kernel
theorem dX6_verb_1 : decode cX6_verb 1 = .ok (.iconst 0, 1) := by decide +kernel
theorem dX6_verb_2 : decode cX6_verb 2 = .ok (.putfield 54, 3) := by decide +kernel
theorem dX6_verb_5 : decode cX6_verb 5 = .ok (.aload_n 0, 1) := by decide +kernel
theorem dX6_verb_6 : decode cX6_verb 6 = .ok (.getfield 36, 3) := by decide +kernel
theorem dX6_verb_9 : decode cX6_verb 9 = .ok (.ireturn, 1) := by decide +kernel
theorem dX6_meant_0 : decode cX6_meant 0 = .ok (.aload_n 0, 1) := by decide +kernel
theorem dX6_meant_1 : decode cX6_meant 1 = .ok (.iconst 0, 1) := by decide +kernel
theorem dX6_meant_2 : decode cX6_meant 2 = .ok (.putfield 54, 3) := by decide +kernel
theorem dX6_meant_5 : decode cX6_meant 5 = .ok (.aload_n 0, 1) := by decide +kernel
theorem dX6_meant_6 : decode cX6_meant 6 = .ok (.getfield 140, 3) := by decide +kernel
theorem dX6_meant_9 : decode cX6_meant 9 = .ok (.ireturn, 1) := by decide +kernel
theorem dX6_done_0 : decode cX6_done 0 = .ok (.aload_n 0, 1) := by decide +kernel
theorem dX6_done_1 : decode cX6_done 1 = .ok (.iconst 0, 1) := by decide +kernel
theorem dX6_done_2 : decode cX6_done 2 = .ok (.putfield 54, 3) := by decide +kernel
theorem dX6_done_5 : decode cX6_done 5 = .ok (.aload_n 0, 1) := by decide +kernel
theorem dX6_done_6 : decode cX6_done 6 = .ok (.getfield 158, 3) := by decide +kernel
theorem dX6_done_9 : decode cX6_done 9 = .ok (.ireturn, 1) := by decide +kernel
theorem dX6_into_0 : decode cX6_into 0 = .ok (.aload_n 0, 1) := by decide +kernel
theorem dX6_into_1 : decode cX6_into 1 = .ok (.iconst 0, 1) := by decide +kernel
theorem dX6_into_2 : decode cX6_into 2 = .ok (.putfield 54, 3) := by decide +kernel
theorem dX6_into_5 : decode cX6_into 5 = .ok (.aload_n 0, 1) := by decide +kernel
theorem dX6_into_6 : decode cX6_into 6 = .ok (.getfield 39, 3) := by decide +kernel
theorem dX6_into_9 : decode cX6_into 9 = .ok (.ireturn, 1) := by decide +kernel
theorem dX6_asked_0 : decode cX6_asked 0 = .ok (.aload_n 0, 1) := by decide +kernel
theorem dX6_asked_1 : decode cX6_asked 1 = .ok (.iconst 0, 1) := by decide +kernel
theorem dX6_asked_2 : decode cX6_asked 2 = .ok (.putfield 54, 3) := by decide +kernel
theorem dX6_asked_5 : decode cX6_asked 5 = .ok (.aload_n 0, 1) := by decide +kernel
theorem dX6_asked_6 : decode cX6_asked 6 = .ok (.getfield 149, 3) := by decide +kernel
theorem dX6_asked_9 : decode cX6_asked 9 = .ok (.ireturn, 1) := by decide +kernel
theorem dX6_askedAt_0 : decode cX6_askedAt 0 = .ok (.aload_n 0, 1) := by decide +kernel
theorem dX6_askedAt_1 : decode cX6_askedAt 1 = .ok (.iconst 0, 1) := by decide +kernel
theorem dX6_askedAt_2 : decode cX6_askedAt 2 = .ok (.putfield 54, 3) := by decide +kernel
theorem dX6_askedAt_5 : decode cX6_askedAt 5 = .ok (.aload_n 0, 1) := by decide +kernel
theorem dX6_askedAt_6 : decode cX6_askedAt 6 = .ok (.getfield 51, 3) := by decide +kernel
theorem dX6_askedAt_9 : decode cX6_askedAt 9 = .ok (.ireturn, 1) := by decide +kernel
theorem dX6_questions_0 : decode cX6_questions 0 = .ok (.aload_n 0, 1) := by decide +kernel
theorem dX6_questions_1 : decode cX6_questions 1 = .ok (.iconst 0, 1) := by decide +kernel
theorem dX6_questions_2 : decode cX6_questions 2 = .ok (.putfield 54, 3) := by decide +kernel
theorem dX6_questions_5 : decode cX6_questions 5 = .ok (.aload_n 0, 1) := by decide +kernel
theorem dX6_questions_6 : decode cX6_questions 6 = .ok (.getfield 170, 3) := by decide +kernel
theorem dX6_questions_9 : decode cX6_questions 9 = .ok (.ireturn, 1) := by decide +kernel
theorem dJ6_bitCount_0f7a4_0 : decode cJ6_bitCount_0f7a4 0 = .ok (.iload_n 0, 1) := by decide +kernel
theorem dJ6_bitCount_0f7a4_1 : decode cJ6_bitCount_0f7a4 1 = .ok (.iload_n 0, 1) := by decide +kernel
theorem dJ6_bitCount_0f7a4_2 : decode cJ6_bitCount_0f7a4 2 = .ok (.iconst 1, 1) := by decide +kernel
theorem dJ6_bitCount_0f7a4_3 : decode cJ6_bitCount_0f7a4 3 = .ok (.iushr, 1) := by decide +kernel
theorem dJ6_bitCount_0f7a4_4 : decode cJ6_bitCount_0f7a4 4 = .ok (.ldc_w 265, 3) := by decide +kernel
theorem dJ6_bitCount_0f7a4_7 : decode cJ6_bitCount_0f7a4 7 = .ok (.iand, 1) := by decide +kernel
theorem dJ6_bitCount_0f7a4_8 : decode cJ6_bitCount_0f7a4 8 = .ok (.isub, 1) := by decide +kernel
theorem dJ6_bitCount_0f7a4_9 : decode cJ6_bitCount_0f7a4 9 = .ok (.istore_n 0, 1) := by decide +kernel
theorem dJ6_bitCount_0f7a4_10 : decode cJ6_bitCount_0f7a4 10 = .ok (.iload_n 0, 1) := by decide +kernel
theorem dJ6_bitCount_0f7a4_11 : decode cJ6_bitCount_0f7a4 11 = .ok (.ldc_w 266, 3) := by decide +kernel
theorem dJ6_bitCount_0f7a4_14 : decode cJ6_bitCount_0f7a4 14 = .ok (.iand, 1) := by decide +kernel
theorem dJ6_bitCount_0f7a4_15 : decode cJ6_bitCount_0f7a4 15 = .ok (.iload_n 0, 1) := by decide +kernel
theorem dJ6_bitCount_0f7a4_16 : decode cJ6_bitCount_0f7a4 16 = .ok (.iconst 2, 1) := by decide +kernel
theorem dJ6_bitCount_0f7a4_17 : decode cJ6_bitCount_0f7a4 17 = .ok (.iushr, 1) := by decide +kernel
theorem dJ6_bitCount_0f7a4_18 : decode cJ6_bitCount_0f7a4 18 = .ok (.ldc_w 266, 3) := by decide +kernel
theorem dJ6_bitCount_0f7a4_21 : decode cJ6_bitCount_0f7a4 21 = .ok (.iand, 1) := by decide +kernel
theorem dJ6_bitCount_0f7a4_22 : decode cJ6_bitCount_0f7a4 22 = .ok (.iadd, 1) := by decide +kernel
theorem dJ6_bitCount_0f7a4_23 : decode cJ6_bitCount_0f7a4 23 = .ok (.istore_n 0, 1) := by decide +kernel
theorem dJ6_bitCount_0f7a4_24 : decode cJ6_bitCount_0f7a4 24 = .ok (.iload_n 0, 1) := by decide +kernel
theorem dJ6_bitCount_0f7a4_25 : decode cJ6_bitCount_0f7a4 25 = .ok (.iload_n 0, 1) := by decide +kernel
theorem dJ6_bitCount_0f7a4_26 : decode cJ6_bitCount_0f7a4 26 = .ok (.iconst 4, 1) := by decide +kernel
theorem dJ6_bitCount_0f7a4_27 : decode cJ6_bitCount_0f7a4 27 = .ok (.iushr, 1) := by decide +kernel
theorem dJ6_bitCount_0f7a4_28 : decode cJ6_bitCount_0f7a4 28 = .ok (.iadd, 1) := by decide +kernel
theorem dJ6_bitCount_0f7a4_29 : decode cJ6_bitCount_0f7a4 29 = .ok (.ldc_w 267, 3) := by decide +kernel
theorem dJ6_bitCount_0f7a4_32 : decode cJ6_bitCount_0f7a4 32 = .ok (.iand, 1) := by decide +kernel
theorem dJ6_bitCount_0f7a4_33 : decode cJ6_bitCount_0f7a4 33 = .ok (.istore_n 0, 1) := by decide +kernel
theorem dJ6_bitCount_0f7a4_34 : decode cJ6_bitCount_0f7a4 34 = .ok (.iload_n 0, 1) := by decide +kernel
theorem dJ6_bitCount_0f7a4_35 : decode cJ6_bitCount_0f7a4 35 = .ok (.iload_n 0, 1) := by decide +kernel
theorem dJ6_bitCount_0f7a4_36 : decode cJ6_bitCount_0f7a4 36 = .ok (.bipush 8, 2) := by decide +kernel
theorem dJ6_bitCount_0f7a4_38 : decode cJ6_bitCount_0f7a4 38 = .ok (.iushr, 1) := by decide +kernel
theorem dJ6_bitCount_0f7a4_39 : decode cJ6_bitCount_0f7a4 39 = .ok (.iadd, 1) := by decide +kernel
theorem dJ6_bitCount_0f7a4_40 : decode cJ6_bitCount_0f7a4 40 = .ok (.istore_n 0, 1) := by decide +kernel
theorem dJ6_bitCount_0f7a4_41 : decode cJ6_bitCount_0f7a4 41 = .ok (.iload_n 0, 1) := by decide +kernel
theorem dJ6_bitCount_0f7a4_42 : decode cJ6_bitCount_0f7a4 42 = .ok (.iload_n 0, 1) := by decide +kernel
theorem dJ6_bitCount_0f7a4_43 : decode cJ6_bitCount_0f7a4 43 = .ok (.bipush 16, 2) := by decide +kernel
theorem dJ6_bitCount_0f7a4_45 : decode cJ6_bitCount_0f7a4 45 = .ok (.iushr, 1) := by decide +kernel
theorem dJ6_bitCount_0f7a4_46 : decode cJ6_bitCount_0f7a4 46 = .ok (.iadd, 1) := by decide +kernel
theorem dJ6_bitCount_0f7a4_47 : decode cJ6_bitCount_0f7a4 47 = .ok (.istore_n 0, 1) := by decide +kernel
theorem dJ6_bitCount_0f7a4_48 : decode cJ6_bitCount_0f7a4 48 = .ok (.iload_n 0, 1) := by decide +kernel
theorem dJ6_bitCount_0f7a4_49 : decode cJ6_bitCount_0f7a4 49 = .ok (.bipush 63, 2) := by decide +kernel
theorem dJ6_bitCount_0f7a4_51 : decode cJ6_bitCount_0f7a4 51 = .ok (.iand, 1) := by decide +kernel
theorem dJ6_bitCount_0f7a4_52 : decode cJ6_bitCount_0f7a4 52 = .ok (.ireturn, 1) := by decide +kernel
set_option maxRecDepth 20000 in
theorem ggL_thing_X5_thing : GoodIn wsL_thing wsX5_thing := goodIn_ca (goodIn_ca (goodIn_r _ [7, 8, 9, 10, 11, 12, 13, 14, 15, 16, 17, 18, 19, 20, 21, 22, 23, 24, 25, 26, 27, 28, 29, 30, 31, 32, 33, 34, 35, 36, 37, 38] (by decide +kernel) (by decide +kernel)) (goodIn_sub (fun _ h => List.mem_cons_of_mem _ (List.mem_append_left _ (List.mem_append_right _ h))) (by decide +kernel))) (goodIn_sub (fun _ h => List.mem_cons_of_mem _ (List.mem_append_right _ h)) (by decide +kernel))
set_option maxRecDepth 20000 in
theorem gL_thing_X5_thing : GoodIn wsL_thing (wsV RL 7 RX5 yX5_thing wsX5_thing) := goodIn_app (goodIn_of _ (by decide +kernel)) ggL_thing_X5_thing
theorem dL_thing_0 : decode cL_thing 0 = .ok (.aload 4, 2) := by decide +kernel
theorem dL_thing_2 : decode cL_thing 2 = .ok (.iconst 0, 1) := by decide +kernel
theorem dL_thing_3 : decode cL_thing 3 = .ok (.aload_n 0, 1) := by decide +kernel
theorem dL_thing_4 : decode cL_thing 4 = .ok (.iload_n 1, 1) := by decide +kernel
theorem dL_thing_5 : decode cL_thing 5 = .ok (.iload_n 2, 1) := by decide +kernel
theorem dL_thing_6 : decode cL_thing 6 = .ok (.iload_n 3, 1) := by decide +kernel
theorem dL_thing_7 : decode cL_thing 7 = .ok (.invokevirtual 7, 3) := by decide +kernel
theorem dL_thing_10 : decode cL_thing 10 = .ok (.i2l, 1) := by decide +kernel
theorem dL_thing_11 : decode cL_thing 11 = .ok (.lastore, 1) := by decide +kernel
theorem dL_thing_12 : decode cL_thing 12 = .ok (.goto 11, 3) := by decide +kernel
theorem dL_thing_15 : decode cL_thing 15 = .ok (.astore 5, 2) := by decide +kernel
theorem dL_thing_17 : decode cL_thing 17 = .ok (.iconst 1, 1) := by decide +kernel
theorem dL_thing_18 : decode cL_thing 18 = .ok (.ireturn, 1) := by decide +kernel
theorem dL_thing_19 : decode cL_thing 19 = .ok (.astore 5, 2) := by decide +kernel
theorem dL_thing_21 : decode cL_thing 21 = .ok (.iconst 2, 1) := by decide +kernel
theorem dL_thing_22 : decode cL_thing 22 = .ok (.ireturn, 1) := by decide +kernel
theorem dL_thing_23 : decode cL_thing 23 = .ok (.iconst 0, 1) := by decide +kernel
theorem dL_thing_24 : decode cL_thing 24 = .ok (.ireturn, 1) := by decide +kernel
set_option maxRecDepth 20000 in
theorem ggL_placeOf_X5_placeOf : GoodIn wsL_placeOf wsX5_placeOf := goodIn_ca (goodIn_r _ [6, 7, 8, 9, 10, 11, 12, 13, 14, 15, 16, 17, 18, 19, 20, 21, 22, 23, 24, 25, 26, 27, 28, 29, 30, 31, 32, 33, 34, 35, 36] (by decide +kernel) (by decide +kernel)) (goodIn_sub (fun _ h => List.mem_cons_of_mem _ (List.mem_append_right _ h)) (by decide +kernel))
set_option maxRecDepth 20000 in
theorem gL_placeOf_X5_placeOf : GoodIn wsL_placeOf (wsV RL 17 RX5 yX5_placeOf wsX5_placeOf) := goodIn_app (goodIn_of _ (by decide +kernel)) ggL_placeOf_X5_placeOf
theorem dL_placeOf_0 : decode cL_placeOf 0 = .ok (.aload_n 2, 1) := by decide +kernel
theorem dL_placeOf_1 : decode cL_placeOf 1 = .ok (.iconst 0, 1) := by decide +kernel
theorem dL_placeOf_2 : decode cL_placeOf 2 = .ok (.aload_n 0, 1) := by decide +kernel
theorem dL_placeOf_3 : decode cL_placeOf 3 = .ok (.iload_n 1, 1) := by decide +kernel
theorem dL_placeOf_4 : decode cL_placeOf 4 = .ok (.invokevirtual 17, 3) := by decide +kernel
theorem dL_placeOf_7 : decode cL_placeOf 7 = .ok (.i2l, 1) := by decide +kernel
theorem dL_placeOf_8 : decode cL_placeOf 8 = .ok (.lastore, 1) := by decide +kernel
theorem dL_placeOf_9 : decode cL_placeOf 9 = .ok (.goto 6, 3) := by decide +kernel
theorem dL_placeOf_12 : decode cL_placeOf 12 = .ok (.astore_n 3, 1) := by decide +kernel
theorem dL_placeOf_13 : decode cL_placeOf 13 = .ok (.iconst 1, 1) := by decide +kernel
theorem dL_placeOf_14 : decode cL_placeOf 14 = .ok (.ireturn, 1) := by decide +kernel
theorem dL_placeOf_15 : decode cL_placeOf 15 = .ok (.iconst 0, 1) := by decide +kernel
theorem dL_placeOf_16 : decode cL_placeOf 16 = .ok (.ireturn, 1) := by decide +kernel
set_option maxRecDepth 20000 in
theorem ggL_isOpen_X5_isOpen : GoodIn wsL_isOpen wsX5_isOpen := goodIn_ca (goodIn_r _ [6, 7, 8, 9, 10, 11, 12, 13, 14, 15, 16, 17, 5, 18, 19, 20, 21, 22, 23, 24, 25, 26, 27, 28, 29, 30, 31, 32, 33, 34] (by decide +kernel) (by decide +kernel)) (goodIn_sub (fun _ h => List.mem_cons_of_mem _ (List.mem_append_right _ h)) (by decide +kernel))
set_option maxRecDepth 20000 in
theorem gL_isOpen_X5_isOpen : GoodIn wsL_isOpen (wsV RL 23 RX5 yX5_isOpen wsX5_isOpen) := goodIn_app (goodIn_of _ (by decide +kernel)) ggL_isOpen_X5_isOpen
theorem dL_isOpen_0 : decode cL_isOpen 0 = .ok (.aload_n 2, 1) := by decide +kernel
theorem dL_isOpen_1 : decode cL_isOpen 1 = .ok (.iconst 0, 1) := by decide +kernel
theorem dL_isOpen_2 : decode cL_isOpen 2 = .ok (.aload_n 0, 1) := by decide +kernel
theorem dL_isOpen_3 : decode cL_isOpen 3 = .ok (.iload_n 1, 1) := by decide +kernel
theorem dL_isOpen_4 : decode cL_isOpen 4 = .ok (.invokevirtual 23, 3) := by decide +kernel
theorem dL_isOpen_7 : decode cL_isOpen 7 = .ok (.ifCond .eq 7, 3) := by decide +kernel
theorem dL_isOpen_10 : decode cL_isOpen 10 = .ok (.lconst 1, 1) := by decide +kernel
theorem dL_isOpen_11 : decode cL_isOpen 11 = .ok (.goto 4, 3) := by decide +kernel
theorem dL_isOpen_14 : decode cL_isOpen 14 = .ok (.lconst 0, 1) := by decide +kernel
theorem dL_isOpen_15 : decode cL_isOpen 15 = .ok (.lastore, 1) := by decide +kernel
theorem dL_isOpen_16 : decode cL_isOpen 16 = .ok (.goto 6, 3) := by decide +kernel
theorem dL_isOpen_19 : decode cL_isOpen 19 = .ok (.astore_n 3, 1) := by decide +kernel
theorem dL_isOpen_20 : decode cL_isOpen 20 = .ok (.iconst 1, 1) := by decide +kernel
theorem dL_isOpen_21 : decode cL_isOpen 21 = .ok (.ireturn, 1) := by decide +kernel
theorem dL_isOpen_22 : decode cL_isOpen 22 = .ok (.iconst 0, 1) := by decide +kernel
theorem dL_isOpen_23 : decode cL_isOpen 23 = .ok (.ireturn, 1) := by decide +kernel
set_option maxRecDepth 20000 in
theorem ggL_word_X5_word : GoodIn wsL_word wsX5_word := goodIn_ca (goodIn_ca (goodIn_r _ [7, 8, 9, 10, 11, 12, 13, 14, 6, 15, 16, 17, 18, 19, 20, 21, 22, 23, 24, 25, 26, 27, 28, 29, 30, 31, 32, 33, 34, 35, 36, 37, 38, 39, 40, 41, 42, 43] (by decide +kernel) (by decide +kernel)) (goodIn_sub (fun _ h => List.mem_cons_of_mem _ (List.mem_append_left _ (List.mem_append_right _ h))) (by decide +kernel))) (goodIn_sub (fun _ h => List.mem_cons_of_mem _ (List.mem_append_right _ h)) (by decide +kernel))
set_option maxRecDepth 20000 in
theorem gL_word_X5_word : GoodIn wsL_word (wsV RL 27 RX5 yX5_word wsX5_word) := goodIn_app (goodIn_of _ (by decide +kernel)) ggL_word_X5_word
theorem dL_word_0 : decode cL_word 0 = .ok (.aload_n 2, 1) := by decide +kernel
theorem dL_word_1 : decode cL_word 1 = .ok (.iconst 0, 1) := by decide +kernel
theorem dL_word_2 : decode cL_word 2 = .ok (.aload_n 0, 1) := by decide +kernel
theorem dL_word_3 : decode cL_word 3 = .ok (.iload_n 1, 1) := by decide +kernel
theorem dL_word_4 : decode cL_word 4 = .ok (.invokevirtual 27, 3) := by decide +kernel
theorem dL_word_7 : decode cL_word 7 = .ok (.i2l, 1) := by decide +kernel
theorem dL_word_8 : decode cL_word 8 = .ok (.lastore, 1) := by decide +kernel
theorem dL_word_9 : decode cL_word 9 = .ok (.goto 9, 3) := by decide +kernel
theorem dL_word_12 : decode cL_word 12 = .ok (.astore_n 3, 1) := by decide +kernel
theorem dL_word_13 : decode cL_word 13 = .ok (.iconst 1, 1) := by decide +kernel
theorem dL_word_14 : decode cL_word 14 = .ok (.ireturn, 1) := by decide +kernel
theorem dL_word_15 : decode cL_word 15 = .ok (.astore_n 3, 1) := by decide +kernel
theorem dL_word_16 : decode cL_word 16 = .ok (.iconst 2, 1) := by decide +kernel
theorem dL_word_17 : decode cL_word 17 = .ok (.ireturn, 1) := by decide +kernel
theorem dL_word_18 : decode cL_word 18 = .ok (.iconst 0, 1) := by decide +kernel
theorem dL_word_19 : decode cL_word 19 = .ok (.ireturn, 1) := by decide +kernel
set_option maxRecDepth 20000 in
theorem ggL_back_X5_back : GoodIn wsL_back wsX5_back := goodIn_ca (goodIn_r _ [6, 7, 8, 9, 10, 11, 12, 13, 14, 15, 16, 17, 18, 19, 20, 21, 22, 23, 24, 25, 26, 27, 28, 29, 30, 31] (by decide +kernel) (by decide +kernel)) (goodIn_sub (fun _ h => List.mem_cons_of_mem _ (List.mem_append_right _ h)) (by decide +kernel))
set_option maxRecDepth 20000 in
theorem gL_back_X5_back : GoodIn wsL_back (wsV RL 30 RX5 yX5_back wsX5_back) := goodIn_app (goodIn_of _ (by decide +kernel)) ggL_back_X5_back
theorem dL_back_0 : decode cL_back 0 = .ok (.aload_n 1, 1) := by decide +kernel
theorem dL_back_1 : decode cL_back 1 = .ok (.iconst 0, 1) := by decide +kernel
theorem dL_back_2 : decode cL_back 2 = .ok (.aload_n 0, 1) := by decide +kernel
theorem dL_back_3 : decode cL_back 3 = .ok (.invokevirtual 30, 3) := by decide +kernel
theorem dL_back_6 : decode cL_back 6 = .ok (.i2l, 1) := by decide +kernel
theorem dL_back_7 : decode cL_back 7 = .ok (.lastore, 1) := by decide +kernel
theorem dL_back_8 : decode cL_back 8 = .ok (.goto 6, 3) := by decide +kernel
theorem dL_back_11 : decode cL_back 11 = .ok (.astore_n 2, 1) := by decide +kernel
theorem dL_back_12 : decode cL_back 12 = .ok (.iconst 1, 1) := by decide +kernel
theorem dL_back_13 : decode cL_back 13 = .ok (.ireturn, 1) := by decide +kernel
theorem dL_back_14 : decode cL_back 14 = .ok (.iconst 0, 1) := by decide +kernel
theorem dL_back_15 : decode cL_back 15 = .ok (.ireturn, 1) := by decide +kernel
set_option maxRecDepth 20000 in
theorem ggL_law_X5_init : GoodIn wsL_law wsX5_init := goodIn_r _ [9, 10, 11, 12, 13, 14, 15, 16, 17, 18, 19, 20, 21, 22, 23, 24, 25, 26, 27, 28, 29, 30, 31, 32, 33, 34, 35, 36, 37, 38, 39, 40, 41, 42, 43, 44, 45, 46, 47, 48, 49, 50, 51, 52, 53, 54, 55, 56, 57, 58, 59, 60, 61, 62, 63, 64, 65, 66, 67, 68, 69, 70, 71, 72, 73, 74, 75, 76, 77, 78, 79, 80, 81, 82, 83, 84, 85, 86, 87, 88, 89, 90, 91, 92, 93, 94, 95, 626, 627, 628, 629, 630, 631, 591, 592, 593, 594, 595, 596, 597, 598, 599, 600, 632, 633, 634, 635, 636, 637, 638, 639, 640, 641, 642, 643, 644, 645, 646, 647, 648, 649, 650, 651, 652, 653, 654, 655, 656, 657, 658] (by decide +kernel) (by decide +kernel)
set_option maxRecDepth 20000 in
theorem gL_law_X5_init : GoodIn wsL_law (wsX5_init) := ggL_law_X5_init
set_option maxRecDepth 20000 in
theorem ggL_law_X6_init : GoodIn wsL_law wsX6_init := goodIn_r _ [98, 99, 11, 12, 42, 100, 101, 102, 103, 104, 105, 106, 107, 108, 109, 110, 111, 112, 113, 114, 601, 602, 603, 604, 605, 606, 607, 608, 609, 610, 611, 612, 613, 614, 615, 616, 617, 618, 619, 620, 621, 622, 623, 624, 625] (by decide +kernel) (by decide +kernel)
set_option maxRecDepth 20000 in
theorem gL_law_X6_init : GoodIn wsL_law (wsX6_init) := ggL_law_X6_init
set_option maxRecDepth 20000 in
theorem ggL_law_L_thing : GoodIn wsL_law wsL_thing := goodIn_ca (goodIn_ca (goodIn_r _ [118, 119, 120, 121, 122, 123, 2, 124, 125, 126, 127, 128, 16, 129, 130, 131, 15, 132, 46, 43, 44, 45, 47, 591, 592, 593, 594, 595, 596, 597, 598, 599, 600, 626, 627, 628, 629, 630, 631] (by decide +kernel) (by decide +kernel)) (goodIn_sub (fun _ h => List.mem_append_left _ (List.mem_append_left _ (List.mem_append_right _ h))) (by decide +kernel))) (goodIn_sub (fun _ h => List.mem_append_left _ (List.mem_append_right _ h)) (by decide +kernel))
set_option maxRecDepth 20000 in
theorem gL_law_L_thing : GoodIn wsL_law (va_wsS RL 38 yL_thing wsL_thing) := goodIn_app (goodIn_of _ (by decide +kernel)) ggL_law_L_thing
set_option maxRecDepth 20000 in
theorem ggL_law_X6_thing : GoodIn wsL_law wsX6_thing := goodIn_r _ [136, 137, 100, 101, 103, 105, 138, 139, 140, 5, 141, 142, 601, 602, 603, 604, 605, 606, 607, 608, 609, 610, 611, 612, 613, 614, 615, 616, 617, 618, 619, 620, 621, 622, 623, 624, 625] (by decide +kernel) (by decide +kernel)
set_option maxRecDepth 20000 in
theorem gL_law_X6_thing : GoodIn wsL_law (wsV RL 43 RX6 yX6_thing wsX6_thing) := goodIn_app (goodIn_of _ (by decide +kernel)) ggL_law_X6_thing
set_option maxRecDepth 20000 in
theorem ggL_law_X6_thrown : GoodIn wsL_law wsX6_thrown := goodIn_r _ [146, 142, 601, 602, 603, 604, 605, 606, 607, 608, 609, 610, 611, 612, 613, 614, 615, 616, 617, 618, 619, 620, 621, 622, 623, 624, 625] (by decide +kernel) (by decide +kernel)
set_option maxRecDepth 20000 in
theorem gL_law_X6_thrown : GoodIn wsL_law (wsV RL 44 RX6 yX6_thrown wsX6_thrown) := goodIn_app (goodIn_of _ (by decide +kernel)) ggL_law_X6_thrown
set_option maxRecDepth 20000 in
theorem ggL_law_L_placeOf : GoodIn wsL_law wsL_placeOf := goodIn_ca (goodIn_r _ [149, 150, 151, 152, 153, 2, 154, 155, 156, 16, 157, 158, 159, 15, 160, 46, 161, 162, 163, 164, 45, 591, 592, 593, 594, 595, 596, 597, 598, 599, 600, 626, 627, 628, 629, 630, 631] (by decide +kernel) (by decide +kernel)) (goodIn_sub (fun _ h => List.mem_append_right _ h) (by decide +kernel))
set_option maxRecDepth 20000 in
theorem gL_law_L_placeOf : GoodIn wsL_law (va_wsS RL 47 yL_placeOf wsL_placeOf) := goodIn_app (goodIn_of _ (by decide +kernel)) ggL_law_L_placeOf
set_option maxRecDepth 20000 in
theorem ggL_law_X6_placeOf : GoodIn wsL_law wsX6_placeOf := goodIn_r _ [168, 105, 169, 170, 171, 5, 172, 137, 173, 174, 175, 176, 142, 601, 602, 603, 604, 605, 606, 607, 608, 609, 610, 611, 612, 613, 614, 615, 616, 617, 618, 619, 620, 621, 622, 623, 624, 625] (by decide +kernel) (by decide +kernel)
set_option maxRecDepth 20000 in
theorem gL_law_X6_placeOf : GoodIn wsL_law (wsV RL 50 RX6 yX6_placeOf wsX6_placeOf) := goodIn_app (goodIn_of _ (by decide +kernel)) ggL_law_X6_placeOf
set_option maxRecDepth 20000 in
theorem ggL_law_L_isOpen : GoodIn wsL_law wsL_isOpen := goodIn_ca (goodIn_r _ [179, 150, 180, 181, 182, 2, 183, 155, 156, 16, 157, 158, 159, 15, 160, 46, 184, 185, 186, 591, 592, 593, 594, 595, 596, 597, 598, 599, 600, 626, 627, 628, 629, 630, 631] (by decide +kernel) (by decide +kernel)) (goodIn_sub (fun _ h => List.mem_append_right _ h) (by decide +kernel))
set_option maxRecDepth 20000 in
theorem gL_law_L_isOpen : GoodIn wsL_law (va_wsS RL 51 yL_isOpen wsL_isOpen) := goodIn_app (goodIn_of _ (by decide +kernel)) ggL_law_L_isOpen
set_option maxRecDepth 20000 in
theorem ggL_law_X6_isOpen : GoodIn wsL_law wsX6_isOpen := goodIn_r _ [190, 104, 169, 170, 171, 5, 172, 137, 173, 174, 175, 176, 142, 601, 602, 603, 604, 605, 606, 607, 608, 609, 610, 611, 612, 613, 614, 615, 616, 617, 618, 619, 620, 621, 622, 623, 624, 625] (by decide +kernel) (by decide +kernel)
set_option maxRecDepth 20000 in
theorem gL_law_X6_isOpen : GoodIn wsL_law (wsV RL 53 RX6 yX6_isOpen wsX6_isOpen) := goodIn_app (goodIn_of _ (by decide +kernel)) ggL_law_X6_isOpen
set_option maxRecDepth 20000 in
theorem ggL_law_X5_inReach : GoodIn wsL_law wsX5_inReach := goodIn_r _ [194, 16, 195, 196, 197, 15, 198, 46, 48, 199, 162, 163, 164, 45, 185, 2, 186, 591, 592, 593, 594, 595, 596, 597, 598, 599, 600, 626, 627, 628, 629, 630, 631] (by decide +kernel) (by decide +kernel)
set_option maxRecDepth 20000 in
theorem gL_law_X5_inReach : GoodIn wsL_law (wsV RL 54 RX5 yX5_inReach wsX5_inReach) := goodIn_app (goodIn_of _ (by decide +kernel)) ggL_law_X5_inReach
set_option maxRecDepth 20000 in
theorem ggL_law_X6_inReach : GoodIn wsL_law wsX6_inReach := goodIn_r _ [203, 142, 204, 205, 206, 5, 207, 137, 208, 209, 210, 211, 105, 104, 601, 602, 603, 604, 605, 606, 607, 608, 609, 610, 611, 612, 613, 614, 615, 616, 617, 618, 619, 620, 621, 622, 623, 624, 625] (by decide +kernel) (by decide +kernel)
set_option maxRecDepth 20000 in
theorem gL_law_X6_inReach : GoodIn wsL_law (wsV RL 57 RX6 yX6_inReach wsX6_inReach) := goodIn_app (goodIn_of _ (by decide +kernel)) ggL_law_X6_inReach
set_option maxRecDepth 20000 in
theorem ggL_law_L_word : GoodIn wsL_law wsL_word := goodIn_ca (goodIn_ca (goodIn_r _ [214, 119, 120, 215, 216, 217, 2, 218, 125, 126, 127, 128, 20, 219, 220, 221, 222, 223, 224, 225, 226, 227, 228, 229, 230, 19, 231, 54, 53, 591, 592, 593, 594, 595, 596, 597, 598, 599, 600, 632, 633, 634, 635, 636] (by decide +kernel) (by decide +kernel)) (goodIn_sub (fun _ h => List.mem_append_left _ (List.mem_append_left _ (List.mem_append_right _ h))) (by decide +kernel))) (goodIn_sub (fun _ h => List.mem_append_left _ (List.mem_append_right _ h)) (by decide +kernel))
set_option maxRecDepth 20000 in
theorem gL_law_L_word : GoodIn wsL_law (va_wsS RL 58 yL_word wsL_word) := goodIn_app (goodIn_of _ (by decide +kernel)) ggL_law_L_word
set_option maxRecDepth 20000 in
theorem ggL_law_X6_word : GoodIn wsL_law wsX6_word := goodIn_r _ [235, 236, 106, 237, 238, 5, 239, 240, 241, 242, 243, 244, 245, 246, 247, 248, 138, 139, 140, 141, 142, 601, 602, 603, 604, 605, 606, 607, 608, 609, 610, 611, 612, 613, 614, 615, 616, 617, 618, 619, 620, 621, 622, 623, 624, 625] (by decide +kernel) (by decide +kernel)
set_option maxRecDepth 20000 in
theorem gL_law_X6_word : GoodIn wsL_law (wsV RL 60 RX6 yX6_word wsX6_word) := goodIn_app (goodIn_of _ (by decide +kernel)) ggL_law_X6_word
set_option maxRecDepth 20000 in
theorem ggL_law_L_back : GoodIn wsL_law wsL_back := goodIn_ca (goodIn_r _ [251, 120, 252, 253, 254, 2, 255, 127, 128, 20, 256, 257, 258, 19, 259, 54, 53, 591, 592, 593, 594, 595, 596, 597, 598, 599, 600, 632, 633, 634, 635, 636] (by decide +kernel) (by decide +kernel)) (goodIn_sub (fun _ h => List.mem_append_left _ (List.mem_append_right _ h)) (by decide +kernel))
set_option maxRecDepth 20000 in
theorem gL_law_L_back : GoodIn wsL_law (va_wsS RL 61 yL_back wsL_back) := goodIn_app (goodIn_of _ (by decide +kernel)) ggL_law_L_back
set_option maxRecDepth 20000 in
theorem ggL_law_X6_back : GoodIn wsL_law wsX6_back := goodIn_r _ [263, 236, 106, 173, 174, 175, 5, 176, 142, 601, 602, 603, 604, 605, 606, 607, 608, 609, 610, 611, 612, 613, 614, 615, 616, 617, 618, 619, 620, 621, 622, 623, 624, 625] (by decide +kernel) (by decide +kernel)
set_option maxRecDepth 20000 in
theorem gL_law_X6_back : GoodIn wsL_law (wsV RL 64 RX6 yX6_back wsX6_back) := goodIn_app (goodIn_of _ (by decide +kernel)) ggL_law_X6_back
set_option maxRecDepth 20000 in
theorem ggL_law_X5_say : GoodIn wsL_law wsX5_say := goodIn_r _ [267, 34, 20, 33, 35, 37, 268, 269, 270, 19, 271, 55, 54, 53, 222, 223, 2, 224, 272, 273, 274, 275, 24, 276, 277, 278, 279, 36, 280, 281, 282, 23, 283, 63, 62, 284, 285, 286, 287, 288, 289, 290, 291, 292, 293, 294, 295, 296, 297, 64, 65, 66, 67, 68, 69, 298, 299, 300, 301, 302, 303, 304, 305, 306, 307, 308, 309, 310, 311, 312, 313, 314, 315, 316, 317, 56, 57, 226, 227, 318, 319, 320, 321, 322, 323, 324, 325, 326, 327, 328, 329, 330, 331, 332, 333, 32, 334, 335, 336, 31, 337, 83, 84, 91, 92, 93, 338, 196, 197, 15, 198, 46, 48, 199, 162, 163, 164, 45, 185, 186, 86, 87, 88, 89, 90, 94, 95, 339, 340, 341, 342, 47, 343, 344, 345, 346, 347, 348, 349, 350, 351, 352, 85, 353, 354, 355, 356, 357, 358, 359, 360, 361, 362, 363, 364, 365, 366, 367, 368, 369, 43, 44, 370, 371, 372, 373, 374, 375, 376, 377, 378, 379, 380, 381, 382, 383, 384, 385, 386, 387, 388, 389, 390, 391, 392, 16, 28, 184, 393, 394, 395, 396, 397, 158, 159, 160, 398, 399, 400, 401, 402, 403, 404, 405, 27, 406, 74, 75, 76, 77, 78, 407, 408, 409, 410, 411, 412, 413, 414, 415, 416, 417, 418, 419, 420, 421, 422, 423, 424, 425, 426, 427, 428, 429, 591, 592, 593, 594, 595, 596, 597, 598, 599, 600, 632, 633, 634, 635, 636, 637, 638, 639, 640, 641, 642, 643, 644, 650, 651, 652, 653, 654, 655, 656, 657, 658, 626, 627, 628, 629, 630, 631, 645, 646, 647, 648, 649] (by decide +kernel) (by decide +kernel)
set_option maxRecDepth 20000 in
theorem gL_law_X5_say : GoodIn wsL_law (wsV RL 65 RX5 yX5_say wsX5_say) := goodIn_app (goodIn_of _ (by decide +kernel)) ggL_law_X5_say
set_option maxRecDepth 20000 in
theorem ggL_law_X6_say_r1 : GoodIn wsL_law (Cond.code yX6_say cX6_say 1 (some .int) :: wsX6_say_r1) := goodIn_r _ [433, 142, 108, 107, 434, 236, 435, 436, 437, 5, 438, 106, 439, 114, 440, 112, 113, 237, 238, 239, 441, 442, 443, 444, 240] (by decide +kernel) (by decide +kernel)
set_option maxRecDepth 20000 in
theorem ggL_law_X6_say_r2 : GoodIn wsL_law wsX6_say_r2 := goodIn_r _ [241, 242, 246, 247, 248, 445, 446, 447, 243, 244, 245, 448, 449, 450, 451, 452, 109, 453, 110, 111, 454, 137, 455, 456] (by decide +kernel) (by decide +kernel)
set_option maxRecDepth 20000 in
theorem ggL_law_X6_say_r3 : GoodIn wsL_law wsX6_say_r3 := goodIn_r _ [457, 458, 459, 460, 461, 462, 204, 205, 206, 207, 208, 209, 210, 211, 105, 104, 463, 464, 465, 466, 467, 468, 469, 470] (by decide +kernel) (by decide +kernel)
set_option maxRecDepth 20000 in
theorem ggL_law_X6_say_r4 : GoodIn wsL_law wsX6_say_r4 := goodIn_r _ [471, 472, 473, 474, 475, 476, 477, 478, 479, 480, 481, 482, 483, 484, 101, 100, 485, 486, 487, 488, 489, 490, 491, 492] (by decide +kernel) (by decide +kernel)
set_option maxRecDepth 20000 in
theorem ggL_law_X6_say_r5 : GoodIn wsL_law wsX6_say_r5 := goodIn_r _ [493, 494, 495, 496, 497, 498, 103, 499, 500, 501, 502, 503, 504, 505, 506, 507, 508, 509, 510, 511, 512, 513, 514, 515] (by decide +kernel) (by decide +kernel)
set_option maxRecDepth 20000 in
theorem ggL_law_X6_say_r6 : GoodIn wsL_law wsX6_say_r6 := goodIn_r _ [516, 517, 518] (by decide +kernel) (by decide +kernel)
set_option maxRecDepth 20000 in
theorem ggL_law_X6_say_wsX60 : GoodIn wsL_law wsX60 := goodIn_r _ [601, 602, 603, 604, 605, 606, 607, 608, 609, 610, 611, 612, 613, 614, 615, 616, 617, 618, 619, 620, 621, 622, 623, 624, 625] (by decide +kernel) (by decide +kernel)
set_option maxRecDepth 20000 in
theorem ggL_law_X6_say : GoodIn wsL_law wsX6_say := goodIn_ca (goodIn_ca ggL_law_X6_say_r1 (goodIn_app ggL_law_X6_say_r2 (goodIn_app ggL_law_X6_say_r3 (goodIn_app ggL_law_X6_say_r4 (goodIn_app ggL_law_X6_say_r5 (ggL_law_X6_say_r6)))))) ggL_law_X6_say_wsX60
