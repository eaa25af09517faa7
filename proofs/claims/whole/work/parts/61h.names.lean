theorem dX6_part_86 : decode cX6_part 86 = .ok (.getfield 105, 3) := by decide +kernel
theorem dX6_part_89 : decode cX6_part 89 = .ok (.if_icmp .ge 21, 3) := by decide +kernel
theorem dX6_part_92 : decode cX6_part 92 = .ok (.aload_n 0, 1) := by decide +kernel
theorem dX6_part_93 : decode cX6_part 93 = .ok (.getfield 45, 3) := by decide +kernel
theorem dX6_part_96 : decode cX6_part 96 = .ok (.iload_n 3, 1) := by decide +kernel
theorem dX6_part_97 : decode cX6_part 97 = .ok (.iaload, 1) := by decide +kernel
theorem dX6_part_98 : decode cX6_part 98 = .ok (.invokestatic 86, 3) := by decide +kernel
theorem dX6_part_101 : decode cX6_part 101 = .ok (.ifCond .eq 9, 3) := by decide +kernel
theorem dX6_part_104 : decode cX6_part 104 = .ok (.iinc 3 1, 3) := by decide +kernel
theorem dX6_part_107 : decode cX6_part 107 = .ok (.goto (-23), 3) := by decide +kernel
theorem dX6_part_110 : decode cX6_part 110 = .ok (.iload_n 3, 1) := by decide +kernel
theorem dX6_part_111 : decode cX6_part 111 = .ok (.aload_n 0, 1) := by decide +kernel
theorem dX6_part_112 : decode cX6_part 112 = .ok (.getfield 105, 3) := by decide +kernel
theorem dX6_part_115 : decode cX6_part 115 = .ok (.if_icmp .ge 19, 3) := by decide +kernel
theorem dX6_part_118 : decode cX6_part 118 = .ok (.aload_n 0, 1) := by decide +kernel
theorem dX6_part_119 : decode cX6_part 119 = .ok (.getfield 45, 3) := by decide +kernel
theorem dX6_part_122 : decode cX6_part 122 = .ok (.iload_n 3, 1) := by decide +kernel
theorem dX6_part_123 : decode cX6_part 123 = .ok (.iaload, 1) := by decide +kernel
theorem dX6_part_124 : decode cX6_part 124 = .ok (.invokestatic 92, 3) := by decide +kernel
theorem dX6_part_127 : decode cX6_part 127 = .ok (.ifCond .eq 7, 3) := by decide +kernel
theorem dX6_part_130 : decode cX6_part 130 = .ok (.iload_n 3, 1) := by decide +kernel
theorem dX6_part_131 : decode cX6_part 131 = .ok (.goto 4, 3) := by decide +kernel
theorem dX6_part_134 : decode cX6_part 134 = .ok (.iload_n 1, 1) := by decide +kernel
theorem dX6_part_135 : decode cX6_part 135 = .ok (.istore_n 2, 1) := by decide +kernel
theorem dX6_part_136 : decode cX6_part 136 = .ok (.aload_n 0, 1) := by decide +kernel
theorem dX6_part_137 : decode cX6_part 137 = .ok (.getfield 45, 3) := by decide +kernel
theorem dX6_part_140 : decode cX6_part 140 = .ok (.iload_n 2, 1) := by decide +kernel
theorem dX6_part_141 : decode cX6_part 141 = .ok (.iaload, 1) := by decide +kernel
theorem dX6_part_142 : decode cX6_part 142 = .ok (.bipush 11, 2) := by decide +kernel
theorem dX6_part_144 : decode cX6_part 144 = .ok (.if_icmp .eq 39, 3) := by decide +kernel
theorem dX6_part_147 : decode cX6_part 147 = .ok (.aload_n 0, 1) := by decide +kernel
theorem dX6_part_148 : decode cX6_part 148 = .ok (.getfield 45, 3) := by decide +kernel
theorem dX6_part_151 : decode cX6_part 151 = .ok (.iload_n 2, 1) := by decide +kernel
theorem dX6_part_152 : decode cX6_part 152 = .ok (.iaload, 1) := by decide +kernel
theorem dX6_part_153 : decode cX6_part 153 = .ok (.invokestatic 92, 3) := by decide +kernel
theorem dX6_part_156 : decode cX6_part 156 = .ok (.ifCond .ne 27, 3) := by decide +kernel
theorem dX6_part_159 : decode cX6_part 159 = .ok (.aload_n 0, 1) := by decide +kernel
theorem dX6_part_160 : decode cX6_part 160 = .ok (.aload_n 0, 1) := by decide +kernel
theorem dX6_part_161 : decode cX6_part 161 = .ok (.getfield 45, 3) := by decide +kernel
theorem dX6_part_164 : decode cX6_part 164 = .ok (.iconst 0, 1) := by decide +kernel
theorem dX6_part_165 : decode cX6_part 165 = .ok (.iaload, 1) := by decide +kernel
theorem dX6_part_166 : decode cX6_part 166 = .ok (.invokevirtual 143, 3) := by decide +kernel
theorem dX6_part_169 : decode cX6_part 169 = .ok (.istore_n 3, 1) := by decide +kernel
theorem dX6_part_170 : decode cX6_part 170 = .ok (.iload_n 3, 1) := by decide +kernel
theorem dX6_part_171 : decode cX6_part 171 = .ok (.iconst (-1), 1) := by decide +kernel
theorem dX6_part_172 : decode cX6_part 172 = .ok (.if_icmp .ne 7, 3) := by decide +kernel
theorem dX6_part_175 : decode cX6_part 175 = .ok (.iconst 0, 1) := by decide +kernel
theorem dX6_part_176 : decode cX6_part 176 = .ok (.goto 6, 3) := by decide +kernel
theorem dX6_part_179 : decode cX6_part 179 = .ok (.iconst 1, 1) := by decide +kernel
theorem dX6_part_180 : decode cX6_part 180 = .ok (.iload_n 3, 1) := by decide +kernel
theorem dX6_part_181 : decode cX6_part 181 = .ok (.ishl, 1) := by decide +kernel
theorem dX6_part_182 : decode cX6_part 182 = .ok (.ireturn, 1) := by decide +kernel
theorem dX6_part_183 : decode cX6_part 183 = .ok (.aload_n 0, 1) := by decide +kernel
theorem dX6_part_184 : decode cX6_part 184 = .ok (.iload_n 2, 1) := by decide +kernel
theorem dX6_part_185 : decode cX6_part 185 = .ok (.iconst 1, 1) := by decide +kernel
theorem dX6_part_186 : decode cX6_part 186 = .ok (.iadd, 1) := by decide +kernel
theorem dX6_part_187 : decode cX6_part 187 = .ok (.putfield 102, 3) := by decide +kernel
theorem dX6_part_190 : decode cX6_part 190 = .ok (.iconst 0, 1) := by decide +kernel
theorem dX6_part_191 : decode cX6_part 191 = .ok (.istore_n 3, 1) := by decide +kernel
theorem dX6_part_192 : decode cX6_part 192 = .ok (.aload_n 0, 1) := by decide +kernel
theorem dX6_part_193 : decode cX6_part 193 = .ok (.bipush 12, 2) := by decide +kernel
theorem dX6_part_195 : decode cX6_part 195 = .ok (.invokevirtual 137, 3) := by decide +kernel
theorem dX6_part_198 : decode cX6_part 198 = .ok (.istore 4, 2) := by decide +kernel
theorem dX6_part_200 : decode cX6_part 200 = .ok (.iload 4, 2) := by decide +kernel
theorem dX6_part_202 : decode cX6_part 202 = .ok (.ifCond .eq 72, 3) := by decide +kernel
theorem dX6_part_205 : decode cX6_part 205 = .ok (.aload_n 0, 1) := by decide +kernel
theorem dX6_part_206 : decode cX6_part 206 = .ok (.dup, 1) := by decide +kernel
theorem dX6_part_207 : decode cX6_part 207 = .ok (.getfield 102, 3) := by decide +kernel
theorem dX6_part_210 : decode cX6_part 210 = .ok (.iconst 1, 1) := by decide +kernel
theorem dX6_part_211 : decode cX6_part 211 = .ok (.iadd, 1) := by decide +kernel
theorem dX6_part_212 : decode cX6_part 212 = .ok (.putfield 102, 3) := by decide +kernel
theorem dX6_part_215 : decode cX6_part 215 = .ok (.aload_n 0, 1) := by decide +kernel
theorem dX6_part_216 : decode cX6_part 216 = .ok (.aload_n 0, 1) := by decide +kernel
theorem dX6_part_217 : decode cX6_part 217 = .ok (.getfield 45, 3) := by decide +kernel
theorem dX6_part_220 : decode cX6_part 220 = .ok (.iconst 0, 1) := by decide +kernel
theorem dX6_part_221 : decode cX6_part 221 = .ok (.iaload, 1) := by decide +kernel
theorem dX6_part_222 : decode cX6_part 222 = .ok (.invokevirtual 143, 3) := by decide +kernel
theorem dX6_part_225 : decode cX6_part 225 = .ok (.istore 5, 2) := by decide +kernel
theorem dX6_part_227 : decode cX6_part 227 = .ok (.iload 5, 2) := by decide +kernel
theorem dX6_part_229 : decode cX6_part 229 = .ok (.iconst (-1), 1) := by decide +kernel
theorem dX6_part_230 : decode cX6_part 230 = .ok (.if_icmp .ne 5, 3) := by decide +kernel
theorem dX6_part_233 : decode cX6_part 233 = .ok (.iconst 0, 1) := by decide +kernel
theorem dX6_part_234 : decode cX6_part 234 = .ok (.ireturn, 1) := by decide +kernel
theorem dX6_part_235 : decode cX6_part 235 = .ok (.iload_n 3, 1) := by decide +kernel
theorem dX6_part_236 : decode cX6_part 236 = .ok (.iconst 1, 1) := by decide +kernel
theorem dX6_part_237 : decode cX6_part 237 = .ok (.iload 5, 2) := by decide +kernel
theorem dX6_part_239 : decode cX6_part 239 = .ok (.ishl, 1) := by decide +kernel
theorem dX6_part_240 : decode cX6_part 240 = .ok (.ior, 1) := by decide +kernel
theorem dX6_part_241 : decode cX6_part 241 = .ok (.istore_n 3, 1) := by decide +kernel
theorem dX6_part_242 : decode cX6_part 242 = .ok (.aload_n 0, 1) := by decide +kernel
theorem dX6_part_243 : decode cX6_part 243 = .ok (.bipush 13, 2) := by decide +kernel
theorem dX6_part_245 : decode cX6_part 245 = .ok (.invokevirtual 137, 3) := by decide +kernel
theorem dX6_part_248 : decode cX6_part 248 = .ok (.ifCond .eq 20, 3) := by decide +kernel
theorem dX6_part_251 : decode cX6_part 251 = .ok (.aload_n 0, 1) := by decide +kernel
theorem dX6_part_252 : decode cX6_part 252 = .ok (.aload_n 0, 1) := by decide +kernel
theorem dX6_part_253 : decode cX6_part 253 = .ok (.getfield 102, 3) := by decide +kernel
theorem dX6_part_256 : decode cX6_part 256 = .ok (.iconst 1, 1) := by decide +kernel
theorem dX6_part_257 : decode cX6_part 257 = .ok (.iadd, 1) := by decide +kernel
theorem dX6_part_258 : decode cX6_part 258 = .ok (.invokevirtual 146, 3) := by decide +kernel
theorem dX6_part_261 : decode cX6_part 261 = .ok (.ifCond .eq 7, 3) := by decide +kernel
theorem dX6_part_264 : decode cX6_part 264 = .ok (.iconst 1, 1) := by decide +kernel
theorem dX6_part_265 : decode cX6_part 265 = .ok (.goto 4, 3) := by decide +kernel
theorem dX6_part_268 : decode cX6_part 268 = .ok (.iconst 0, 1) := by decide +kernel
theorem dX6_part_269 : decode cX6_part 269 = .ok (.istore 4, 2) := by decide +kernel
theorem dX6_part_271 : decode cX6_part 271 = .ok (.goto (-71), 3) := by decide +kernel
theorem dX6_part_274 : decode cX6_part 274 = .ok (.aload_n 0, 1) := by decide +kernel
theorem dX6_part_275 : decode cX6_part 275 = .ok (.getfield 45, 3) := by decide +kernel
theorem dX6_part_278 : decode cX6_part 278 = .ok (.iload_n 2, 1) := by decide +kernel
theorem dX6_part_279 : decode cX6_part 279 = .ok (.iaload, 1) := by decide +kernel
theorem dX6_part_280 : decode cX6_part 280 = .ok (.invokestatic 92, 3) := by decide +kernel
theorem dX6_part_283 : decode cX6_part 283 = .ok (.ifCond .eq 15, 3) := by decide +kernel
theorem dX6_part_286 : decode cX6_part 286 = .ok (.aload_n 0, 1) := by decide +kernel
theorem dX6_part_287 : decode cX6_part 287 = .ok (.getfield 45, 3) := by decide +kernel
theorem dX6_part_290 : decode cX6_part 290 = .ok (.iload_n 2, 1) := by decide +kernel
theorem dX6_part_291 : decode cX6_part 291 = .ok (.iaload, 1) := by decide +kernel
theorem dX6_part_292 : decode cX6_part 292 = .ok (.bipush 40, 2) := by decide +kernel
theorem dX6_part_294 : decode cX6_part 294 = .ok (.isub, 1) := by decide +kernel
theorem dX6_part_295 : decode cX6_part 295 = .ok (.goto 4, 3) := by decide +kernel
theorem dX6_part_298 : decode cX6_part 298 = .ok (.iconst (-1), 1) := by decide +kernel
theorem dX6_part_299 : decode cX6_part 299 = .ok (.istore 5, 2) := by decide +kernel
theorem dX6_part_301 : decode cX6_part 301 = .ok (.aload_n 0, 1) := by decide +kernel
theorem dX6_part_302 : decode cX6_part 302 = .ok (.aload_n 0, 1) := by decide +kernel
theorem dX6_part_303 : decode cX6_part 303 = .ok (.getfield 45, 3) := by decide +kernel
theorem dX6_part_306 : decode cX6_part 306 = .ok (.iconst 0, 1) := by decide +kernel
theorem dX6_part_307 : decode cX6_part 307 = .ok (.iaload, 1) := by decide +kernel
theorem dX6_part_308 : decode cX6_part 308 = .ok (.aload_n 0, 1) := by decide +kernel
theorem dX6_part_309 : decode cX6_part 309 = .ok (.aload_n 0, 1) := by decide +kernel
theorem dX6_part_310 : decode cX6_part 310 = .ok (.invokevirtual 75, 3) := by decide +kernel
theorem dX6_part_313 : decode cX6_part 313 = .ok (.aload_n 0, 1) := by decide +kernel
theorem dX6_part_314 : decode cX6_part 314 = .ok (.iload_n 1, 1) := by decide +kernel
theorem dX6_part_315 : decode cX6_part 315 = .ok (.iload_n 2, 1) := by decide +kernel
theorem dX6_part_316 : decode cX6_part 316 = .ok (.invokevirtual 122, 3) := by decide +kernel
theorem dX6_part_319 : decode cX6_part 319 = .ok (.iload 5, 2) := by decide +kernel
theorem dX6_part_321 : decode cX6_part 321 = .ok (.invokevirtual 125, 3) := by decide +kernel
theorem dX6_part_324 : decode cX6_part 324 = .ok (.invokevirtual 134, 3) := by decide +kernel
theorem dX6_part_327 : decode cX6_part 327 = .ok (.iload_n 3, 1) := by decide +kernel
theorem dX6_part_328 : decode cX6_part 328 = .ok (.iconst (-1), 1) := by decide +kernel
theorem dX6_part_329 : decode cX6_part 329 = .ok (.ixor, 1) := by decide +kernel
theorem dX6_part_330 : decode cX6_part 330 = .ok (.iand, 1) := by decide +kernel
theorem dX6_part_331 : decode cX6_part 331 = .ok (.istore 6, 2) := by decide +kernel
theorem dX6_part_333 : decode cX6_part 333 = .ok (.iload 6, 2) := by decide +kernel
theorem dX6_part_335 : decode cX6_part 335 = .ok (.ifCond .ne 10, 3) := by decide +kernel
theorem dX6_part_338 : decode cX6_part 338 = .ok (.aload_n 0, 1) := by decide +kernel
theorem dX6_part_339 : decode cX6_part 339 = .ok (.iload_n 2, 1) := by decide +kernel
theorem dX6_part_340 : decode cX6_part 340 = .ok (.iconst 0, 1) := by decide +kernel
theorem dX6_part_341 : decode cX6_part 341 = .ok (.invokevirtual 118, 3) := by decide +kernel
theorem dX6_part_344 : decode cX6_part 344 = .ok (.pop, 1) := by decide +kernel
theorem dX6_part_345 : decode cX6_part 345 = .ok (.iload 6, 2) := by decide +kernel
theorem dX6_part_347 : decode cX6_part 347 = .ok (.ireturn, 1) := by decide +kernel
set_option maxRecDepth 20000 in
theorem ggX6_isSingleAt_X6_endOf : GoodIn wsX6_isSingleAt wsX6_endOf := goodIn_r _ [6, 1, 7, 8, 5, 9, 13, 14, 15, 16, 17, 18, 19, 20, 21, 22, 23, 24, 25, 26, 27, 28, 29, 30, 31, 32, 33, 34, 35, 36, 37] (by decide +kernel) (by decide +kernel)
set_option maxRecDepth 20000 in
theorem gX6_isSingleAt_X6_endOf : GoodIn wsX6_isSingleAt (wsV RX6 114 RX6 yX6_endOf wsX6_endOf) := goodIn_app (goodIn_of _ (by decide +kernel)) ggX6_isSingleAt_X6_endOf
set_option maxRecDepth 20000 in
theorem ggX6_isSingleAt_X6_isNoun : GoodIn wsX6_isSingleAt wsX6_isNoun := goodIn_r _ [12] (by decide +kernel) (by decide +kernel)
set_option maxRecDepth 20000 in
theorem gX6_isSingleAt_X6_isNoun : GoodIn wsX6_isSingleAt (va_wsS RX6 89 yX6_isNoun wsX6_isNoun) := goodIn_app (goodIn_of _ (by decide +kernel)) ggX6_isSingleAt_X6_isNoun
theorem dX6_isSingleAt_0 : decode cX6_isSingleAt 0 = .ok (.aload_n 0, 1) := by decide +kernel
theorem dX6_isSingleAt_1 : decode cX6_isSingleAt 1 = .ok (.getfield 45, 3) := by decide +kernel
theorem dX6_isSingleAt_4 : decode cX6_isSingleAt 4 = .ok (.aload_n 0, 1) := by decide +kernel
theorem dX6_isSingleAt_5 : decode cX6_isSingleAt 5 = .ok (.iload_n 1, 1) := by decide +kernel
theorem dX6_isSingleAt_6 : decode cX6_isSingleAt 6 = .ok (.invokevirtual 114, 3) := by decide +kernel
theorem dX6_isSingleAt_9 : decode cX6_isSingleAt 9 = .ok (.iaload, 1) := by decide +kernel
theorem dX6_isSingleAt_10 : decode cX6_isSingleAt 10 = .ok (.istore_n 2, 1) := by decide +kernel
theorem dX6_isSingleAt_11 : decode cX6_isSingleAt 11 = .ok (.iload_n 2, 1) := by decide +kernel
theorem dX6_isSingleAt_12 : decode cX6_isSingleAt 12 = .ok (.invokestatic 89, 3) := by decide +kernel
theorem dX6_isSingleAt_15 : decode cX6_isSingleAt 15 = .ok (.ifCond .ne 15, 3) := by decide +kernel
theorem dX6_isSingleAt_18 : decode cX6_isSingleAt 18 = .ok (.iload_n 2, 1) := by decide +kernel
theorem dX6_isSingleAt_19 : decode cX6_isSingleAt 19 = .ok (.bipush 17, 2) := by decide +kernel
theorem dX6_isSingleAt_21 : decode cX6_isSingleAt 21 = .ok (.if_icmp .eq 9, 3) := by decide +kernel
theorem dX6_isSingleAt_24 : decode cX6_isSingleAt 24 = .ok (.iload_n 2, 1) := by decide +kernel
theorem dX6_isSingleAt_25 : decode cX6_isSingleAt 25 = .ok (.bipush 14, 2) := by decide +kernel
theorem dX6_isSingleAt_27 : decode cX6_isSingleAt 27 = .ok (.if_icmp .ne 7, 3) := by decide +kernel
theorem dX6_isSingleAt_30 : decode cX6_isSingleAt 30 = .ok (.iconst 1, 1) := by decide +kernel
theorem dX6_isSingleAt_31 : decode cX6_isSingleAt 31 = .ok (.goto 4, 3) := by decide +kernel
theorem dX6_isSingleAt_34 : decode cX6_isSingleAt 34 = .ok (.iconst 0, 1) := by decide +kernel
theorem dX6_isSingleAt_35 : decode cX6_isSingleAt 35 = .ok (.ireturn, 1) := by decide +kernel
set_option maxRecDepth 20000 in
theorem ggX6_perform_X6_part : GoodIn wsX6_perform wsX6_part := goodIn_r _ [15, 3, 6, 16, 4, 17, 18, 19, 14, 20, 21, 22, 23, 24, 10, 25, 26, 27, 28, 29, 30, 31, 32, 33, 34, 35, 36, 37, 38, 39, 40, 41, 42, 43, 44, 45, 46, 47, 48, 49, 50, 51, 8, 52, 53, 54, 55, 56, 57, 58, 59, 60, 61, 62, 63, 64, 65, 66, 67, 68, 69, 70, 71, 72, 73, 74, 75, 76, 77, 78, 79, 80, 81, 82, 83, 97, 98, 99, 100, 101, 102, 103, 104, 105, 106, 107, 108, 109, 110, 111, 112, 113, 114, 115, 116, 117, 118, 119, 120, 121] (by decide +kernel) (by decide +kernel)
set_option maxRecDepth 20000 in
theorem gX6_perform_X6_part : GoodIn wsX6_perform (wsV RX6 152 RX6 yX6_part wsX6_part) := goodIn_app (goodIn_of _ (by decide +kernel)) ggX6_perform_X6_part
set_option maxRecDepth 20000 in
theorem ggX6_perform_X6_failed : GoodIn wsX6_perform wsX6_failed := goodIn_r _ [87, 36, 35, 88, 1, 2, 97, 98, 99, 100, 101, 102, 103, 104, 105, 106, 107, 108, 109, 110, 111, 112, 113, 114, 115, 116, 117, 118, 119, 120, 121] (by decide +kernel) (by decide +kernel)
set_option maxRecDepth 20000 in
theorem gX6_perform_X6_failed : GoodIn wsX6_perform (wsV RX6 155 RX6 yX6_failed wsX6_failed) := goodIn_app (goodIn_of _ (by decide +kernel)) ggX6_perform_X6_failed
set_option maxRecDepth 20000 in
theorem ggX6_perform_X6_is : GoodIn wsX6_perform wsX6_is := goodIn_r _ [20, 3, 16, 4, 97, 98, 99, 100, 101, 102, 103, 104, 105, 106, 107, 108, 109, 110, 111, 112, 113, 114, 115, 116, 117, 118, 119, 120, 121] (by decide +kernel) (by decide +kernel)
set_option maxRecDepth 20000 in
theorem gX6_perform_X6_is : GoodIn wsX6_perform (wsV RX6 137 RX6 yX6_is wsX6_is) := goodIn_app (goodIn_of _ (by decide +kernel)) ggX6_perform_X6_is
set_option maxRecDepth 20000 in
theorem ggX6_perform_X6_single : GoodIn wsX6_perform wsX6_single := goodIn_r _ [50, 3, 51, 4, 8, 37, 38, 39, 14, 40, 41, 42, 43, 25, 26, 27, 28, 29, 30, 31, 32, 33, 34, 35, 36, 21, 22, 23, 24, 10, 52, 53, 54, 55, 56, 57, 58, 59, 60, 61, 62, 63, 64, 65, 66, 67, 68, 69, 70, 71, 72, 73, 74, 75, 76, 97, 98, 99, 100, 101, 102, 103, 104, 105, 106, 107, 108, 109, 110, 111, 112, 113, 114, 115, 116, 117, 118, 119, 120, 121] (by decide +kernel) (by decide +kernel)
set_option maxRecDepth 20000 in
theorem gX6_perform_X6_single : GoodIn wsX6_perform (wsV RX6 143 RX6 yX6_single wsX6_single) := goodIn_app (goodIn_of _ (by decide +kernel)) ggX6_perform_X6_single
set_option maxRecDepth 20000 in
theorem ggX6_perform_X6_bits : GoodIn wsX6_perform wsX6_bits := goodIn_r _ [64] (by decide +kernel) (by decide +kernel)
set_option maxRecDepth 20000 in
theorem gX6_perform_X6_bits : GoodIn wsX6_perform (va_wsS RX6 128 yX6_bits wsX6_bits) := goodIn_app (goodIn_of _ (by decide +kernel)) ggX6_perform_X6_bits
set_option maxRecDepth 20000 in
theorem ggX6_perform_X6_lowest : GoodIn wsX6_perform wsX6_lowest := goodIn_r _ [67] (by decide +kernel) (by decide +kernel)
set_option maxRecDepth 20000 in
theorem gX6_perform_X6_lowest : GoodIn wsX6_perform (va_wsS RX6 131 yX6_lowest wsX6_lowest) := goodIn_app (goodIn_of _ (by decide +kernel)) ggX6_perform_X6_lowest
set_option maxRecDepth 20000 in
theorem ggX6_perform_X6_suits : GoodIn wsX6_perform wsX6_suits := goodIn_r _ [75, 29, 76, 30, 25, 26, 27, 14, 28, 97, 98, 99, 100, 101, 102, 103, 104, 105, 106, 107, 108, 109, 110, 111, 112, 113, 114, 115, 116, 117, 118, 119, 120, 121] (by decide +kernel) (by decide +kernel)
set_option maxRecDepth 20000 in
theorem gX6_perform_X6_suits : GoodIn wsX6_perform (wsV RX6 79 RX6 yX6_suits wsX6_suits) := goodIn_app (goodIn_of _ (by decide +kernel)) ggX6_perform_X6_suits
set_option maxRecDepth 20000 in
theorem ggX6_perform_X6_acts : GoodIn wsX6_perform wsX6_acts := goodIn_r _ [92, 5, 7, 29, 30, 72, 73, 74, 14, 75, 76, 25, 26, 27, 28, 93, 94, 95, 96, 97, 98, 99, 100, 101, 102, 103, 104, 105, 106, 107, 108, 109, 110, 111, 112, 113, 114, 115, 116, 117, 118, 119, 120, 121] (by decide +kernel) (by decide +kernel)
set_option maxRecDepth 20000 in
theorem gX6_perform_X6_acts : GoodIn wsX6_perform (wsV RX6 161 RX6 yX6_acts wsX6_acts) := goodIn_app (goodIn_of _ (by decide +kernel)) ggX6_perform_X6_acts
theorem dX6_perform_0 : decode cX6_perform 0 = .ok (.aload_n 0, 1) := by decide +kernel
theorem dX6_perform_1 : decode cX6_perform 1 = .ok (.iconst 0, 1) := by decide +kernel
theorem dX6_perform_2 : decode cX6_perform 2 = .ok (.putfield 149, 3) := by decide +kernel
theorem dX6_perform_5 : decode cX6_perform 5 = .ok (.aload_n 0, 1) := by decide +kernel
theorem dX6_perform_6 : decode cX6_perform 6 = .ok (.iconst (-1), 1) := by decide +kernel
theorem dX6_perform_7 : decode cX6_perform 7 = .ok (.putfield 51, 3) := by decide +kernel
theorem dX6_perform_10 : decode cX6_perform 10 = .ok (.iconst 0, 1) := by decide +kernel
theorem dX6_perform_11 : decode cX6_perform 11 = .ok (.istore_n 1, 1) := by decide +kernel
theorem dX6_perform_12 : decode cX6_perform 12 = .ok (.iconst (-1), 1) := by decide +kernel
theorem dX6_perform_13 : decode cX6_perform 13 = .ok (.istore_n 2, 1) := by decide +kernel
theorem dX6_perform_14 : decode cX6_perform 14 = .ok (.aload_n 0, 1) := by decide +kernel
theorem dX6_perform_15 : decode cX6_perform 15 = .ok (.iconst 0, 1) := by decide +kernel
theorem dX6_perform_16 : decode cX6_perform 16 = .ok (.putfield 102, 3) := by decide +kernel
theorem dX6_perform_19 : decode cX6_perform 19 = .ok (.aload_n 0, 1) := by decide +kernel
theorem dX6_perform_20 : decode cX6_perform 20 = .ok (.dup, 1) := by decide +kernel
theorem dX6_perform_21 : decode cX6_perform 21 = .ok (.getfield 102, 3) := by decide +kernel
theorem dX6_perform_24 : decode cX6_perform 24 = .ok (.iconst 1, 1) := by decide +kernel
theorem dX6_perform_25 : decode cX6_perform 25 = .ok (.iadd, 1) := by decide +kernel
theorem dX6_perform_26 : decode cX6_perform 26 = .ok (.putfield 102, 3) := by decide +kernel
theorem dX6_perform_29 : decode cX6_perform 29 = .ok (.aload_n 0, 1) := by decide +kernel
theorem dX6_perform_30 : decode cX6_perform 30 = .ok (.invokevirtual 152, 3) := by decide +kernel
theorem dX6_perform_33 : decode cX6_perform 33 = .ok (.istore_n 3, 1) := by decide +kernel
theorem dX6_perform_34 : decode cX6_perform 34 = .ok (.iload_n 3, 1) := by decide +kernel
theorem dX6_perform_35 : decode cX6_perform 35 = .ok (.ifCond .ne 8, 3) := by decide +kernel
theorem dX6_perform_38 : decode cX6_perform 38 = .ok (.aload_n 0, 1) := by decide +kernel
theorem dX6_perform_39 : decode cX6_perform 39 = .ok (.invokevirtual 155, 3) := by decide +kernel
theorem dX6_perform_42 : decode cX6_perform 42 = .ok (.ireturn, 1) := by decide +kernel
theorem dX6_perform_43 : decode cX6_perform 43 = .ok (.iload_n 1, 1) := by decide +kernel
theorem dX6_perform_44 : decode cX6_perform 44 = .ok (.iload_n 3, 1) := by decide +kernel
theorem dX6_perform_45 : decode cX6_perform 45 = .ok (.ior, 1) := by decide +kernel
theorem dX6_perform_46 : decode cX6_perform 46 = .ok (.istore_n 1, 1) := by decide +kernel
theorem dX6_perform_47 : decode cX6_perform 47 = .ok (.aload_n 0, 1) := by decide +kernel
theorem dX6_perform_48 : decode cX6_perform 48 = .ok (.bipush 13, 2) := by decide +kernel
theorem dX6_perform_50 : decode cX6_perform 50 = .ok (.invokevirtual 137, 3) := by decide +kernel
theorem dX6_perform_53 : decode cX6_perform 53 = .ok (.ifCond .ne (-34), 3) := by decide +kernel
theorem dX6_perform_56 : decode cX6_perform 56 = .ok (.aload_n 0, 1) := by decide +kernel
theorem dX6_perform_57 : decode cX6_perform 57 = .ok (.bipush 16, 2) := by decide +kernel
theorem dX6_perform_59 : decode cX6_perform 59 = .ok (.invokevirtual 137, 3) := by decide +kernel
theorem dX6_perform_62 : decode cX6_perform 62 = .ok (.ifCond .eq 30, 3) := by decide +kernel
theorem dX6_perform_65 : decode cX6_perform 65 = .ok (.aload_n 0, 1) := by decide +kernel
theorem dX6_perform_66 : decode cX6_perform 66 = .ok (.dup, 1) := by decide +kernel
theorem dX6_perform_67 : decode cX6_perform 67 = .ok (.getfield 102, 3) := by decide +kernel
theorem dX6_perform_70 : decode cX6_perform 70 = .ok (.iconst 1, 1) := by decide +kernel
theorem dX6_perform_71 : decode cX6_perform 71 = .ok (.iadd, 1) := by decide +kernel
theorem dX6_perform_72 : decode cX6_perform 72 = .ok (.putfield 102, 3) := by decide +kernel
theorem dX6_perform_75 : decode cX6_perform 75 = .ok (.aload_n 0, 1) := by decide +kernel
theorem dX6_perform_76 : decode cX6_perform 76 = .ok (.bipush 16, 2) := by decide +kernel
theorem dX6_perform_78 : decode cX6_perform 78 = .ok (.invokevirtual 143, 3) := by decide +kernel
theorem dX6_perform_81 : decode cX6_perform 81 = .ok (.istore_n 2, 1) := by decide +kernel
theorem dX6_perform_82 : decode cX6_perform 82 = .ok (.iload_n 2, 1) := by decide +kernel
theorem dX6_perform_83 : decode cX6_perform 83 = .ok (.iconst (-1), 1) := by decide +kernel
theorem dX6_perform_84 : decode cX6_perform 84 = .ok (.if_icmp .ne 8, 3) := by decide +kernel
theorem dX6_perform_87 : decode cX6_perform 87 = .ok (.aload_n 0, 1) := by decide +kernel
theorem dX6_perform_88 : decode cX6_perform 88 = .ok (.invokevirtual 155, 3) := by decide +kernel
theorem dX6_perform_91 : decode cX6_perform 91 = .ok (.ireturn, 1) := by decide +kernel
theorem dX6_perform_92 : decode cX6_perform 92 = .ok (.aload_n 0, 1) := by decide +kernel
theorem dX6_perform_93 : decode cX6_perform 93 = .ok (.aload_n 0, 1) := by decide +kernel
theorem dX6_perform_94 : decode cX6_perform 94 = .ok (.getfield 45, 3) := by decide +kernel
theorem dX6_perform_97 : decode cX6_perform 97 = .ok (.iconst 0, 1) := by decide +kernel
theorem dX6_perform_98 : decode cX6_perform 98 = .ok (.iaload, 1) := by decide +kernel
theorem dX6_perform_99 : decode cX6_perform 99 = .ok (.putfield 36, 3) := by decide +kernel
theorem dX6_perform_102 : decode cX6_perform 102 = .ok (.aload_n 0, 1) := by decide +kernel
theorem dX6_perform_103 : decode cX6_perform 103 = .ok (.iload_n 1, 1) := by decide +kernel
theorem dX6_perform_104 : decode cX6_perform 104 = .ok (.putfield 140, 3) := by decide +kernel
theorem dX6_perform_107 : decode cX6_perform 107 = .ok (.aload_n 0, 1) := by decide +kernel
theorem dX6_perform_108 : decode cX6_perform 108 = .ok (.iload_n 2, 1) := by decide +kernel
theorem dX6_perform_109 : decode cX6_perform 109 = .ok (.putfield 39, 3) := by decide +kernel
theorem dX6_perform_112 : decode cX6_perform 112 = .ok (.aload_n 0, 1) := by decide +kernel
theorem dX6_perform_113 : decode cX6_perform 113 = .ok (.iload_n 1, 1) := by decide +kernel
theorem dX6_perform_114 : decode cX6_perform 114 = .ok (.invokestatic 128, 3) := by decide +kernel
theorem dX6_perform_117 : decode cX6_perform 117 = .ok (.iconst 1, 1) := by decide +kernel
theorem dX6_perform_118 : decode cX6_perform 118 = .ok (.if_icmp .ne 10, 3) := by decide +kernel
theorem dX6_perform_121 : decode cX6_perform 121 = .ok (.iload_n 1, 1) := by decide +kernel
theorem dX6_perform_122 : decode cX6_perform 122 = .ok (.invokestatic 131, 3) := by decide +kernel
theorem dX6_perform_125 : decode cX6_perform 125 = .ok (.goto 7, 3) := by decide +kernel
theorem dX6_perform_128 : decode cX6_perform 128 = .ok (.aload_n 0, 1) := by decide +kernel
theorem dX6_perform_129 : decode cX6_perform 129 = .ok (.getfield 42, 3) := by decide +kernel
theorem dX6_perform_132 : decode cX6_perform 132 = .ok (.putfield 42, 3) := by decide +kernel
theorem dX6_perform_135 : decode cX6_perform 135 = .ok (.aload_n 0, 1) := by decide +kernel
theorem dX6_perform_136 : decode cX6_perform 136 = .ok (.iconst 0, 1) := by decide +kernel
theorem dX6_perform_137 : decode cX6_perform 137 = .ok (.putfield 158, 3) := by decide +kernel
theorem dX6_perform_140 : decode cX6_perform 140 = .ok (.iconst 0, 1) := by decide +kernel
theorem dX6_perform_141 : decode cX6_perform 141 = .ok (.istore_n 3, 1) := by decide +kernel
theorem dX6_perform_142 : decode cX6_perform 142 = .ok (.iload_n 3, 1) := by decide +kernel
theorem dX6_perform_143 : decode cX6_perform 143 = .ok (.aload_n 0, 1) := by decide +kernel
theorem dX6_perform_144 : decode cX6_perform 144 = .ok (.getfield 57, 3) := by decide +kernel
theorem dX6_perform_147 : decode cX6_perform 147 = .ok (.if_icmp .ge 54, 3) := by decide +kernel
theorem dX6_perform_150 : decode cX6_perform 150 = .ok (.iload_n 1, 1) := by decide +kernel
theorem dX6_perform_151 : decode cX6_perform 151 = .ok (.iload_n 3, 1) := by decide +kernel
theorem dX6_perform_152 : decode cX6_perform 152 = .ok (.ishr, 1) := by decide +kernel
theorem dX6_perform_153 : decode cX6_perform 153 = .ok (.iconst 1, 1) := by decide +kernel
theorem dX6_perform_154 : decode cX6_perform 154 = .ok (.iand, 1) := by decide +kernel
theorem dX6_perform_155 : decode cX6_perform 155 = .ok (.iconst 1, 1) := by decide +kernel
theorem dX6_perform_156 : decode cX6_perform 156 = .ok (.if_icmp .ne 39, 3) := by decide +kernel
theorem dX6_perform_159 : decode cX6_perform 159 = .ok (.aload_n 0, 1) := by decide +kernel
theorem dX6_perform_160 : decode cX6_perform 160 = .ok (.aload_n 0, 1) := by decide +kernel
theorem dX6_perform_161 : decode cX6_perform 161 = .ok (.getfield 36, 3) := by decide +kernel
theorem dX6_perform_164 : decode cX6_perform 164 = .ok (.iload_n 3, 1) := by decide +kernel
theorem dX6_perform_165 : decode cX6_perform 165 = .ok (.invokevirtual 79, 3) := by decide +kernel
theorem dX6_perform_168 : decode cX6_perform 168 = .ok (.ifCond .eq 27, 3) := by decide +kernel
theorem dX6_perform_171 : decode cX6_perform 171 = .ok (.aload_n 0, 1) := by decide +kernel
theorem dX6_perform_172 : decode cX6_perform 172 = .ok (.dup, 1) := by decide +kernel
theorem dX6_perform_173 : decode cX6_perform 173 = .ok (.getfield 158, 3) := by decide +kernel
theorem dX6_perform_176 : decode cX6_perform 176 = .ok (.aload_n 0, 1) := by decide +kernel
theorem dX6_perform_177 : decode cX6_perform 177 = .ok (.iload_n 3, 1) := by decide +kernel
theorem dX6_perform_178 : decode cX6_perform 178 = .ok (.invokevirtual 161, 3) := by decide +kernel
theorem dX6_perform_181 : decode cX6_perform 181 = .ok (.ifCond .eq 9, 3) := by decide +kernel
theorem dX6_perform_184 : decode cX6_perform 184 = .ok (.iconst 1, 1) := by decide +kernel
theorem dX6_perform_185 : decode cX6_perform 185 = .ok (.iload_n 3, 1) := by decide +kernel
theorem dX6_perform_186 : decode cX6_perform 186 = .ok (.ishl, 1) := by decide +kernel
theorem dX6_perform_187 : decode cX6_perform 187 = .ok (.goto 4, 3) := by decide +kernel
theorem dX6_perform_190 : decode cX6_perform 190 = .ok (.iconst 0, 1) := by decide +kernel
theorem dX6_perform_191 : decode cX6_perform 191 = .ok (.ior, 1) := by decide +kernel
theorem dX6_perform_192 : decode cX6_perform 192 = .ok (.putfield 158, 3) := by decide +kernel
theorem dX6_perform_195 : decode cX6_perform 195 = .ok (.iinc 3 1, 3) := by decide +kernel
theorem dX6_perform_198 : decode cX6_perform 198 = .ok (.goto (-56), 3) := by decide +kernel
theorem dX6_perform_201 : decode cX6_perform 201 = .ok (.iconst 0, 1) := by decide +kernel
theorem dX6_perform_202 : decode cX6_perform 202 = .ok (.ireturn, 1) := by decide +kernel
theorem dX6_failed_0 : decode cX6_failed 0 = .ok (.aload_n 0, 1) := by decide +kernel
theorem dX6_failed_1 : decode cX6_failed 1 = .ok (.getfield 111, 3) := by decide +kernel
theorem dX6_failed_4 : decode cX6_failed 4 = .ok (.ifCond .ne 13, 3) := by decide +kernel
theorem dX6_failed_7 : decode cX6_failed 7 = .ok (.aload_n 0, 1) := by decide +kernel
theorem dX6_failed_8 : decode cX6_failed 8 = .ok (.aload_n 0, 1) := by decide +kernel
theorem dX6_failed_9 : decode cX6_failed 9 = .ok (.getfield 108, 3) := by decide +kernel
theorem dX6_failed_12 : decode cX6_failed 12 = .ok (.putfield 33, 3) := by decide +kernel
theorem dX6_failed_15 : decode cX6_failed 15 = .ok (.iconst 5, 1) := by decide +kernel
theorem dX6_failed_16 : decode cX6_failed 16 = .ok (.ireturn, 1) := by decide +kernel
theorem dX6_failed_17 : decode cX6_failed 17 = .ok (.aload_n 0, 1) := by decide +kernel
theorem dX6_failed_18 : decode cX6_failed 18 = .ok (.aload_n 0, 1) := by decide +kernel
theorem dX6_failed_19 : decode cX6_failed 19 = .ok (.getfield 111, 3) := by decide +kernel
theorem dX6_failed_22 : decode cX6_failed 22 = .ok (.putfield 149, 3) := by decide +kernel
theorem dX6_failed_25 : decode cX6_failed 25 = .ok (.aload_n 0, 1) := by decide +kernel
theorem dX6_failed_26 : decode cX6_failed 26 = .ok (.aload_n 0, 1) := by decide +kernel
theorem dX6_failed_27 : decode cX6_failed 27 = .ok (.getfield 108, 3) := by decide +kernel
theorem dX6_failed_30 : decode cX6_failed 30 = .ok (.putfield 51, 3) := by decide +kernel
theorem dX6_failed_33 : decode cX6_failed 33 = .ok (.iconst 1, 1) := by decide +kernel
theorem dX6_failed_34 : decode cX6_failed 34 = .ok (.ireturn, 1) := by decide +kernel
set_option maxRecDepth 20000 in
theorem ggX6_acts_X6_suits : GoodIn wsX6_acts wsX6_suits := goodIn_r _ [9, 3, 10, 4, 11, 12, 13, 8, 14, 19, 20, 21, 22, 23, 24, 25, 26, 27, 28, 29, 30, 31, 32, 33, 34, 35, 36, 37, 38, 39, 40, 41, 42, 43] (by decide +kernel) (by decide +kernel)
set_option maxRecDepth 20000 in
theorem gX6_acts_X6_suits : GoodIn wsX6_acts (wsV RX6 79 RX6 yX6_suits wsX6_suits) := goodIn_app (goodIn_of _ (by decide +kernel)) ggX6_acts_X6_suits
set_option maxRecDepth 20000 in
theorem ggX6_acts_X6_isInside : GoodIn wsX6_acts wsX6_isInside := goodIn_r _ [18, 3, 19, 20, 21, 22, 23, 24, 25, 26, 27, 28, 29, 30, 31, 32, 33, 34, 35, 36, 37, 38, 39, 40, 41, 42, 43] (by decide +kernel) (by decide +kernel)
set_option maxRecDepth 20000 in
theorem gX6_acts_X6_isInside : GoodIn wsX6_acts (wsV RX6 164 RX6 yX6_isInside wsX6_isInside) := goodIn_app (goodIn_of _ (by decide +kernel)) ggX6_acts_X6_isInside
theorem dX6_acts_0 : decode cX6_acts 0 = .ok (.aload_n 0, 1) := by decide +kernel
theorem dX6_acts_1 : decode cX6_acts 1 = .ok (.getfield 36, 3) := by decide +kernel
theorem dX6_acts_4 : decode cX6_acts 4 = .ok (.iconst 2, 1) := by decide +kernel
theorem dX6_acts_5 : decode cX6_acts 5 = .ok (.if_icmp .ne 51, 3) := by decide +kernel
theorem dX6_acts_8 : decode cX6_acts 8 = .ok (.aload_n 0, 1) := by decide +kernel
theorem dX6_acts_9 : decode cX6_acts 9 = .ok (.bipush 16, 2) := by decide +kernel
theorem dX6_acts_11 : decode cX6_acts 11 = .ok (.aload_n 0, 1) := by decide +kernel
theorem dX6_acts_12 : decode cX6_acts 12 = .ok (.getfield 39, 3) := by decide +kernel
theorem dX6_acts_15 : decode cX6_acts 15 = .ok (.invokevirtual 79, 3) := by decide +kernel
theorem dX6_acts_18 : decode cX6_acts 18 = .ok (.ifCond .eq 23, 3) := by decide +kernel
theorem dX6_acts_21 : decode cX6_acts 21 = .ok (.aload_n 0, 1) := by decide +kernel
theorem dX6_acts_22 : decode cX6_acts 22 = .ok (.getfield 39, 3) := by decide +kernel
theorem dX6_acts_25 : decode cX6_acts 25 = .ok (.iload_n 1, 1) := by decide +kernel
theorem dX6_acts_26 : decode cX6_acts 26 = .ok (.if_icmp .eq 15, 3) := by decide +kernel
theorem dX6_acts_29 : decode cX6_acts 29 = .ok (.aload_n 0, 1) := by decide +kernel
theorem dX6_acts_30 : decode cX6_acts 30 = .ok (.aload_n 0, 1) := by decide +kernel
theorem dX6_acts_31 : decode cX6_acts 31 = .ok (.getfield 39, 3) := by decide +kernel
theorem dX6_acts_34 : decode cX6_acts 34 = .ok (.iload_n 1, 1) := by decide +kernel
theorem dX6_acts_35 : decode cX6_acts 35 = .ok (.invokevirtual 164, 3) := by decide +kernel
theorem dX6_acts_38 : decode cX6_acts 38 = .ok (.ifCond .eq 5, 3) := by decide +kernel
theorem dX6_acts_41 : decode cX6_acts 41 = .ok (.iconst 0, 1) := by decide +kernel
theorem dX6_acts_42 : decode cX6_acts 42 = .ok (.ireturn, 1) := by decide +kernel
theorem dX6_acts_43 : decode cX6_acts 43 = .ok (.aload_n 0, 1) := by decide +kernel
theorem dX6_acts_44 : decode cX6_acts 44 = .ok (.getfield 23, 3) := by decide +kernel
theorem dX6_acts_47 : decode cX6_acts 47 = .ok (.iload_n 1, 1) := by decide +kernel
theorem dX6_acts_48 : decode cX6_acts 48 = .ok (.aload_n 0, 1) := by decide +kernel
theorem dX6_acts_49 : decode cX6_acts 49 = .ok (.getfield 39, 3) := by decide +kernel
theorem dX6_acts_52 : decode cX6_acts 52 = .ok (.iastore, 1) := by decide +kernel
theorem dX6_acts_53 : decode cX6_acts 53 = .ok (.goto 59, 3) := by decide +kernel
theorem dX6_acts_56 : decode cX6_acts 56 = .ok (.aload_n 0, 1) := by decide +kernel
theorem dX6_acts_57 : decode cX6_acts 57 = .ok (.getfield 36, 3) := by decide +kernel
theorem dX6_acts_60 : decode cX6_acts 60 = .ok (.ifCond .ne 14, 3) := by decide +kernel
theorem dX6_acts_63 : decode cX6_acts 63 = .ok (.aload_n 0, 1) := by decide +kernel
theorem dX6_acts_64 : decode cX6_acts 64 = .ok (.getfield 23, 3) := by decide +kernel
theorem dX6_acts_67 : decode cX6_acts 67 = .ok (.iload_n 1, 1) := by decide +kernel
theorem dX6_acts_68 : decode cX6_acts 68 = .ok (.bipush (-3), 2) := by decide +kernel
theorem dX6_acts_70 : decode cX6_acts 70 = .ok (.iastore, 1) := by decide +kernel
theorem dX6_acts_71 : decode cX6_acts 71 = .ok (.goto 41, 3) := by decide +kernel
theorem dX6_acts_74 : decode cX6_acts 74 = .ok (.aload_n 0, 1) := by decide +kernel
theorem dX6_acts_75 : decode cX6_acts 75 = .ok (.getfield 36, 3) := by decide +kernel
theorem dX6_acts_78 : decode cX6_acts 78 = .ok (.iconst 1, 1) := by decide +kernel
theorem dX6_acts_79 : decode cX6_acts 79 = .ok (.if_icmp .ne 14, 3) := by decide +kernel
theorem dX6_acts_82 : decode cX6_acts 82 = .ok (.aload_n 0, 1) := by decide +kernel
theorem dX6_acts_83 : decode cX6_acts 83 = .ok (.getfield 23, 3) := by decide +kernel
theorem dX6_acts_86 : decode cX6_acts 86 = .ok (.iload_n 1, 1) := by decide +kernel
theorem dX6_acts_87 : decode cX6_acts 87 = .ok (.bipush (-2), 2) := by decide +kernel
theorem dX6_acts_89 : decode cX6_acts 89 = .ok (.iastore, 1) := by decide +kernel
theorem dX6_acts_90 : decode cX6_acts 90 = .ok (.goto 22, 3) := by decide +kernel
theorem dX6_acts_93 : decode cX6_acts 93 = .ok (.aload_n 0, 1) := by decide +kernel
theorem dX6_acts_94 : decode cX6_acts 94 = .ok (.getfield 20, 3) := by decide +kernel
theorem dX6_acts_97 : decode cX6_acts 97 = .ok (.iload_n 1, 1) := by decide +kernel
theorem dX6_acts_98 : decode cX6_acts 98 = .ok (.aload_n 0, 1) := by decide +kernel
theorem dX6_acts_99 : decode cX6_acts 99 = .ok (.getfield 36, 3) := by decide +kernel
theorem dX6_acts_102 : decode cX6_acts 102 = .ok (.iconst 3, 1) := by decide +kernel
theorem dX6_acts_103 : decode cX6_acts 103 = .ok (.if_icmp .ne 7, 3) := by decide +kernel
theorem dX6_acts_106 : decode cX6_acts 106 = .ok (.iconst 1, 1) := by decide +kernel
theorem dX6_acts_107 : decode cX6_acts 107 = .ok (.goto 4, 3) := by decide +kernel
theorem dX6_acts_110 : decode cX6_acts 110 = .ok (.iconst 0, 1) := by decide +kernel
theorem dX6_acts_111 : decode cX6_acts 111 = .ok (.bastore, 1) := by decide +kernel
theorem dX6_acts_112 : decode cX6_acts 112 = .ok (.iconst 1, 1) := by decide +kernel
theorem dX6_acts_113 : decode cX6_acts 113 = .ok (.ireturn, 1) := by decide +kernel
set_option maxRecDepth 20000 in
theorem ggX6_say_X6_understand_r1 : GoodIn wsX6_say (Cond.code yX6_understand cX6_understand 4 (some .int) :: wsX6_understand_r1) := goodIn_r _ [10, 5, 11, 12, 13, 2, 14, 15, 16, 17, 18, 9, 19, 20, 21, 22, 23, 24, 25, 26, 27, 28, 29, 30, 31] (by decide +kernel) (by decide +kernel)
set_option maxRecDepth 20000 in
theorem ggX6_say_X6_understand_r2 : GoodIn wsX6_say wsX6_understand_r2 := goodIn_r _ [32, 33, 34, 35, 36, 37, 38, 39, 40, 41, 42, 43, 44, 45, 46, 47, 48, 49, 50, 51, 52, 53, 54, 55] (by decide +kernel) (by decide +kernel)
set_option maxRecDepth 20000 in
theorem ggX6_say_X6_understand_r3 : GoodIn wsX6_say wsX6_understand_r3 := goodIn_r _ [56, 57, 58, 59, 60, 61, 62, 63, 64, 65, 66, 67, 68, 69, 70, 71, 72, 73, 74, 75, 76, 77, 78, 79] (by decide +kernel) (by decide +kernel)
set_option maxRecDepth 20000 in
theorem ggX6_say_X6_understand_r4 : GoodIn wsX6_say wsX6_understand_r4 := goodIn_r _ [80, 81, 82, 83, 84, 85, 86, 87, 88, 89, 90, 91, 92, 93, 94, 95, 96, 97, 98, 99, 100, 101, 102, 103] (by decide +kernel) (by decide +kernel)
set_option maxRecDepth 20000 in
theorem ggX6_say_X6_understand_r5 : GoodIn wsX6_say wsX6_understand_r5 := goodIn_r _ [104, 105, 106, 107, 108, 109, 110, 111, 112, 113, 114, 115, 116, 117, 118, 119, 120, 121, 122, 123] (by decide +kernel) (by decide +kernel)
set_option maxRecDepth 20000 in
theorem ggX6_say_X6_understand_wsX60 : GoodIn wsX6_say wsX60 := goodIn_r _ [124, 125, 126, 127, 128, 129, 130, 131, 132, 133, 134, 135, 136, 137, 138, 139, 140, 141, 142, 143, 144, 145, 146, 147, 148] (by decide +kernel) (by decide +kernel)
set_option maxRecDepth 20000 in
theorem ggX6_say_X6_understand : GoodIn wsX6_say wsX6_understand := goodIn_ca (goodIn_ca ggX6_say_X6_understand_r1 (goodIn_app ggX6_say_X6_understand_r2 (goodIn_app ggX6_say_X6_understand_r3 (goodIn_app ggX6_say_X6_understand_r4 (ggX6_say_X6_understand_r5))))) ggX6_say_X6_understand_wsX60
