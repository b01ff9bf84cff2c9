set_option maxRecDepth 20000 in
theorem gL_grows_X5_ifAppended : GoodIn wsL_grows (wsV RL 87 RX5 yX5_ifAppended wsX5_ifAppended) := goodIn_app (goodIn_of _ (by decide +kernel)) ggL_grows_X5_ifAppended
set_option maxRecDepth 20000 in
theorem gL_grows_X5_file : GoodIn wsL_grows (wsV RL 51 RX5 yX5_file wsX5_file) := goodIn_app (goodIn_of _ (by decide +kernel)) ggL_grows_X5_file
set_option maxRecDepth 20000 in
theorem gL_grows_X5_total : GoodIn wsL_grows (wsV RL 80 RX5 yX5_total wsX5_total) := goodIn_app (goodIn_of _ (by decide +kernel)) ggL_grows_X5_total
set_option maxRecDepth 20000 in
theorem gL_grows_X5_room : GoodIn wsL_grows (wsV RL 64 RX5 yX5_room wsX5_room) := goodIn_app (goodIn_of _ (by decide +kernel)) ggL_grows_X5_room
set_option maxRecDepth 20000 in
theorem gL_grows_L_print : GoodIn wsL_grows (va_wsS RL 90 yL_print wsL_print) := goodIn_app (goodIn_of _ (by decide +kernel)) ggL_grows_L_print
set_option maxRecDepth 20000 in
theorem gL_grows_X5_append : GoodIn wsL_grows (wsV RL 47 RX5 yX5_append wsX5_append) := goodIn_app (goodIn_of _ (by decide +kernel)) ggL_grows_X5_append
set_option maxRecDepth 20000 in
theorem gL_grows_X5_count : GoodIn wsL_grows (wsV RL 67 RX5 yX5_count wsX5_count) := goodIn_app (goodIn_of _ (by decide +kernel)) ggL_grows_X5_count
set_option maxRecDepth 20000 in
theorem gL_grows_L_hangs : GoodIn wsL_grows (va_wsS RL 94 yL_hangs wsL_hangs) := goodIn_app (goodIn_of _ (by decide +kernel)) ggL_grows_L_hangs
set_option maxRecDepth 20000 in
theorem gL_grows_X5_read : GoodIn wsL_grows (wsV RL 60 RX5 yX5_read wsX5_read) := goodIn_app (goodIn_of _ (by decide +kernel)) ggL_grows_X5_read
set_option maxRecDepth 20000 in
theorem gL_grows_X5_undo : GoodIn wsL_grows (wsV RL 98 RX5 yX5_undo wsX5_undo) := goodIn_app (goodIn_of _ (by decide +kernel)) ggL_grows_X5_undo
theorem dL_grows_0 : decode cL_grows 0 = .ok (.aload_n 0, 1) := by decide +kernel
theorem dL_grows_1 : decode cL_grows 1 = .ok (.iload_n 1, 1) := by decide +kernel
theorem dL_grows_2 : decode cL_grows 2 = .ok (.iload_n 2, 1) := by decide +kernel
theorem dL_grows_3 : decode cL_grows 3 = .ok (.iconst 0, 1) := by decide +kernel
theorem dL_grows_4 : decode cL_grows 4 = .ok (.invokevirtual 87, 3) := by decide +kernel
theorem dL_grows_7 : decode cL_grows 7 = .ok (.istore 4, 2) := by decide +kernel
theorem dL_grows_9 : decode cL_grows 9 = .ok (.aload_n 0, 1) := by decide +kernel
theorem dL_grows_10 : decode cL_grows 10 = .ok (.iload_n 1, 1) := by decide +kernel
theorem dL_grows_11 : decode cL_grows 11 = .ok (.iload_n 2, 1) := by decide +kernel
theorem dL_grows_12 : decode cL_grows 12 = .ok (.iconst 1, 1) := by decide +kernel
theorem dL_grows_13 : decode cL_grows 13 = .ok (.invokevirtual 87, 3) := by decide +kernel
theorem dL_grows_16 : decode cL_grows 16 = .ok (.istore 5, 2) := by decide +kernel
theorem dL_grows_18 : decode cL_grows 18 = .ok (.aload_n 0, 1) := by decide +kernel
theorem dL_grows_19 : decode cL_grows 19 = .ok (.iload_n 1, 1) := by decide +kernel
theorem dL_grows_20 : decode cL_grows 20 = .ok (.iload_n 2, 1) := by decide +kernel
theorem dL_grows_21 : decode cL_grows 21 = .ok (.iconst 2, 1) := by decide +kernel
theorem dL_grows_22 : decode cL_grows 22 = .ok (.invokevirtual 87, 3) := by decide +kernel
theorem dL_grows_25 : decode cL_grows 25 = .ok (.istore 6, 2) := by decide +kernel
theorem dL_grows_27 : decode cL_grows 27 = .ok (.aload_n 0, 1) := by decide +kernel
theorem dL_grows_28 : decode cL_grows 28 = .ok (.iload_n 1, 1) := by decide +kernel
theorem dL_grows_29 : decode cL_grows 29 = .ok (.iconst 0, 1) := by decide +kernel
theorem dL_grows_30 : decode cL_grows 30 = .ok (.invokevirtual 51, 3) := by decide +kernel
theorem dL_grows_33 : decode cL_grows 33 = .ok (.istore 7, 2) := by decide +kernel
theorem dL_grows_35 : decode cL_grows 35 = .ok (.aload_n 0, 1) := by decide +kernel
theorem dL_grows_36 : decode cL_grows 36 = .ok (.iload_n 1, 1) := by decide +kernel
theorem dL_grows_37 : decode cL_grows 37 = .ok (.iconst 1, 1) := by decide +kernel
theorem dL_grows_38 : decode cL_grows 38 = .ok (.invokevirtual 51, 3) := by decide +kernel
theorem dL_grows_41 : decode cL_grows 41 = .ok (.istore 8, 2) := by decide +kernel
theorem dL_grows_43 : decode cL_grows 43 = .ok (.aload_n 0, 1) := by decide +kernel
theorem dL_grows_44 : decode cL_grows 44 = .ok (.iload_n 1, 1) := by decide +kernel
theorem dL_grows_45 : decode cL_grows 45 = .ok (.iconst 5, 1) := by decide +kernel
theorem dL_grows_46 : decode cL_grows 46 = .ok (.invokevirtual 51, 3) := by decide +kernel
theorem dL_grows_49 : decode cL_grows 49 = .ok (.istore 9, 2) := by decide +kernel
theorem dL_grows_51 : decode cL_grows 51 = .ok (.aload_n 0, 1) := by decide +kernel
theorem dL_grows_52 : decode cL_grows 52 = .ok (.iconst 0, 1) := by decide +kernel
theorem dL_grows_53 : decode cL_grows 53 = .ok (.invokevirtual 80, 3) := by decide +kernel
theorem dL_grows_56 : decode cL_grows 56 = .ok (.istore 10, 2) := by decide +kernel
theorem dL_grows_58 : decode cL_grows 58 = .ok (.aload_n 0, 1) := by decide +kernel
theorem dL_grows_59 : decode cL_grows 59 = .ok (.iconst 1, 1) := by decide +kernel
theorem dL_grows_60 : decode cL_grows 60 = .ok (.invokevirtual 80, 3) := by decide +kernel
theorem dL_grows_63 : decode cL_grows 63 = .ok (.istore 11, 2) := by decide +kernel
theorem dL_grows_65 : decode cL_grows 65 = .ok (.aload_n 0, 1) := by decide +kernel
theorem dL_grows_66 : decode cL_grows 66 = .ok (.iload_n 1, 1) := by decide +kernel
theorem dL_grows_67 : decode cL_grows 67 = .ok (.iconst 3, 1) := by decide +kernel
theorem dL_grows_68 : decode cL_grows 68 = .ok (.invokevirtual 51, 3) := by decide +kernel
theorem dL_grows_71 : decode cL_grows 71 = .ok (.iconst 1, 1) := by decide +kernel
theorem dL_grows_72 : decode cL_grows 72 = .ok (.if_icmp .ne 16, 3) := by decide +kernel
theorem dL_grows_75 : decode cL_grows 75 = .ok (.iload_n 2, 1) := by decide +kernel
theorem dL_grows_76 : decode cL_grows 76 = .ok (.aload_n 0, 1) := by decide +kernel
theorem dL_grows_77 : decode cL_grows 77 = .ok (.iload_n 1, 1) := by decide +kernel
theorem dL_grows_78 : decode cL_grows 78 = .ok (.invokevirtual 64, 3) := by decide +kernel
theorem dL_grows_81 : decode cL_grows 81 = .ok (.if_icmp .gt 7, 3) := by decide +kernel
theorem dL_grows_84 : decode cL_grows 84 = .ok (.iconst 1, 1) := by decide +kernel
theorem dL_grows_85 : decode cL_grows 85 = .ok (.goto 4, 3) := by decide +kernel
theorem dL_grows_88 : decode cL_grows 88 = .ok (.iconst 0, 1) := by decide +kernel
theorem dL_grows_89 : decode cL_grows 89 = .ok (.istore 12, 2) := by decide +kernel
theorem dL_grows_91 : decode cL_grows 91 = .ok (.aload_n 0, 1) := by decide +kernel
theorem dL_grows_92 : decode cL_grows 92 = .ok (.invokestatic 90, 3) := by decide +kernel
theorem dL_grows_95 : decode cL_grows 95 = .ok (.lstore 13, 2) := by decide +kernel
theorem dL_grows_97 : decode cL_grows 97 = .ok (.aload_n 0, 1) := by decide +kernel
theorem dL_grows_98 : decode cL_grows 98 = .ok (.iload_n 1, 1) := by decide +kernel
theorem dL_grows_99 : decode cL_grows 99 = .ok (.iload_n 2, 1) := by decide +kernel
theorem dL_grows_100 : decode cL_grows 100 = .ok (.iload_n 3, 1) := by decide +kernel
theorem dL_grows_101 : decode cL_grows 101 = .ok (.invokevirtual 47, 3) := by decide +kernel
theorem dL_grows_104 : decode cL_grows 104 = .ok (.istore 15, 2) := by decide +kernel
theorem dL_grows_106 : decode cL_grows 106 = .ok (.iload 15, 2) := by decide +kernel
theorem dL_grows_108 : decode cL_grows 108 = .ok (.ifCond .ge 62, 3) := by decide +kernel
theorem dL_grows_111 : decode cL_grows 111 = .ok (.iload 12, 2) := by decide +kernel
theorem dL_grows_113 : decode cL_grows 113 = .ok (.ifCond .ne 55, 3) := by decide +kernel
theorem dL_grows_116 : decode cL_grows 116 = .ok (.iload 15, 2) := by decide +kernel
theorem dL_grows_118 : decode cL_grows 118 = .ok (.iload 7, 2) := by decide +kernel
theorem dL_grows_120 : decode cL_grows 120 = .ok (.iconst (-1), 1) := by decide +kernel
theorem dL_grows_121 : decode cL_grows 121 = .ok (.if_icmp .ne 7, 3) := by decide +kernel
theorem dL_grows_124 : decode cL_grows 124 = .ok (.iconst (-1), 1) := by decide +kernel
theorem dL_grows_125 : decode cL_grows 125 = .ok (.goto 5, 3) := by decide +kernel
theorem dL_grows_128 : decode cL_grows 128 = .ok (.bipush (-4), 2) := by decide +kernel
theorem dL_grows_130 : decode cL_grows 130 = .ok (.if_icmp .ne 38, 3) := by decide +kernel
theorem dL_grows_133 : decode cL_grows 133 = .ok (.iload 4, 2) := by decide +kernel
theorem dL_grows_135 : decode cL_grows 135 = .ok (.iload 15, 2) := by decide +kernel
theorem dL_grows_137 : decode cL_grows 137 = .ok (.if_icmp .ne 31, 3) := by decide +kernel
theorem dL_grows_140 : decode cL_grows 140 = .ok (.iload 5, 2) := by decide +kernel
theorem dL_grows_142 : decode cL_grows 142 = .ok (.iload 15, 2) := by decide +kernel
theorem dL_grows_144 : decode cL_grows 144 = .ok (.if_icmp .ne 24, 3) := by decide +kernel
theorem dL_grows_147 : decode cL_grows 147 = .ok (.iload 6, 2) := by decide +kernel
theorem dL_grows_149 : decode cL_grows 149 = .ok (.iload 15, 2) := by decide +kernel
theorem dL_grows_151 : decode cL_grows 151 = .ok (.if_icmp .ne 17, 3) := by decide +kernel
theorem dL_grows_154 : decode cL_grows 154 = .ok (.aload_n 0, 1) := by decide +kernel
theorem dL_grows_155 : decode cL_grows 155 = .ok (.invokestatic 90, 3) := by decide +kernel
theorem dL_grows_158 : decode cL_grows 158 = .ok (.lload 13, 2) := by decide +kernel
theorem dL_grows_160 : decode cL_grows 160 = .ok (.lcmp, 1) := by decide +kernel
theorem dL_grows_161 : decode cL_grows 161 = .ok (.ifCond .ne 7, 3) := by decide +kernel
theorem dL_grows_164 : decode cL_grows 164 = .ok (.iconst 1, 1) := by decide +kernel
theorem dL_grows_165 : decode cL_grows 165 = .ok (.goto 4, 3) := by decide +kernel
theorem dL_grows_168 : decode cL_grows 168 = .ok (.iconst 0, 1) := by decide +kernel
theorem dL_grows_169 : decode cL_grows 169 = .ok (.ireturn, 1) := by decide +kernel
theorem dL_grows_170 : decode cL_grows 170 = .ok (.iload 12, 2) := by decide +kernel
theorem dL_grows_172 : decode cL_grows 172 = .ok (.ifCond .eq 78, 3) := by decide +kernel
theorem dL_grows_175 : decode cL_grows 175 = .ok (.iload 15, 2) := by decide +kernel
theorem dL_grows_177 : decode cL_grows 177 = .ok (.iload 4, 2) := by decide +kernel
theorem dL_grows_179 : decode cL_grows 179 = .ok (.if_icmp .ne 71, 3) := by decide +kernel
theorem dL_grows_182 : decode cL_grows 182 = .ok (.aload_n 0, 1) := by decide +kernel
theorem dL_grows_183 : decode cL_grows 183 = .ok (.iload_n 1, 1) := by decide +kernel
theorem dL_grows_184 : decode cL_grows 184 = .ok (.iconst 4, 1) := by decide +kernel
theorem dL_grows_185 : decode cL_grows 185 = .ok (.invokevirtual 51, 3) := by decide +kernel
theorem dL_grows_188 : decode cL_grows 188 = .ok (.iload 4, 2) := by decide +kernel
theorem dL_grows_190 : decode cL_grows 190 = .ok (.if_icmp .ne 60, 3) := by decide +kernel
theorem dL_grows_193 : decode cL_grows 193 = .ok (.aload_n 0, 1) := by decide +kernel
theorem dL_grows_194 : decode cL_grows 194 = .ok (.iload_n 1, 1) := by decide +kernel
theorem dL_grows_195 : decode cL_grows 195 = .ok (.iconst 1, 1) := by decide +kernel
theorem dL_grows_196 : decode cL_grows 196 = .ok (.invokevirtual 51, 3) := by decide +kernel
theorem dL_grows_199 : decode cL_grows 199 = .ok (.iload 5, 2) := by decide +kernel
theorem dL_grows_201 : decode cL_grows 201 = .ok (.if_icmp .ne 49, 3) := by decide +kernel
theorem dL_grows_204 : decode cL_grows 204 = .ok (.aload_n 0, 1) := by decide +kernel
theorem dL_grows_205 : decode cL_grows 205 = .ok (.iconst 2, 1) := by decide +kernel
theorem dL_grows_206 : decode cL_grows 206 = .ok (.invokevirtual 67, 3) := by decide +kernel
theorem dL_grows_209 : decode cL_grows 209 = .ok (.iload 6, 2) := by decide +kernel
theorem dL_grows_211 : decode cL_grows 211 = .ok (.if_icmp .ne 39, 3) := by decide +kernel
theorem dL_grows_214 : decode cL_grows 214 = .ok (.aload_n 0, 1) := by decide +kernel
theorem dL_grows_215 : decode cL_grows 215 = .ok (.iload_n 1, 1) := by decide +kernel
theorem dL_grows_216 : decode cL_grows 216 = .ok (.iconst 0, 1) := by decide +kernel
theorem dL_grows_217 : decode cL_grows 217 = .ok (.invokevirtual 51, 3) := by decide +kernel
theorem dL_grows_220 : decode cL_grows 220 = .ok (.iload 7, 2) := by decide +kernel
theorem dL_grows_222 : decode cL_grows 222 = .ok (.iload_n 2, 1) := by decide +kernel
theorem dL_grows_223 : decode cL_grows 223 = .ok (.iadd, 1) := by decide +kernel
theorem dL_grows_224 : decode cL_grows 224 = .ok (.if_icmp .ne 26, 3) := by decide +kernel
theorem dL_grows_227 : decode cL_grows 227 = .ok (.aload_n 0, 1) := by decide +kernel
theorem dL_grows_228 : decode cL_grows 228 = .ok (.iconst 0, 1) := by decide +kernel
theorem dL_grows_229 : decode cL_grows 229 = .ok (.invokevirtual 80, 3) := by decide +kernel
theorem dL_grows_232 : decode cL_grows 232 = .ok (.iload 10, 2) := by decide +kernel
theorem dL_grows_234 : decode cL_grows 234 = .ok (.iload_n 2, 1) := by decide +kernel
theorem dL_grows_235 : decode cL_grows 235 = .ok (.iadd, 1) := by decide +kernel
theorem dL_grows_236 : decode cL_grows 236 = .ok (.if_icmp .ne 14, 3) := by decide +kernel
theorem dL_grows_239 : decode cL_grows 239 = .ok (.aload_n 0, 1) := by decide +kernel
theorem dL_grows_240 : decode cL_grows 240 = .ok (.invokestatic 94, 3) := by decide +kernel
theorem dL_grows_243 : decode cL_grows 243 = .ok (.ifCond .eq 7, 3) := by decide +kernel
theorem dL_grows_246 : decode cL_grows 246 = .ok (.iconst 1, 1) := by decide +kernel
theorem dL_grows_247 : decode cL_grows 247 = .ok (.goto 4, 3) := by decide +kernel
theorem dL_grows_250 : decode cL_grows 250 = .ok (.iconst 0, 1) := by decide +kernel
theorem dL_grows_251 : decode cL_grows 251 = .ok (.istore 16, 2) := by decide +kernel
theorem dL_grows_253 : decode cL_grows 253 = .ok (.iload 16, 2) := by decide +kernel
theorem dL_grows_255 : decode cL_grows 255 = .ok (.ifCond .eq 81, 3) := by decide +kernel
theorem dL_grows_258 : decode cL_grows 258 = .ok (.iload_n 2, 1) := by decide +kernel
theorem dL_grows_259 : decode cL_grows 259 = .ok (.iload 8, 2) := by decide +kernel
theorem dL_grows_261 : decode cL_grows 261 = .ok (.if_icmp .gt 36, 3) := by decide +kernel
theorem dL_grows_264 : decode cL_grows 264 = .ok (.iload 5, 2) := by decide +kernel
theorem dL_grows_266 : decode cL_grows 266 = .ok (.iload 8, 2) := by decide +kernel
theorem dL_grows_268 : decode cL_grows 268 = .ok (.iload_n 2, 1) := by decide +kernel
theorem dL_grows_269 : decode cL_grows 269 = .ok (.isub, 1) := by decide +kernel
theorem dL_grows_270 : decode cL_grows 270 = .ok (.if_icmp .ne 66, 3) := by decide +kernel
theorem dL_grows_273 : decode cL_grows 273 = .ok (.aload_n 0, 1) := by decide +kernel
theorem dL_grows_274 : decode cL_grows 274 = .ok (.iload_n 1, 1) := by decide +kernel
theorem dL_grows_275 : decode cL_grows 275 = .ok (.iconst 5, 1) := by decide +kernel
theorem dL_grows_276 : decode cL_grows 276 = .ok (.invokevirtual 51, 3) := by decide +kernel
theorem dL_grows_279 : decode cL_grows 279 = .ok (.iload 9, 2) := by decide +kernel
theorem dL_grows_281 : decode cL_grows 281 = .ok (.if_icmp .ne 55, 3) := by decide +kernel
theorem dL_grows_284 : decode cL_grows 284 = .ok (.aload_n 0, 1) := by decide +kernel
theorem dL_grows_285 : decode cL_grows 285 = .ok (.iconst 1, 1) := by decide +kernel
theorem dL_grows_286 : decode cL_grows 286 = .ok (.invokevirtual 80, 3) := by decide +kernel
theorem dL_grows_289 : decode cL_grows 289 = .ok (.iload 11, 2) := by decide +kernel
theorem dL_grows_291 : decode cL_grows 291 = .ok (.if_icmp .ne 45, 3) := by decide +kernel
theorem dL_grows_294 : decode cL_grows 294 = .ok (.goto 38, 3) := by decide +kernel
theorem dL_grows_297 : decode cL_grows 297 = .ok (.aload_n 0, 1) := by decide +kernel
theorem dL_grows_298 : decode cL_grows 298 = .ok (.iload_n 1, 1) := by decide +kernel
theorem dL_grows_299 : decode cL_grows 299 = .ok (.iconst 5, 1) := by decide +kernel
theorem dL_grows_300 : decode cL_grows 300 = .ok (.invokevirtual 51, 3) := by decide +kernel
theorem dL_grows_303 : decode cL_grows 303 = .ok (.iload 5, 2) := by decide +kernel
theorem dL_grows_305 : decode cL_grows 305 = .ok (.ifCond .ne 8, 3) := by decide +kernel
theorem dL_grows_308 : decode cL_grows 308 = .ok (.iload 9, 2) := by decide +kernel
theorem dL_grows_310 : decode cL_grows 310 = .ok (.goto 19, 3) := by decide +kernel
theorem dL_grows_313 : decode cL_grows 313 = .ok (.iload 9, 2) := by decide +kernel
theorem dL_grows_315 : decode cL_grows 315 = .ok (.bipush 7, 2) := by decide +kernel
theorem dL_grows_317 : decode cL_grows 317 = .ok (.if_icmp .le 8, 3) := by decide +kernel
theorem dL_grows_320 : decode cL_grows 320 = .ok (.bipush 16, 2) := by decide +kernel
theorem dL_grows_322 : decode cL_grows 322 = .ok (.goto 7, 3) := by decide +kernel
theorem dL_grows_325 : decode cL_grows 325 = .ok (.iconst 2, 1) := by decide +kernel
theorem dL_grows_326 : decode cL_grows 326 = .ok (.iload 9, 2) := by decide +kernel
theorem dL_grows_328 : decode cL_grows 328 = .ok (.imul, 1) := by decide +kernel
theorem dL_grows_329 : decode cL_grows 329 = .ok (.if_icmp .ne 7, 3) := by decide +kernel
theorem dL_grows_332 : decode cL_grows 332 = .ok (.iconst 1, 1) := by decide +kernel
theorem dL_grows_333 : decode cL_grows 333 = .ok (.goto 4, 3) := by decide +kernel
theorem dL_grows_336 : decode cL_grows 336 = .ok (.iconst 0, 1) := by decide +kernel
theorem dL_grows_337 : decode cL_grows 337 = .ok (.istore 16, 2) := by decide +kernel
theorem dL_grows_339 : decode cL_grows 339 = .ok (.iconst 0, 1) := by decide +kernel
theorem dL_grows_340 : decode cL_grows 340 = .ok (.istore 17, 2) := by decide +kernel
theorem dL_grows_342 : decode cL_grows 342 = .ok (.iload 17, 2) := by decide +kernel
theorem dL_grows_344 : decode cL_grows 344 = .ok (.iload_n 2, 1) := by decide +kernel
theorem dL_grows_345 : decode cL_grows 345 = .ok (.if_icmp .ge 37, 3) := by decide +kernel
theorem dL_grows_348 : decode cL_grows 348 = .ok (.iload 16, 2) := by decide +kernel
theorem dL_grows_350 : decode cL_grows 350 = .ok (.ifCond .eq 32, 3) := by decide +kernel
theorem dL_grows_353 : decode cL_grows 353 = .ok (.aload_n 0, 1) := by decide +kernel
theorem dL_grows_354 : decode cL_grows 354 = .ok (.iload_n 1, 1) := by decide +kernel
theorem dL_grows_355 : decode cL_grows 355 = .ok (.iload 7, 2) := by decide +kernel
theorem dL_grows_357 : decode cL_grows 357 = .ok (.iload 17, 2) := by decide +kernel
theorem dL_grows_359 : decode cL_grows 359 = .ok (.iadd, 1) := by decide +kernel
theorem dL_grows_360 : decode cL_grows 360 = .ok (.iconst 1, 1) := by decide +kernel
theorem dL_grows_361 : decode cL_grows 361 = .ok (.iconst 0, 1) := by decide +kernel
theorem dL_grows_362 : decode cL_grows 362 = .ok (.invokevirtual 60, 3) := by decide +kernel
theorem dL_grows_365 : decode cL_grows 365 = .ok (.iload_n 3, 1) := by decide +kernel
theorem dL_grows_366 : decode cL_grows 366 = .ok (.if_icmp .ne 7, 3) := by decide +kernel
theorem dL_grows_369 : decode cL_grows 369 = .ok (.iconst 1, 1) := by decide +kernel
theorem dL_grows_370 : decode cL_grows 370 = .ok (.goto 4, 3) := by decide +kernel
theorem dL_grows_373 : decode cL_grows 373 = .ok (.iconst 0, 1) := by decide +kernel
theorem dL_grows_374 : decode cL_grows 374 = .ok (.istore 16, 2) := by decide +kernel
theorem dL_grows_376 : decode cL_grows 376 = .ok (.iinc 17 1, 3) := by decide +kernel
theorem dL_grows_379 : decode cL_grows 379 = .ok (.goto (-37), 3) := by decide +kernel
theorem dL_grows_382 : decode cL_grows 382 = .ok (.iload 16, 2) := by decide +kernel
theorem dL_grows_384 : decode cL_grows 384 = .ok (.ifCond .eq 24, 3) := by decide +kernel
theorem dL_grows_387 : decode cL_grows 387 = .ok (.aload_n 0, 1) := by decide +kernel
theorem dL_grows_388 : decode cL_grows 388 = .ok (.invokevirtual 98, 3) := by decide +kernel
theorem dL_grows_391 : decode cL_grows 391 = .ok (.ifCond .lt 17, 3) := by decide +kernel
theorem dL_grows_394 : decode cL_grows 394 = .ok (.aload_n 0, 1) := by decide +kernel
theorem dL_grows_395 : decode cL_grows 395 = .ok (.invokestatic 90, 3) := by decide +kernel
theorem dL_grows_398 : decode cL_grows 398 = .ok (.lload 13, 2) := by decide +kernel
theorem dL_grows_400 : decode cL_grows 400 = .ok (.lcmp, 1) := by decide +kernel
theorem dL_grows_401 : decode cL_grows 401 = .ok (.ifCond .ne 7, 3) := by decide +kernel
theorem dL_grows_404 : decode cL_grows 404 = .ok (.iconst 1, 1) := by decide +kernel
theorem dL_grows_405 : decode cL_grows 405 = .ok (.goto 4, 3) := by decide +kernel
theorem dL_grows_408 : decode cL_grows 408 = .ok (.iconst 0, 1) := by decide +kernel
theorem dL_grows_409 : decode cL_grows 409 = .ok (.ireturn, 1) := by decide +kernel

abbrev rm_L_grows : Room := ({ frames := 7, cells := 0, slots := 0, locals := 254 } : Room)
theorem ok_L_grows : gOk yL_grows RL 4 := by refine ⟨?_, ?_, ?_, ?_⟩ <;> decide +kernel
def f_L_grows_L342 (D : Nat → Nat → Nat → Int32) (sav : Int32) (old : Int32) (hsz : Int32) (cs : Nat → Int32) (len : Int32) (g : Nat → Int32) (v1 : Int32) (v2 : Int32) (v3 : Int32) (v4 : Int32) (v5 : Int32) (v6 : Int32) (v7 : Int32) (v8 : Int32) (v9 : Int32) (v10 : Int32) (v11 : Int32) (v12 : Int32) (v13 : Int64) (v15 : Int32) : Nat → Int32 → Option Int32
  | 0, _ => none
  | fu + 1, v17 => if v2 ≤ v17 then some v17 else gb (f_X5_read D sav old hsz cs len g v1 (v7 + v17) 1 0) (fun r74 => if r74 = v3 then glet (v17 + 1) (fun x76 => f_L_grows_L342 D sav old hsz cs len g v1 v2 v3 v4 v5 v6 v7 v8 v9 v10 v11 v12 v13 v15 fu x76) else none)
def f_L_grows (D : Nat → Nat → Nat → Int32) (sav : Int32) (old : Int32) (hsz : Int32) (cs : Nat → Int32) (len : Int32) (g : Nat → Int32) (v1 : Int32) (v2 : Int32) (v3 : Int32) : Option (Int32 × (Nat → Nat → Nat → Int32) × Int32 × Int32) := gbb2 (f_X5_ifAppended D sav old hsz cs len g v1 v2 0) (fun r1 D2 => gbb2 (f_X5_ifAppended D2 sav old hsz cs len g v1 v2 1) (fun r3 D4 => gbb2 (f_X5_ifAppended D4 sav old hsz cs len g v1 v2 2) (fun r5 D6 => gb (f_X5_file D6 sav old hsz cs len g v1 0) (fun r7 => gb (f_X5_file D6 sav old hsz cs len g v1 1) (fun r8 => gb (f_X5_file D6 sav old hsz cs len g v1 5) (fun r9 => gb (f_X5_total D6 sav old hsz cs len g 0) (fun r10 => gb (f_X5_total D6 sav old hsz cs len g 1) (fun r11 => gb (f_X5_file D6 sav old hsz cs len g v1 3) (fun r12 => if r12 = 1 then gb (f_X5_room D6 sav old hsz cs len g v1) (fun r540 => if r540 < v2 then gb (f_L_print D6 sav old hsz cs len g) (fun r785 => gbb4 (f_X5_append D6 sav old hsz cs len g v1 v2 v3) (fun r786 D787 old788 hsz789 => if 0 ≤ r786 then none else if r7 = (-1) then if r786 = (-1) then if r1 = r786 then if r3 = r786 then if r5 = r786 then gb (f_L_print D787 sav old788 hsz789 cs len g) (fun r808 => if (lg_cmp r808 r785) = 0 then some (1, D787, old788, hsz789) else none) else none else none else none else none else if r786 = (-4) then if r1 = r786 then if r3 = r786 then if r5 = r786 then gb (f_L_print D787 sav old788 hsz789 cs len g) (fun r814 => if (lg_cmp r814 r785) = 0 then some (1, D787, old788, hsz789) else none) else none else none else none else none)) else gb (f_L_print D6 sav old hsz cs len g) (fun r816 => gbb4 (f_X5_append D6 sav old hsz cs len g v1 v2 v3) (fun r817 D818 old819 hsz820 => if 0 ≤ r817 then if r817 = r1 then gb (f_X5_file D818 sav old819 hsz820 cs len g v1 4) (fun r823 => if r823 = r1 then gb (f_X5_file D818 sav old819 hsz820 cs len g v1 1) (fun r825 => if r825 = r3 then gb (f_X5_count D818 sav old819 hsz820 cs len g 2) (fun r827 => if r827 = r5 then gb (f_X5_file D818 sav old819 hsz820 cs len g v1 0) (fun r829 => if r829 = (r7 + v2) then gb (f_X5_total D818 sav old819 hsz820 cs len g 0) (fun r831 => if r831 = (r10 + v2) then gb (f_L_hangs D818 sav old819 hsz820 cs len g) (fun r833 => if r833 = 0 then none else if r8 < v2 then gb (f_X5_file D818 sav old819 hsz820 cs len g v1 5) (fun r932 => if r3 = 0 then if r932 = r9 then gb (f_L_grows_L342 D818 sav old819 hsz820 cs len g v1 v2 v3 r1 r3 r5 r7 r8 r9 r10 r11 1 r816 r817 gFu 0) (fun o976 => gbb3 (f_X5_undo D818 sav old819 hsz820 cs len g) (fun r977 D978 hsz979 => if r977 < 0 then none else gb (f_L_print D978 sav old819 hsz979 cs len g) (fun r981 => if (lg_cmp r981 r816) = 0 then some (1, D978, old819, hsz979) else none))) else none else if r9 ≤ 7 then if r932 = (2 * r9) then gb (f_L_grows_L342 D818 sav old819 hsz820 cs len g v1 v2 v3 r1 r3 r5 r7 r8 r9 r10 r11 1 r816 r817 gFu 0) (fun o1001 => gbb3 (f_X5_undo D818 sav old819 hsz820 cs len g) (fun r1002 D1003 hsz1004 => if r1002 < 0 then none else gb (f_L_print D1003 sav old819 hsz1004 cs len g) (fun r1006 => if (lg_cmp r1006 r816) = 0 then some (1, D1003, old819, hsz1004) else none))) else none else if r932 = 16 then gb (f_L_grows_L342 D818 sav old819 hsz820 cs len g v1 v2 v3 r1 r3 r5 r7 r8 r9 r10 r11 1 r816 r817 gFu 0) (fun o1009 => gbb3 (f_X5_undo D818 sav old819 hsz820 cs len g) (fun r1010 D1011 hsz1012 => if r1010 < 0 then none else gb (f_L_print D1011 sav old819 hsz1012 cs len g) (fun r1014 => if (lg_cmp r1014 r816) = 0 then some (1, D1011, old819, hsz1012) else none))) else none) else if r3 = (r8 - v2) then gb (f_X5_file D818 sav old819 hsz820 cs len g v1 5) (fun r1017 => if r1017 = r9 then gb (f_X5_total D818 sav old819 hsz820 cs len g 1) (fun r1019 => if r1019 = r11 then gb (f_L_grows_L342 D818 sav old819 hsz820 cs len g v1 v2 v3 r1 r3 r5 r7 r8 r9 r10 r11 1 r816 r817 gFu 0) (fun o1021 => gbb3 (f_X5_undo D818 sav old819 hsz820 cs len g) (fun r1022 D1023 hsz1024 => if r1022 < 0 then none else gb (f_L_print D1023 sav old819 hsz1024 cs len g) (fun r1026 => if (lg_cmp r1026 r816) = 0 then some (1, D1023, old819, hsz1024) else none))) else none) else none) else none) else none) else none) else none) else none) else none) else none else none))) else gb (f_L_print D6 sav old hsz cs len g) (fun r1028 => gbb4 (f_X5_append D6 sav old hsz cs len g v1 v2 v3) (fun r1029 D1030 old1031 hsz1032 => if 0 ≤ r1029 then none else if r7 = (-1) then if r1029 = (-1) then if r1 = r1029 then if r3 = r1029 then if r5 = r1029 then gb (f_L_print D1030 sav old1031 hsz1032 cs len g) (fun r1051 => if (lg_cmp r1051 r1028) = 0 then some (1, D1030, old1031, hsz1032) else none) else none else none else none else none else if r1029 = (-4) then if r1 = r1029 then if r3 = r1029 then if r5 = r1029 then gb (f_L_print D1030 sav old1031 hsz1032 cs len g) (fun r1057 => if (lg_cmp r1057 r1028) = 0 then some (1, D1030, old1031, hsz1032) else none) else none else none else none else none)))))))))))
set_option maxHeartbeats 8000000 in
set_option maxRecDepth 100000 in
theorem cl_L_grows_L342 {X : gX} {Z : gZ} {ad : Nat → Nat} {D : Nat → Nat → Nat → Int32} {sav : Int32} {old : Int32} {hsz : Int32} {cs : Nat → Int32} {len : Int32} {g : Nat → Int32} {v1 : Int32} {v2 : Int32} {v3 : Int32} {v4 : Int32} {v5 : Int32} {v6 : Int32} {v7 : Int32} {v8 : Int32} {v9 : Int32} {v10 : Int32} {v11 : Int32} {v12 : Int32} {v13 : Int64} {v15 : Int32} {o17 : Int32} (C : GC X Z cL_grows 18 wsL_grows RL rm_L_grows 175 ad) (kk : GG X Z 18 175 ad (xE Z.2.1 Z.2.2 ad D sav old hsz cs len g) 382 [(0, .ref (ad 168)), (1, .int v1), (2, .int v2), (3, .int v3), (4, .int v4), (5, .int v5), (6, .int v6), (7, .int v7), (8, .int v8), (9, .int v9), (10, .int v10), (11, .int v11), (12, .int v12), (13, .long v13), (15, .int v15), (16, .int 1), (17, .int o17)] []) : ∀ (fu : Nat) (v17 : Int32) (h : f_L_grows_L342 D sav old hsz cs len g v1 v2 v3 v4 v5 v6 v7 v8 v9 v10 v11 v12 v13 v15 fu v17 = some o17), GG X Z 18 175 ad (xE Z.2.1 Z.2.2 ad D sav old hsz cs len g) 342 [(0, .ref (ad 168)), (1, .int v1), (2, .int v2), (3, .int v3), (4, .int v4), (5, .int v5), (6, .int v6), (7, .int v7), (8, .int v8), (9, .int v9), (10, .int v10), (11, .int v11), (12, .int v12), (13, .long v13), (15, .int v15), (16, .int 1), (17, .int v17)] [] := by
  intro fu
  induction fu with
  | zero => intro v17 h; cases h
  | succ fu ih =>
    intro v17 h
    rw [f_L_grows_L342] at h
    refine g_iload C dL_grows_342 16 rfl ?_
    refine g_iload_n C dL_grows_344 2 rfl ?_
    refine g_icmp_ge (tgt := 382) C dL_grows_345 (by decide) (fun c70 => ?_) (fun c70 => ?_)
    · replace h := gi_pos c70 h
      obtain rfl := gs1 h
      exact g_sub [0, 1, 2, 3, 4, 5, 6, 7, 8, 9, 10, 11, 12, 13, 14, 15, 16] rfl kk
    · replace h := gi_neg c70 h
      refine g_iload C dL_grows_348 15 rfl ?_
      refine g_if_eq (tgt := 382) C dL_grows_350 (by decide) (fun hc => absurd hc (by decide)) (fun _ => ?_)
      refine g_aload_n C dL_grows_353 0 rfl ?_
      refine g_iload_n C dL_grows_354 1 rfl ?_
      refine g_iload C dL_grows_355 7 rfl ?_
      refine g_iload C dL_grows_357 16 rfl ?_
      refine g_iadd C dL_grows_359 ?_
      refine g_iconst (v := 1) C dL_grows_360 (by decide) ?_
      refine g_iconst (v := 0) C dL_grows_361 (by decide) ?_
      obtain ⟨r74, er74, h⟩ := gb1 h
      refine g_callWi (rest := []) C gL_grows_X5_read rfl ok_X5_read ⟨by decide, by decide⟩ ⟨rfl, rfl⟩ 168 (by decide) rfl rfl (fun hI => cn_X5_read X.2.1 Z ad hI D sav old hsz cs len g v1 (v7 + v17) 1 0 er74) rfl dL_grows_362 rfl (Nat.le_of_ble_eq_true rfl) ?_
      refine g_iload_n C dL_grows_365 3 rfl ?_
      obtain ⟨c75, h⟩ := gguard h
      refine g_icmp_ne (tgt := 373) C dL_grows_366 (by decide) (fun hc => absurd c75 hc) (fun _ => ?_)
      refine g_iconst (v := 1) C dL_grows_369 (by decide) ?_
      refine g_goto (tgt := 374) C dL_grows_370 (by decide) ?_
      refine g_istore C dL_grows_374 (by decide) [(16, .int 1), (0, .ref (ad 168)), (1, .int v1), (2, .int v2), (3, .int v3), (4, .int v4), (5, .int v5), (6, .int v6), (7, .int v7), (8, .int v8), (9, .int v9), (10, .int v10), (11, .int v11), (12, .int v12), (13, .long v13), (15, .int v15), (17, .int v17)] rfl ?_
      obtain ⟨x76, ex76, h⟩ := gl h
      refine g_iinc (v := x76) C dL_grows_376 16 rfl (by rw [ex76]; rfl) (by decide) [(17, .int x76), (16, .int 1), (0, .ref (ad 168)), (1, .int v1), (2, .int v2), (3, .int v3), (4, .int v4), (5, .int v5), (6, .int v6), (7, .int v7), (8, .int v8), (9, .int v9), (10, .int v10), (11, .int v11), (12, .int v12), (13, .long v13), (15, .int v15)] rfl ?_
      refine g_goto (tgt := 342) C dL_grows_379 (by decide) ?_
      exact g_sub [2, 3, 4, 5, 6, 7, 8, 9, 10, 11, 12, 13, 14, 15, 16, 1, 0] rfl (ih x76 h)
set_option maxHeartbeats 8000000 in
set_option maxRecDepth 100000 in
theorem cn_L_grows (l : Launch) (Z : gZ) (ad : Nat → Nat) (hI : gInj 175 ad) (D : Nat → Nat → Nat → Int32) (sav : Int32) (old : Int32) (hsz : Int32) (cs : Nat → Int32) (len : Int32) (g : Nat → Int32) (v1 : Int32) (v2 : Int32) (v3 : Int32) {r : Int32} {D' : Nat → Nat → Nat → Int32} {old' : Int32} {hsz' : Int32} (h : f_L_grows D sav old hsz cs len g v1 v2 v3 = some (r, D', old', hsz')) : gI l yL_grows wsL_grows rm_L_grows Z 175 ad [.ref (ad 168), .int v1, .int v2, .int v3] (xE Z.2.1 Z.2.2 ad D sav old hsz cs len g) r (xE Z.2.1 Z.2.2 ad D' sav old' hsz' cs len g) := by
  refine g_entryI (cc := cL_grows) (maxL := 18) (by decide +kernel) rfl hI (Nat.le_of_ble_eq_true rfl) (fun X C e => ?_)
  unfold f_L_grows at h
  show GG X Z 18 175 ad (xE Z.2.1 Z.2.2 ad D sav old hsz cs len g) 0 [(0, .ref (ad 168)), (1, .int v1), (2, .int v2), (3, .int v3)] []
  refine g_aload_n C dL_grows_0 0 rfl ?_
  refine g_iload_n C dL_grows_1 1 rfl ?_
  refine g_iload_n C dL_grows_2 2 rfl ?_
  refine g_iconst (v := 0) C dL_grows_3 (by decide) ?_
  obtain ⟨r1, D2, er1, h⟩ := gb2 h
  refine g_callWi (rest := []) C gL_grows_X5_ifAppended rfl ok_X5_ifAppended ⟨by decide, by decide⟩ ⟨rfl, rfl⟩ 168 (by decide) rfl rfl (fun hI => cn_X5_ifAppended X.2.1 Z ad hI D sav old hsz cs len g v1 v2 0 er1) rfl dL_grows_4 rfl (Nat.le_of_ble_eq_true rfl) ?_
  refine g_istore C dL_grows_7 (by decide) [(4, .int r1), (0, .ref (ad 168)), (1, .int v1), (2, .int v2), (3, .int v3)] rfl ?_
  refine g_aload_n C dL_grows_9 1 rfl ?_
  refine g_iload_n C dL_grows_10 2 rfl ?_
  refine g_iload_n C dL_grows_11 3 rfl ?_
  refine g_iconst (v := 1) C dL_grows_12 (by decide) ?_
  obtain ⟨r3, D4, er3, h⟩ := gb2 h
  refine g_callWi (rest := []) C gL_grows_X5_ifAppended rfl ok_X5_ifAppended ⟨by decide, by decide⟩ ⟨rfl, rfl⟩ 168 (by decide) rfl rfl (fun hI => cn_X5_ifAppended X.2.1 Z ad hI D2 sav old hsz cs len g v1 v2 1 er3) rfl dL_grows_13 rfl (Nat.le_of_ble_eq_true rfl) ?_
  refine g_istore C dL_grows_16 (by decide) [(5, .int r3), (4, .int r1), (0, .ref (ad 168)), (1, .int v1), (2, .int v2), (3, .int v3)] rfl ?_
  refine g_aload_n C dL_grows_18 2 rfl ?_
  refine g_iload_n C dL_grows_19 3 rfl ?_
  refine g_iload_n C dL_grows_20 4 rfl ?_
  refine g_iconst (v := 2) C dL_grows_21 (by decide) ?_
  obtain ⟨r5, D6, er5, h⟩ := gb2 h
  refine g_callWi (rest := []) C gL_grows_X5_ifAppended rfl ok_X5_ifAppended ⟨by decide, by decide⟩ ⟨rfl, rfl⟩ 168 (by decide) rfl rfl (fun hI => cn_X5_ifAppended X.2.1 Z ad hI D4 sav old hsz cs len g v1 v2 2 er5) rfl dL_grows_22 rfl (Nat.le_of_ble_eq_true rfl) ?_
  refine g_istore C dL_grows_25 (by decide) [(6, .int r5), (5, .int r3), (4, .int r1), (0, .ref (ad 168)), (1, .int v1), (2, .int v2), (3, .int v3)] rfl ?_
  refine g_aload_n C dL_grows_27 3 rfl ?_
  refine g_iload_n C dL_grows_28 4 rfl ?_
  refine g_iconst (v := 0) C dL_grows_29 (by decide) ?_
  obtain ⟨r7, er7, h⟩ := gb1 h
  refine g_callWi (rest := []) C gL_grows_X5_file rfl ok_X5_file ⟨by decide, by decide⟩ ⟨rfl, rfl⟩ 168 (by decide) rfl rfl (fun hI => cn_X5_file X.2.1 Z ad hI D6 sav old hsz cs len g v1 0 er7) rfl dL_grows_30 rfl (Nat.le_of_ble_eq_true rfl) ?_
  refine g_istore C dL_grows_33 (by decide) [(7, .int r7), (6, .int r5), (5, .int r3), (4, .int r1), (0, .ref (ad 168)), (1, .int v1), (2, .int v2), (3, .int v3)] rfl ?_
  refine g_aload_n C dL_grows_35 4 rfl ?_
  refine g_iload_n C dL_grows_36 5 rfl ?_
  refine g_iconst (v := 1) C dL_grows_37 (by decide) ?_
  obtain ⟨r8, er8, h⟩ := gb1 h
  refine g_callWi (rest := []) C gL_grows_X5_file rfl ok_X5_file ⟨by decide, by decide⟩ ⟨rfl, rfl⟩ 168 (by decide) rfl rfl (fun hI => cn_X5_file X.2.1 Z ad hI D6 sav old hsz cs len g v1 1 er8) rfl dL_grows_38 rfl (Nat.le_of_ble_eq_true rfl) ?_
  refine g_istore C dL_grows_41 (by decide) [(8, .int r8), (7, .int r7), (6, .int r5), (5, .int r3), (4, .int r1), (0, .ref (ad 168)), (1, .int v1), (2, .int v2), (3, .int v3)] rfl ?_
  refine g_aload_n C dL_grows_43 5 rfl ?_
  refine g_iload_n C dL_grows_44 6 rfl ?_
  refine g_iconst (v := 5) C dL_grows_45 (by decide) ?_
  obtain ⟨r9, er9, h⟩ := gb1 h
  refine g_callWi (rest := []) C gL_grows_X5_file rfl ok_X5_file ⟨by decide, by decide⟩ ⟨rfl, rfl⟩ 168 (by decide) rfl rfl (fun hI => cn_X5_file X.2.1 Z ad hI D6 sav old hsz cs len g v1 5 er9) rfl dL_grows_46 rfl (Nat.le_of_ble_eq_true rfl) ?_
  refine g_istore C dL_grows_49 (by decide) [(9, .int r9), (8, .int r8), (7, .int r7), (6, .int r5), (5, .int r3), (4, .int r1), (0, .ref (ad 168)), (1, .int v1), (2, .int v2), (3, .int v3)] rfl ?_
  refine g_aload_n C dL_grows_51 6 rfl ?_
  refine g_iconst (v := 0) C dL_grows_52 (by decide) ?_
  obtain ⟨r10, er10, h⟩ := gb1 h
  refine g_callWi (rest := []) C gL_grows_X5_total rfl ok_X5_total ⟨by decide, by decide⟩ ⟨rfl, rfl⟩ 168 (by decide) rfl rfl (fun hI => cn_X5_total X.2.1 Z ad hI D6 sav old hsz cs len g 0 er10) rfl dL_grows_53 rfl (Nat.le_of_ble_eq_true rfl) ?_
  refine g_istore C dL_grows_56 (by decide) [(10, .int r10), (9, .int r9), (8, .int r8), (7, .int r7), (6, .int r5), (5, .int r3), (4, .int r1), (0, .ref (ad 168)), (1, .int v1), (2, .int v2), (3, .int v3)] rfl ?_
  refine g_aload_n C dL_grows_58 7 rfl ?_
  refine g_iconst (v := 1) C dL_grows_59 (by decide) ?_
  obtain ⟨r11, er11, h⟩ := gb1 h
  refine g_callWi (rest := []) C gL_grows_X5_total rfl ok_X5_total ⟨by decide, by decide⟩ ⟨rfl, rfl⟩ 168 (by decide) rfl rfl (fun hI => cn_X5_total X.2.1 Z ad hI D6 sav old hsz cs len g 1 er11) rfl dL_grows_60 rfl (Nat.le_of_ble_eq_true rfl) ?_
  refine g_istore C dL_grows_63 (by decide) [(11, .int r11), (10, .int r10), (9, .int r9), (8, .int r8), (7, .int r7), (6, .int r5), (5, .int r3), (4, .int r1), (0, .ref (ad 168)), (1, .int v1), (2, .int v2), (3, .int v3)] rfl ?_
  refine g_aload_n C dL_grows_65 8 rfl ?_
  refine g_iload_n C dL_grows_66 9 rfl ?_
  refine g_iconst (v := 3) C dL_grows_67 (by decide) ?_
  obtain ⟨r12, er12, h⟩ := gb1 h
  refine g_callWi (rest := []) C gL_grows_X5_file rfl ok_X5_file ⟨by decide, by decide⟩ ⟨rfl, rfl⟩ 168 (by decide) rfl rfl (fun hI => cn_X5_file X.2.1 Z ad hI D6 sav old hsz cs len g v1 3 er12) rfl dL_grows_68 rfl (Nat.le_of_ble_eq_true rfl) ?_
  refine g_iconst (v := 1) C dL_grows_71 (by decide) ?_
  refine g_icmp_ne (tgt := 88) C dL_grows_72 (by decide) (fun c13 => ?_) (fun c13 => ?_)
  · replace h := gi_neg c13 h
    refine g_iconst (v := 0) C dL_grows_88 (by decide) ?_
    refine g_istore C dL_grows_89 (by decide) [(12, .int 0), (11, .int r11), (10, .int r10), (9, .int r9), (8, .int r8), (7, .int r7), (6, .int r5), (5, .int r3), (4, .int r1), (0, .ref (ad 168)), (1, .int v1), (2, .int v2), (3, .int v3)] rfl ?_
    refine g_aload_n C dL_grows_91 9 rfl ?_
    obtain ⟨r1028, er1028, h⟩ := gb1 h
    refine g_callTj (rest := []) C gL_grows_L_print rfl ok_L_print ⟨by decide, by decide⟩ ⟨rfl, rfl⟩ (fun hI => cn_L_print X.2.1 Z ad hI D6 sav old hsz cs len g er1028) rfl dL_grows_92 rfl (Nat.le_of_ble_eq_true rfl) ?_
    refine g_lstore C dL_grows_95 (by decide) [(13, .long r1028), (12, .int 0), (11, .int r11), (10, .int r10), (9, .int r9), (8, .int r8), (7, .int r7), (6, .int r5), (5, .int r3), (4, .int r1), (0, .ref (ad 168)), (1, .int v1), (2, .int v2), (3, .int v3)] rfl ?_
    refine g_aload_n C dL_grows_97 10 rfl ?_
    refine g_iload_n C dL_grows_98 11 rfl ?_
    refine g_iload_n C dL_grows_99 12 rfl ?_
    refine g_iload_n C dL_grows_100 13 rfl ?_
    obtain ⟨r1029, D1030, old1031, hsz1032, er1029, h⟩ := gb4 h
    refine g_callWi (rest := []) C gL_grows_X5_append rfl ok_X5_append ⟨by decide, by decide⟩ ⟨rfl, rfl⟩ 168 (by decide) rfl rfl (fun hI => cn_X5_append X.2.1 Z ad hI D6 sav old hsz cs len g v1 v2 v3 er1029) rfl dL_grows_101 rfl (Nat.le_of_ble_eq_true rfl) ?_
    refine g_istore C dL_grows_104 (by decide) [(15, .int r1029), (13, .long r1028), (12, .int 0), (11, .int r11), (10, .int r10), (9, .int r9), (8, .int r8), (7, .int r7), (6, .int r5), (5, .int r3), (4, .int r1), (0, .ref (ad 168)), (1, .int v1), (2, .int v2), (3, .int v3)] rfl ?_
    refine g_iload C dL_grows_106 0 rfl ?_
    obtain ⟨c1033, h⟩ := gnz h
    refine g_if_ge (tgt := 170) C dL_grows_108 (by decide) (fun hc => absurd hc c1033) (fun _ => ?_)
    refine g_iload C dL_grows_111 2 rfl ?_
    refine g_if_ne (tgt := 168) C dL_grows_113 (by decide) (fun hc => absurd (by decide) hc) (fun _ => ?_)
    refine g_iload C dL_grows_116 0 rfl ?_
    refine g_iload C dL_grows_118 7 rfl ?_
    refine g_iconst (v := (-1)) C dL_grows_120 (by decide) ?_
    refine g_icmp_ne (tgt := 128) C dL_grows_121 (by decide) (fun c1034 => ?_) (fun c1034 => ?_)
    · replace h := gi_neg c1034 h
      refine g_bipush (v := (-4)) C dL_grows_128 (by decide) ?_
      obtain ⟨c1053, h⟩ := gguard h
      refine g_icmp_ne (tgt := 168) C dL_grows_130 (by decide) (fun hc => absurd c1053 hc) (fun _ => ?_)
      refine g_iload C dL_grows_133 10 rfl ?_
      refine g_iload C dL_grows_135 0 rfl ?_
      obtain ⟨c1054, h⟩ := gguard h
      refine g_icmp_ne (tgt := 168) C dL_grows_137 (by decide) (fun hc => absurd c1054 hc) (fun _ => ?_)
      refine g_iload C dL_grows_140 9 rfl ?_
      refine g_iload C dL_grows_142 0 rfl ?_
      obtain ⟨c1055, h⟩ := gguard h
      refine g_icmp_ne (tgt := 168) C dL_grows_144 (by decide) (fun hc => absurd c1055 hc) (fun _ => ?_)
      refine g_iload C dL_grows_147 8 rfl ?_
      refine g_iload C dL_grows_149 0 rfl ?_
      obtain ⟨c1056, h⟩ := gguard h
      refine g_icmp_ne (tgt := 168) C dL_grows_151 (by decide) (fun hc => absurd c1056 hc) (fun _ => ?_)
      refine g_aload_n C dL_grows_154 11 rfl ?_
      obtain ⟨r1057, er1057, h⟩ := gb1 h
      refine g_callTj (rest := []) C gL_grows_L_print rfl ok_L_print ⟨by decide, by decide⟩ ⟨rfl, rfl⟩ (fun hI => cn_L_print X.2.1 Z ad hI D1030 sav old1031 hsz1032 cs len g er1057) rfl dL_grows_155 rfl (Nat.le_of_ble_eq_true rfl) ?_
      refine g_lload C dL_grows_158 1 rfl ?_
      refine g_lcmp C dL_grows_160 ?_
      obtain ⟨c1058, h⟩ := gguard h
      refine g_if_ne (tgt := 168) C dL_grows_161 (by decide) (fun hc => absurd c1058 hc) (fun _ => ?_)
      refine g_iconst (v := 1) C dL_grows_164 (by decide) ?_
      refine g_goto (tgt := 169) C dL_grows_165 (by decide) ?_
      obtain ⟨rfl, rfl, rfl, rfl⟩ := gs4 h
      exact g_zret C e rfl dL_grows_169
    · replace h := gi_pos c1034 h
      refine g_iconst (v := (-1)) C dL_grows_124 (by decide) ?_
      refine g_goto (tgt := 130) C dL_grows_125 (by decide) ?_
      obtain ⟨c1047, h⟩ := gguard h
      refine g_icmp_ne (tgt := 168) C dL_grows_130 (by decide) (fun hc => absurd c1047 hc) (fun _ => ?_)
      refine g_iload C dL_grows_133 10 rfl ?_
      refine g_iload C dL_grows_135 0 rfl ?_
      obtain ⟨c1048, h⟩ := gguard h
      refine g_icmp_ne (tgt := 168) C dL_grows_137 (by decide) (fun hc => absurd c1048 hc) (fun _ => ?_)
      refine g_iload C dL_grows_140 9 rfl ?_
      refine g_iload C dL_grows_142 0 rfl ?_
      obtain ⟨c1049, h⟩ := gguard h
      refine g_icmp_ne (tgt := 168) C dL_grows_144 (by decide) (fun hc => absurd c1049 hc) (fun _ => ?_)
      refine g_iload C dL_grows_147 8 rfl ?_
      refine g_iload C dL_grows_149 0 rfl ?_
      obtain ⟨c1050, h⟩ := gguard h
      refine g_icmp_ne (tgt := 168) C dL_grows_151 (by decide) (fun hc => absurd c1050 hc) (fun _ => ?_)
      refine g_aload_n C dL_grows_154 11 rfl ?_
      obtain ⟨r1051, er1051, h⟩ := gb1 h
      refine g_callTj (rest := []) C gL_grows_L_print rfl ok_L_print ⟨by decide, by decide⟩ ⟨rfl, rfl⟩ (fun hI => cn_L_print X.2.1 Z ad hI D1030 sav old1031 hsz1032 cs len g er1051) rfl dL_grows_155 rfl (Nat.le_of_ble_eq_true rfl) ?_
      refine g_lload C dL_grows_158 1 rfl ?_
      refine g_lcmp C dL_grows_160 ?_
      obtain ⟨c1052, h⟩ := gguard h
      refine g_if_ne (tgt := 168) C dL_grows_161 (by decide) (fun hc => absurd c1052 hc) (fun _ => ?_)
      refine g_iconst (v := 1) C dL_grows_164 (by decide) ?_
      refine g_goto (tgt := 169) C dL_grows_165 (by decide) ?_
      obtain ⟨rfl, rfl, rfl, rfl⟩ := gs4 h
      exact g_zret C e rfl dL_grows_169
  · replace h := gi_pos c13 h
    refine g_iload_n C dL_grows_75 10 rfl ?_
    refine g_aload_n C dL_grows_76 8 rfl ?_
    refine g_iload_n C dL_grows_77 9 rfl ?_
    obtain ⟨r540, er540, h⟩ := gb1 h
    refine g_callWi (rest := [.int v2]) C gL_grows_X5_room rfl ok_X5_room ⟨by decide, by decide⟩ ⟨rfl, rfl⟩ 168 (by decide) rfl rfl (fun hI => cn_X5_room X.2.1 Z ad hI D6 sav old hsz cs len g v1 er540) rfl dL_grows_78 rfl (Nat.le_of_ble_eq_true rfl) ?_
    refine g_icmp_gt (tgt := 88) C dL_grows_81 (by decide) (fun c541 => ?_) (fun c541 => ?_)
    · replace h := gi_pos c541 h
      refine g_iconst (v := 0) C dL_grows_88 (by decide) ?_
      refine g_istore C dL_grows_89 (by decide) [(12, .int 0), (11, .int r11), (10, .int r10), (9, .int r9), (8, .int r8), (7, .int r7), (6, .int r5), (5, .int r3), (4, .int r1), (0, .ref (ad 168)), (1, .int v1), (2, .int v2), (3, .int v3)] rfl ?_
      refine g_aload_n C dL_grows_91 9 rfl ?_
      obtain ⟨r785, er785, h⟩ := gb1 h
      refine g_callTj (rest := []) C gL_grows_L_print rfl ok_L_print ⟨by decide, by decide⟩ ⟨rfl, rfl⟩ (fun hI => cn_L_print X.2.1 Z ad hI D6 sav old hsz cs len g er785) rfl dL_grows_92 rfl (Nat.le_of_ble_eq_true rfl) ?_
      refine g_lstore C dL_grows_95 (by decide) [(13, .long r785), (12, .int 0), (11, .int r11), (10, .int r10), (9, .int r9), (8, .int r8), (7, .int r7), (6, .int r5), (5, .int r3), (4, .int r1), (0, .ref (ad 168)), (1, .int v1), (2, .int v2), (3, .int v3)] rfl ?_
      refine g_aload_n C dL_grows_97 10 rfl ?_
      refine g_iload_n C dL_grows_98 11 rfl ?_
      refine g_iload_n C dL_grows_99 12 rfl ?_
      refine g_iload_n C dL_grows_100 13 rfl ?_
      obtain ⟨r786, D787, old788, hsz789, er786, h⟩ := gb4 h
      refine g_callWi (rest := []) C gL_grows_X5_append rfl ok_X5_append ⟨by decide, by decide⟩ ⟨rfl, rfl⟩ 168 (by decide) rfl rfl (fun hI => cn_X5_append X.2.1 Z ad hI D6 sav old hsz cs len g v1 v2 v3 er786) rfl dL_grows_101 rfl (Nat.le_of_ble_eq_true rfl) ?_
      refine g_istore C dL_grows_104 (by decide) [(15, .int r786), (13, .long r785), (12, .int 0), (11, .int r11), (10, .int r10), (9, .int r9), (8, .int r8), (7, .int r7), (6, .int r5), (5, .int r3), (4, .int r1), (0, .ref (ad 168)), (1, .int v1), (2, .int v2), (3, .int v3)] rfl ?_
      refine g_iload C dL_grows_106 0 rfl ?_
      obtain ⟨c790, h⟩ := gnz h
      refine g_if_ge (tgt := 170) C dL_grows_108 (by decide) (fun hc => absurd hc c790) (fun _ => ?_)
      refine g_iload C dL_grows_111 2 rfl ?_
      refine g_if_ne (tgt := 168) C dL_grows_113 (by decide) (fun hc => absurd (by decide) hc) (fun _ => ?_)
      refine g_iload C dL_grows_116 0 rfl ?_
      refine g_iload C dL_grows_118 7 rfl ?_
      refine g_iconst (v := (-1)) C dL_grows_120 (by decide) ?_
      refine g_icmp_ne (tgt := 128) C dL_grows_121 (by decide) (fun c791 => ?_) (fun c791 => ?_)
      · replace h := gi_neg c791 h
        refine g_bipush (v := (-4)) C dL_grows_128 (by decide) ?_
        obtain ⟨c810, h⟩ := gguard h
        refine g_icmp_ne (tgt := 168) C dL_grows_130 (by decide) (fun hc => absurd c810 hc) (fun _ => ?_)
        refine g_iload C dL_grows_133 10 rfl ?_
        refine g_iload C dL_grows_135 0 rfl ?_
        obtain ⟨c811, h⟩ := gguard h
        refine g_icmp_ne (tgt := 168) C dL_grows_137 (by decide) (fun hc => absurd c811 hc) (fun _ => ?_)
        refine g_iload C dL_grows_140 9 rfl ?_
        refine g_iload C dL_grows_142 0 rfl ?_
        obtain ⟨c812, h⟩ := gguard h
        refine g_icmp_ne (tgt := 168) C dL_grows_144 (by decide) (fun hc => absurd c812 hc) (fun _ => ?_)
        refine g_iload C dL_grows_147 8 rfl ?_
        refine g_iload C dL_grows_149 0 rfl ?_
        obtain ⟨c813, h⟩ := gguard h
        refine g_icmp_ne (tgt := 168) C dL_grows_151 (by decide) (fun hc => absurd c813 hc) (fun _ => ?_)
        refine g_aload_n C dL_grows_154 11 rfl ?_
        obtain ⟨r814, er814, h⟩ := gb1 h
        refine g_callTj (rest := []) C gL_grows_L_print rfl ok_L_print ⟨by decide, by decide⟩ ⟨rfl, rfl⟩ (fun hI => cn_L_print X.2.1 Z ad hI D787 sav old788 hsz789 cs len g er814) rfl dL_grows_155 rfl (Nat.le_of_ble_eq_true rfl) ?_
        refine g_lload C dL_grows_158 1 rfl ?_
        refine g_lcmp C dL_grows_160 ?_
        obtain ⟨c815, h⟩ := gguard h
        refine g_if_ne (tgt := 168) C dL_grows_161 (by decide) (fun hc => absurd c815 hc) (fun _ => ?_)
        refine g_iconst (v := 1) C dL_grows_164 (by decide) ?_
        refine g_goto (tgt := 169) C dL_grows_165 (by decide) ?_
        obtain ⟨rfl, rfl, rfl, rfl⟩ := gs4 h
        exact g_zret C e rfl dL_grows_169
      · replace h := gi_pos c791 h
        refine g_iconst (v := (-1)) C dL_grows_124 (by decide) ?_
        refine g_goto (tgt := 130) C dL_grows_125 (by decide) ?_
        obtain ⟨c804, h⟩ := gguard h
        refine g_icmp_ne (tgt := 168) C dL_grows_130 (by decide) (fun hc => absurd c804 hc) (fun _ => ?_)
        refine g_iload C dL_grows_133 10 rfl ?_
        refine g_iload C dL_grows_135 0 rfl ?_
        obtain ⟨c805, h⟩ := gguard h
        refine g_icmp_ne (tgt := 168) C dL_grows_137 (by decide) (fun hc => absurd c805 hc) (fun _ => ?_)
        refine g_iload C dL_grows_140 9 rfl ?_
        refine g_iload C dL_grows_142 0 rfl ?_
        obtain ⟨c806, h⟩ := gguard h
        refine g_icmp_ne (tgt := 168) C dL_grows_144 (by decide) (fun hc => absurd c806 hc) (fun _ => ?_)
        refine g_iload C dL_grows_147 8 rfl ?_
        refine g_iload C dL_grows_149 0 rfl ?_
        obtain ⟨c807, h⟩ := gguard h
        refine g_icmp_ne (tgt := 168) C dL_grows_151 (by decide) (fun hc => absurd c807 hc) (fun _ => ?_)
        refine g_aload_n C dL_grows_154 11 rfl ?_
        obtain ⟨r808, er808, h⟩ := gb1 h
        refine g_callTj (rest := []) C gL_grows_L_print rfl ok_L_print ⟨by decide, by decide⟩ ⟨rfl, rfl⟩ (fun hI => cn_L_print X.2.1 Z ad hI D787 sav old788 hsz789 cs len g er808) rfl dL_grows_155 rfl (Nat.le_of_ble_eq_true rfl) ?_
        refine g_lload C dL_grows_158 1 rfl ?_
        refine g_lcmp C dL_grows_160 ?_
        obtain ⟨c809, h⟩ := gguard h
        refine g_if_ne (tgt := 168) C dL_grows_161 (by decide) (fun hc => absurd c809 hc) (fun _ => ?_)
        refine g_iconst (v := 1) C dL_grows_164 (by decide) ?_
        refine g_goto (tgt := 169) C dL_grows_165 (by decide) ?_
        obtain ⟨rfl, rfl, rfl, rfl⟩ := gs4 h
        exact g_zret C e rfl dL_grows_169
    · replace h := gi_neg c541 h
      refine g_iconst (v := 1) C dL_grows_84 (by decide) ?_
      refine g_goto (tgt := 89) C dL_grows_85 (by decide) ?_
      refine g_istore C dL_grows_89 (by decide) [(12, .int 1), (11, .int r11), (10, .int r10), (9, .int r9), (8, .int r8), (7, .int r7), (6, .int r5), (5, .int r3), (4, .int r1), (0, .ref (ad 168)), (1, .int v1), (2, .int v2), (3, .int v3)] rfl ?_
      refine g_aload_n C dL_grows_91 9 rfl ?_
      obtain ⟨r816, er816, h⟩ := gb1 h
      refine g_callTj (rest := []) C gL_grows_L_print rfl ok_L_print ⟨by decide, by decide⟩ ⟨rfl, rfl⟩ (fun hI => cn_L_print X.2.1 Z ad hI D6 sav old hsz cs len g er816) rfl dL_grows_92 rfl (Nat.le_of_ble_eq_true rfl) ?_
      refine g_lstore C dL_grows_95 (by decide) [(13, .long r816), (12, .int 1), (11, .int r11), (10, .int r10), (9, .int r9), (8, .int r8), (7, .int r7), (6, .int r5), (5, .int r3), (4, .int r1), (0, .ref (ad 168)), (1, .int v1), (2, .int v2), (3, .int v3)] rfl ?_
      refine g_aload_n C dL_grows_97 10 rfl ?_
      refine g_iload_n C dL_grows_98 11 rfl ?_
      refine g_iload_n C dL_grows_99 12 rfl ?_
      refine g_iload_n C dL_grows_100 13 rfl ?_
      obtain ⟨r817, D818, old819, hsz820, er817, h⟩ := gb4 h
      refine g_callWi (rest := []) C gL_grows_X5_append rfl ok_X5_append ⟨by decide, by decide⟩ ⟨rfl, rfl⟩ 168 (by decide) rfl rfl (fun hI => cn_X5_append X.2.1 Z ad hI D6 sav old hsz cs len g v1 v2 v3 er817) rfl dL_grows_101 rfl (Nat.le_of_ble_eq_true rfl) ?_
      refine g_istore C dL_grows_104 (by decide) [(15, .int r817), (13, .long r816), (12, .int 1), (11, .int r11), (10, .int r10), (9, .int r9), (8, .int r8), (7, .int r7), (6, .int r5), (5, .int r3), (4, .int r1), (0, .ref (ad 168)), (1, .int v1), (2, .int v2), (3, .int v3)] rfl ?_
      refine g_iload C dL_grows_106 0 rfl ?_
      obtain ⟨c821, h⟩ := gguard h
      refine g_if_ge (tgt := 170) C dL_grows_108 (by decide) (fun _ => ?_) (fun hc => absurd c821 hc)
      refine g_iload C dL_grows_170 2 rfl ?_
      refine g_if_eq (tgt := 250) C dL_grows_172 (by decide) (fun hc => absurd hc (by decide)) (fun _ => ?_)
      refine g_iload C dL_grows_175 0 rfl ?_
      refine g_iload C dL_grows_177 10 rfl ?_
      obtain ⟨c822, h⟩ := gguard h
      refine g_icmp_ne (tgt := 250) C dL_grows_179 (by decide) (fun hc => absurd c822 hc) (fun _ => ?_)
      refine g_aload_n C dL_grows_182 11 rfl ?_
      refine g_iload_n C dL_grows_183 12 rfl ?_
      refine g_iconst (v := 4) C dL_grows_184 (by decide) ?_
      obtain ⟨r823, er823, h⟩ := gb1 h
      refine g_callWi (rest := []) C gL_grows_X5_file rfl ok_X5_file ⟨by decide, by decide⟩ ⟨rfl, rfl⟩ 168 (by decide) rfl rfl (fun hI => cn_X5_file X.2.1 Z ad hI D818 sav old819 hsz820 cs len g v1 4 er823) rfl dL_grows_185 rfl (Nat.le_of_ble_eq_true rfl) ?_
      refine g_iload C dL_grows_188 10 rfl ?_
      obtain ⟨c824, h⟩ := gguard h
      refine g_icmp_ne (tgt := 250) C dL_grows_190 (by decide) (fun hc => absurd c824 hc) (fun _ => ?_)
      refine g_aload_n C dL_grows_193 11 rfl ?_
      refine g_iload_n C dL_grows_194 12 rfl ?_
      refine g_iconst (v := 1) C dL_grows_195 (by decide) ?_
      obtain ⟨r825, er825, h⟩ := gb1 h
      refine g_callWi (rest := []) C gL_grows_X5_file rfl ok_X5_file ⟨by decide, by decide⟩ ⟨rfl, rfl⟩ 168 (by decide) rfl rfl (fun hI => cn_X5_file X.2.1 Z ad hI D818 sav old819 hsz820 cs len g v1 1 er825) rfl dL_grows_196 rfl (Nat.le_of_ble_eq_true rfl) ?_
      refine g_iload C dL_grows_199 9 rfl ?_
      obtain ⟨c826, h⟩ := gguard h
      refine g_icmp_ne (tgt := 250) C dL_grows_201 (by decide) (fun hc => absurd c826 hc) (fun _ => ?_)
      refine g_aload_n C dL_grows_204 11 rfl ?_
      refine g_iconst (v := 2) C dL_grows_205 (by decide) ?_
      obtain ⟨r827, er827, h⟩ := gb1 h
      refine g_callWi (rest := []) C gL_grows_X5_count rfl ok_X5_count ⟨by decide, by decide⟩ ⟨rfl, rfl⟩ 168 (by decide) rfl rfl (fun hI => cn_X5_count X.2.1 Z ad hI D818 sav old819 hsz820 cs len g 2 er827) rfl dL_grows_206 rfl (Nat.le_of_ble_eq_true rfl) ?_
      refine g_iload C dL_grows_209 8 rfl ?_
      obtain ⟨c828, h⟩ := gguard h
      refine g_icmp_ne (tgt := 250) C dL_grows_211 (by decide) (fun hc => absurd c828 hc) (fun _ => ?_)
      refine g_aload_n C dL_grows_214 11 rfl ?_
      refine g_iload_n C dL_grows_215 12 rfl ?_
      refine g_iconst (v := 0) C dL_grows_216 (by decide) ?_
      obtain ⟨r829, er829, h⟩ := gb1 h
      refine g_callWi (rest := []) C gL_grows_X5_file rfl ok_X5_file ⟨by decide, by decide⟩ ⟨rfl, rfl⟩ 168 (by decide) rfl rfl (fun hI => cn_X5_file X.2.1 Z ad hI D818 sav old819 hsz820 cs len g v1 0 er829) rfl dL_grows_217 rfl (Nat.le_of_ble_eq_true rfl) ?_
      refine g_iload C dL_grows_220 7 rfl ?_
      refine g_iload_n C dL_grows_222 13 rfl ?_
      refine g_iadd C dL_grows_223 ?_
      obtain ⟨c830, h⟩ := gguard h
      refine g_icmp_ne (tgt := 250) C dL_grows_224 (by decide) (fun hc => absurd c830 hc) (fun _ => ?_)
      refine g_aload_n C dL_grows_227 11 rfl ?_
      refine g_iconst (v := 0) C dL_grows_228 (by decide) ?_
      obtain ⟨r831, er831, h⟩ := gb1 h
      refine g_callWi (rest := []) C gL_grows_X5_total rfl ok_X5_total ⟨by decide, by decide⟩ ⟨rfl, rfl⟩ 168 (by decide) rfl rfl (fun hI => cn_X5_total X.2.1 Z ad hI D818 sav old819 hsz820 cs len g 0 er831) rfl dL_grows_229 rfl (Nat.le_of_ble_eq_true rfl) ?_
      refine g_iload C dL_grows_232 4 rfl ?_
      refine g_iload_n C dL_grows_234 13 rfl ?_
      refine g_iadd C dL_grows_235 ?_
      obtain ⟨c832, h⟩ := gguard h
      refine g_icmp_ne (tgt := 250) C dL_grows_236 (by decide) (fun hc => absurd c832 hc) (fun _ => ?_)
      refine g_aload_n C dL_grows_239 11 rfl ?_
      obtain ⟨r833, er833, h⟩ := gb1 h
      refine g_callTi (rest := []) C gL_grows_L_hangs rfl ok_L_hangs ⟨by decide, by decide⟩ ⟨rfl, rfl⟩ (fun hI => cn_L_hangs X.2.1 Z ad hI D818 sav old819 hsz820 cs len g er833) rfl dL_grows_240 rfl (Nat.le_of_ble_eq_true rfl) ?_
      obtain ⟨c834, h⟩ := gnz h
      refine g_if_eq (tgt := 250) C dL_grows_243 (by decide) (fun hc => absurd hc c834) (fun _ => ?_)
      refine g_iconst (v := 1) C dL_grows_246 (by decide) ?_
      refine g_goto (tgt := 251) C dL_grows_247 (by decide) ?_
      refine g_istore C dL_grows_251 (by decide) [(16, .int 1), (15, .int r817), (13, .long r816), (12, .int 1), (11, .int r11), (10, .int r10), (9, .int r9), (8, .int r8), (7, .int r7), (6, .int r5), (5, .int r3), (4, .int r1), (0, .ref (ad 168)), (1, .int v1), (2, .int v2), (3, .int v3)] rfl ?_
      refine g_iload C dL_grows_253 0 rfl ?_
      refine g_if_eq (tgt := 336) C dL_grows_255 (by decide) (fun hc => absurd hc (by decide)) (fun _ => ?_)
      refine g_iload_n C dL_grows_258 14 rfl ?_
      refine g_iload C dL_grows_259 7 rfl ?_
      refine g_icmp_gt (tgt := 297) C dL_grows_261 (by decide) (fun c835 => ?_) (fun c835 => ?_)
      · replace h := gi_pos c835 h
        refine g_aload_n C dL_grows_297 12 rfl ?_
        refine g_iload_n C dL_grows_298 13 rfl ?_
        refine g_iconst (v := 5) C dL_grows_299 (by decide) ?_
        obtain ⟨r932, er932, h⟩ := gb1 h
        refine g_callWi (rest := []) C gL_grows_X5_file rfl ok_X5_file ⟨by decide, by decide⟩ ⟨rfl, rfl⟩ 168 (by decide) rfl rfl (fun hI => cn_X5_file X.2.1 Z ad hI D818 sav old819 hsz820 cs len g v1 5 er932) rfl dL_grows_300 rfl (Nat.le_of_ble_eq_true rfl) ?_
        refine g_iload C dL_grows_303 10 rfl ?_
        refine g_if_ne (tgt := 313) C dL_grows_305 (by decide) (fun c933 => ?_) (fun c933 => ?_)
        · replace h := gi_neg c933 h
          refine g_iload C dL_grows_313 6 rfl ?_
          refine g_bipush (v := 7) C dL_grows_315 (by decide) ?_
          refine g_icmp_le (tgt := 325) C dL_grows_317 (by decide) (fun c983 => ?_) (fun c983 => ?_)
          · replace h := gi_pos c983 h
            refine g_iconst (v := 2) C dL_grows_325 (by decide) ?_
            refine g_iload C dL_grows_326 6 rfl ?_
            refine g_imul C dL_grows_328 ?_
            obtain ⟨c1000, h⟩ := gguard h
            refine g_icmp_ne (tgt := 336) C dL_grows_329 (by decide) (fun hc => absurd c1000 hc) (fun _ => ?_)
            refine g_iconst (v := 1) C dL_grows_332 (by decide) ?_
            refine g_goto (tgt := 337) C dL_grows_333 (by decide) ?_
            refine g_istore C dL_grows_337 (by decide) [(16, .int 1), (15, .int r817), (13, .long r816), (12, .int 1), (11, .int r11), (10, .int r10), (9, .int r9), (8, .int r8), (7, .int r7), (6, .int r5), (5, .int r3), (4, .int r1), (0, .ref (ad 168)), (1, .int v1), (2, .int v2), (3, .int v3)] rfl ?_
            refine g_iconst (v := 0) C dL_grows_339 (by decide) ?_
            refine g_istore C dL_grows_340 (by decide) [(17, .int 0), (16, .int 1), (15, .int r817), (13, .long r816), (12, .int 1), (11, .int r11), (10, .int r10), (9, .int r9), (8, .int r8), (7, .int r7), (6, .int r5), (5, .int r3), (4, .int r1), (0, .ref (ad 168)), (1, .int v1), (2, .int v2), (3, .int v3)] rfl ?_
            obtain ⟨o1001, eo1001, h⟩ := gb1 h
            refine g_sub [13, 14, 15, 16, 12, 11, 10, 9, 8, 7, 6, 5, 4, 3, 2, 1, 0] rfl (cl_L_grows_L342 C ?_ gFu 0 eo1001)
            refine g_iload C dL_grows_382 15 rfl ?_
            refine g_if_eq (tgt := 408) C dL_grows_384 (by decide) (fun hc => absurd hc (by decide)) (fun _ => ?_)
            refine g_aload_n C dL_grows_387 0 rfl ?_
            obtain ⟨r1002, D1003, hsz1004, er1002, h⟩ := gb3 h
            refine g_callWi (rest := []) C gL_grows_X5_undo rfl ok_X5_undo ⟨by decide, by decide⟩ ⟨rfl, rfl⟩ 168 (by decide) rfl rfl (fun hI => cn_X5_undo X.2.1 Z ad hI D818 sav old819 hsz820 cs len g er1002) rfl dL_grows_388 rfl (Nat.le_of_ble_eq_true rfl) ?_
            obtain ⟨c1005, h⟩ := gnz h
            refine g_if_lt (tgt := 408) C dL_grows_391 (by decide) (fun hc => absurd hc c1005) (fun _ => ?_)
            refine g_aload_n C dL_grows_394 0 rfl ?_
            obtain ⟨r1006, er1006, h⟩ := gb1 h
            refine g_callTj (rest := []) C gL_grows_L_print rfl ok_L_print ⟨by decide, by decide⟩ ⟨rfl, rfl⟩ (fun hI => cn_L_print X.2.1 Z ad hI D1003 sav old819 hsz1004 cs len g er1006) rfl dL_grows_395 rfl (Nat.le_of_ble_eq_true rfl) ?_
            refine g_lload C dL_grows_398 13 rfl ?_
            refine g_lcmp C dL_grows_400 ?_
            obtain ⟨c1007, h⟩ := gguard h
            refine g_if_ne (tgt := 408) C dL_grows_401 (by decide) (fun hc => absurd c1007 hc) (fun _ => ?_)
            refine g_iconst (v := 1) C dL_grows_404 (by decide) ?_
            refine g_goto (tgt := 409) C dL_grows_405 (by decide) ?_
            obtain ⟨rfl, rfl, rfl, rfl⟩ := gs4 h
            exact g_zret C e rfl dL_grows_409
          · replace h := gi_neg c983 h
            refine g_bipush (v := 16) C dL_grows_320 (by decide) ?_
            refine g_goto (tgt := 329) C dL_grows_322 (by decide) ?_
            obtain ⟨c1008, h⟩ := gguard h
            refine g_icmp_ne (tgt := 336) C dL_grows_329 (by decide) (fun hc => absurd c1008 hc) (fun _ => ?_)
            refine g_iconst (v := 1) C dL_grows_332 (by decide) ?_
            refine g_goto (tgt := 337) C dL_grows_333 (by decide) ?_
            refine g_istore C dL_grows_337 (by decide) [(16, .int 1), (15, .int r817), (13, .long r816), (12, .int 1), (11, .int r11), (10, .int r10), (9, .int r9), (8, .int r8), (7, .int r7), (6, .int r5), (5, .int r3), (4, .int r1), (0, .ref (ad 168)), (1, .int v1), (2, .int v2), (3, .int v3)] rfl ?_
            refine g_iconst (v := 0) C dL_grows_339 (by decide) ?_
            refine g_istore C dL_grows_340 (by decide) [(17, .int 0), (16, .int 1), (15, .int r817), (13, .long r816), (12, .int 1), (11, .int r11), (10, .int r10), (9, .int r9), (8, .int r8), (7, .int r7), (6, .int r5), (5, .int r3), (4, .int r1), (0, .ref (ad 168)), (1, .int v1), (2, .int v2), (3, .int v3)] rfl ?_
            obtain ⟨o1009, eo1009, h⟩ := gb1 h
            refine g_sub [13, 14, 15, 16, 12, 11, 10, 9, 8, 7, 6, 5, 4, 3, 2, 1, 0] rfl (cl_L_grows_L342 C ?_ gFu 0 eo1009)
            refine g_iload C dL_grows_382 15 rfl ?_
            refine g_if_eq (tgt := 408) C dL_grows_384 (by decide) (fun hc => absurd hc (by decide)) (fun _ => ?_)
            refine g_aload_n C dL_grows_387 0 rfl ?_
            obtain ⟨r1010, D1011, hsz1012, er1010, h⟩ := gb3 h
            refine g_callWi (rest := []) C gL_grows_X5_undo rfl ok_X5_undo ⟨by decide, by decide⟩ ⟨rfl, rfl⟩ 168 (by decide) rfl rfl (fun hI => cn_X5_undo X.2.1 Z ad hI D818 sav old819 hsz820 cs len g er1010) rfl dL_grows_388 rfl (Nat.le_of_ble_eq_true rfl) ?_
            obtain ⟨c1013, h⟩ := gnz h
            refine g_if_lt (tgt := 408) C dL_grows_391 (by decide) (fun hc => absurd hc c1013) (fun _ => ?_)
            refine g_aload_n C dL_grows_394 0 rfl ?_
            obtain ⟨r1014, er1014, h⟩ := gb1 h
            refine g_callTj (rest := []) C gL_grows_L_print rfl ok_L_print ⟨by decide, by decide⟩ ⟨rfl, rfl⟩ (fun hI => cn_L_print X.2.1 Z ad hI D1011 sav old819 hsz1012 cs len g er1014) rfl dL_grows_395 rfl (Nat.le_of_ble_eq_true rfl) ?_
            refine g_lload C dL_grows_398 13 rfl ?_
            refine g_lcmp C dL_grows_400 ?_
            obtain ⟨c1015, h⟩ := gguard h
            refine g_if_ne (tgt := 408) C dL_grows_401 (by decide) (fun hc => absurd c1015 hc) (fun _ => ?_)
            refine g_iconst (v := 1) C dL_grows_404 (by decide) ?_
            refine g_goto (tgt := 409) C dL_grows_405 (by decide) ?_
            obtain ⟨rfl, rfl, rfl, rfl⟩ := gs4 h
            exact g_zret C e rfl dL_grows_409
        · replace h := gi_pos c933 h
          refine g_iload C dL_grows_308 6 rfl ?_
          refine g_goto (tgt := 329) C dL_grows_310 (by decide) ?_
          obtain ⟨c975, h⟩ := gguard h
          refine g_icmp_ne (tgt := 336) C dL_grows_329 (by decide) (fun hc => absurd c975 hc) (fun _ => ?_)
          refine g_iconst (v := 1) C dL_grows_332 (by decide) ?_
          refine g_goto (tgt := 337) C dL_grows_333 (by decide) ?_
          refine g_istore C dL_grows_337 (by decide) [(16, .int 1), (15, .int r817), (13, .long r816), (12, .int 1), (11, .int r11), (10, .int r10), (9, .int r9), (8, .int r8), (7, .int r7), (6, .int r5), (5, .int r3), (4, .int r1), (0, .ref (ad 168)), (1, .int v1), (2, .int v2), (3, .int v3)] rfl ?_
          refine g_iconst (v := 0) C dL_grows_339 (by decide) ?_
          refine g_istore C dL_grows_340 (by decide) [(17, .int 0), (16, .int 1), (15, .int r817), (13, .long r816), (12, .int 1), (11, .int r11), (10, .int r10), (9, .int r9), (8, .int r8), (7, .int r7), (6, .int r5), (5, .int r3), (4, .int r1), (0, .ref (ad 168)), (1, .int v1), (2, .int v2), (3, .int v3)] rfl ?_
          obtain ⟨o976, eo976, h⟩ := gb1 h
          refine g_sub [13, 14, 15, 16, 12, 11, 10, 9, 8, 7, 6, 5, 4, 3, 2, 1, 0] rfl (cl_L_grows_L342 C ?_ gFu 0 eo976)
          refine g_iload C dL_grows_382 15 rfl ?_
          refine g_if_eq (tgt := 408) C dL_grows_384 (by decide) (fun hc => absurd hc (by decide)) (fun _ => ?_)
          refine g_aload_n C dL_grows_387 0 rfl ?_
          obtain ⟨r977, D978, hsz979, er977, h⟩ := gb3 h
          refine g_callWi (rest := []) C gL_grows_X5_undo rfl ok_X5_undo ⟨by decide, by decide⟩ ⟨rfl, rfl⟩ 168 (by decide) rfl rfl (fun hI => cn_X5_undo X.2.1 Z ad hI D818 sav old819 hsz820 cs len g er977) rfl dL_grows_388 rfl (Nat.le_of_ble_eq_true rfl) ?_
          obtain ⟨c980, h⟩ := gnz h
          refine g_if_lt (tgt := 408) C dL_grows_391 (by decide) (fun hc => absurd hc c980) (fun _ => ?_)
          refine g_aload_n C dL_grows_394 0 rfl ?_
          obtain ⟨r981, er981, h⟩ := gb1 h
          refine g_callTj (rest := []) C gL_grows_L_print rfl ok_L_print ⟨by decide, by decide⟩ ⟨rfl, rfl⟩ (fun hI => cn_L_print X.2.1 Z ad hI D978 sav old819 hsz979 cs len g er981) rfl dL_grows_395 rfl (Nat.le_of_ble_eq_true rfl) ?_
          refine g_lload C dL_grows_398 13 rfl ?_
          refine g_lcmp C dL_grows_400 ?_
          obtain ⟨c982, h⟩ := gguard h
          refine g_if_ne (tgt := 408) C dL_grows_401 (by decide) (fun hc => absurd c982 hc) (fun _ => ?_)
          refine g_iconst (v := 1) C dL_grows_404 (by decide) ?_
          refine g_goto (tgt := 409) C dL_grows_405 (by decide) ?_
          obtain ⟨rfl, rfl, rfl, rfl⟩ := gs4 h
          exact g_zret C e rfl dL_grows_409
      · replace h := gi_neg c835 h
        refine g_iload C dL_grows_264 10 rfl ?_
        refine g_iload C dL_grows_266 7 rfl ?_
        refine g_iload_n C dL_grows_268 14 rfl ?_
        refine g_isub C dL_grows_269 ?_
        obtain ⟨c1016, h⟩ := gguard h
        refine g_icmp_ne (tgt := 336) C dL_grows_270 (by decide) (fun hc => absurd c1016 hc) (fun _ => ?_)
        refine g_aload_n C dL_grows_273 12 rfl ?_
        refine g_iload_n C dL_grows_274 13 rfl ?_
        refine g_iconst (v := 5) C dL_grows_275 (by decide) ?_
        obtain ⟨r1017, er1017, h⟩ := gb1 h
        refine g_callWi (rest := []) C gL_grows_X5_file rfl ok_X5_file ⟨by decide, by decide⟩ ⟨rfl, rfl⟩ 168 (by decide) rfl rfl (fun hI => cn_X5_file X.2.1 Z ad hI D818 sav old819 hsz820 cs len g v1 5 er1017) rfl dL_grows_276 rfl (Nat.le_of_ble_eq_true rfl) ?_
        refine g_iload C dL_grows_279 6 rfl ?_
        obtain ⟨c1018, h⟩ := gguard h
        refine g_icmp_ne (tgt := 336) C dL_grows_281 (by decide) (fun hc => absurd c1018 hc) (fun _ => ?_)
        refine g_aload_n C dL_grows_284 12 rfl ?_
        refine g_iconst (v := 1) C dL_grows_285 (by decide) ?_
        obtain ⟨r1019, er1019, h⟩ := gb1 h
        refine g_callWi (rest := []) C gL_grows_X5_total rfl ok_X5_total ⟨by decide, by decide⟩ ⟨rfl, rfl⟩ 168 (by decide) rfl rfl (fun hI => cn_X5_total X.2.1 Z ad hI D818 sav old819 hsz820 cs len g 1 er1019) rfl dL_grows_286 rfl (Nat.le_of_ble_eq_true rfl) ?_
        refine g_iload C dL_grows_289 4 rfl ?_
        obtain ⟨c1020, h⟩ := gguard h
        refine g_icmp_ne (tgt := 336) C dL_grows_291 (by decide) (fun hc => absurd c1020 hc) (fun _ => ?_)
        refine g_goto (tgt := 332) C dL_grows_294 (by decide) ?_
        refine g_iconst (v := 1) C dL_grows_332 (by decide) ?_
        refine g_goto (tgt := 337) C dL_grows_333 (by decide) ?_
        refine g_istore C dL_grows_337 (by decide) [(16, .int 1), (15, .int r817), (13, .long r816), (12, .int 1), (11, .int r11), (10, .int r10), (9, .int r9), (8, .int r8), (7, .int r7), (6, .int r5), (5, .int r3), (4, .int r1), (0, .ref (ad 168)), (1, .int v1), (2, .int v2), (3, .int v3)] rfl ?_
        refine g_iconst (v := 0) C dL_grows_339 (by decide) ?_
        refine g_istore C dL_grows_340 (by decide) [(17, .int 0), (16, .int 1), (15, .int r817), (13, .long r816), (12, .int 1), (11, .int r11), (10, .int r10), (9, .int r9), (8, .int r8), (7, .int r7), (6, .int r5), (5, .int r3), (4, .int r1), (0, .ref (ad 168)), (1, .int v1), (2, .int v2), (3, .int v3)] rfl ?_
        obtain ⟨o1021, eo1021, h⟩ := gb1 h
        refine g_sub [13, 14, 15, 16, 12, 11, 10, 9, 8, 7, 6, 5, 4, 3, 2, 1, 0] rfl (cl_L_grows_L342 C ?_ gFu 0 eo1021)
        refine g_iload C dL_grows_382 15 rfl ?_
        refine g_if_eq (tgt := 408) C dL_grows_384 (by decide) (fun hc => absurd hc (by decide)) (fun _ => ?_)
        refine g_aload_n C dL_grows_387 0 rfl ?_
        obtain ⟨r1022, D1023, hsz1024, er1022, h⟩ := gb3 h
        refine g_callWi (rest := []) C gL_grows_X5_undo rfl ok_X5_undo ⟨by decide, by decide⟩ ⟨rfl, rfl⟩ 168 (by decide) rfl rfl (fun hI => cn_X5_undo X.2.1 Z ad hI D818 sav old819 hsz820 cs len g er1022) rfl dL_grows_388 rfl (Nat.le_of_ble_eq_true rfl) ?_
        obtain ⟨c1025, h⟩ := gnz h
        refine g_if_lt (tgt := 408) C dL_grows_391 (by decide) (fun hc => absurd hc c1025) (fun _ => ?_)
        refine g_aload_n C dL_grows_394 0 rfl ?_
        obtain ⟨r1026, er1026, h⟩ := gb1 h
        refine g_callTj (rest := []) C gL_grows_L_print rfl ok_L_print ⟨by decide, by decide⟩ ⟨rfl, rfl⟩ (fun hI => cn_L_print X.2.1 Z ad hI D1023 sav old819 hsz1024 cs len g er1026) rfl dL_grows_395 rfl (Nat.le_of_ble_eq_true rfl) ?_
        refine g_lload C dL_grows_398 13 rfl ?_
        refine g_lcmp C dL_grows_400 ?_
        obtain ⟨c1027, h⟩ := gguard h
        refine g_if_ne (tgt := 408) C dL_grows_401 (by decide) (fun hc => absurd c1027 hc) (fun _ => ?_)
        refine g_iconst (v := 1) C dL_grows_404 (by decide) ?_
        refine g_goto (tgt := 409) C dL_grows_405 (by decide) ?_
        obtain ⟨rfl, rfl, rfl, rfl⟩ := gs4 h
        exact g_zret C e rfl dL_grows_409
