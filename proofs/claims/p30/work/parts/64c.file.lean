set_option maxRecDepth 20000 in
theorem ggL_file_X5_file : GoodIn wsL_file wsX5_file := goodIn_r _ [5, 6, 7, 8, 9, 10, 11, 12, 13, 14, 15, 16, 17, 18, 19, 20, 21, 22, 23, 24, 25, 26, 27, 28, 29, 30, 31, 32, 33, 34, 35, 36, 37, 38, 39, 40, 41, 42, 43, 44, 45, 46, 47, 48, 49, 50, 51, 52, 53, 54, 55, 56, 175, 176, 177, 178, 179, 180, 181, 182, 183, 184, 185, 186, 187, 188, 189, 190, 191, 192] (by decide +kernel) (by decide +kernel)
set_option maxRecDepth 20000 in
theorem gL_file_X5_file : GoodIn wsL_file (wsV RL 51 RX5 yX5_file wsX5_file) := goodIn_app (goodIn_of _ (by decide +kernel)) ggL_file_X5_file
set_option maxRecDepth 20000 in
theorem ggL_file_X5_extent : GoodIn wsL_file wsX5_extent := goodIn_r _ [60, 6, 7, 8, 9, 10, 11, 12, 13, 14, 15, 16, 17, 18, 61, 62, 63, 64, 32, 24, 25, 26, 27, 65, 66, 67, 68, 46, 51, 47, 48, 49, 50, 69, 70, 71, 72, 73, 175, 176, 177, 178, 179, 180, 181, 182, 183, 184, 185, 186, 187, 188, 189, 190, 191, 192] (by decide +kernel) (by decide +kernel)
set_option maxRecDepth 20000 in
theorem gL_file_X5_extent : GoodIn wsL_file (wsV RL 54 RX5 yX5_extent wsX5_extent) := goodIn_app (goodIn_of _ (by decide +kernel)) ggL_file_X5_extent
set_option maxRecDepth 20000 in
theorem ggL_file_X5_block : GoodIn wsL_file wsX5_block := goodIn_r _ [77, 6, 78, 79, 80, 10, 81, 46, 24, 25, 26, 16, 27, 18, 82, 83, 84, 85, 51, 23, 13, 14, 15, 17, 86, 87, 88, 89, 90, 91, 92, 93, 94, 175, 176, 177, 178, 179, 180, 181, 182, 183, 184, 185, 186, 187, 188, 189, 190, 191, 192] (by decide +kernel) (by decide +kernel)
set_option maxRecDepth 20000 in
theorem gL_file_X5_block : GoodIn wsL_file (wsV RL 57 RX5 yX5_block wsX5_block) := goodIn_app (goodIn_of _ (by decide +kernel)) ggL_file_X5_block
set_option maxRecDepth 20000 in
theorem ggL_file_X5_read : GoodIn wsL_file wsX5_read := goodIn_r _ [98, 6, 99, 100, 101, 102, 7, 8, 9, 10, 11, 12, 13, 14, 15, 16, 17, 18, 19, 20, 21, 22, 23, 24, 25, 26, 27, 103, 104, 105, 106, 94, 107, 108, 109, 110, 46, 51, 175, 176, 177, 178, 179, 180, 181, 182, 183, 184, 185, 186, 187, 188, 189, 190, 191, 192] (by decide +kernel) (by decide +kernel)
set_option maxRecDepth 20000 in
theorem gL_file_X5_read : GoodIn wsL_file (wsV RL 60 RX5 yX5_read wsX5_read) := goodIn_app (goodIn_of _ (by decide +kernel)) ggL_file_X5_read
set_option maxRecDepth 20000 in
theorem ggL_file_X5_room : GoodIn wsL_file wsX5_room := goodIn_r _ [114, 6, 7, 8, 9, 10, 11, 12, 13, 14, 15, 16, 17, 18, 38, 39, 40, 41, 115, 116, 117, 118, 119, 120, 121, 122, 23, 24, 25, 26, 27, 175, 176, 177, 178, 179, 180, 181, 182, 183, 184, 185, 186, 187, 188, 189, 190, 191, 192] (by decide +kernel) (by decide +kernel)
set_option maxRecDepth 20000 in
theorem gL_file_X5_room : GoodIn wsL_file (wsV RL 64 RX5 yX5_room wsX5_room) := goodIn_app (goodIn_of _ (by decide +kernel)) ggL_file_X5_room
set_option maxRecDepth 20000 in
theorem ggL_file_X5_count : GoodIn wsL_file wsX5_count := goodIn_r _ [126, 6, 127, 128, 129, 130, 131, 10, 132, 12, 13, 14, 15, 16, 17, 18, 133, 134, 135, 136, 46, 137, 120, 121, 122, 23, 24, 25, 26, 27, 138, 139, 140, 141, 142, 29, 30, 31, 32, 143, 144, 145, 146, 147, 148, 149, 150, 151, 152, 153, 154, 155, 156, 101, 157, 158, 159, 160, 161, 162, 43, 44, 45, 47, 48, 49, 50, 51, 163, 164, 165, 166, 167, 168, 169, 170, 171, 172, 173, 174, 175, 176, 177, 178, 179, 180, 181, 182, 183, 184, 185, 186, 187, 188, 189, 190, 191, 192, 193, 194, 195, 196, 197] (by decide +kernel) (by decide +kernel)
set_option maxRecDepth 20000 in
theorem gL_file_X5_count : GoodIn wsL_file (wsV RL 67 RX5 yX5_count wsX5_count) := goodIn_app (goodIn_of _ (by decide +kernel)) ggL_file_X5_count
theorem dL_file_0 : decode cL_file 0 = .ok (.aload_n 0, 1) := by decide +kernel
theorem dL_file_1 : decode cL_file 1 = .ok (.iload_n 1, 1) := by decide +kernel
theorem dL_file_2 : decode cL_file 2 = .ok (.iconst 0, 1) := by decide +kernel
theorem dL_file_3 : decode cL_file 3 = .ok (.invokevirtual 51, 3) := by decide +kernel
theorem dL_file_6 : decode cL_file 6 = .ok (.istore_n 2, 1) := by decide +kernel
theorem dL_file_7 : decode cL_file 7 = .ok (.aload_n 0, 1) := by decide +kernel
theorem dL_file_8 : decode cL_file 8 = .ok (.iload_n 1, 1) := by decide +kernel
theorem dL_file_9 : decode cL_file 9 = .ok (.iconst 1, 1) := by decide +kernel
theorem dL_file_10 : decode cL_file 10 = .ok (.invokevirtual 51, 3) := by decide +kernel
theorem dL_file_13 : decode cL_file 13 = .ok (.istore_n 3, 1) := by decide +kernel
theorem dL_file_14 : decode cL_file 14 = .ok (.iconst 0, 1) := by decide +kernel
theorem dL_file_15 : decode cL_file 15 = .ok (.istore 4, 2) := by decide +kernel
theorem dL_file_17 : decode cL_file 17 = .ok (.iconst (-1), 1) := by decide +kernel
theorem dL_file_18 : decode cL_file 18 = .ok (.istore 5, 2) := by decide +kernel
theorem dL_file_20 : decode cL_file 20 = .ok (.iconst 0, 1) := by decide +kernel
theorem dL_file_21 : decode cL_file 21 = .ok (.istore 6, 2) := by decide +kernel
theorem dL_file_23 : decode cL_file 23 = .ok (.iconst 0, 1) := by decide +kernel
theorem dL_file_24 : decode cL_file 24 = .ok (.istore 7, 2) := by decide +kernel
theorem dL_file_26 : decode cL_file 26 = .ok (.iload 7, 2) := by decide +kernel
theorem dL_file_28 : decode cL_file 28 = .ok (.aload_n 0, 1) := by decide +kernel
theorem dL_file_29 : decode cL_file 29 = .ok (.iload_n 1, 1) := by decide +kernel
theorem dL_file_30 : decode cL_file 30 = .ok (.iconst 4, 1) := by decide +kernel
theorem dL_file_31 : decode cL_file 31 = .ok (.invokevirtual 51, 3) := by decide +kernel
theorem dL_file_34 : decode cL_file 34 = .ok (.if_icmp .ge 142, 3) := by decide +kernel
theorem dL_file_37 : decode cL_file 37 = .ok (.aload_n 0, 1) := by decide +kernel
theorem dL_file_38 : decode cL_file 38 = .ok (.iload_n 1, 1) := by decide +kernel
theorem dL_file_39 : decode cL_file 39 = .ok (.iload 7, 2) := by decide +kernel
theorem dL_file_41 : decode cL_file 41 = .ok (.iconst 0, 1) := by decide +kernel
theorem dL_file_42 : decode cL_file 42 = .ok (.invokevirtual 54, 3) := by decide +kernel
theorem dL_file_45 : decode cL_file 45 = .ok (.istore 8, 2) := by decide +kernel
theorem dL_file_47 : decode cL_file 47 = .ok (.aload_n 0, 1) := by decide +kernel
theorem dL_file_48 : decode cL_file 48 = .ok (.iload_n 1, 1) := by decide +kernel
theorem dL_file_49 : decode cL_file 49 = .ok (.iload 7, 2) := by decide +kernel
theorem dL_file_51 : decode cL_file 51 = .ok (.iconst 1, 1) := by decide +kernel
theorem dL_file_52 : decode cL_file 52 = .ok (.invokevirtual 54, 3) := by decide +kernel
theorem dL_file_55 : decode cL_file 55 = .ok (.istore 9, 2) := by decide +kernel
theorem dL_file_57 : decode cL_file 57 = .ok (.iload 9, 2) := by decide +kernel
theorem dL_file_59 : decode cL_file 59 = .ok (.iconst 1, 1) := by decide +kernel
theorem dL_file_60 : decode cL_file 60 = .ok (.if_icmp .lt 10, 3) := by decide +kernel
theorem dL_file_63 : decode cL_file 63 = .ok (.iload 8, 2) := by decide +kernel
theorem dL_file_65 : decode cL_file 65 = .ok (.iload 5, 2) := by decide +kernel
theorem dL_file_67 : decode cL_file 67 = .ok (.if_icmp .ne 5, 3) := by decide +kernel
theorem dL_file_70 : decode cL_file 70 = .ok (.iconst 0, 1) := by decide +kernel
theorem dL_file_71 : decode cL_file 71 = .ok (.ireturn, 1) := by decide +kernel
theorem dL_file_72 : decode cL_file 72 = .ok (.iload 8, 2) := by decide +kernel
theorem dL_file_74 : decode cL_file 74 = .ok (.istore 10, 2) := by decide +kernel
theorem dL_file_76 : decode cL_file 76 = .ok (.iload 10, 2) := by decide +kernel
theorem dL_file_78 : decode cL_file 78 = .ok (.iload 8, 2) := by decide +kernel
theorem dL_file_80 : decode cL_file 80 = .ok (.iload 9, 2) := by decide +kernel
theorem dL_file_82 : decode cL_file 82 = .ok (.iadd, 1) := by decide +kernel
theorem dL_file_83 : decode cL_file 83 = .ok (.if_icmp .ge 80, 3) := by decide +kernel
theorem dL_file_86 : decode cL_file 86 = .ok (.aload_n 0, 1) := by decide +kernel
theorem dL_file_87 : decode cL_file 87 = .ok (.iload 10, 2) := by decide +kernel
theorem dL_file_89 : decode cL_file 89 = .ok (.iconst 0, 1) := by decide +kernel
theorem dL_file_90 : decode cL_file 90 = .ok (.invokevirtual 57, 3) := by decide +kernel
theorem dL_file_93 : decode cL_file 93 = .ok (.iload_n 1, 1) := by decide +kernel
theorem dL_file_94 : decode cL_file 94 = .ok (.if_icmp .ne 36, 3) := by decide +kernel
theorem dL_file_97 : decode cL_file 97 = .ok (.aload_n 0, 1) := by decide +kernel
theorem dL_file_98 : decode cL_file 98 = .ok (.iload 10, 2) := by decide +kernel
theorem dL_file_100 : decode cL_file 100 = .ok (.iconst 2, 1) := by decide +kernel
theorem dL_file_101 : decode cL_file 101 = .ok (.invokevirtual 57, 3) := by decide +kernel
theorem dL_file_104 : decode cL_file 104 = .ok (.iload 4, 2) := by decide +kernel
theorem dL_file_106 : decode cL_file 106 = .ok (.if_icmp .ne 24, 3) := by decide +kernel
theorem dL_file_109 : decode cL_file 109 = .ok (.aload_n 0, 1) := by decide +kernel
theorem dL_file_110 : decode cL_file 110 = .ok (.iload 10, 2) := by decide +kernel
theorem dL_file_112 : decode cL_file 112 = .ok (.iconst 1, 1) := by decide +kernel
theorem dL_file_113 : decode cL_file 113 = .ok (.invokevirtual 57, 3) := by decide +kernel
theorem dL_file_116 : decode cL_file 116 = .ok (.iload 4, 2) := by decide +kernel
theorem dL_file_118 : decode cL_file 118 = .ok (.iload_n 2, 1) := by decide +kernel
theorem dL_file_119 : decode cL_file 119 = .ok (.if_icmp .ge 7, 3) := by decide +kernel
theorem dL_file_122 : decode cL_file 122 = .ok (.iconst 1, 1) := by decide +kernel
theorem dL_file_123 : decode cL_file 123 = .ok (.goto 4, 3) := by decide +kernel
theorem dL_file_126 : decode cL_file 126 = .ok (.iconst 2, 1) := by decide +kernel
theorem dL_file_127 : decode cL_file 127 = .ok (.if_icmp .eq 5, 3) := by decide +kernel
theorem dL_file_130 : decode cL_file 130 = .ok (.iconst 0, 1) := by decide +kernel
theorem dL_file_131 : decode cL_file 131 = .ok (.ireturn, 1) := by decide +kernel
theorem dL_file_132 : decode cL_file 132 = .ok (.iload 6, 2) := by decide +kernel
theorem dL_file_134 : decode cL_file 134 = .ok (.iload 4, 2) := by decide +kernel
theorem dL_file_136 : decode cL_file 136 = .ok (.iload_n 2, 1) := by decide +kernel
theorem dL_file_137 : decode cL_file 137 = .ok (.if_icmp .ge 13, 3) := by decide +kernel
theorem dL_file_140 : decode cL_file 140 = .ok (.aload_n 0, 1) := by decide +kernel
theorem dL_file_141 : decode cL_file 141 = .ok (.iload 10, 2) := by decide +kernel
theorem dL_file_143 : decode cL_file 143 = .ok (.iconst 3, 1) := by decide +kernel
theorem dL_file_144 : decode cL_file 144 = .ok (.invokevirtual 57, 3) := by decide +kernel
theorem dL_file_147 : decode cL_file 147 = .ok (.goto 4, 3) := by decide +kernel
theorem dL_file_150 : decode cL_file 150 = .ok (.iconst 0, 1) := by decide +kernel
theorem dL_file_151 : decode cL_file 151 = .ok (.iadd, 1) := by decide +kernel
theorem dL_file_152 : decode cL_file 152 = .ok (.istore 6, 2) := by decide +kernel
theorem dL_file_154 : decode cL_file 154 = .ok (.iinc 4 1, 3) := by decide +kernel
theorem dL_file_157 : decode cL_file 157 = .ok (.iinc 10 1, 3) := by decide +kernel
theorem dL_file_160 : decode cL_file 160 = .ok (.goto (-84), 3) := by decide +kernel
theorem dL_file_163 : decode cL_file 163 = .ok (.iload 8, 2) := by decide +kernel
theorem dL_file_165 : decode cL_file 165 = .ok (.iload 9, 2) := by decide +kernel
theorem dL_file_167 : decode cL_file 167 = .ok (.iadd, 1) := by decide +kernel
theorem dL_file_168 : decode cL_file 168 = .ok (.istore 5, 2) := by decide +kernel
theorem dL_file_170 : decode cL_file 170 = .ok (.iinc 7 1, 3) := by decide +kernel
theorem dL_file_173 : decode cL_file 173 = .ok (.goto (-147), 3) := by decide +kernel
theorem dL_file_176 : decode cL_file 176 = .ok (.iload 4, 2) := by decide +kernel
theorem dL_file_178 : decode cL_file 178 = .ok (.iload_n 2, 1) := by decide +kernel
theorem dL_file_179 : decode cL_file 179 = .ok (.iload_n 3, 1) := by decide +kernel
theorem dL_file_180 : decode cL_file 180 = .ok (.iadd, 1) := by decide +kernel
theorem dL_file_181 : decode cL_file 181 = .ok (.if_icmp .ne 67, 3) := by decide +kernel
theorem dL_file_184 : decode cL_file 184 = .ok (.iload_n 3, 1) := by decide +kernel
theorem dL_file_185 : decode cL_file 185 = .ok (.ifCond .lt 63, 3) := by decide +kernel
theorem dL_file_188 : decode cL_file 188 = .ok (.aload_n 0, 1) := by decide +kernel
theorem dL_file_189 : decode cL_file 189 = .ok (.iload_n 1, 1) := by decide +kernel
theorem dL_file_190 : decode cL_file 190 = .ok (.aload_n 0, 1) := by decide +kernel
theorem dL_file_191 : decode cL_file 191 = .ok (.iload_n 1, 1) := by decide +kernel
theorem dL_file_192 : decode cL_file 192 = .ok (.iconst 4, 1) := by decide +kernel
theorem dL_file_193 : decode cL_file 193 = .ok (.invokevirtual 51, 3) := by decide +kernel
theorem dL_file_196 : decode cL_file 196 = .ok (.iconst 0, 1) := by decide +kernel
theorem dL_file_197 : decode cL_file 197 = .ok (.invokevirtual 54, 3) := by decide +kernel
theorem dL_file_200 : decode cL_file 200 = .ok (.bipush (-5), 2) := by decide +kernel
theorem dL_file_202 : decode cL_file 202 = .ok (.if_icmp .ne 46, 3) := by decide +kernel
theorem dL_file_205 : decode cL_file 205 = .ok (.aload_n 0, 1) := by decide +kernel
theorem dL_file_206 : decode cL_file 206 = .ok (.iload_n 1, 1) := by decide +kernel
theorem dL_file_207 : decode cL_file 207 = .ok (.iconst 2, 1) := by decide +kernel
theorem dL_file_208 : decode cL_file 208 = .ok (.invokevirtual 51, 3) := by decide +kernel
theorem dL_file_211 : decode cL_file 211 = .ok (.ifCond .lt 37, 3) := by decide +kernel
theorem dL_file_214 : decode cL_file 214 = .ok (.aload_n 0, 1) := by decide +kernel
theorem dL_file_215 : decode cL_file 215 = .ok (.iload_n 1, 1) := by decide +kernel
theorem dL_file_216 : decode cL_file 216 = .ok (.iconst 2, 1) := by decide +kernel
theorem dL_file_217 : decode cL_file 217 = .ok (.invokevirtual 51, 3) := by decide +kernel
theorem dL_file_220 : decode cL_file 220 = .ok (.iload_n 2, 1) := by decide +kernel
theorem dL_file_221 : decode cL_file 221 = .ok (.if_icmp .gt 27, 3) := by decide +kernel
theorem dL_file_224 : decode cL_file 224 = .ok (.aload_n 0, 1) := by decide +kernel
theorem dL_file_225 : decode cL_file 225 = .ok (.iload_n 1, 1) := by decide +kernel
theorem dL_file_226 : decode cL_file 226 = .ok (.iconst 5, 1) := by decide +kernel
theorem dL_file_227 : decode cL_file 227 = .ok (.invokevirtual 51, 3) := by decide +kernel
theorem dL_file_230 : decode cL_file 230 = .ok (.ifCond .le 18, 3) := by decide +kernel
theorem dL_file_233 : decode cL_file 233 = .ok (.aload_n 0, 1) := by decide +kernel
theorem dL_file_234 : decode cL_file 234 = .ok (.iload_n 1, 1) := by decide +kernel
theorem dL_file_235 : decode cL_file 235 = .ok (.iconst 5, 1) := by decide +kernel
theorem dL_file_236 : decode cL_file 236 = .ok (.invokevirtual 51, 3) := by decide +kernel
theorem dL_file_239 : decode cL_file 239 = .ok (.bipush 17, 2) := by decide +kernel
theorem dL_file_241 : decode cL_file 241 = .ok (.if_icmp .ge 7, 3) := by decide +kernel
theorem dL_file_244 : decode cL_file 244 = .ok (.iconst 1, 1) := by decide +kernel
theorem dL_file_245 : decode cL_file 245 = .ok (.goto 4, 3) := by decide +kernel
theorem dL_file_248 : decode cL_file 248 = .ok (.iconst 0, 1) := by decide +kernel
theorem dL_file_249 : decode cL_file 249 = .ok (.istore 7, 2) := by decide +kernel
theorem dL_file_251 : decode cL_file 251 = .ok (.iload 7, 2) := by decide +kernel
theorem dL_file_253 : decode cL_file 253 = .ok (.ifCond .eq 107, 3) := by decide +kernel
theorem dL_file_256 : decode cL_file 256 = .ok (.iload_n 2, 1) := by decide +kernel
theorem dL_file_257 : decode cL_file 257 = .ok (.ifCond .ne 20, 3) := by decide +kernel
theorem dL_file_260 : decode cL_file 260 = .ok (.aload_n 0, 1) := by decide +kernel
theorem dL_file_261 : decode cL_file 261 = .ok (.iload_n 1, 1) := by decide +kernel
theorem dL_file_262 : decode cL_file 262 = .ok (.iconst 0, 1) := by decide +kernel
theorem dL_file_263 : decode cL_file 263 = .ok (.bipush 64, 2) := by decide +kernel
theorem dL_file_265 : decode cL_file 265 = .ok (.iconst 0, 1) := by decide +kernel
theorem dL_file_266 : decode cL_file 266 = .ok (.invokevirtual 60, 3) := by decide +kernel
theorem dL_file_269 : decode cL_file 269 = .ok (.bipush (-5), 2) := by decide +kernel
theorem dL_file_271 : decode cL_file 271 = .ok (.if_icmp .ne 89, 3) := by decide +kernel
theorem dL_file_274 : decode cL_file 274 = .ok (.goto 30, 3) := by decide +kernel
theorem dL_file_277 : decode cL_file 277 = .ok (.aload_n 0, 1) := by decide +kernel
theorem dL_file_278 : decode cL_file 278 = .ok (.iload_n 1, 1) := by decide +kernel
theorem dL_file_279 : decode cL_file 279 = .ok (.iconst 0, 1) := by decide +kernel
theorem dL_file_280 : decode cL_file 280 = .ok (.bipush 64, 2) := by decide +kernel
theorem dL_file_282 : decode cL_file 282 = .ok (.iconst 0, 1) := by decide +kernel
theorem dL_file_283 : decode cL_file 283 = .ok (.invokevirtual 60, 3) := by decide +kernel
theorem dL_file_286 : decode cL_file 286 = .ok (.iload 6, 2) := by decide +kernel
theorem dL_file_288 : decode cL_file 288 = .ok (.if_icmp .ne 72, 3) := by decide +kernel
theorem dL_file_291 : decode cL_file 291 = .ok (.aload_n 0, 1) := by decide +kernel
theorem dL_file_292 : decode cL_file 292 = .ok (.iload_n 1, 1) := by decide +kernel
theorem dL_file_293 : decode cL_file 293 = .ok (.iconst 0, 1) := by decide +kernel
theorem dL_file_294 : decode cL_file 294 = .ok (.bipush 64, 2) := by decide +kernel
theorem dL_file_296 : decode cL_file 296 = .ok (.iconst 1, 1) := by decide +kernel
theorem dL_file_297 : decode cL_file 297 = .ok (.invokevirtual 60, 3) := by decide +kernel
theorem dL_file_300 : decode cL_file 300 = .ok (.iload_n 2, 1) := by decide +kernel
theorem dL_file_301 : decode cL_file 301 = .ok (.if_icmp .ne 59, 3) := by decide +kernel
theorem dL_file_304 : decode cL_file 304 = .ok (.aload_n 0, 1) := by decide +kernel
theorem dL_file_305 : decode cL_file 305 = .ok (.iload_n 1, 1) := by decide +kernel
theorem dL_file_306 : decode cL_file 306 = .ok (.iconst 3, 1) := by decide +kernel
theorem dL_file_307 : decode cL_file 307 = .ok (.invokevirtual 51, 3) := by decide +kernel
theorem dL_file_310 : decode cL_file 310 = .ok (.iconst 1, 1) := by decide +kernel
theorem dL_file_311 : decode cL_file 311 = .ok (.if_icmp .ne 25, 3) := by decide +kernel
theorem dL_file_314 : decode cL_file 314 = .ok (.aload_n 0, 1) := by decide +kernel
theorem dL_file_315 : decode cL_file 315 = .ok (.iload_n 1, 1) := by decide +kernel
theorem dL_file_316 : decode cL_file 316 = .ok (.invokevirtual 64, 3) := by decide +kernel
theorem dL_file_319 : decode cL_file 319 = .ok (.aload_n 0, 1) := by decide +kernel
theorem dL_file_320 : decode cL_file 320 = .ok (.iconst 2, 1) := by decide +kernel
theorem dL_file_321 : decode cL_file 321 = .ok (.invokevirtual 67, 3) := by decide +kernel
theorem dL_file_324 : decode cL_file 324 = .ok (.aload_n 0, 1) := by decide +kernel
theorem dL_file_325 : decode cL_file 325 = .ok (.iconst 4, 1) := by decide +kernel
theorem dL_file_326 : decode cL_file 326 = .ok (.invokevirtual 67, 3) := by decide +kernel
theorem dL_file_329 : decode cL_file 329 = .ok (.iadd, 1) := by decide +kernel
theorem dL_file_330 : decode cL_file 330 = .ok (.if_icmp .ne 30, 3) := by decide +kernel
theorem dL_file_333 : decode cL_file 333 = .ok (.goto 23, 3) := by decide +kernel
theorem dL_file_336 : decode cL_file 336 = .ok (.aload_n 0, 1) := by decide +kernel
theorem dL_file_337 : decode cL_file 337 = .ok (.iload_n 1, 1) := by decide +kernel
theorem dL_file_338 : decode cL_file 338 = .ok (.invokevirtual 64, 3) := by decide +kernel
theorem dL_file_341 : decode cL_file 341 = .ok (.bipush (-4), 2) := by decide +kernel
theorem dL_file_343 : decode cL_file 343 = .ok (.if_icmp .ne 17, 3) := by decide +kernel
theorem dL_file_346 : decode cL_file 346 = .ok (.aload_n 0, 1) := by decide +kernel
theorem dL_file_347 : decode cL_file 347 = .ok (.iload_n 1, 1) := by decide +kernel
theorem dL_file_348 : decode cL_file 348 = .ok (.iconst 5, 1) := by decide +kernel
theorem dL_file_349 : decode cL_file 349 = .ok (.invokevirtual 51, 3) := by decide +kernel
theorem dL_file_352 : decode cL_file 352 = .ok (.iconst 1, 1) := by decide +kernel
theorem dL_file_353 : decode cL_file 353 = .ok (.if_icmp .ne 7, 3) := by decide +kernel
theorem dL_file_356 : decode cL_file 356 = .ok (.iconst 1, 1) := by decide +kernel
theorem dL_file_357 : decode cL_file 357 = .ok (.goto 4, 3) := by decide +kernel
theorem dL_file_360 : decode cL_file 360 = .ok (.iconst 0, 1) := by decide +kernel
theorem dL_file_361 : decode cL_file 361 = .ok (.ireturn, 1) := by decide +kernel
abbrev rm_L_file : Room := ({ frames := 5, cells := 0, slots := 0, locals := 109 } : Room)
theorem ok_L_file : gOk yL_file RL 2 := by refine ⟨?_, ?_, ?_, ?_⟩ <;> decide +kernel
def f_L_file_L76 (D : Nat → Nat → Nat → Int32) (sav : Int32) (old : Int32) (hsz : Int32) (cs : Nat → Int32) (len : Int32) (g : Nat → Int32) (v1 : Int32) (v2 : Int32) (v3 : Int32) (v5 : Int32) (v7 : Int32) (v8 : Int32) (v9 : Int32) : Nat → Int32 → Int32 → Int32 → Option (Int32 × Int32 × Int32)
  | 0, _, _, _ => none
  | fu + 1, v4, v6, v10 => if (v8 + v9) ≤ v10 then some (v4, v6, v10) else gb (f_X5_block D sav old hsz cs len g v10 0) (fun r34 => if r34 = v1 then gb (f_X5_block D sav old hsz cs len g v10 2) (fun r36 => if r36 = v4 then gb (f_X5_block D sav old hsz cs len g v10 1) (fun r38 => if v2 ≤ v4 then if r38 = 2 then glet (v6 + 0) (fun x50 => glet (v4 + 1) (fun x51 => glet (v10 + 1) (fun x52 => f_L_file_L76 D sav old hsz cs len g v1 v2 v3 v5 v7 v8 v9 fu x51 x50 x52))) else none else if r38 = 1 then gb (f_X5_block D sav old hsz cs len g v10 3) (fun r54 => glet (v6 + r54) (fun x55 => glet (v4 + 1) (fun x56 => glet (v10 + 1) (fun x57 => f_L_file_L76 D sav old hsz cs len g v1 v2 v3 v5 v7 v8 v9 fu x56 x55 x57)))) else none) else none) else none)
def f_L_file_L26 (D : Nat → Nat → Nat → Int32) (sav : Int32) (old : Int32) (hsz : Int32) (cs : Nat → Int32) (len : Int32) (g : Nat → Int32) (v1 : Int32) (v2 : Int32) (v3 : Int32) : Nat → Int32 → Int32 → Int32 → Int32 → Option (Int32 × Int32 × Int32 × Int32)
  | 0, _, _, _, _ => none
  | fu + 1, v4, v5, v6, v7 => gb (f_X5_file D sav old hsz cs len g v1 4) (fun r3 => if r3 ≤ v7 then some (v4, v5, v6, v7) else gb (f_X5_extent D sav old hsz cs len g v1 v7 0) (fun r63 => gb (f_X5_extent D sav old hsz cs len g v1 v7 1) (fun r64 => if r64 < 1 then none else if r63 = v5 then none else gbb3 (f_L_file_L76 D sav old hsz cs len g v1 v2 v3 v5 v7 r63 r64 gFu v4 v6 r63) (fun o67 o68 o69 => glet (r63 + r64) (fun x70 => glet (v7 + 1) (fun x71 => f_L_file_L26 D sav old hsz cs len g v1 v2 v3 fu o67 x70 o68 x71))))))
def f_L_file (D : Nat → Nat → Nat → Int32) (sav : Int32) (old : Int32) (hsz : Int32) (cs : Nat → Int32) (len : Int32) (g : Nat → Int32) (v1 : Int32) : Option Int32 := gb (f_X5_file D sav old hsz cs len g v1 0) (fun r1 => gb (f_X5_file D sav old hsz cs len g v1 1) (fun r2 => gbb4 (f_L_file_L26 D sav old hsz cs len g v1 r1 r2 gFu 0 (-1) 0 0) (fun o72 o73 o74 o75 => if o72 = (r1 + r2) then if r2 < 0 then none else gb (f_X5_file D sav old hsz cs len g v1 4) (fun r78 => gb (f_X5_extent D sav old hsz cs len g v1 r78 0) (fun r79 => if r79 = (-5) then gb (f_X5_file D sav old hsz cs len g v1 2) (fun r81 => if r81 < 0 then none else gb (f_X5_file D sav old hsz cs len g v1 2) (fun r83 => if r1 < r83 then none else gb (f_X5_file D sav old hsz cs len g v1 5) (fun r85 => if r85 ≤ 0 then none else gb (f_X5_file D sav old hsz cs len g v1 5) (fun r87 => if 17 ≤ r87 then none else if r1 = 0 then gb (f_X5_read D sav old hsz cs len g v1 0 64 0) (fun r132 => if r132 = (-5) then gb (f_X5_file D sav old hsz cs len g v1 3) (fun r134 => if r134 = 1 then gb (f_X5_room D sav old hsz cs len g v1) (fun r144 => gb (f_X5_count D sav old hsz cs len g 2) (fun r145 => gb (f_X5_count D sav old hsz cs len g 4) (fun r146 => if r144 = (r145 + r146) then some 1 else none))) else gb (f_X5_room D sav old hsz cs len g v1) (fun r148 => if r148 = (-4) then gb (f_X5_file D sav old hsz cs len g v1 5) (fun r150 => if r150 = 1 then some 1 else none) else none)) else none) else gb (f_X5_read D sav old hsz cs len g v1 0 64 0) (fun r152 => if r152 = o74 then gb (f_X5_read D sav old hsz cs len g v1 0 64 1) (fun r154 => if r154 = r1 then gb (f_X5_file D sav old hsz cs len g v1 3) (fun r156 => if r156 = 1 then gb (f_X5_room D sav old hsz cs len g v1) (fun r166 => gb (f_X5_count D sav old hsz cs len g 2) (fun r167 => gb (f_X5_count D sav old hsz cs len g 4) (fun r168 => if r166 = (r167 + r168) then some 1 else none))) else gb (f_X5_room D sav old hsz cs len g v1) (fun r170 => if r170 = (-4) then gb (f_X5_file D sav old hsz cs len g v1 5) (fun r172 => if r172 = 1 then some 1 else none) else none)) else none) else none))))) else none)) else none)))
set_option maxHeartbeats 8000000 in
set_option maxRecDepth 100000 in
theorem cl_L_file_L76 {X : gX} {Z : gZ} {ad : Nat → Nat} {D : Nat → Nat → Nat → Int32} {sav : Int32} {old : Int32} {hsz : Int32} {cs : Nat → Int32} {len : Int32} {g : Nat → Int32} {v1 : Int32} {v2 : Int32} {v3 : Int32} {v5 : Int32} {v7 : Int32} {v8 : Int32} {v9 : Int32} {o4 : Int32} {o6 : Int32} {o10 : Int32} (C : GC X Z cL_file 11 wsL_file RL rm_L_file 175 ad) (kk : GG X Z 11 175 ad (xE Z.2.1 Z.2.2 ad D sav old hsz cs len g) 163 [(0, .ref (ad 168)), (1, .int v1), (2, .int v2), (3, .int v3), (4, .int o4), (5, .int v5), (6, .int o6), (7, .int v7), (8, .int v8), (9, .int v9), (10, .int o10)] []) : ∀ (fu : Nat) (v4 : Int32) (v6 : Int32) (v10 : Int32) (h : f_L_file_L76 D sav old hsz cs len g v1 v2 v3 v5 v7 v8 v9 fu v4 v6 v10 = some (o4, o6, o10)), GG X Z 11 175 ad (xE Z.2.1 Z.2.2 ad D sav old hsz cs len g) 76 [(0, .ref (ad 168)), (1, .int v1), (2, .int v2), (3, .int v3), (4, .int v4), (5, .int v5), (6, .int v6), (7, .int v7), (8, .int v8), (9, .int v9), (10, .int v10)] [] := by
  intro fu
  induction fu with
  | zero => intro v4 v6 v10 h; cases h
  | succ fu ih =>
    intro v4 v6 v10 h
    rw [f_L_file_L76] at h
    refine g_iload C dL_file_76 10 rfl ?_
    refine g_iload C dL_file_78 8 rfl ?_
    refine g_iload C dL_file_80 9 rfl ?_
    refine g_iadd C dL_file_82 ?_
    refine g_icmp_ge (tgt := 163) C dL_file_83 (by decide) (fun c9 => ?_) (fun c9 => ?_)
    · replace h := gi_pos c9 h
      obtain ⟨rfl, rfl, rfl⟩ := gs3 h
      exact g_sub [0, 1, 2, 3, 4, 5, 6, 7, 8, 9, 10] rfl kk
    · replace h := gi_neg c9 h
      refine g_aload_n C dL_file_86 0 rfl ?_
      refine g_iload C dL_file_87 10 rfl ?_
      refine g_iconst (v := 0) C dL_file_89 (by decide) ?_
      obtain ⟨r34, er34, h⟩ := gb1 h
      refine g_callWi (rest := []) C gL_file_X5_block rfl ok_X5_block ⟨by decide, by decide⟩ ⟨rfl, rfl⟩ 168 (by decide) rfl rfl (fun hI => cn_X5_block X.2.1 Z ad hI D sav old hsz cs len g v10 0 er34) rfl dL_file_90 rfl (Nat.le_of_ble_eq_true rfl) ?_
      refine g_iload_n C dL_file_93 1 rfl ?_
      obtain ⟨c35, h⟩ := gguard h
      refine g_icmp_ne (tgt := 130) C dL_file_94 (by decide) (fun hc => absurd c35 hc) (fun _ => ?_)
      refine g_aload_n C dL_file_97 0 rfl ?_
      refine g_iload C dL_file_98 10 rfl ?_
      refine g_iconst (v := 2) C dL_file_100 (by decide) ?_
      obtain ⟨r36, er36, h⟩ := gb1 h
      refine g_callWi (rest := []) C gL_file_X5_block rfl ok_X5_block ⟨by decide, by decide⟩ ⟨rfl, rfl⟩ 168 (by decide) rfl rfl (fun hI => cn_X5_block X.2.1 Z ad hI D sav old hsz cs len g v10 2 er36) rfl dL_file_101 rfl (Nat.le_of_ble_eq_true rfl) ?_
      refine g_iload C dL_file_104 4 rfl ?_
      obtain ⟨c37, h⟩ := gguard h
      refine g_icmp_ne (tgt := 130) C dL_file_106 (by decide) (fun hc => absurd c37 hc) (fun _ => ?_)
      refine g_aload_n C dL_file_109 0 rfl ?_
      refine g_iload C dL_file_110 10 rfl ?_
      refine g_iconst (v := 1) C dL_file_112 (by decide) ?_
      obtain ⟨r38, er38, h⟩ := gb1 h
      refine g_callWi (rest := []) C gL_file_X5_block rfl ok_X5_block ⟨by decide, by decide⟩ ⟨rfl, rfl⟩ 168 (by decide) rfl rfl (fun hI => cn_X5_block X.2.1 Z ad hI D sav old hsz cs len g v10 1 er38) rfl dL_file_113 rfl (Nat.le_of_ble_eq_true rfl) ?_
      refine g_iload C dL_file_116 4 rfl ?_
      refine g_iload_n C dL_file_118 2 rfl ?_
      refine g_icmp_ge (tgt := 126) C dL_file_119 (by decide) (fun c39 => ?_) (fun c39 => ?_)
      · replace h := gi_pos c39 h
        refine g_iconst (v := 2) C dL_file_126 (by decide) ?_
        obtain ⟨c49, h⟩ := gguard h
        refine g_icmp_eq (tgt := 132) C dL_file_127 (by decide) (fun _ => ?_) (fun hc => absurd c49 hc)
        refine g_iload C dL_file_132 6 rfl ?_
        refine g_iload C dL_file_134 4 rfl ?_
        refine g_iload_n C dL_file_136 2 rfl ?_
        refine g_icmp_ge (tgt := 150) C dL_file_137 (by decide) (fun _ => ?_) (fun hc => absurd c39 hc)
        refine g_iconst (v := 0) C dL_file_150 (by decide) ?_
        refine g_iadd C dL_file_151 ?_
        obtain ⟨x50, ex50, h⟩ := gl h
        refine g_istore C dL_file_152 (by decide) [(6, .int x50), (0, .ref (ad 168)), (1, .int v1), (2, .int v2), (3, .int v3), (4, .int v4), (5, .int v5), (7, .int v7), (8, .int v8), (9, .int v9), (10, .int v10)] (by rw [ex50]; rfl) ?_
        obtain ⟨x51, ex51, h⟩ := gl h
        refine g_iinc (v := x51) C dL_file_154 5 rfl (by rw [ex51]; rfl) (by decide) [(4, .int x51), (6, .int x50), (0, .ref (ad 168)), (1, .int v1), (2, .int v2), (3, .int v3), (5, .int v5), (7, .int v7), (8, .int v8), (9, .int v9), (10, .int v10)] rfl ?_
        obtain ⟨x52, ex52, h⟩ := gl h
        refine g_iinc (v := x52) C dL_file_157 10 rfl (by rw [ex52]; rfl) (by decide) [(10, .int x52), (4, .int x51), (6, .int x50), (0, .ref (ad 168)), (1, .int v1), (2, .int v2), (3, .int v3), (5, .int v5), (7, .int v7), (8, .int v8), (9, .int v9)] rfl ?_
        refine g_goto (tgt := 76) C dL_file_160 (by decide) ?_
        exact g_sub [3, 4, 5, 6, 1, 7, 2, 8, 9, 10, 0] rfl (ih x51 x50 x52 h)
      · replace h := gi_neg c39 h
        refine g_iconst (v := 1) C dL_file_122 (by decide) ?_
        refine g_goto (tgt := 127) C dL_file_123 (by decide) ?_
        obtain ⟨c53, h⟩ := gguard h
        refine g_icmp_eq (tgt := 132) C dL_file_127 (by decide) (fun _ => ?_) (fun hc => absurd c53 hc)
        refine g_iload C dL_file_132 6 rfl ?_
        refine g_iload C dL_file_134 4 rfl ?_
        refine g_iload_n C dL_file_136 2 rfl ?_
        refine g_icmp_ge (tgt := 150) C dL_file_137 (by decide) (fun hc => absurd hc c39) (fun _ => ?_)
        refine g_aload_n C dL_file_140 0 rfl ?_
        refine g_iload C dL_file_141 10 rfl ?_
        refine g_iconst (v := 3) C dL_file_143 (by decide) ?_
        obtain ⟨r54, er54, h⟩ := gb1 h
        refine g_callWi (rest := [.int v6]) C gL_file_X5_block rfl ok_X5_block ⟨by decide, by decide⟩ ⟨rfl, rfl⟩ 168 (by decide) rfl rfl (fun hI => cn_X5_block X.2.1 Z ad hI D sav old hsz cs len g v10 3 er54) rfl dL_file_144 rfl (Nat.le_of_ble_eq_true rfl) ?_
        refine g_goto (tgt := 151) C dL_file_147 (by decide) ?_
        refine g_iadd C dL_file_151 ?_
        obtain ⟨x55, ex55, h⟩ := gl h
        refine g_istore C dL_file_152 (by decide) [(6, .int x55), (0, .ref (ad 168)), (1, .int v1), (2, .int v2), (3, .int v3), (4, .int v4), (5, .int v5), (7, .int v7), (8, .int v8), (9, .int v9), (10, .int v10)] (by rw [ex55]; rfl) ?_
        obtain ⟨x56, ex56, h⟩ := gl h
        refine g_iinc (v := x56) C dL_file_154 5 rfl (by rw [ex56]; rfl) (by decide) [(4, .int x56), (6, .int x55), (0, .ref (ad 168)), (1, .int v1), (2, .int v2), (3, .int v3), (5, .int v5), (7, .int v7), (8, .int v8), (9, .int v9), (10, .int v10)] rfl ?_
        obtain ⟨x57, ex57, h⟩ := gl h
        refine g_iinc (v := x57) C dL_file_157 10 rfl (by rw [ex57]; rfl) (by decide) [(10, .int x57), (4, .int x56), (6, .int x55), (0, .ref (ad 168)), (1, .int v1), (2, .int v2), (3, .int v3), (5, .int v5), (7, .int v7), (8, .int v8), (9, .int v9)] rfl ?_
        refine g_goto (tgt := 76) C dL_file_160 (by decide) ?_
        exact g_sub [3, 4, 5, 6, 1, 7, 2, 8, 9, 10, 0] rfl (ih x56 x55 x57 h)
set_option maxHeartbeats 8000000 in
set_option maxRecDepth 100000 in
theorem cl_L_file_L26 {X : gX} {Z : gZ} {ad : Nat → Nat} {D : Nat → Nat → Nat → Int32} {sav : Int32} {old : Int32} {hsz : Int32} {cs : Nat → Int32} {len : Int32} {g : Nat → Int32} {v1 : Int32} {v2 : Int32} {v3 : Int32} {o4 : Int32} {o5 : Int32} {o6 : Int32} {o7 : Int32} (C : GC X Z cL_file 11 wsL_file RL rm_L_file 175 ad) (kk : GG X Z 11 175 ad (xE Z.2.1 Z.2.2 ad D sav old hsz cs len g) 176 [(0, .ref (ad 168)), (1, .int v1), (2, .int v2), (3, .int v3), (4, .int o4), (5, .int o5), (6, .int o6), (7, .int o7)] []) : ∀ (fu : Nat) (v4 : Int32) (v5 : Int32) (v6 : Int32) (v7 : Int32) (h : f_L_file_L26 D sav old hsz cs len g v1 v2 v3 fu v4 v5 v6 v7 = some (o4, o5, o6, o7)), GG X Z 11 175 ad (xE Z.2.1 Z.2.2 ad D sav old hsz cs len g) 26 [(0, .ref (ad 168)), (1, .int v1), (2, .int v2), (3, .int v3), (4, .int v4), (5, .int v5), (6, .int v6), (7, .int v7)] [] := by
  intro fu
  induction fu with
  | zero => intro v4 v5 v6 v7 h; cases h
  | succ fu ih =>
    intro v4 v5 v6 v7 h
    rw [f_L_file_L26] at h
    refine g_iload C dL_file_26 7 rfl ?_
    refine g_aload_n C dL_file_28 0 rfl ?_
    refine g_iload_n C dL_file_29 1 rfl ?_
    refine g_iconst (v := 4) C dL_file_30 (by decide) ?_
    obtain ⟨r3, er3, h⟩ := gb1 h
    refine g_callWi (rest := [.int v7]) C gL_file_X5_file rfl ok_X5_file ⟨by decide, by decide⟩ ⟨rfl, rfl⟩ 168 (by decide) rfl rfl (fun hI => cn_X5_file X.2.1 Z ad hI D sav old hsz cs len g v1 4 er3) rfl dL_file_31 rfl (Nat.le_of_ble_eq_true rfl) ?_
    refine g_icmp_ge (tgt := 176) C dL_file_34 (by decide) (fun c4 => ?_) (fun c4 => ?_)
    · replace h := gi_pos c4 h
      obtain ⟨rfl, rfl, rfl, rfl⟩ := gs4 h
      exact g_sub [0, 1, 2, 3, 4, 5, 6, 7] rfl kk
    · replace h := gi_neg c4 h
      refine g_aload_n C dL_file_37 0 rfl ?_
      refine g_iload_n C dL_file_38 1 rfl ?_
      refine g_iload C dL_file_39 7 rfl ?_
      refine g_iconst (v := 0) C dL_file_41 (by decide) ?_
      obtain ⟨r63, er63, h⟩ := gb1 h
      refine g_callWi (rest := []) C gL_file_X5_extent rfl ok_X5_extent ⟨by decide, by decide⟩ ⟨rfl, rfl⟩ 168 (by decide) rfl rfl (fun hI => cn_X5_extent X.2.1 Z ad hI D sav old hsz cs len g v1 v7 0 er63) rfl dL_file_42 rfl (Nat.le_of_ble_eq_true rfl) ?_
      refine g_istore C dL_file_45 (by decide) [(8, .int r63), (0, .ref (ad 168)), (1, .int v1), (2, .int v2), (3, .int v3), (4, .int v4), (5, .int v5), (6, .int v6), (7, .int v7)] rfl ?_
      refine g_aload_n C dL_file_47 1 rfl ?_
      refine g_iload_n C dL_file_48 2 rfl ?_
      refine g_iload C dL_file_49 8 rfl ?_
      refine g_iconst (v := 1) C dL_file_51 (by decide) ?_
      obtain ⟨r64, er64, h⟩ := gb1 h
      refine g_callWi (rest := []) C gL_file_X5_extent rfl ok_X5_extent ⟨by decide, by decide⟩ ⟨rfl, rfl⟩ 168 (by decide) rfl rfl (fun hI => cn_X5_extent X.2.1 Z ad hI D sav old hsz cs len g v1 v7 1 er64) rfl dL_file_52 rfl (Nat.le_of_ble_eq_true rfl) ?_
      refine g_istore C dL_file_55 (by decide) [(9, .int r64), (8, .int r63), (0, .ref (ad 168)), (1, .int v1), (2, .int v2), (3, .int v3), (4, .int v4), (5, .int v5), (6, .int v6), (7, .int v7)] rfl ?_
      refine g_iload C dL_file_57 0 rfl ?_
      refine g_iconst (v := 1) C dL_file_59 (by decide) ?_
      obtain ⟨c65, h⟩ := gnz h
      refine g_icmp_lt (tgt := 70) C dL_file_60 (by decide) (fun hc => absurd hc c65) (fun _ => ?_)
      refine g_iload C dL_file_63 1 rfl ?_
      refine g_iload C dL_file_65 7 rfl ?_
      obtain ⟨c66, h⟩ := gnz h
      refine g_icmp_ne (tgt := 72) C dL_file_67 (by decide) (fun _ => ?_) (fun hc => absurd hc c66)
      refine g_iload C dL_file_72 1 rfl ?_
      refine g_istore C dL_file_74 (by decide) [(10, .int r63), (9, .int r64), (8, .int r63), (0, .ref (ad 168)), (1, .int v1), (2, .int v2), (3, .int v3), (4, .int v4), (5, .int v5), (6, .int v6), (7, .int v7)] rfl ?_
      obtain ⟨o67, o68, o69, eo67, h⟩ := gb3 h
      refine g_sub [3, 4, 5, 6, 7, 8, 9, 10, 2, 1, 0] rfl (cl_L_file_L76 C ?_ gFu v4 v6 r63 eo67)
      refine g_iload C dL_file_163 8 rfl ?_
      refine g_iload C dL_file_165 9 rfl ?_
      refine g_iadd C dL_file_167 ?_
      obtain ⟨x70, ex70, h⟩ := gl h
      refine g_istore C dL_file_168 (by decide) [(5, .int x70), (0, .ref (ad 168)), (1, .int v1), (2, .int v2), (3, .int v3), (4, .int o67), (6, .int o68), (7, .int v7), (8, .int r63), (9, .int r64), (10, .int o69)] (by rw [ex70]; rfl) ?_
      obtain ⟨x71, ex71, h⟩ := gl h
      refine g_iinc (v := x71) C dL_file_170 7 rfl (by rw [ex71]; rfl) (by decide) [(7, .int x71), (5, .int x70), (0, .ref (ad 168)), (1, .int v1), (2, .int v2), (3, .int v3), (4, .int o67), (6, .int o68), (8, .int r63), (9, .int r64), (10, .int o69)] rfl ?_
      refine g_goto (tgt := 26) C dL_file_173 (by decide) ?_
      exact g_sub [2, 3, 4, 5, 6, 1, 7, 0] rfl (ih o67 x70 o68 x71 h)
set_option maxHeartbeats 8000000 in
set_option maxRecDepth 100000 in
theorem cn_L_file (l : Launch) (Z : gZ) (ad : Nat → Nat) (hI : gInj 175 ad) (D : Nat → Nat → Nat → Int32) (sav : Int32) (old : Int32) (hsz : Int32) (cs : Nat → Int32) (len : Int32) (g : Nat → Int32) (v1 : Int32) {r : Int32} (h : f_L_file D sav old hsz cs len g v1 = some r) : gI l yL_file wsL_file rm_L_file Z 175 ad [.ref (ad 168), .int v1] (xE Z.2.1 Z.2.2 ad D sav old hsz cs len g) r (xE Z.2.1 Z.2.2 ad D sav old hsz cs len g) := by
  refine g_entryI (cc := cL_file) (maxL := 11) (by decide +kernel) rfl hI (Nat.le_of_ble_eq_true rfl) (fun X C e => ?_)
  unfold f_L_file at h
  show GG X Z 11 175 ad (xE Z.2.1 Z.2.2 ad D sav old hsz cs len g) 0 [(0, .ref (ad 168)), (1, .int v1)] []
  refine g_aload_n C dL_file_0 0 rfl ?_
  refine g_iload_n C dL_file_1 1 rfl ?_
  refine g_iconst (v := 0) C dL_file_2 (by decide) ?_
  obtain ⟨r1, er1, h⟩ := gb1 h
  refine g_callWi (rest := []) C gL_file_X5_file rfl ok_X5_file ⟨by decide, by decide⟩ ⟨rfl, rfl⟩ 168 (by decide) rfl rfl (fun hI => cn_X5_file X.2.1 Z ad hI D sav old hsz cs len g v1 0 er1) rfl dL_file_3 rfl (Nat.le_of_ble_eq_true rfl) ?_
  refine g_istore_n C dL_file_6 (by decide) [(2, .int r1), (0, .ref (ad 168)), (1, .int v1)] rfl ?_
  refine g_aload_n C dL_file_7 1 rfl ?_
  refine g_iload_n C dL_file_8 2 rfl ?_
  refine g_iconst (v := 1) C dL_file_9 (by decide) ?_
  obtain ⟨r2, er2, h⟩ := gb1 h
  refine g_callWi (rest := []) C gL_file_X5_file rfl ok_X5_file ⟨by decide, by decide⟩ ⟨rfl, rfl⟩ 168 (by decide) rfl rfl (fun hI => cn_X5_file X.2.1 Z ad hI D sav old hsz cs len g v1 1 er2) rfl dL_file_10 rfl (Nat.le_of_ble_eq_true rfl) ?_
  refine g_istore_n C dL_file_13 (by decide) [(3, .int r2), (2, .int r1), (0, .ref (ad 168)), (1, .int v1)] rfl ?_
  refine g_iconst (v := 0) C dL_file_14 (by decide) ?_
  refine g_istore C dL_file_15 (by decide) [(4, .int 0), (3, .int r2), (2, .int r1), (0, .ref (ad 168)), (1, .int v1)] rfl ?_
  refine g_iconst (v := (-1)) C dL_file_17 (by decide) ?_
  refine g_istore C dL_file_18 (by decide) [(5, .int (-1)), (4, .int 0), (3, .int r2), (2, .int r1), (0, .ref (ad 168)), (1, .int v1)] rfl ?_
  refine g_iconst (v := 0) C dL_file_20 (by decide) ?_
  refine g_istore C dL_file_21 (by decide) [(6, .int 0), (5, .int (-1)), (4, .int 0), (3, .int r2), (2, .int r1), (0, .ref (ad 168)), (1, .int v1)] rfl ?_
  refine g_iconst (v := 0) C dL_file_23 (by decide) ?_
  refine g_istore C dL_file_24 (by decide) [(7, .int 0), (6, .int 0), (5, .int (-1)), (4, .int 0), (3, .int r2), (2, .int r1), (0, .ref (ad 168)), (1, .int v1)] rfl ?_
  obtain ⟨o72, o73, o74, o75, eo72, h⟩ := gb4 h
  refine g_sub [6, 7, 5, 4, 3, 2, 1, 0] rfl (cl_L_file_L26 C ?_ gFu 0 (-1) 0 0 eo72)
  refine g_iload C dL_file_176 4 rfl ?_
  refine g_iload_n C dL_file_178 2 rfl ?_
  refine g_iload_n C dL_file_179 3 rfl ?_
  refine g_iadd C dL_file_180 ?_
  obtain ⟨c76, h⟩ := gguard h
  refine g_icmp_ne (tgt := 248) C dL_file_181 (by decide) (fun hc => absurd c76 hc) (fun _ => ?_)
  refine g_iload_n C dL_file_184 3 rfl ?_
  obtain ⟨c77, h⟩ := gnz h
  refine g_if_lt (tgt := 248) C dL_file_185 (by decide) (fun hc => absurd hc c77) (fun _ => ?_)
  refine g_aload_n C dL_file_188 0 rfl ?_
  refine g_iload_n C dL_file_189 1 rfl ?_
  refine g_aload_n C dL_file_190 0 rfl ?_
  refine g_iload_n C dL_file_191 1 rfl ?_
  refine g_iconst (v := 4) C dL_file_192 (by decide) ?_
  obtain ⟨r78, er78, h⟩ := gb1 h
  refine g_callWi (rest := [.int v1, .ref (ad 168)]) C gL_file_X5_file rfl ok_X5_file ⟨by decide, by decide⟩ ⟨rfl, rfl⟩ 168 (by decide) rfl rfl (fun hI => cn_X5_file X.2.1 Z ad hI D sav old hsz cs len g v1 4 er78) rfl dL_file_193 rfl (Nat.le_of_ble_eq_true rfl) ?_
  refine g_iconst (v := 0) C dL_file_196 (by decide) ?_
  obtain ⟨r79, er79, h⟩ := gb1 h
  refine g_callWi (rest := []) C gL_file_X5_extent rfl ok_X5_extent ⟨by decide, by decide⟩ ⟨rfl, rfl⟩ 168 (by decide) rfl rfl (fun hI => cn_X5_extent X.2.1 Z ad hI D sav old hsz cs len g v1 r78 0 er79) rfl dL_file_197 rfl (Nat.le_of_ble_eq_true rfl) ?_
  refine g_bipush (v := (-5)) C dL_file_200 (by decide) ?_
  obtain ⟨c80, h⟩ := gguard h
  refine g_icmp_ne (tgt := 248) C dL_file_202 (by decide) (fun hc => absurd c80 hc) (fun _ => ?_)
  refine g_aload_n C dL_file_205 0 rfl ?_
  refine g_iload_n C dL_file_206 1 rfl ?_
  refine g_iconst (v := 2) C dL_file_207 (by decide) ?_
  obtain ⟨r81, er81, h⟩ := gb1 h
  refine g_callWi (rest := []) C gL_file_X5_file rfl ok_X5_file ⟨by decide, by decide⟩ ⟨rfl, rfl⟩ 168 (by decide) rfl rfl (fun hI => cn_X5_file X.2.1 Z ad hI D sav old hsz cs len g v1 2 er81) rfl dL_file_208 rfl (Nat.le_of_ble_eq_true rfl) ?_
  obtain ⟨c82, h⟩ := gnz h
  refine g_if_lt (tgt := 248) C dL_file_211 (by decide) (fun hc => absurd hc c82) (fun _ => ?_)
  refine g_aload_n C dL_file_214 0 rfl ?_
  refine g_iload_n C dL_file_215 1 rfl ?_
  refine g_iconst (v := 2) C dL_file_216 (by decide) ?_
  obtain ⟨r83, er83, h⟩ := gb1 h
  refine g_callWi (rest := []) C gL_file_X5_file rfl ok_X5_file ⟨by decide, by decide⟩ ⟨rfl, rfl⟩ 168 (by decide) rfl rfl (fun hI => cn_X5_file X.2.1 Z ad hI D sav old hsz cs len g v1 2 er83) rfl dL_file_217 rfl (Nat.le_of_ble_eq_true rfl) ?_
  refine g_iload_n C dL_file_220 2 rfl ?_
  obtain ⟨c84, h⟩ := gnz h
  refine g_icmp_gt (tgt := 248) C dL_file_221 (by decide) (fun hc => absurd hc c84) (fun _ => ?_)
  refine g_aload_n C dL_file_224 0 rfl ?_
  refine g_iload_n C dL_file_225 1 rfl ?_
  refine g_iconst (v := 5) C dL_file_226 (by decide) ?_
  obtain ⟨r85, er85, h⟩ := gb1 h
  refine g_callWi (rest := []) C gL_file_X5_file rfl ok_X5_file ⟨by decide, by decide⟩ ⟨rfl, rfl⟩ 168 (by decide) rfl rfl (fun hI => cn_X5_file X.2.1 Z ad hI D sav old hsz cs len g v1 5 er85) rfl dL_file_227 rfl (Nat.le_of_ble_eq_true rfl) ?_
  obtain ⟨c86, h⟩ := gnz h
  refine g_if_le (tgt := 248) C dL_file_230 (by decide) (fun hc => absurd hc c86) (fun _ => ?_)
  refine g_aload_n C dL_file_233 0 rfl ?_
  refine g_iload_n C dL_file_234 1 rfl ?_
  refine g_iconst (v := 5) C dL_file_235 (by decide) ?_
  obtain ⟨r87, er87, h⟩ := gb1 h
  refine g_callWi (rest := []) C gL_file_X5_file rfl ok_X5_file ⟨by decide, by decide⟩ ⟨rfl, rfl⟩ 168 (by decide) rfl rfl (fun hI => cn_X5_file X.2.1 Z ad hI D sav old hsz cs len g v1 5 er87) rfl dL_file_236 rfl (Nat.le_of_ble_eq_true rfl) ?_
  refine g_bipush (v := 17) C dL_file_239 (by decide) ?_
  obtain ⟨c88, h⟩ := gnz h
  refine g_icmp_ge (tgt := 248) C dL_file_241 (by decide) (fun hc => absurd hc c88) (fun _ => ?_)
  refine g_iconst (v := 1) C dL_file_244 (by decide) ?_
  refine g_goto (tgt := 249) C dL_file_245 (by decide) ?_
  refine g_istore C dL_file_249 (by decide) [(7, .int 1), (0, .ref (ad 168)), (1, .int v1), (2, .int r1), (3, .int r2), (4, .int o72), (5, .int o73), (6, .int o74)] rfl ?_
  refine g_iload C dL_file_251 0 rfl ?_
  refine g_if_eq (tgt := 360) C dL_file_253 (by decide) (fun hc => absurd hc (by decide)) (fun _ => ?_)
  refine g_iload_n C dL_file_256 3 rfl ?_
  refine g_if_ne (tgt := 277) C dL_file_257 (by decide) (fun c89 => ?_) (fun c89 => ?_)
  · replace h := gi_neg c89 h
    refine g_aload_n C dL_file_277 1 rfl ?_
    refine g_iload_n C dL_file_278 2 rfl ?_
    refine g_iconst (v := 0) C dL_file_279 (by decide) ?_
    refine g_bipush (v := 64) C dL_file_280 (by decide) ?_
    refine g_iconst (v := 0) C dL_file_282 (by decide) ?_
    obtain ⟨r152, er152, h⟩ := gb1 h
    refine g_callWi (rest := []) C gL_file_X5_read rfl ok_X5_read ⟨by decide, by decide⟩ ⟨rfl, rfl⟩ 168 (by decide) rfl rfl (fun hI => cn_X5_read X.2.1 Z ad hI D sav old hsz cs len g v1 0 64 0 er152) rfl dL_file_283 rfl (Nat.le_of_ble_eq_true rfl) ?_
    refine g_iload C dL_file_286 7 rfl ?_
    obtain ⟨c153, h⟩ := gguard h
    refine g_icmp_ne (tgt := 360) C dL_file_288 (by decide) (fun hc => absurd c153 hc) (fun _ => ?_)
    refine g_aload_n C dL_file_291 1 rfl ?_
    refine g_iload_n C dL_file_292 2 rfl ?_
    refine g_iconst (v := 0) C dL_file_293 (by decide) ?_
    refine g_bipush (v := 64) C dL_file_294 (by decide) ?_
    refine g_iconst (v := 1) C dL_file_296 (by decide) ?_
    obtain ⟨r154, er154, h⟩ := gb1 h
    refine g_callWi (rest := []) C gL_file_X5_read rfl ok_X5_read ⟨by decide, by decide⟩ ⟨rfl, rfl⟩ 168 (by decide) rfl rfl (fun hI => cn_X5_read X.2.1 Z ad hI D sav old hsz cs len g v1 0 64 1 er154) rfl dL_file_297 rfl (Nat.le_of_ble_eq_true rfl) ?_
    refine g_iload_n C dL_file_300 3 rfl ?_
    obtain ⟨c155, h⟩ := gguard h
    refine g_icmp_ne (tgt := 360) C dL_file_301 (by decide) (fun hc => absurd c155 hc) (fun _ => ?_)
    refine g_aload_n C dL_file_304 1 rfl ?_
    refine g_iload_n C dL_file_305 2 rfl ?_
    refine g_iconst (v := 3) C dL_file_306 (by decide) ?_
    obtain ⟨r156, er156, h⟩ := gb1 h
    refine g_callWi (rest := []) C gL_file_X5_file rfl ok_X5_file ⟨by decide, by decide⟩ ⟨rfl, rfl⟩ 168 (by decide) rfl rfl (fun hI => cn_X5_file X.2.1 Z ad hI D sav old hsz cs len g v1 3 er156) rfl dL_file_307 rfl (Nat.le_of_ble_eq_true rfl) ?_
    refine g_iconst (v := 1) C dL_file_310 (by decide) ?_
    refine g_icmp_ne (tgt := 336) C dL_file_311 (by decide) (fun c157 => ?_) (fun c157 => ?_)
    · replace h := gi_neg c157 h
      refine g_aload_n C dL_file_336 1 rfl ?_
      refine g_iload_n C dL_file_337 2 rfl ?_
      obtain ⟨r170, er170, h⟩ := gb1 h
      refine g_callWi (rest := []) C gL_file_X5_room rfl ok_X5_room ⟨by decide, by decide⟩ ⟨rfl, rfl⟩ 168 (by decide) rfl rfl (fun hI => cn_X5_room X.2.1 Z ad hI D sav old hsz cs len g v1 er170) rfl dL_file_338 rfl (Nat.le_of_ble_eq_true rfl) ?_
      refine g_bipush (v := (-4)) C dL_file_341 (by decide) ?_
      obtain ⟨c171, h⟩ := gguard h
      refine g_icmp_ne (tgt := 360) C dL_file_343 (by decide) (fun hc => absurd c171 hc) (fun _ => ?_)
      refine g_aload_n C dL_file_346 1 rfl ?_
      refine g_iload_n C dL_file_347 2 rfl ?_
      refine g_iconst (v := 5) C dL_file_348 (by decide) ?_
      obtain ⟨r172, er172, h⟩ := gb1 h
      refine g_callWi (rest := []) C gL_file_X5_file rfl ok_X5_file ⟨by decide, by decide⟩ ⟨rfl, rfl⟩ 168 (by decide) rfl rfl (fun hI => cn_X5_file X.2.1 Z ad hI D sav old hsz cs len g v1 5 er172) rfl dL_file_349 rfl (Nat.le_of_ble_eq_true rfl) ?_
      refine g_iconst (v := 1) C dL_file_352 (by decide) ?_
      obtain ⟨c173, h⟩ := gguard h
      refine g_icmp_ne (tgt := 360) C dL_file_353 (by decide) (fun hc => absurd c173 hc) (fun _ => ?_)
      refine g_iconst (v := 1) C dL_file_356 (by decide) ?_
      refine g_goto (tgt := 361) C dL_file_357 (by decide) ?_
      obtain rfl := gs1 h
      exact g_zret C e rfl dL_file_361
    · replace h := gi_pos c157 h
      refine g_aload_n C dL_file_314 1 rfl ?_
      refine g_iload_n C dL_file_315 2 rfl ?_
      obtain ⟨r166, er166, h⟩ := gb1 h
      refine g_callWi (rest := []) C gL_file_X5_room rfl ok_X5_room ⟨by decide, by decide⟩ ⟨rfl, rfl⟩ 168 (by decide) rfl rfl (fun hI => cn_X5_room X.2.1 Z ad hI D sav old hsz cs len g v1 er166) rfl dL_file_316 rfl (Nat.le_of_ble_eq_true rfl) ?_
      refine g_aload_n C dL_file_319 1 rfl ?_
      refine g_iconst (v := 2) C dL_file_320 (by decide) ?_
      obtain ⟨r167, er167, h⟩ := gb1 h
      refine g_callWi (rest := [.int r166]) C gL_file_X5_count rfl ok_X5_count ⟨by decide, by decide⟩ ⟨rfl, rfl⟩ 168 (by decide) rfl rfl (fun hI => cn_X5_count X.2.1 Z ad hI D sav old hsz cs len g 2 er167) rfl dL_file_321 rfl (Nat.le_of_ble_eq_true rfl) ?_
      refine g_aload_n C dL_file_324 1 rfl ?_
      refine g_iconst (v := 4) C dL_file_325 (by decide) ?_
      obtain ⟨r168, er168, h⟩ := gb1 h
      refine g_callWi (rest := [.int r167, .int r166]) C gL_file_X5_count rfl ok_X5_count ⟨by decide, by decide⟩ ⟨rfl, rfl⟩ 168 (by decide) rfl rfl (fun hI => cn_X5_count X.2.1 Z ad hI D sav old hsz cs len g 4 er168) rfl dL_file_326 rfl (Nat.le_of_ble_eq_true rfl) ?_
      refine g_iadd C dL_file_329 ?_
      obtain ⟨c169, h⟩ := gguard h
      refine g_icmp_ne (tgt := 360) C dL_file_330 (by decide) (fun hc => absurd c169 hc) (fun _ => ?_)
      refine g_goto (tgt := 356) C dL_file_333 (by decide) ?_
      refine g_iconst (v := 1) C dL_file_356 (by decide) ?_
      refine g_goto (tgt := 361) C dL_file_357 (by decide) ?_
      obtain rfl := gs1 h
      exact g_zret C e rfl dL_file_361
  · replace h := gi_pos c89 h
    refine g_aload_n C dL_file_260 1 rfl ?_
    refine g_iload_n C dL_file_261 2 rfl ?_
    refine g_iconst (v := 0) C dL_file_262 (by decide) ?_
    refine g_bipush (v := 64) C dL_file_263 (by decide) ?_
    refine g_iconst (v := 0) C dL_file_265 (by decide) ?_
    obtain ⟨r132, er132, h⟩ := gb1 h
    refine g_callWi (rest := []) C gL_file_X5_read rfl ok_X5_read ⟨by decide, by decide⟩ ⟨rfl, rfl⟩ 168 (by decide) rfl rfl (fun hI => cn_X5_read X.2.1 Z ad hI D sav old hsz cs len g v1 0 64 0 er132) rfl dL_file_266 rfl (Nat.le_of_ble_eq_true rfl) ?_
    refine g_bipush (v := (-5)) C dL_file_269 (by decide) ?_
    obtain ⟨c133, h⟩ := gguard h
    refine g_icmp_ne (tgt := 360) C dL_file_271 (by decide) (fun hc => absurd c133 hc) (fun _ => ?_)
    refine g_goto (tgt := 304) C dL_file_274 (by decide) ?_
    refine g_aload_n C dL_file_304 1 rfl ?_
    refine g_iload_n C dL_file_305 2 rfl ?_
    refine g_iconst (v := 3) C dL_file_306 (by decide) ?_
    obtain ⟨r134, er134, h⟩ := gb1 h
    refine g_callWi (rest := []) C gL_file_X5_file rfl ok_X5_file ⟨by decide, by decide⟩ ⟨rfl, rfl⟩ 168 (by decide) rfl rfl (fun hI => cn_X5_file X.2.1 Z ad hI D sav old hsz cs len g v1 3 er134) rfl dL_file_307 rfl (Nat.le_of_ble_eq_true rfl) ?_
    refine g_iconst (v := 1) C dL_file_310 (by decide) ?_
    refine g_icmp_ne (tgt := 336) C dL_file_311 (by decide) (fun c135 => ?_) (fun c135 => ?_)
    · replace h := gi_neg c135 h
      refine g_aload_n C dL_file_336 1 rfl ?_
      refine g_iload_n C dL_file_337 2 rfl ?_
      obtain ⟨r148, er148, h⟩ := gb1 h
      refine g_callWi (rest := []) C gL_file_X5_room rfl ok_X5_room ⟨by decide, by decide⟩ ⟨rfl, rfl⟩ 168 (by decide) rfl rfl (fun hI => cn_X5_room X.2.1 Z ad hI D sav old hsz cs len g v1 er148) rfl dL_file_338 rfl (Nat.le_of_ble_eq_true rfl) ?_
      refine g_bipush (v := (-4)) C dL_file_341 (by decide) ?_
      obtain ⟨c149, h⟩ := gguard h
      refine g_icmp_ne (tgt := 360) C dL_file_343 (by decide) (fun hc => absurd c149 hc) (fun _ => ?_)
      refine g_aload_n C dL_file_346 1 rfl ?_
      refine g_iload_n C dL_file_347 2 rfl ?_
      refine g_iconst (v := 5) C dL_file_348 (by decide) ?_
      obtain ⟨r150, er150, h⟩ := gb1 h
      refine g_callWi (rest := []) C gL_file_X5_file rfl ok_X5_file ⟨by decide, by decide⟩ ⟨rfl, rfl⟩ 168 (by decide) rfl rfl (fun hI => cn_X5_file X.2.1 Z ad hI D sav old hsz cs len g v1 5 er150) rfl dL_file_349 rfl (Nat.le_of_ble_eq_true rfl) ?_
      refine g_iconst (v := 1) C dL_file_352 (by decide) ?_
      obtain ⟨c151, h⟩ := gguard h
      refine g_icmp_ne (tgt := 360) C dL_file_353 (by decide) (fun hc => absurd c151 hc) (fun _ => ?_)
      refine g_iconst (v := 1) C dL_file_356 (by decide) ?_
      refine g_goto (tgt := 361) C dL_file_357 (by decide) ?_
      obtain rfl := gs1 h
      exact g_zret C e rfl dL_file_361
    · replace h := gi_pos c135 h
      refine g_aload_n C dL_file_314 1 rfl ?_
      refine g_iload_n C dL_file_315 2 rfl ?_
      obtain ⟨r144, er144, h⟩ := gb1 h
      refine g_callWi (rest := []) C gL_file_X5_room rfl ok_X5_room ⟨by decide, by decide⟩ ⟨rfl, rfl⟩ 168 (by decide) rfl rfl (fun hI => cn_X5_room X.2.1 Z ad hI D sav old hsz cs len g v1 er144) rfl dL_file_316 rfl (Nat.le_of_ble_eq_true rfl) ?_
      refine g_aload_n C dL_file_319 1 rfl ?_
      refine g_iconst (v := 2) C dL_file_320 (by decide) ?_
      obtain ⟨r145, er145, h⟩ := gb1 h
      refine g_callWi (rest := [.int r144]) C gL_file_X5_count rfl ok_X5_count ⟨by decide, by decide⟩ ⟨rfl, rfl⟩ 168 (by decide) rfl rfl (fun hI => cn_X5_count X.2.1 Z ad hI D sav old hsz cs len g 2 er145) rfl dL_file_321 rfl (Nat.le_of_ble_eq_true rfl) ?_
      refine g_aload_n C dL_file_324 1 rfl ?_
      refine g_iconst (v := 4) C dL_file_325 (by decide) ?_
      obtain ⟨r146, er146, h⟩ := gb1 h
      refine g_callWi (rest := [.int r145, .int r144]) C gL_file_X5_count rfl ok_X5_count ⟨by decide, by decide⟩ ⟨rfl, rfl⟩ 168 (by decide) rfl rfl (fun hI => cn_X5_count X.2.1 Z ad hI D sav old hsz cs len g 4 er146) rfl dL_file_326 rfl (Nat.le_of_ble_eq_true rfl) ?_
      refine g_iadd C dL_file_329 ?_
      obtain ⟨c147, h⟩ := gguard h
      refine g_icmp_ne (tgt := 360) C dL_file_330 (by decide) (fun hc => absurd c147 hc) (fun _ => ?_)
      refine g_goto (tgt := 356) C dL_file_333 (by decide) ?_
      refine g_iconst (v := 1) C dL_file_356 (by decide) ?_
      refine g_goto (tgt := 361) C dL_file_357 (by decide) ?_
      obtain rfl := gs1 h
      exact g_zret C e rfl dL_file_361
