set_option maxRecDepth 20000 in
theorem ggL_hangs_X5_file : GoodIn wsL_hangs wsX5_file := goodIn_r _ [5, 6, 7, 8, 9, 10, 11, 12, 13, 14, 15, 16, 17, 18, 19, 20, 21, 22, 23, 24, 25, 26, 27, 28, 29, 30, 31, 32, 33, 34, 35, 36, 37, 38, 39, 40, 41, 42, 43, 44, 45, 46, 47, 48, 49, 50, 51, 52, 53, 54, 55, 56, 205, 206, 207, 208, 209, 210, 211, 212, 213, 214, 215, 216, 217, 218, 219, 220, 221, 222] (by decide +kernel) (by decide +kernel)
set_option maxRecDepth 20000 in
theorem gL_hangs_X5_file : GoodIn wsL_hangs (wsV RL 51 RX5 yX5_file wsX5_file) := goodIn_app (goodIn_of _ (by decide +kernel)) ggL_hangs_X5_file
set_option maxRecDepth 20000 in
theorem ggL_hangs_L_file : GoodIn wsL_hangs wsL_file := goodIn_r _ [60, 1, 2, 3, 4, 5, 6, 7, 8, 9, 10, 11, 12, 13, 14, 15, 16, 17, 18, 19, 20, 21, 22, 23, 24, 25, 26, 27, 28, 29, 30, 31, 32, 33, 34, 35, 36, 37, 38, 39, 40, 41, 42, 43, 44, 45, 46, 47, 48, 49, 50, 51, 52, 53, 54, 55, 56, 61, 62, 63, 64, 65, 66, 67, 68, 69, 70, 71, 72, 73, 74, 75, 76, 77, 78, 79, 80, 81, 82, 83, 84, 85, 86, 87, 88, 89, 90, 91, 92, 93, 94, 95, 96, 97, 98, 99, 100, 101, 102, 103, 104, 105, 106, 107, 108, 109, 110, 111, 112, 113, 114, 115, 116, 117, 118, 119, 120, 121, 122, 123, 124, 125, 126, 127, 128, 129, 130, 131, 132, 133, 134, 135, 136, 137, 138, 139, 140, 141, 142, 143, 144, 145, 146, 147, 148, 149, 150, 151, 152, 153, 154, 155, 156, 157, 158, 159, 160, 161, 162, 163, 164, 165, 166, 167, 168, 169, 170, 171, 172, 173, 174, 175, 176, 177, 178, 205, 206, 207, 208, 209, 210, 211, 212, 213, 214, 215, 216, 217, 218, 219, 220, 221, 222, 223, 224, 225, 226, 227] (by decide +kernel) (by decide +kernel)
set_option maxRecDepth 20000 in
theorem gL_hangs_L_file : GoodIn wsL_hangs (va_wsS RL 70 yL_file wsL_file) := goodIn_app (goodIn_of _ (by decide +kernel)) ggL_hangs_L_file
set_option maxRecDepth 20000 in
theorem ggL_hangs_X5_count : GoodIn wsL_hangs wsX5_count := goodIn_r _ [130, 6, 131, 132, 133, 134, 135, 10, 136, 12, 13, 14, 15, 16, 17, 18, 137, 138, 139, 140, 46, 141, 124, 125, 126, 23, 24, 25, 26, 27, 142, 143, 144, 145, 146, 29, 30, 31, 32, 147, 148, 149, 150, 151, 152, 153, 154, 155, 156, 157, 158, 159, 160, 105, 161, 162, 163, 164, 165, 166, 43, 44, 45, 47, 48, 49, 50, 51, 167, 168, 169, 170, 171, 172, 173, 174, 175, 176, 177, 178, 205, 206, 207, 208, 209, 210, 211, 212, 213, 214, 215, 216, 217, 218, 219, 220, 221, 222, 223, 224, 225, 226, 227] (by decide +kernel) (by decide +kernel)
set_option maxRecDepth 20000 in
theorem gL_hangs_X5_count : GoodIn wsL_hangs (wsV RL 67 RX5 yX5_count wsX5_count) := goodIn_app (goodIn_of _ (by decide +kernel)) ggL_hangs_X5_count
set_option maxRecDepth 20000 in
theorem ggL_hangs_X5_run : GoodIn wsL_hangs wsX5_run := goodIn_r _ [182, 6, 183, 184, 185, 10, 186, 151, 152, 153, 154, 46, 13, 14, 15, 16, 17, 18, 187, 205, 206, 207, 208, 209, 210, 211, 212, 213, 214, 215, 216, 217, 218, 219, 220, 221, 222] (by decide +kernel) (by decide +kernel)
set_option maxRecDepth 20000 in
theorem gL_hangs_X5_run : GoodIn wsL_hangs (wsV RL 73 RX5 yX5_run wsX5_run) := goodIn_app (goodIn_of _ (by decide +kernel)) ggL_hangs_X5_run
set_option maxRecDepth 20000 in
theorem ggL_hangs_X5_block : GoodIn wsL_hangs wsX5_block := goodIn_r _ [81, 6, 82, 83, 84, 10, 85, 46, 24, 25, 26, 16, 27, 18, 86, 87, 88, 89, 51, 23, 13, 14, 15, 17, 90, 91, 92, 93, 94, 95, 96, 97, 98, 205, 206, 207, 208, 209, 210, 211, 212, 213, 214, 215, 216, 217, 218, 219, 220, 221, 222] (by decide +kernel) (by decide +kernel)
set_option maxRecDepth 20000 in
theorem gL_hangs_X5_block : GoodIn wsL_hangs (wsV RL 57 RX5 yX5_block wsX5_block) := goodIn_app (goodIn_of _ (by decide +kernel)) ggL_hangs_X5_block
set_option maxRecDepth 20000 in
theorem ggL_hangs_X5_wholeness : GoodIn wsL_hangs wsX5_wholeness := goodIn_r _ [191, 6, 162, 163, 164, 10, 165, 166, 43, 44, 45, 46, 13, 14, 15, 16, 17, 18, 47, 48, 49, 50, 51, 24, 25, 26, 27, 192, 193, 194, 195, 32, 205, 206, 207, 208, 209, 210, 211, 212, 213, 214, 215, 216, 217, 218, 219, 220, 221, 222] (by decide +kernel) (by decide +kernel)
set_option maxRecDepth 20000 in
theorem gL_hangs_X5_wholeness : GoodIn wsL_hangs (wsV RL 76 RX5 yX5_wholeness wsX5_wholeness) := goodIn_app (goodIn_of _ (by decide +kernel)) ggL_hangs_X5_wholeness
set_option maxRecDepth 20000 in
theorem ggL_hangs_X5_total : GoodIn wsL_hangs wsX5_total := goodIn_r _ [199, 6, 200, 201, 202, 10, 203, 204, 24, 25, 26, 16, 27, 18, 205, 206, 207, 208, 209, 210, 211, 212, 213, 214, 215, 216, 217, 218, 219, 220, 221, 222] (by decide +kernel) (by decide +kernel)
set_option maxRecDepth 20000 in
theorem gL_hangs_X5_total : GoodIn wsL_hangs (wsV RL 80 RX5 yX5_total wsX5_total) := goodIn_app (goodIn_of _ (by decide +kernel)) ggL_hangs_X5_total
theorem dL_hangs_0 : decode cL_hangs 0 = .ok (.iconst 0, 1) := by decide +kernel
theorem dL_hangs_1 : decode cL_hangs 1 = .ok (.istore_n 1, 1) := by decide +kernel
theorem dL_hangs_2 : decode cL_hangs 2 = .ok (.iconst 0, 1) := by decide +kernel
theorem dL_hangs_3 : decode cL_hangs 3 = .ok (.istore_n 2, 1) := by decide +kernel
theorem dL_hangs_4 : decode cL_hangs 4 = .ok (.iconst 0, 1) := by decide +kernel
theorem dL_hangs_5 : decode cL_hangs 5 = .ok (.istore_n 3, 1) := by decide +kernel
theorem dL_hangs_6 : decode cL_hangs 6 = .ok (.iconst 0, 1) := by decide +kernel
theorem dL_hangs_7 : decode cL_hangs 7 = .ok (.istore 4, 2) := by decide +kernel
theorem dL_hangs_9 : decode cL_hangs 9 = .ok (.iconst 0, 1) := by decide +kernel
theorem dL_hangs_10 : decode cL_hangs 10 = .ok (.istore 5, 2) := by decide +kernel
theorem dL_hangs_12 : decode cL_hangs 12 = .ok (.iconst 0, 1) := by decide +kernel
theorem dL_hangs_13 : decode cL_hangs 13 = .ok (.istore 6, 2) := by decide +kernel
theorem dL_hangs_15 : decode cL_hangs 15 = .ok (.iconst 0, 1) := by decide +kernel
theorem dL_hangs_16 : decode cL_hangs 16 = .ok (.istore 7, 2) := by decide +kernel
theorem dL_hangs_18 : decode cL_hangs 18 = .ok (.iconst 0, 1) := by decide +kernel
theorem dL_hangs_19 : decode cL_hangs 19 = .ok (.istore 8, 2) := by decide +kernel
theorem dL_hangs_21 : decode cL_hangs 21 = .ok (.iload 8, 2) := by decide +kernel
theorem dL_hangs_23 : decode cL_hangs 23 = .ok (.bipush 8, 2) := by decide +kernel
theorem dL_hangs_25 : decode cL_hangs 25 = .ok (.if_icmp .ge 128, 3) := by decide +kernel
theorem dL_hangs_28 : decode cL_hangs 28 = .ok (.aload_n 0, 1) := by decide +kernel
theorem dL_hangs_29 : decode cL_hangs 29 = .ok (.iload 8, 2) := by decide +kernel
theorem dL_hangs_31 : decode cL_hangs 31 = .ok (.iconst 0, 1) := by decide +kernel
theorem dL_hangs_32 : decode cL_hangs 32 = .ok (.invokevirtual 51, 3) := by decide +kernel
theorem dL_hangs_35 : decode cL_hangs 35 = .ok (.iconst (-1), 1) := by decide +kernel
theorem dL_hangs_36 : decode cL_hangs 36 = .ok (.if_icmp .ne 6, 3) := by decide +kernel
theorem dL_hangs_39 : decode cL_hangs 39 = .ok (.goto 108, 3) := by decide +kernel
theorem dL_hangs_42 : decode cL_hangs 42 = .ok (.aload_n 0, 1) := by decide +kernel
theorem dL_hangs_43 : decode cL_hangs 43 = .ok (.iload 8, 2) := by decide +kernel
theorem dL_hangs_45 : decode cL_hangs 45 = .ok (.invokestatic 70, 3) := by decide +kernel
theorem dL_hangs_48 : decode cL_hangs 48 = .ok (.ifCond .ne 5, 3) := by decide +kernel
theorem dL_hangs_51 : decode cL_hangs 51 = .ok (.iconst 0, 1) := by decide +kernel
theorem dL_hangs_52 : decode cL_hangs 52 = .ok (.ireturn, 1) := by decide +kernel
theorem dL_hangs_53 : decode cL_hangs 53 = .ok (.iinc 1 1, 3) := by decide +kernel
theorem dL_hangs_56 : decode cL_hangs 56 = .ok (.iload_n 2, 1) := by decide +kernel
theorem dL_hangs_57 : decode cL_hangs 57 = .ok (.aload_n 0, 1) := by decide +kernel
theorem dL_hangs_58 : decode cL_hangs 58 = .ok (.iload 8, 2) := by decide +kernel
theorem dL_hangs_60 : decode cL_hangs 60 = .ok (.iconst 3, 1) := by decide +kernel
theorem dL_hangs_61 : decode cL_hangs 61 = .ok (.invokevirtual 51, 3) := by decide +kernel
theorem dL_hangs_64 : decode cL_hangs 64 = .ok (.iadd, 1) := by decide +kernel
theorem dL_hangs_65 : decode cL_hangs 65 = .ok (.istore_n 2, 1) := by decide +kernel
theorem dL_hangs_66 : decode cL_hangs 66 = .ok (.iload_n 3, 1) := by decide +kernel
theorem dL_hangs_67 : decode cL_hangs 67 = .ok (.aload_n 0, 1) := by decide +kernel
theorem dL_hangs_68 : decode cL_hangs 68 = .ok (.iload 8, 2) := by decide +kernel
theorem dL_hangs_70 : decode cL_hangs 70 = .ok (.iconst 0, 1) := by decide +kernel
theorem dL_hangs_71 : decode cL_hangs 71 = .ok (.invokevirtual 51, 3) := by decide +kernel
theorem dL_hangs_74 : decode cL_hangs 74 = .ok (.iadd, 1) := by decide +kernel
theorem dL_hangs_75 : decode cL_hangs 75 = .ok (.istore_n 3, 1) := by decide +kernel
theorem dL_hangs_76 : decode cL_hangs 76 = .ok (.iload 4, 2) := by decide +kernel
theorem dL_hangs_78 : decode cL_hangs 78 = .ok (.aload_n 0, 1) := by decide +kernel
theorem dL_hangs_79 : decode cL_hangs 79 = .ok (.iload 8, 2) := by decide +kernel
theorem dL_hangs_81 : decode cL_hangs 81 = .ok (.iconst 1, 1) := by decide +kernel
theorem dL_hangs_82 : decode cL_hangs 82 = .ok (.invokevirtual 51, 3) := by decide +kernel
theorem dL_hangs_85 : decode cL_hangs 85 = .ok (.iadd, 1) := by decide +kernel
theorem dL_hangs_86 : decode cL_hangs 86 = .ok (.istore 4, 2) := by decide +kernel
theorem dL_hangs_88 : decode cL_hangs 88 = .ok (.iload 5, 2) := by decide +kernel
theorem dL_hangs_90 : decode cL_hangs 90 = .ok (.aload_n 0, 1) := by decide +kernel
theorem dL_hangs_91 : decode cL_hangs 91 = .ok (.iload 8, 2) := by decide +kernel
theorem dL_hangs_93 : decode cL_hangs 93 = .ok (.iconst 3, 1) := by decide +kernel
theorem dL_hangs_94 : decode cL_hangs 94 = .ok (.invokevirtual 51, 3) := by decide +kernel
theorem dL_hangs_97 : decode cL_hangs 97 = .ok (.iconst 1, 1) := by decide +kernel
theorem dL_hangs_98 : decode cL_hangs 98 = .ok (.if_icmp .ne 7, 3) := by decide +kernel
theorem dL_hangs_101 : decode cL_hangs 101 = .ok (.iconst 0, 1) := by decide +kernel
theorem dL_hangs_102 : decode cL_hangs 102 = .ok (.goto 10, 3) := by decide +kernel
theorem dL_hangs_105 : decode cL_hangs 105 = .ok (.aload_n 0, 1) := by decide +kernel
theorem dL_hangs_106 : decode cL_hangs 106 = .ok (.iload 8, 2) := by decide +kernel
theorem dL_hangs_108 : decode cL_hangs 108 = .ok (.iconst 1, 1) := by decide +kernel
theorem dL_hangs_109 : decode cL_hangs 109 = .ok (.invokevirtual 51, 3) := by decide +kernel
theorem dL_hangs_112 : decode cL_hangs 112 = .ok (.iadd, 1) := by decide +kernel
theorem dL_hangs_113 : decode cL_hangs 113 = .ok (.istore 5, 2) := by decide +kernel
theorem dL_hangs_115 : decode cL_hangs 115 = .ok (.iload 6, 2) := by decide +kernel
theorem dL_hangs_117 : decode cL_hangs 117 = .ok (.aload_n 0, 1) := by decide +kernel
theorem dL_hangs_118 : decode cL_hangs 118 = .ok (.iload 8, 2) := by decide +kernel
theorem dL_hangs_120 : decode cL_hangs 120 = .ok (.iconst 4, 1) := by decide +kernel
theorem dL_hangs_121 : decode cL_hangs 121 = .ok (.invokevirtual 51, 3) := by decide +kernel
theorem dL_hangs_124 : decode cL_hangs 124 = .ok (.iadd, 1) := by decide +kernel
theorem dL_hangs_125 : decode cL_hangs 125 = .ok (.istore 6, 2) := by decide +kernel
theorem dL_hangs_127 : decode cL_hangs 127 = .ok (.iload 7, 2) := by decide +kernel
theorem dL_hangs_129 : decode cL_hangs 129 = .ok (.aload_n 0, 1) := by decide +kernel
theorem dL_hangs_130 : decode cL_hangs 130 = .ok (.iload 8, 2) := by decide +kernel
theorem dL_hangs_132 : decode cL_hangs 132 = .ok (.iconst 4, 1) := by decide +kernel
theorem dL_hangs_133 : decode cL_hangs 133 = .ok (.invokevirtual 51, 3) := by decide +kernel
theorem dL_hangs_136 : decode cL_hangs 136 = .ok (.ifCond .le 7, 3) := by decide +kernel
theorem dL_hangs_139 : decode cL_hangs 139 = .ok (.iconst 1, 1) := by decide +kernel
theorem dL_hangs_140 : decode cL_hangs 140 = .ok (.goto 4, 3) := by decide +kernel
theorem dL_hangs_143 : decode cL_hangs 143 = .ok (.iconst 0, 1) := by decide +kernel
theorem dL_hangs_144 : decode cL_hangs 144 = .ok (.iadd, 1) := by decide +kernel
theorem dL_hangs_145 : decode cL_hangs 145 = .ok (.istore 7, 2) := by decide +kernel
theorem dL_hangs_147 : decode cL_hangs 147 = .ok (.iinc 8 1, 3) := by decide +kernel
theorem dL_hangs_150 : decode cL_hangs 150 = .ok (.goto (-129), 3) := by decide +kernel
theorem dL_hangs_153 : decode cL_hangs 153 = .ok (.iconst 0, 1) := by decide +kernel
theorem dL_hangs_154 : decode cL_hangs 154 = .ok (.istore 8, 2) := by decide +kernel
theorem dL_hangs_156 : decode cL_hangs 156 = .ok (.iconst 0, 1) := by decide +kernel
theorem dL_hangs_157 : decode cL_hangs 157 = .ok (.istore 9, 2) := by decide +kernel
theorem dL_hangs_159 : decode cL_hangs 159 = .ok (.bipush (-2), 2) := by decide +kernel
theorem dL_hangs_161 : decode cL_hangs 161 = .ok (.istore 10, 2) := by decide +kernel
theorem dL_hangs_163 : decode cL_hangs 163 = .ok (.iconst 0, 1) := by decide +kernel
theorem dL_hangs_164 : decode cL_hangs 164 = .ok (.istore 11, 2) := by decide +kernel
theorem dL_hangs_166 : decode cL_hangs 166 = .ok (.iload 11, 2) := by decide +kernel
theorem dL_hangs_168 : decode cL_hangs 168 = .ok (.aload_n 0, 1) := by decide +kernel
theorem dL_hangs_169 : decode cL_hangs 169 = .ok (.bipush 6, 2) := by decide +kernel
theorem dL_hangs_171 : decode cL_hangs 171 = .ok (.invokevirtual 67, 3) := by decide +kernel
theorem dL_hangs_174 : decode cL_hangs 174 = .ok (.if_icmp .ge 126, 3) := by decide +kernel
theorem dL_hangs_177 : decode cL_hangs 177 = .ok (.aload_n 0, 1) := by decide +kernel
theorem dL_hangs_178 : decode cL_hangs 178 = .ok (.iload 11, 2) := by decide +kernel
theorem dL_hangs_180 : decode cL_hangs 180 = .ok (.iconst 0, 1) := by decide +kernel
theorem dL_hangs_181 : decode cL_hangs 181 = .ok (.invokevirtual 73, 3) := by decide +kernel
theorem dL_hangs_184 : decode cL_hangs 184 = .ok (.istore 12, 2) := by decide +kernel
theorem dL_hangs_186 : decode cL_hangs 186 = .ok (.aload_n 0, 1) := by decide +kernel
theorem dL_hangs_187 : decode cL_hangs 187 = .ok (.iload 11, 2) := by decide +kernel
theorem dL_hangs_189 : decode cL_hangs 189 = .ok (.iconst 1, 1) := by decide +kernel
theorem dL_hangs_190 : decode cL_hangs 190 = .ok (.invokevirtual 73, 3) := by decide +kernel
theorem dL_hangs_193 : decode cL_hangs 193 = .ok (.istore 13, 2) := by decide +kernel
theorem dL_hangs_195 : decode cL_hangs 195 = .ok (.iload 13, 2) := by decide +kernel
theorem dL_hangs_197 : decode cL_hangs 197 = .ok (.iconst 1, 1) := by decide +kernel
theorem dL_hangs_198 : decode cL_hangs 198 = .ok (.if_icmp .lt 62, 3) := by decide +kernel
theorem dL_hangs_201 : decode cL_hangs 201 = .ok (.iload 12, 2) := by decide +kernel
theorem dL_hangs_203 : decode cL_hangs 203 = .ok (.iload 10, 2) := by decide +kernel
theorem dL_hangs_205 : decode cL_hangs 205 = .ok (.iconst 2, 1) := by decide +kernel
theorem dL_hangs_206 : decode cL_hangs 206 = .ok (.iadd, 1) := by decide +kernel
theorem dL_hangs_207 : decode cL_hangs 207 = .ok (.if_icmp .lt 53, 3) := by decide +kernel
theorem dL_hangs_210 : decode cL_hangs 210 = .ok (.aload_n 0, 1) := by decide +kernel
theorem dL_hangs_211 : decode cL_hangs 211 = .ok (.iload 12, 2) := by decide +kernel
theorem dL_hangs_213 : decode cL_hangs 213 = .ok (.iconst 1, 1) := by decide +kernel
theorem dL_hangs_214 : decode cL_hangs 214 = .ok (.invokevirtual 57, 3) := by decide +kernel
theorem dL_hangs_217 : decode cL_hangs 217 = .ok (.ifCond .ne 43, 3) := by decide +kernel
theorem dL_hangs_220 : decode cL_hangs 220 = .ok (.aload_n 0, 1) := by decide +kernel
theorem dL_hangs_221 : decode cL_hangs 221 = .ok (.iload 12, 2) := by decide +kernel
theorem dL_hangs_223 : decode cL_hangs 223 = .ok (.iload 13, 2) := by decide +kernel
theorem dL_hangs_225 : decode cL_hangs 225 = .ok (.iadd, 1) := by decide +kernel
theorem dL_hangs_226 : decode cL_hangs 226 = .ok (.iconst 1, 1) := by decide +kernel
theorem dL_hangs_227 : decode cL_hangs 227 = .ok (.isub, 1) := by decide +kernel
theorem dL_hangs_228 : decode cL_hangs 228 = .ok (.iconst 0, 1) := by decide +kernel
theorem dL_hangs_229 : decode cL_hangs 229 = .ok (.invokevirtual 57, 3) := by decide +kernel
theorem dL_hangs_232 : decode cL_hangs 232 = .ok (.bipush (-5), 2) := by decide +kernel
theorem dL_hangs_234 : decode cL_hangs 234 = .ok (.if_icmp .ne 26, 3) := by decide +kernel
theorem dL_hangs_237 : decode cL_hangs 237 = .ok (.iload 12, 2) := by decide +kernel
theorem dL_hangs_239 : decode cL_hangs 239 = .ok (.iload 13, 2) := by decide +kernel
theorem dL_hangs_241 : decode cL_hangs 241 = .ok (.iadd, 1) := by decide +kernel
theorem dL_hangs_242 : decode cL_hangs 242 = .ok (.bipush 64, 2) := by decide +kernel
theorem dL_hangs_244 : decode cL_hangs 244 = .ok (.if_icmp .ge 18, 3) := by decide +kernel
theorem dL_hangs_247 : decode cL_hangs 247 = .ok (.aload_n 0, 1) := by decide +kernel
theorem dL_hangs_248 : decode cL_hangs 248 = .ok (.iload 12, 2) := by decide +kernel
theorem dL_hangs_250 : decode cL_hangs 250 = .ok (.iload 13, 2) := by decide +kernel
theorem dL_hangs_252 : decode cL_hangs 252 = .ok (.iadd, 1) := by decide +kernel
theorem dL_hangs_253 : decode cL_hangs 253 = .ok (.iconst 1, 1) := by decide +kernel
theorem dL_hangs_254 : decode cL_hangs 254 = .ok (.invokevirtual 57, 3) := by decide +kernel
theorem dL_hangs_257 : decode cL_hangs 257 = .ok (.ifCond .ne 5, 3) := by decide +kernel
theorem dL_hangs_260 : decode cL_hangs 260 = .ok (.iconst 0, 1) := by decide +kernel
theorem dL_hangs_261 : decode cL_hangs 261 = .ok (.ireturn, 1) := by decide +kernel
theorem dL_hangs_262 : decode cL_hangs 262 = .ok (.iload 12, 2) := by decide +kernel
theorem dL_hangs_264 : decode cL_hangs 264 = .ok (.iload 13, 2) := by decide +kernel
theorem dL_hangs_266 : decode cL_hangs 266 = .ok (.iadd, 1) := by decide +kernel
theorem dL_hangs_267 : decode cL_hangs 267 = .ok (.iconst 1, 1) := by decide +kernel
theorem dL_hangs_268 : decode cL_hangs 268 = .ok (.isub, 1) := by decide +kernel
theorem dL_hangs_269 : decode cL_hangs 269 = .ok (.istore 10, 2) := by decide +kernel
theorem dL_hangs_271 : decode cL_hangs 271 = .ok (.iload 8, 2) := by decide +kernel
theorem dL_hangs_273 : decode cL_hangs 273 = .ok (.iload 13, 2) := by decide +kernel
theorem dL_hangs_275 : decode cL_hangs 275 = .ok (.iadd, 1) := by decide +kernel
theorem dL_hangs_276 : decode cL_hangs 276 = .ok (.istore 8, 2) := by decide +kernel
theorem dL_hangs_278 : decode cL_hangs 278 = .ok (.iload 13, 2) := by decide +kernel
theorem dL_hangs_280 : decode cL_hangs 280 = .ok (.iload 9, 2) := by decide +kernel
theorem dL_hangs_282 : decode cL_hangs 282 = .ok (.if_icmp .le 8, 3) := by decide +kernel
theorem dL_hangs_285 : decode cL_hangs 285 = .ok (.iload 13, 2) := by decide +kernel
theorem dL_hangs_287 : decode cL_hangs 287 = .ok (.goto 5, 3) := by decide +kernel
theorem dL_hangs_290 : decode cL_hangs 290 = .ok (.iload 9, 2) := by decide +kernel
theorem dL_hangs_292 : decode cL_hangs 292 = .ok (.istore 9, 2) := by decide +kernel
theorem dL_hangs_294 : decode cL_hangs 294 = .ok (.iinc 11 1, 3) := by decide +kernel
theorem dL_hangs_297 : decode cL_hangs 297 = .ok (.goto (-131), 3) := by decide +kernel
theorem dL_hangs_300 : decode cL_hangs 300 = .ok (.aload_n 0, 1) := by decide +kernel
theorem dL_hangs_301 : decode cL_hangs 301 = .ok (.iconst 0, 1) := by decide +kernel
theorem dL_hangs_302 : decode cL_hangs 302 = .ok (.invokevirtual 67, 3) := by decide +kernel
theorem dL_hangs_305 : decode cL_hangs 305 = .ok (.iload_n 1, 1) := by decide +kernel
theorem dL_hangs_306 : decode cL_hangs 306 = .ok (.if_icmp .ne 89, 3) := by decide +kernel
theorem dL_hangs_309 : decode cL_hangs 309 = .ok (.aload_n 0, 1) := by decide +kernel
theorem dL_hangs_310 : decode cL_hangs 310 = .ok (.iconst 1, 1) := by decide +kernel
theorem dL_hangs_311 : decode cL_hangs 311 = .ok (.invokevirtual 67, 3) := by decide +kernel
theorem dL_hangs_314 : decode cL_hangs 314 = .ok (.iload_n 2, 1) := by decide +kernel
theorem dL_hangs_315 : decode cL_hangs 315 = .ok (.if_icmp .ne 80, 3) := by decide +kernel
theorem dL_hangs_318 : decode cL_hangs 318 = .ok (.aload_n 0, 1) := by decide +kernel
theorem dL_hangs_319 : decode cL_hangs 319 = .ok (.iconst 2, 1) := by decide +kernel
theorem dL_hangs_320 : decode cL_hangs 320 = .ok (.invokevirtual 67, 3) := by decide +kernel
theorem dL_hangs_323 : decode cL_hangs 323 = .ok (.iload 8, 2) := by decide +kernel
theorem dL_hangs_325 : decode cL_hangs 325 = .ok (.if_icmp .ne 70, 3) := by decide +kernel
theorem dL_hangs_328 : decode cL_hangs 328 = .ok (.aload_n 0, 1) := by decide +kernel
theorem dL_hangs_329 : decode cL_hangs 329 = .ok (.iconst 3, 1) := by decide +kernel
theorem dL_hangs_330 : decode cL_hangs 330 = .ok (.invokevirtual 67, 3) := by decide +kernel
theorem dL_hangs_333 : decode cL_hangs 333 = .ok (.iload_n 3, 1) := by decide +kernel
theorem dL_hangs_334 : decode cL_hangs 334 = .ok (.if_icmp .ne 61, 3) := by decide +kernel
theorem dL_hangs_337 : decode cL_hangs 337 = .ok (.aload_n 0, 1) := by decide +kernel
theorem dL_hangs_338 : decode cL_hangs 338 = .ok (.iconst 4, 1) := by decide +kernel
theorem dL_hangs_339 : decode cL_hangs 339 = .ok (.invokevirtual 67, 3) := by decide +kernel
theorem dL_hangs_342 : decode cL_hangs 342 = .ok (.iload 4, 2) := by decide +kernel
theorem dL_hangs_344 : decode cL_hangs 344 = .ok (.if_icmp .ne 51, 3) := by decide +kernel
theorem dL_hangs_347 : decode cL_hangs 347 = .ok (.aload_n 0, 1) := by decide +kernel
theorem dL_hangs_348 : decode cL_hangs 348 = .ok (.iconst 5, 1) := by decide +kernel
theorem dL_hangs_349 : decode cL_hangs 349 = .ok (.invokevirtual 67, 3) := by decide +kernel
theorem dL_hangs_352 : decode cL_hangs 352 = .ok (.iload 5, 2) := by decide +kernel
theorem dL_hangs_354 : decode cL_hangs 354 = .ok (.if_icmp .ne 41, 3) := by decide +kernel
theorem dL_hangs_357 : decode cL_hangs 357 = .ok (.aload_n 0, 1) := by decide +kernel
theorem dL_hangs_358 : decode cL_hangs 358 = .ok (.bipush 7, 2) := by decide +kernel
theorem dL_hangs_360 : decode cL_hangs 360 = .ok (.invokevirtual 67, 3) := by decide +kernel
theorem dL_hangs_363 : decode cL_hangs 363 = .ok (.iload 9, 2) := by decide +kernel
theorem dL_hangs_365 : decode cL_hangs 365 = .ok (.if_icmp .ne 30, 3) := by decide +kernel
theorem dL_hangs_368 : decode cL_hangs 368 = .ok (.aload_n 0, 1) := by decide +kernel
theorem dL_hangs_369 : decode cL_hangs 369 = .ok (.bipush 8, 2) := by decide +kernel
theorem dL_hangs_371 : decode cL_hangs 371 = .ok (.invokevirtual 67, 3) := by decide +kernel
theorem dL_hangs_374 : decode cL_hangs 374 = .ok (.iload 6, 2) := by decide +kernel
theorem dL_hangs_376 : decode cL_hangs 376 = .ok (.if_icmp .ne 19, 3) := by decide +kernel
theorem dL_hangs_379 : decode cL_hangs 379 = .ok (.iload 8, 2) := by decide +kernel
theorem dL_hangs_381 : decode cL_hangs 381 = .ok (.iload_n 3, 1) := by decide +kernel
theorem dL_hangs_382 : decode cL_hangs 382 = .ok (.iadd, 1) := by decide +kernel
theorem dL_hangs_383 : decode cL_hangs 383 = .ok (.iload 4, 2) := by decide +kernel
theorem dL_hangs_385 : decode cL_hangs 385 = .ok (.iadd, 1) := by decide +kernel
theorem dL_hangs_386 : decode cL_hangs 386 = .ok (.bipush 64, 2) := by decide +kernel
theorem dL_hangs_388 : decode cL_hangs 388 = .ok (.if_icmp .ne 7, 3) := by decide +kernel
theorem dL_hangs_391 : decode cL_hangs 391 = .ok (.iconst 1, 1) := by decide +kernel
theorem dL_hangs_392 : decode cL_hangs 392 = .ok (.goto 4, 3) := by decide +kernel
theorem dL_hangs_395 : decode cL_hangs 395 = .ok (.iconst 0, 1) := by decide +kernel
theorem dL_hangs_396 : decode cL_hangs 396 = .ok (.istore 11, 2) := by decide +kernel
theorem dL_hangs_398 : decode cL_hangs 398 = .ok (.iload 11, 2) := by decide +kernel
theorem dL_hangs_400 : decode cL_hangs 400 = .ok (.ifCond .eq 53, 3) := by decide +kernel
theorem dL_hangs_403 : decode cL_hangs 403 = .ok (.aload_n 0, 1) := by decide +kernel
theorem dL_hangs_404 : decode cL_hangs 404 = .ok (.invokevirtual 76, 3) := by decide +kernel
theorem dL_hangs_407 : decode cL_hangs 407 = .ok (.iload 7, 2) := by decide +kernel
theorem dL_hangs_409 : decode cL_hangs 409 = .ok (.ifCond .ne 7, 3) := by decide +kernel
theorem dL_hangs_412 : decode cL_hangs 412 = .ok (.dconst 1, 1) := by decide +kernel
theorem dL_hangs_413 : decode cL_hangs 413 = .ok (.goto 10, 3) := by decide +kernel
theorem dL_hangs_416 : decode cL_hangs 416 = .ok (.iload 7, 2) := by decide +kernel
theorem dL_hangs_418 : decode cL_hangs 418 = .ok (.i2d, 1) := by decide +kernel
theorem dL_hangs_419 : decode cL_hangs 419 = .ok (.iload 6, 2) := by decide +kernel
theorem dL_hangs_421 : decode cL_hangs 421 = .ok (.i2d, 1) := by decide +kernel
theorem dL_hangs_422 : decode cL_hangs 422 = .ok (.ddiv, 1) := by decide +kernel
theorem dL_hangs_423 : decode cL_hangs 423 = .ok (.dcmp .l, 1) := by decide +kernel
theorem dL_hangs_424 : decode cL_hangs 424 = .ok (.ifCond .ne 29, 3) := by decide +kernel
theorem dL_hangs_427 : decode cL_hangs 427 = .ok (.aload_n 0, 1) := by decide +kernel
theorem dL_hangs_428 : decode cL_hangs 428 = .ok (.iconst 0, 1) := by decide +kernel
theorem dL_hangs_429 : decode cL_hangs 429 = .ok (.invokevirtual 80, 3) := by decide +kernel
theorem dL_hangs_432 : decode cL_hangs 432 = .ok (.iload_n 3, 1) := by decide +kernel
theorem dL_hangs_433 : decode cL_hangs 433 = .ok (.if_icmp .lt 20, 3) := by decide +kernel
theorem dL_hangs_436 : decode cL_hangs 436 = .ok (.aload_n 0, 1) := by decide +kernel
theorem dL_hangs_437 : decode cL_hangs 437 = .ok (.iconst 2, 1) := by decide +kernel
theorem dL_hangs_438 : decode cL_hangs 438 = .ok (.invokevirtual 80, 3) := by decide +kernel
theorem dL_hangs_441 : decode cL_hangs 441 = .ok (.aload_n 0, 1) := by decide +kernel
theorem dL_hangs_442 : decode cL_hangs 442 = .ok (.iconst 1, 1) := by decide +kernel
theorem dL_hangs_443 : decode cL_hangs 443 = .ok (.invokevirtual 80, 3) := by decide +kernel
theorem dL_hangs_446 : decode cL_hangs 446 = .ok (.if_icmp .gt 7, 3) := by decide +kernel
theorem dL_hangs_449 : decode cL_hangs 449 = .ok (.iconst 1, 1) := by decide +kernel
theorem dL_hangs_450 : decode cL_hangs 450 = .ok (.goto 4, 3) := by decide +kernel
theorem dL_hangs_453 : decode cL_hangs 453 = .ok (.iconst 0, 1) := by decide +kernel
theorem dL_hangs_454 : decode cL_hangs 454 = .ok (.ireturn, 1) := by decide +kernel
abbrev rm_L_hangs : Room := ({ frames := 6, cells := 0, slots := 0, locals := 221 } : Room)
theorem ok_L_hangs : gOk yL_hangs RL 1 := by refine ⟨?_, ?_, ?_, ?_⟩ <;> decide +kernel
def f_L_hangs_L21 (D : Nat → Nat → Nat → Int32) (sav : Int32) (old : Int32) (hsz : Int32) (cs : Nat → Int32) (len : Int32) (g : Nat → Int32) : Nat → Int32 → Int32 → Int32 → Int32 → Int32 → Int32 → Int32 → Int32 → Option (Int32 × Int32 × Int32 × Int32 × Int32 × Int32 × Int32 × Int32)
  | 0, _, _, _, _, _, _, _, _ => none
  | fu + 1, v1, v2, v3, v4, v5, v6, v7, v8 => if 8 ≤ v8 then some (v1, v2, v3, v4, v5, v6, v7, v8) else gb (f_X5_file D sav old hsz cs len g v8 0) (fun r136 => if r136 = (-1) then glet (v8 + 1) (fun x204 => f_L_hangs_L21 D sav old hsz cs len g fu v1 v2 v3 v4 v5 v6 v7 x204) else gb (f_L_file D sav old hsz cs len g v8) (fun r205 => if r205 = 0 then none else glet (v1 + 1) (fun x207 => gb (f_X5_file D sav old hsz cs len g v8 3) (fun r208 => glet (v2 + r208) (fun x209 => gb (f_X5_file D sav old hsz cs len g v8 0) (fun r210 => glet (v3 + r210) (fun x211 => gb (f_X5_file D sav old hsz cs len g v8 1) (fun r212 => glet (v4 + r212) (fun x213 => gb (f_X5_file D sav old hsz cs len g v8 3) (fun r214 => if r214 = 1 then glet (v5 + 0) (fun x243 => gb (f_X5_file D sav old hsz cs len g v8 4) (fun r244 => glet (v6 + r244) (fun x245 => gb (f_X5_file D sav old hsz cs len g v8 4) (fun r246 => if r246 ≤ 0 then glet (v7 + 0) (fun x252 => glet (v8 + 1) (fun x253 => f_L_hangs_L21 D sav old hsz cs len g fu x207 x209 x211 x213 x243 x245 x252 x253)) else glet (v7 + 1) (fun x254 => glet (v8 + 1) (fun x255 => f_L_hangs_L21 D sav old hsz cs len g fu x207 x209 x211 x213 x243 x245 x254 x255)))))) else gb (f_X5_file D sav old hsz cs len g v8 1) (fun r256 => glet (v5 + r256) (fun x257 => gb (f_X5_file D sav old hsz cs len g v8 4) (fun r258 => glet (v6 + r258) (fun x259 => gb (f_X5_file D sav old hsz cs len g v8 4) (fun r260 => if r260 ≤ 0 then glet (v7 + 0) (fun x266 => glet (v8 + 1) (fun x267 => f_L_hangs_L21 D sav old hsz cs len g fu x207 x209 x211 x213 x257 x259 x266 x267)) else glet (v7 + 1) (fun x268 => glet (v8 + 1) (fun x269 => f_L_hangs_L21 D sav old hsz cs len g fu x207 x209 x211 x213 x257 x259 x268 x269)))))))))))))))))
def f_L_hangs_L166 (D : Nat → Nat → Nat → Int32) (sav : Int32) (old : Int32) (hsz : Int32) (cs : Nat → Int32) (len : Int32) (g : Nat → Int32) (v1 : Int32) (v2 : Int32) (v3 : Int32) (v4 : Int32) (v5 : Int32) (v6 : Int32) (v7 : Int32) : Nat → Int32 → Int32 → Int32 → Int32 → Option (Int32 × Int32 × Int32 × Int32)
  | 0, _, _, _, _ => none
  | fu + 1, v8, v9, v10, v11 => gb (f_X5_count D sav old hsz cs len g 6) (fun r278 => if r278 ≤ v11 then some (v8, v9, v10, v11) else gb (f_X5_run D sav old hsz cs len g v11 0) (fun r321 => gb (f_X5_run D sav old hsz cs len g v11 1) (fun r322 => if r322 < 1 then none else if r321 < (v10 + 2) then none else gb (f_X5_block D sav old hsz cs len g r321 1) (fun r325 => if r325 = 0 then gb (f_X5_block D sav old hsz cs len g ((r321 + r322) - 1) 0) (fun r327 => if r327 = (-5) then if 64 ≤ (r321 + r322) then glet ((r321 + r322) - 1) (fun x346 => glet (v8 + r322) (fun x347 => if r322 ≤ v9 then glet (v11 + 1) (fun x351 => f_L_hangs_L166 D sav old hsz cs len g v1 v2 v3 v4 v5 v6 v7 fu x347 v9 x346 x351) else glet (v11 + 1) (fun x352 => f_L_hangs_L166 D sav old hsz cs len g v1 v2 v3 v4 v5 v6 v7 fu x347 r322 x346 x352))) else gb (f_X5_block D sav old hsz cs len g (r321 + r322) 1) (fun r353 => if r353 = 0 then none else glet ((r321 + r322) - 1) (fun x355 => glet (v8 + r322) (fun x356 => if r322 ≤ v9 then glet (v11 + 1) (fun x360 => f_L_hangs_L166 D sav old hsz cs len g v1 v2 v3 v4 v5 v6 v7 fu x356 v9 x355 x360) else glet (v11 + 1) (fun x361 => f_L_hangs_L166 D sav old hsz cs len g v1 v2 v3 v4 v5 v6 v7 fu x356 r322 x355 x361)))) else none) else none))))
def f_L_hangs (D : Nat → Nat → Nat → Int32) (sav : Int32) (old : Int32) (hsz : Int32) (cs : Nat → Int32) (len : Int32) (g : Nat → Int32) : Option Int32 := gbb8 (f_L_hangs_L21 D sav old hsz cs len g gFu 0 0 0 0 0 0 0 0) (fun o270 o271 o272 o273 o274 o275 o276 o277 => gbb4 (f_L_hangs_L166 D sav old hsz cs len g o270 o271 o272 o273 o274 o275 o276 gFu 0 0 (-2) 0) (fun o362 o363 o364 o365 => gb (f_X5_count D sav old hsz cs len g 0) (fun r366 => if r366 = o270 then gb (f_X5_count D sav old hsz cs len g 1) (fun r368 => if r368 = o271 then gb (f_X5_count D sav old hsz cs len g 2) (fun r370 => if r370 = o362 then gb (f_X5_count D sav old hsz cs len g 3) (fun r372 => if r372 = o272 then gb (f_X5_count D sav old hsz cs len g 4) (fun r374 => if r374 = o273 then gb (f_X5_count D sav old hsz cs len g 5) (fun r376 => if r376 = o274 then gb (f_X5_count D sav old hsz cs len g 7) (fun r378 => if r378 = o363 then gb (f_X5_count D sav old hsz cs len g 8) (fun r380 => if r380 = o275 then if ((o362 + o272) + o273) = 64 then gb (f_X5_wholeness D sav old hsz cs len g) (fun r383 => if o276 = 0 then if (Op.cmpValue (FP.dcmp r383 FP.dconst1) CmpOp.l) = 0 then gb (f_X5_total D sav old hsz cs len g 0) (fun r399 => if r399 < o272 then none else gb (f_X5_total D sav old hsz cs len g 2) (fun r401 => gb (f_X5_total D sav old hsz cs len g 1) (fun r402 => if r402 < r401 then none else some 1))) else none else if vf_b64 (FP.ddiv (FP.i2d o276) (FP.i2d o275)) = true then if (Op.cmpValue (FP.dcmp r383 (FP.ddiv (FP.i2d o276) (FP.i2d o275))) CmpOp.l) = 0 then gb (f_X5_total D sav old hsz cs len g 0) (fun r405 => if r405 < o272 then none else gb (f_X5_total D sav old hsz cs len g 2) (fun r407 => gb (f_X5_total D sav old hsz cs len g 1) (fun r408 => if r408 < r407 then none else some 1))) else none else none) else none else none) else none) else none) else none) else none) else none) else none) else none)))
set_option maxHeartbeats 8000000 in
set_option maxRecDepth 100000 in
theorem cl_L_hangs_L21 {X : gX} {Z : gZ} {ad : Nat → Nat} {D : Nat → Nat → Nat → Int32} {sav : Int32} {old : Int32} {hsz : Int32} {cs : Nat → Int32} {len : Int32} {g : Nat → Int32} {o1 : Int32} {o2 : Int32} {o3 : Int32} {o4 : Int32} {o5 : Int32} {o6 : Int32} {o7 : Int32} {o8 : Int32} (C : GC X Z cL_hangs 14 wsL_hangs RL rm_L_hangs 175 ad) (kk : GG X Z 14 175 ad (xE Z.2.1 Z.2.2 ad D sav old hsz cs len g) 153 [(0, .ref (ad 168)), (1, .int o1), (2, .int o2), (3, .int o3), (4, .int o4), (5, .int o5), (6, .int o6), (7, .int o7), (8, .int o8)] []) : ∀ (fu : Nat) (v1 : Int32) (v2 : Int32) (v3 : Int32) (v4 : Int32) (v5 : Int32) (v6 : Int32) (v7 : Int32) (v8 : Int32) (h : f_L_hangs_L21 D sav old hsz cs len g fu v1 v2 v3 v4 v5 v6 v7 v8 = some (o1, o2, o3, o4, o5, o6, o7, o8)), GG X Z 14 175 ad (xE Z.2.1 Z.2.2 ad D sav old hsz cs len g) 21 [(0, .ref (ad 168)), (1, .int v1), (2, .int v2), (3, .int v3), (4, .int v4), (5, .int v5), (6, .int v6), (7, .int v7), (8, .int v8)] [] := by
  intro fu
  induction fu with
  | zero => intro v1 v2 v3 v4 v5 v6 v7 v8 h; cases h
  | succ fu ih =>
    intro v1 v2 v3 v4 v5 v6 v7 v8 h
    rw [f_L_hangs_L21] at h
    refine g_iload C dL_hangs_21 8 rfl ?_
    refine g_bipush (v := 8) C dL_hangs_23 (by decide) ?_
    refine g_icmp_ge (tgt := 153) C dL_hangs_25 (by decide) (fun c1 => ?_) (fun c1 => ?_)
    · replace h := gi_pos c1 h
      obtain ⟨rfl, rfl, rfl, rfl, rfl, rfl, rfl, rfl⟩ := gs8 h
      exact g_sub [0, 1, 2, 3, 4, 5, 6, 7, 8] rfl kk
    · replace h := gi_neg c1 h
      refine g_aload_n C dL_hangs_28 0 rfl ?_
      refine g_iload C dL_hangs_29 8 rfl ?_
      refine g_iconst (v := 0) C dL_hangs_31 (by decide) ?_
      obtain ⟨r136, er136, h⟩ := gb1 h
      refine g_callWi (rest := []) C gL_hangs_X5_file rfl ok_X5_file ⟨by decide, by decide⟩ ⟨rfl, rfl⟩ 168 (by decide) rfl rfl (fun hI => cn_X5_file X.2.1 Z ad hI D sav old hsz cs len g v8 0 er136) rfl dL_hangs_32 rfl (Nat.le_of_ble_eq_true rfl) ?_
      refine g_iconst (v := (-1)) C dL_hangs_35 (by decide) ?_
      refine g_icmp_ne (tgt := 42) C dL_hangs_36 (by decide) (fun c137 => ?_) (fun c137 => ?_)
      · replace h := gi_neg c137 h
        refine g_aload_n C dL_hangs_42 0 rfl ?_
        refine g_iload C dL_hangs_43 8 rfl ?_
        obtain ⟨r205, er205, h⟩ := gb1 h
        refine g_callTi (rest := []) C gL_hangs_L_file rfl ok_L_file ⟨by decide, by decide⟩ ⟨rfl, rfl⟩ (fun hI => cn_L_file X.2.1 Z ad hI D sav old hsz cs len g v8 er205) rfl dL_hangs_45 rfl (Nat.le_of_ble_eq_true rfl) ?_
        obtain ⟨c206, h⟩ := gnz h
        refine g_if_ne (tgt := 53) C dL_hangs_48 (by decide) (fun _ => ?_) (fun hc => absurd hc c206)
        obtain ⟨x207, ex207, h⟩ := gl h
        refine g_iinc (v := x207) C dL_hangs_53 1 rfl (by rw [ex207]; rfl) (by decide) [(1, .int x207), (0, .ref (ad 168)), (2, .int v2), (3, .int v3), (4, .int v4), (5, .int v5), (6, .int v6), (7, .int v7), (8, .int v8)] rfl ?_
        refine g_iload_n C dL_hangs_56 2 rfl ?_
        refine g_aload_n C dL_hangs_57 1 rfl ?_
        refine g_iload C dL_hangs_58 8 rfl ?_
        refine g_iconst (v := 3) C dL_hangs_60 (by decide) ?_
        obtain ⟨r208, er208, h⟩ := gb1 h
        refine g_callWi (rest := [.int v2]) C gL_hangs_X5_file rfl ok_X5_file ⟨by decide, by decide⟩ ⟨rfl, rfl⟩ 168 (by decide) rfl rfl (fun hI => cn_X5_file X.2.1 Z ad hI D sav old hsz cs len g v8 3 er208) rfl dL_hangs_61 rfl (Nat.le_of_ble_eq_true rfl) ?_
        refine g_iadd C dL_hangs_64 ?_
        obtain ⟨x209, ex209, h⟩ := gl h
        refine g_istore_n C dL_hangs_65 (by decide) [(2, .int x209), (1, .int x207), (0, .ref (ad 168)), (3, .int v3), (4, .int v4), (5, .int v5), (6, .int v6), (7, .int v7), (8, .int v8)] (by rw [ex209]; rfl) ?_
        refine g_iload_n C dL_hangs_66 3 rfl ?_
        refine g_aload_n C dL_hangs_67 2 rfl ?_
        refine g_iload C dL_hangs_68 8 rfl ?_
        refine g_iconst (v := 0) C dL_hangs_70 (by decide) ?_
        obtain ⟨r210, er210, h⟩ := gb1 h
        refine g_callWi (rest := [.int v3]) C gL_hangs_X5_file rfl ok_X5_file ⟨by decide, by decide⟩ ⟨rfl, rfl⟩ 168 (by decide) rfl rfl (fun hI => cn_X5_file X.2.1 Z ad hI D sav old hsz cs len g v8 0 er210) rfl dL_hangs_71 rfl (Nat.le_of_ble_eq_true rfl) ?_
        refine g_iadd C dL_hangs_74 ?_
        obtain ⟨x211, ex211, h⟩ := gl h
        refine g_istore_n C dL_hangs_75 (by decide) [(3, .int x211), (2, .int x209), (1, .int x207), (0, .ref (ad 168)), (4, .int v4), (5, .int v5), (6, .int v6), (7, .int v7), (8, .int v8)] (by rw [ex211]; rfl) ?_
        refine g_iload C dL_hangs_76 4 rfl ?_
        refine g_aload_n C dL_hangs_78 3 rfl ?_
        refine g_iload C dL_hangs_79 8 rfl ?_
        refine g_iconst (v := 1) C dL_hangs_81 (by decide) ?_
        obtain ⟨r212, er212, h⟩ := gb1 h
        refine g_callWi (rest := [.int v4]) C gL_hangs_X5_file rfl ok_X5_file ⟨by decide, by decide⟩ ⟨rfl, rfl⟩ 168 (by decide) rfl rfl (fun hI => cn_X5_file X.2.1 Z ad hI D sav old hsz cs len g v8 1 er212) rfl dL_hangs_82 rfl (Nat.le_of_ble_eq_true rfl) ?_
        refine g_iadd C dL_hangs_85 ?_
        obtain ⟨x213, ex213, h⟩ := gl h
        refine g_istore C dL_hangs_86 (by decide) [(4, .int x213), (3, .int x211), (2, .int x209), (1, .int x207), (0, .ref (ad 168)), (5, .int v5), (6, .int v6), (7, .int v7), (8, .int v8)] (by rw [ex213]; rfl) ?_
        refine g_iload C dL_hangs_88 5 rfl ?_
        refine g_aload_n C dL_hangs_90 4 rfl ?_
        refine g_iload C dL_hangs_91 8 rfl ?_
        refine g_iconst (v := 3) C dL_hangs_93 (by decide) ?_
        obtain ⟨r214, er214, h⟩ := gb1 h
        refine g_callWi (rest := [.int v5]) C gL_hangs_X5_file rfl ok_X5_file ⟨by decide, by decide⟩ ⟨rfl, rfl⟩ 168 (by decide) rfl rfl (fun hI => cn_X5_file X.2.1 Z ad hI D sav old hsz cs len g v8 3 er214) rfl dL_hangs_94 rfl (Nat.le_of_ble_eq_true rfl) ?_
        refine g_iconst (v := 1) C dL_hangs_97 (by decide) ?_
        refine g_icmp_ne (tgt := 105) C dL_hangs_98 (by decide) (fun c215 => ?_) (fun c215 => ?_)
        · replace h := gi_neg c215 h
          refine g_aload_n C dL_hangs_105 4 rfl ?_
          refine g_iload C dL_hangs_106 8 rfl ?_
          refine g_iconst (v := 1) C dL_hangs_108 (by decide) ?_
          obtain ⟨r256, er256, h⟩ := gb1 h
          refine g_callWi (rest := [.int v5]) C gL_hangs_X5_file rfl ok_X5_file ⟨by decide, by decide⟩ ⟨rfl, rfl⟩ 168 (by decide) rfl rfl (fun hI => cn_X5_file X.2.1 Z ad hI D sav old hsz cs len g v8 1 er256) rfl dL_hangs_109 rfl (Nat.le_of_ble_eq_true rfl) ?_
          refine g_iadd C dL_hangs_112 ?_
          obtain ⟨x257, ex257, h⟩ := gl h
          refine g_istore C dL_hangs_113 (by decide) [(5, .int x257), (4, .int x213), (3, .int x211), (2, .int x209), (1, .int x207), (0, .ref (ad 168)), (6, .int v6), (7, .int v7), (8, .int v8)] (by rw [ex257]; rfl) ?_
          refine g_iload C dL_hangs_115 6 rfl ?_
          refine g_aload_n C dL_hangs_117 5 rfl ?_
          refine g_iload C dL_hangs_118 8 rfl ?_
          refine g_iconst (v := 4) C dL_hangs_120 (by decide) ?_
          obtain ⟨r258, er258, h⟩ := gb1 h
          refine g_callWi (rest := [.int v6]) C gL_hangs_X5_file rfl ok_X5_file ⟨by decide, by decide⟩ ⟨rfl, rfl⟩ 168 (by decide) rfl rfl (fun hI => cn_X5_file X.2.1 Z ad hI D sav old hsz cs len g v8 4 er258) rfl dL_hangs_121 rfl (Nat.le_of_ble_eq_true rfl) ?_
          refine g_iadd C dL_hangs_124 ?_
          obtain ⟨x259, ex259, h⟩ := gl h
          refine g_istore C dL_hangs_125 (by decide) [(6, .int x259), (5, .int x257), (4, .int x213), (3, .int x211), (2, .int x209), (1, .int x207), (0, .ref (ad 168)), (7, .int v7), (8, .int v8)] (by rw [ex259]; rfl) ?_
          refine g_iload C dL_hangs_127 7 rfl ?_
          refine g_aload_n C dL_hangs_129 6 rfl ?_
          refine g_iload C dL_hangs_130 8 rfl ?_
          refine g_iconst (v := 4) C dL_hangs_132 (by decide) ?_
          obtain ⟨r260, er260, h⟩ := gb1 h
          refine g_callWi (rest := [.int v7]) C gL_hangs_X5_file rfl ok_X5_file ⟨by decide, by decide⟩ ⟨rfl, rfl⟩ 168 (by decide) rfl rfl (fun hI => cn_X5_file X.2.1 Z ad hI D sav old hsz cs len g v8 4 er260) rfl dL_hangs_133 rfl (Nat.le_of_ble_eq_true rfl) ?_
          refine g_if_le (tgt := 143) C dL_hangs_136 (by decide) (fun c261 => ?_) (fun c261 => ?_)
          · replace h := gi_pos c261 h
            refine g_iconst (v := 0) C dL_hangs_143 (by decide) ?_
            refine g_iadd C dL_hangs_144 ?_
            obtain ⟨x266, ex266, h⟩ := gl h
            refine g_istore C dL_hangs_145 (by decide) [(7, .int x266), (6, .int x259), (5, .int x257), (4, .int x213), (3, .int x211), (2, .int x209), (1, .int x207), (0, .ref (ad 168)), (8, .int v8)] (by rw [ex266]; rfl) ?_
            obtain ⟨x267, ex267, h⟩ := gl h
            refine g_iinc (v := x267) C dL_hangs_147 8 rfl (by rw [ex267]; rfl) (by decide) [(8, .int x267), (7, .int x266), (6, .int x259), (5, .int x257), (4, .int x213), (3, .int x211), (2, .int x209), (1, .int x207), (0, .ref (ad 168))] rfl ?_
            refine g_goto (tgt := 21) C dL_hangs_150 (by decide) ?_
            exact g_sub [8, 7, 6, 5, 4, 3, 2, 1, 0] rfl (ih x207 x209 x211 x213 x257 x259 x266 x267 h)
          · replace h := gi_neg c261 h
            refine g_iconst (v := 1) C dL_hangs_139 (by decide) ?_
            refine g_goto (tgt := 144) C dL_hangs_140 (by decide) ?_
            refine g_iadd C dL_hangs_144 ?_
            obtain ⟨x268, ex268, h⟩ := gl h
            refine g_istore C dL_hangs_145 (by decide) [(7, .int x268), (6, .int x259), (5, .int x257), (4, .int x213), (3, .int x211), (2, .int x209), (1, .int x207), (0, .ref (ad 168)), (8, .int v8)] (by rw [ex268]; rfl) ?_
            obtain ⟨x269, ex269, h⟩ := gl h
            refine g_iinc (v := x269) C dL_hangs_147 8 rfl (by rw [ex269]; rfl) (by decide) [(8, .int x269), (7, .int x268), (6, .int x259), (5, .int x257), (4, .int x213), (3, .int x211), (2, .int x209), (1, .int x207), (0, .ref (ad 168))] rfl ?_
            refine g_goto (tgt := 21) C dL_hangs_150 (by decide) ?_
            exact g_sub [8, 7, 6, 5, 4, 3, 2, 1, 0] rfl (ih x207 x209 x211 x213 x257 x259 x268 x269 h)
        · replace h := gi_pos c215 h
          refine g_iconst (v := 0) C dL_hangs_101 (by decide) ?_
          refine g_goto (tgt := 112) C dL_hangs_102 (by decide) ?_
          refine g_iadd C dL_hangs_112 ?_
          obtain ⟨x243, ex243, h⟩ := gl h
          refine g_istore C dL_hangs_113 (by decide) [(5, .int x243), (4, .int x213), (3, .int x211), (2, .int x209), (1, .int x207), (0, .ref (ad 168)), (6, .int v6), (7, .int v7), (8, .int v8)] (by rw [ex243]; rfl) ?_
          refine g_iload C dL_hangs_115 6 rfl ?_
          refine g_aload_n C dL_hangs_117 5 rfl ?_
          refine g_iload C dL_hangs_118 8 rfl ?_
          refine g_iconst (v := 4) C dL_hangs_120 (by decide) ?_
          obtain ⟨r244, er244, h⟩ := gb1 h
          refine g_callWi (rest := [.int v6]) C gL_hangs_X5_file rfl ok_X5_file ⟨by decide, by decide⟩ ⟨rfl, rfl⟩ 168 (by decide) rfl rfl (fun hI => cn_X5_file X.2.1 Z ad hI D sav old hsz cs len g v8 4 er244) rfl dL_hangs_121 rfl (Nat.le_of_ble_eq_true rfl) ?_
          refine g_iadd C dL_hangs_124 ?_
          obtain ⟨x245, ex245, h⟩ := gl h
          refine g_istore C dL_hangs_125 (by decide) [(6, .int x245), (5, .int x243), (4, .int x213), (3, .int x211), (2, .int x209), (1, .int x207), (0, .ref (ad 168)), (7, .int v7), (8, .int v8)] (by rw [ex245]; rfl) ?_
          refine g_iload C dL_hangs_127 7 rfl ?_
          refine g_aload_n C dL_hangs_129 6 rfl ?_
          refine g_iload C dL_hangs_130 8 rfl ?_
          refine g_iconst (v := 4) C dL_hangs_132 (by decide) ?_
          obtain ⟨r246, er246, h⟩ := gb1 h
          refine g_callWi (rest := [.int v7]) C gL_hangs_X5_file rfl ok_X5_file ⟨by decide, by decide⟩ ⟨rfl, rfl⟩ 168 (by decide) rfl rfl (fun hI => cn_X5_file X.2.1 Z ad hI D sav old hsz cs len g v8 4 er246) rfl dL_hangs_133 rfl (Nat.le_of_ble_eq_true rfl) ?_
          refine g_if_le (tgt := 143) C dL_hangs_136 (by decide) (fun c247 => ?_) (fun c247 => ?_)
          · replace h := gi_pos c247 h
            refine g_iconst (v := 0) C dL_hangs_143 (by decide) ?_
            refine g_iadd C dL_hangs_144 ?_
            obtain ⟨x252, ex252, h⟩ := gl h
            refine g_istore C dL_hangs_145 (by decide) [(7, .int x252), (6, .int x245), (5, .int x243), (4, .int x213), (3, .int x211), (2, .int x209), (1, .int x207), (0, .ref (ad 168)), (8, .int v8)] (by rw [ex252]; rfl) ?_
            obtain ⟨x253, ex253, h⟩ := gl h
            refine g_iinc (v := x253) C dL_hangs_147 8 rfl (by rw [ex253]; rfl) (by decide) [(8, .int x253), (7, .int x252), (6, .int x245), (5, .int x243), (4, .int x213), (3, .int x211), (2, .int x209), (1, .int x207), (0, .ref (ad 168))] rfl ?_
            refine g_goto (tgt := 21) C dL_hangs_150 (by decide) ?_
            exact g_sub [8, 7, 6, 5, 4, 3, 2, 1, 0] rfl (ih x207 x209 x211 x213 x243 x245 x252 x253 h)
          · replace h := gi_neg c247 h
            refine g_iconst (v := 1) C dL_hangs_139 (by decide) ?_
            refine g_goto (tgt := 144) C dL_hangs_140 (by decide) ?_
            refine g_iadd C dL_hangs_144 ?_
            obtain ⟨x254, ex254, h⟩ := gl h
            refine g_istore C dL_hangs_145 (by decide) [(7, .int x254), (6, .int x245), (5, .int x243), (4, .int x213), (3, .int x211), (2, .int x209), (1, .int x207), (0, .ref (ad 168)), (8, .int v8)] (by rw [ex254]; rfl) ?_
            obtain ⟨x255, ex255, h⟩ := gl h
            refine g_iinc (v := x255) C dL_hangs_147 8 rfl (by rw [ex255]; rfl) (by decide) [(8, .int x255), (7, .int x254), (6, .int x245), (5, .int x243), (4, .int x213), (3, .int x211), (2, .int x209), (1, .int x207), (0, .ref (ad 168))] rfl ?_
            refine g_goto (tgt := 21) C dL_hangs_150 (by decide) ?_
            exact g_sub [8, 7, 6, 5, 4, 3, 2, 1, 0] rfl (ih x207 x209 x211 x213 x243 x245 x254 x255 h)
      · replace h := gi_pos c137 h
        refine g_goto (tgt := 147) C dL_hangs_39 (by decide) ?_
        obtain ⟨x204, ex204, h⟩ := gl h
        refine g_iinc (v := x204) C dL_hangs_147 8 rfl (by rw [ex204]; rfl) (by decide) [(8, .int x204), (0, .ref (ad 168)), (1, .int v1), (2, .int v2), (3, .int v3), (4, .int v4), (5, .int v5), (6, .int v6), (7, .int v7)] rfl ?_
        refine g_goto (tgt := 21) C dL_hangs_150 (by decide) ?_
        exact g_sub [1, 2, 3, 4, 5, 6, 7, 8, 0] rfl (ih v1 v2 v3 v4 v5 v6 v7 x204 h)
set_option maxHeartbeats 8000000 in
set_option maxRecDepth 100000 in
theorem cl_L_hangs_L166 {X : gX} {Z : gZ} {ad : Nat → Nat} {D : Nat → Nat → Nat → Int32} {sav : Int32} {old : Int32} {hsz : Int32} {cs : Nat → Int32} {len : Int32} {g : Nat → Int32} {v1 : Int32} {v2 : Int32} {v3 : Int32} {v4 : Int32} {v5 : Int32} {v6 : Int32} {v7 : Int32} {o8 : Int32} {o9 : Int32} {o10 : Int32} {o11 : Int32} (C : GC X Z cL_hangs 14 wsL_hangs RL rm_L_hangs 175 ad) (kk : GG X Z 14 175 ad (xE Z.2.1 Z.2.2 ad D sav old hsz cs len g) 300 [(0, .ref (ad 168)), (1, .int v1), (2, .int v2), (3, .int v3), (4, .int v4), (5, .int v5), (6, .int v6), (7, .int v7), (8, .int o8), (9, .int o9), (10, .int o10), (11, .int o11)] []) : ∀ (fu : Nat) (v8 : Int32) (v9 : Int32) (v10 : Int32) (v11 : Int32) (h : f_L_hangs_L166 D sav old hsz cs len g v1 v2 v3 v4 v5 v6 v7 fu v8 v9 v10 v11 = some (o8, o9, o10, o11)), GG X Z 14 175 ad (xE Z.2.1 Z.2.2 ad D sav old hsz cs len g) 166 [(0, .ref (ad 168)), (1, .int v1), (2, .int v2), (3, .int v3), (4, .int v4), (5, .int v5), (6, .int v6), (7, .int v7), (8, .int v8), (9, .int v9), (10, .int v10), (11, .int v11)] [] := by
  intro fu
  induction fu with
  | zero => intro v8 v9 v10 v11 h; cases h
  | succ fu ih =>
    intro v8 v9 v10 v11 h
    rw [f_L_hangs_L166] at h
    refine g_iload C dL_hangs_166 11 rfl ?_
    refine g_aload_n C dL_hangs_168 0 rfl ?_
    refine g_bipush (v := 6) C dL_hangs_169 (by decide) ?_
    obtain ⟨r278, er278, h⟩ := gb1 h
    refine g_callWi (rest := [.int v11]) C gL_hangs_X5_count rfl ok_X5_count ⟨by decide, by decide⟩ ⟨rfl, rfl⟩ 168 (by decide) rfl rfl (fun hI => cn_X5_count X.2.1 Z ad hI D sav old hsz cs len g 6 er278) rfl dL_hangs_171 rfl (Nat.le_of_ble_eq_true rfl) ?_
    refine g_icmp_ge (tgt := 300) C dL_hangs_174 (by decide) (fun c279 => ?_) (fun c279 => ?_)
    · replace h := gi_pos c279 h
      obtain ⟨rfl, rfl, rfl, rfl⟩ := gs4 h
      exact g_sub [0, 1, 2, 3, 4, 5, 6, 7, 8, 9, 10, 11] rfl kk
    · replace h := gi_neg c279 h
      refine g_aload_n C dL_hangs_177 0 rfl ?_
      refine g_iload C dL_hangs_178 11 rfl ?_
      refine g_iconst (v := 0) C dL_hangs_180 (by decide) ?_
      obtain ⟨r321, er321, h⟩ := gb1 h
      refine g_callWi (rest := []) C gL_hangs_X5_run rfl ok_X5_run ⟨by decide, by decide⟩ ⟨rfl, rfl⟩ 168 (by decide) rfl rfl (fun hI => cn_X5_run X.2.1 Z ad hI D sav old hsz cs len g v11 0 er321) rfl dL_hangs_181 rfl (Nat.le_of_ble_eq_true rfl) ?_
      refine g_istore C dL_hangs_184 (by decide) [(12, .int r321), (0, .ref (ad 168)), (1, .int v1), (2, .int v2), (3, .int v3), (4, .int v4), (5, .int v5), (6, .int v6), (7, .int v7), (8, .int v8), (9, .int v9), (10, .int v10), (11, .int v11)] rfl ?_
      refine g_aload_n C dL_hangs_186 1 rfl ?_
      refine g_iload C dL_hangs_187 12 rfl ?_
      refine g_iconst (v := 1) C dL_hangs_189 (by decide) ?_
      obtain ⟨r322, er322, h⟩ := gb1 h
      refine g_callWi (rest := []) C gL_hangs_X5_run rfl ok_X5_run ⟨by decide, by decide⟩ ⟨rfl, rfl⟩ 168 (by decide) rfl rfl (fun hI => cn_X5_run X.2.1 Z ad hI D sav old hsz cs len g v11 1 er322) rfl dL_hangs_190 rfl (Nat.le_of_ble_eq_true rfl) ?_
      refine g_istore C dL_hangs_193 (by decide) [(13, .int r322), (12, .int r321), (0, .ref (ad 168)), (1, .int v1), (2, .int v2), (3, .int v3), (4, .int v4), (5, .int v5), (6, .int v6), (7, .int v7), (8, .int v8), (9, .int v9), (10, .int v10), (11, .int v11)] rfl ?_
      refine g_iload C dL_hangs_195 0 rfl ?_
      refine g_iconst (v := 1) C dL_hangs_197 (by decide) ?_
      obtain ⟨c323, h⟩ := gnz h
      refine g_icmp_lt (tgt := 260) C dL_hangs_198 (by decide) (fun hc => absurd hc c323) (fun _ => ?_)
      refine g_iload C dL_hangs_201 1 rfl ?_
      refine g_iload C dL_hangs_203 12 rfl ?_
      refine g_iconst (v := 2) C dL_hangs_205 (by decide) ?_
      refine g_iadd C dL_hangs_206 ?_
      obtain ⟨c324, h⟩ := gnz h
      refine g_icmp_lt (tgt := 260) C dL_hangs_207 (by decide) (fun hc => absurd hc c324) (fun _ => ?_)
      refine g_aload_n C dL_hangs_210 2 rfl ?_
      refine g_iload C dL_hangs_211 1 rfl ?_
      refine g_iconst (v := 1) C dL_hangs_213 (by decide) ?_
      obtain ⟨r325, er325, h⟩ := gb1 h
      refine g_callWi (rest := []) C gL_hangs_X5_block rfl ok_X5_block ⟨by decide, by decide⟩ ⟨rfl, rfl⟩ 168 (by decide) rfl rfl (fun hI => cn_X5_block X.2.1 Z ad hI D sav old hsz cs len g r321 1 er325) rfl dL_hangs_214 rfl (Nat.le_of_ble_eq_true rfl) ?_
      obtain ⟨c326, h⟩ := gguard h
      refine g_if_ne (tgt := 260) C dL_hangs_217 (by decide) (fun hc => absurd c326 hc) (fun _ => ?_)
      refine g_aload_n C dL_hangs_220 2 rfl ?_
      refine g_iload C dL_hangs_221 1 rfl ?_
      refine g_iload C dL_hangs_223 0 rfl ?_
      refine g_iadd C dL_hangs_225 ?_
      refine g_iconst (v := 1) C dL_hangs_226 (by decide) ?_
      refine g_isub C dL_hangs_227 ?_
      refine g_iconst (v := 0) C dL_hangs_228 (by decide) ?_
      obtain ⟨r327, er327, h⟩ := gb1 h
      refine g_callWi (rest := []) C gL_hangs_X5_block rfl ok_X5_block ⟨by decide, by decide⟩ ⟨rfl, rfl⟩ 168 (by decide) rfl rfl (fun hI => cn_X5_block X.2.1 Z ad hI D sav old hsz cs len g ((r321 + r322) - 1) 0 er327) rfl dL_hangs_229 rfl (Nat.le_of_ble_eq_true rfl) ?_
      refine g_bipush (v := (-5)) C dL_hangs_232 (by decide) ?_
      obtain ⟨c328, h⟩ := gguard h
      refine g_icmp_ne (tgt := 260) C dL_hangs_234 (by decide) (fun hc => absurd c328 hc) (fun _ => ?_)
      refine g_iload C dL_hangs_237 1 rfl ?_
      refine g_iload C dL_hangs_239 0 rfl ?_
      refine g_iadd C dL_hangs_241 ?_
      refine g_bipush (v := 64) C dL_hangs_242 (by decide) ?_
      refine g_icmp_ge (tgt := 262) C dL_hangs_244 (by decide) (fun c329 => ?_) (fun c329 => ?_)
      · replace h := gi_pos c329 h
        refine g_iload C dL_hangs_262 1 rfl ?_
        refine g_iload C dL_hangs_264 0 rfl ?_
        refine g_iadd C dL_hangs_266 ?_
        refine g_iconst (v := 1) C dL_hangs_267 (by decide) ?_
        refine g_isub C dL_hangs_268 ?_
        obtain ⟨x346, ex346, h⟩ := gl h
        refine g_istore C dL_hangs_269 (by decide) [(10, .int x346), (13, .int r322), (12, .int r321), (0, .ref (ad 168)), (1, .int v1), (2, .int v2), (3, .int v3), (4, .int v4), (5, .int v5), (6, .int v6), (7, .int v7), (8, .int v8), (9, .int v9), (11, .int v11)] (by rw [ex346]; rfl) ?_
        refine g_iload C dL_hangs_271 11 rfl ?_
        refine g_iload C dL_hangs_273 1 rfl ?_
        refine g_iadd C dL_hangs_275 ?_
        obtain ⟨x347, ex347, h⟩ := gl h
        refine g_istore C dL_hangs_276 (by decide) [(8, .int x347), (10, .int x346), (13, .int r322), (12, .int r321), (0, .ref (ad 168)), (1, .int v1), (2, .int v2), (3, .int v3), (4, .int v4), (5, .int v5), (6, .int v6), (7, .int v7), (9, .int v9), (11, .int v11)] (by rw [ex347]; rfl) ?_
        refine g_iload C dL_hangs_278 2 rfl ?_
        refine g_iload C dL_hangs_280 12 rfl ?_
        refine g_icmp_le (tgt := 290) C dL_hangs_282 (by decide) (fun c348 => ?_) (fun c348 => ?_)
        · replace h := gi_pos c348 h
          refine g_iload C dL_hangs_290 12 rfl ?_
          refine g_istore C dL_hangs_292 (by decide) [(9, .int v9), (8, .int x347), (10, .int x346), (13, .int r322), (12, .int r321), (0, .ref (ad 168)), (1, .int v1), (2, .int v2), (3, .int v3), (4, .int v4), (5, .int v5), (6, .int v6), (7, .int v7), (11, .int v11)] rfl ?_
          obtain ⟨x351, ex351, h⟩ := gl h
          refine g_iinc (v := x351) C dL_hangs_294 13 rfl (by rw [ex351]; rfl) (by decide) [(11, .int x351), (9, .int v9), (8, .int x347), (10, .int x346), (13, .int r322), (12, .int r321), (0, .ref (ad 168)), (1, .int v1), (2, .int v2), (3, .int v3), (4, .int v4), (5, .int v5), (6, .int v6), (7, .int v7)] rfl ?_
          refine g_goto (tgt := 166) C dL_hangs_297 (by decide) ?_
          exact g_sub [6, 7, 8, 9, 10, 11, 12, 13, 2, 1, 3, 0] rfl (ih x347 v9 x346 x351 h)
        · replace h := gi_neg c348 h
          refine g_iload C dL_hangs_285 2 rfl ?_
          refine g_goto (tgt := 292) C dL_hangs_287 (by decide) ?_
          refine g_istore C dL_hangs_292 (by decide) [(9, .int r322), (8, .int x347), (10, .int x346), (13, .int r322), (12, .int r321), (0, .ref (ad 168)), (1, .int v1), (2, .int v2), (3, .int v3), (4, .int v4), (5, .int v5), (6, .int v6), (7, .int v7), (11, .int v11)] rfl ?_
          obtain ⟨x352, ex352, h⟩ := gl h
          refine g_iinc (v := x352) C dL_hangs_294 13 rfl (by rw [ex352]; rfl) (by decide) [(11, .int x352), (9, .int r322), (8, .int x347), (10, .int x346), (13, .int r322), (12, .int r321), (0, .ref (ad 168)), (1, .int v1), (2, .int v2), (3, .int v3), (4, .int v4), (5, .int v5), (6, .int v6), (7, .int v7)] rfl ?_
          refine g_goto (tgt := 166) C dL_hangs_297 (by decide) ?_
          exact g_sub [6, 7, 8, 9, 10, 11, 12, 13, 2, 1, 3, 0] rfl (ih x347 r322 x346 x352 h)
      · replace h := gi_neg c329 h
        refine g_aload_n C dL_hangs_247 2 rfl ?_
        refine g_iload C dL_hangs_248 1 rfl ?_
        refine g_iload C dL_hangs_250 0 rfl ?_
        refine g_iadd C dL_hangs_252 ?_
        refine g_iconst (v := 1) C dL_hangs_253 (by decide) ?_
        obtain ⟨r353, er353, h⟩ := gb1 h
        refine g_callWi (rest := []) C gL_hangs_X5_block rfl ok_X5_block ⟨by decide, by decide⟩ ⟨rfl, rfl⟩ 168 (by decide) rfl rfl (fun hI => cn_X5_block X.2.1 Z ad hI D sav old hsz cs len g (r321 + r322) 1 er353) rfl dL_hangs_254 rfl (Nat.le_of_ble_eq_true rfl) ?_
        obtain ⟨c354, h⟩ := gnz h
        refine g_if_ne (tgt := 262) C dL_hangs_257 (by decide) (fun _ => ?_) (fun hc => absurd hc c354)
        refine g_iload C dL_hangs_262 1 rfl ?_
        refine g_iload C dL_hangs_264 0 rfl ?_
        refine g_iadd C dL_hangs_266 ?_
        refine g_iconst (v := 1) C dL_hangs_267 (by decide) ?_
        refine g_isub C dL_hangs_268 ?_
        obtain ⟨x355, ex355, h⟩ := gl h
        refine g_istore C dL_hangs_269 (by decide) [(10, .int x355), (13, .int r322), (12, .int r321), (0, .ref (ad 168)), (1, .int v1), (2, .int v2), (3, .int v3), (4, .int v4), (5, .int v5), (6, .int v6), (7, .int v7), (8, .int v8), (9, .int v9), (11, .int v11)] (by rw [ex355]; rfl) ?_
        refine g_iload C dL_hangs_271 11 rfl ?_
        refine g_iload C dL_hangs_273 1 rfl ?_
        refine g_iadd C dL_hangs_275 ?_
        obtain ⟨x356, ex356, h⟩ := gl h
        refine g_istore C dL_hangs_276 (by decide) [(8, .int x356), (10, .int x355), (13, .int r322), (12, .int r321), (0, .ref (ad 168)), (1, .int v1), (2, .int v2), (3, .int v3), (4, .int v4), (5, .int v5), (6, .int v6), (7, .int v7), (9, .int v9), (11, .int v11)] (by rw [ex356]; rfl) ?_
        refine g_iload C dL_hangs_278 2 rfl ?_
        refine g_iload C dL_hangs_280 12 rfl ?_
        refine g_icmp_le (tgt := 290) C dL_hangs_282 (by decide) (fun c357 => ?_) (fun c357 => ?_)
        · replace h := gi_pos c357 h
          refine g_iload C dL_hangs_290 12 rfl ?_
          refine g_istore C dL_hangs_292 (by decide) [(9, .int v9), (8, .int x356), (10, .int x355), (13, .int r322), (12, .int r321), (0, .ref (ad 168)), (1, .int v1), (2, .int v2), (3, .int v3), (4, .int v4), (5, .int v5), (6, .int v6), (7, .int v7), (11, .int v11)] rfl ?_
          obtain ⟨x360, ex360, h⟩ := gl h
          refine g_iinc (v := x360) C dL_hangs_294 13 rfl (by rw [ex360]; rfl) (by decide) [(11, .int x360), (9, .int v9), (8, .int x356), (10, .int x355), (13, .int r322), (12, .int r321), (0, .ref (ad 168)), (1, .int v1), (2, .int v2), (3, .int v3), (4, .int v4), (5, .int v5), (6, .int v6), (7, .int v7)] rfl ?_
          refine g_goto (tgt := 166) C dL_hangs_297 (by decide) ?_
          exact g_sub [6, 7, 8, 9, 10, 11, 12, 13, 2, 1, 3, 0] rfl (ih x356 v9 x355 x360 h)
        · replace h := gi_neg c357 h
          refine g_iload C dL_hangs_285 2 rfl ?_
          refine g_goto (tgt := 292) C dL_hangs_287 (by decide) ?_
          refine g_istore C dL_hangs_292 (by decide) [(9, .int r322), (8, .int x356), (10, .int x355), (13, .int r322), (12, .int r321), (0, .ref (ad 168)), (1, .int v1), (2, .int v2), (3, .int v3), (4, .int v4), (5, .int v5), (6, .int v6), (7, .int v7), (11, .int v11)] rfl ?_
          obtain ⟨x361, ex361, h⟩ := gl h
          refine g_iinc (v := x361) C dL_hangs_294 13 rfl (by rw [ex361]; rfl) (by decide) [(11, .int x361), (9, .int r322), (8, .int x356), (10, .int x355), (13, .int r322), (12, .int r321), (0, .ref (ad 168)), (1, .int v1), (2, .int v2), (3, .int v3), (4, .int v4), (5, .int v5), (6, .int v6), (7, .int v7)] rfl ?_
          refine g_goto (tgt := 166) C dL_hangs_297 (by decide) ?_
          exact g_sub [6, 7, 8, 9, 10, 11, 12, 13, 2, 1, 3, 0] rfl (ih x356 r322 x355 x361 h)
set_option maxHeartbeats 8000000 in
set_option maxRecDepth 100000 in
theorem cn_L_hangs (l : Launch) (Z : gZ) (ad : Nat → Nat) (hI : gInj 175 ad) (D : Nat → Nat → Nat → Int32) (sav : Int32) (old : Int32) (hsz : Int32) (cs : Nat → Int32) (len : Int32) (g : Nat → Int32) {r : Int32} (h : f_L_hangs D sav old hsz cs len g = some r) : gI l yL_hangs wsL_hangs rm_L_hangs Z 175 ad [.ref (ad 168)] (xE Z.2.1 Z.2.2 ad D sav old hsz cs len g) r (xE Z.2.1 Z.2.2 ad D sav old hsz cs len g) := by
  refine g_entryI (cc := cL_hangs) (maxL := 14) (by decide +kernel) rfl hI (Nat.le_of_ble_eq_true rfl) (fun X C e => ?_)
  unfold f_L_hangs at h
  show GG X Z 14 175 ad (xE Z.2.1 Z.2.2 ad D sav old hsz cs len g) 0 [(0, .ref (ad 168))] []
  refine g_iconst (v := 0) C dL_hangs_0 (by decide) ?_
  refine g_istore_n C dL_hangs_1 (by decide) [(1, .int 0), (0, .ref (ad 168))] rfl ?_
  refine g_iconst (v := 0) C dL_hangs_2 (by decide) ?_
  refine g_istore_n C dL_hangs_3 (by decide) [(2, .int 0), (1, .int 0), (0, .ref (ad 168))] rfl ?_
  refine g_iconst (v := 0) C dL_hangs_4 (by decide) ?_
  refine g_istore_n C dL_hangs_5 (by decide) [(3, .int 0), (2, .int 0), (1, .int 0), (0, .ref (ad 168))] rfl ?_
  refine g_iconst (v := 0) C dL_hangs_6 (by decide) ?_
  refine g_istore C dL_hangs_7 (by decide) [(4, .int 0), (3, .int 0), (2, .int 0), (1, .int 0), (0, .ref (ad 168))] rfl ?_
  refine g_iconst (v := 0) C dL_hangs_9 (by decide) ?_
  refine g_istore C dL_hangs_10 (by decide) [(5, .int 0), (4, .int 0), (3, .int 0), (2, .int 0), (1, .int 0), (0, .ref (ad 168))] rfl ?_
  refine g_iconst (v := 0) C dL_hangs_12 (by decide) ?_
  refine g_istore C dL_hangs_13 (by decide) [(6, .int 0), (5, .int 0), (4, .int 0), (3, .int 0), (2, .int 0), (1, .int 0), (0, .ref (ad 168))] rfl ?_
  refine g_iconst (v := 0) C dL_hangs_15 (by decide) ?_
  refine g_istore C dL_hangs_16 (by decide) [(7, .int 0), (6, .int 0), (5, .int 0), (4, .int 0), (3, .int 0), (2, .int 0), (1, .int 0), (0, .ref (ad 168))] rfl ?_
  refine g_iconst (v := 0) C dL_hangs_18 (by decide) ?_
  refine g_istore C dL_hangs_19 (by decide) [(8, .int 0), (7, .int 0), (6, .int 0), (5, .int 0), (4, .int 0), (3, .int 0), (2, .int 0), (1, .int 0), (0, .ref (ad 168))] rfl ?_
  obtain ⟨o270, o271, o272, o273, o274, o275, o276, o277, eo270, h⟩ := gb8 h
  refine g_sub [8, 7, 6, 5, 4, 3, 2, 1, 0] rfl (cl_L_hangs_L21 C ?_ gFu 0 0 0 0 0 0 0 0 eo270)
  refine g_iconst (v := 0) C dL_hangs_153 (by decide) ?_
  refine g_istore C dL_hangs_154 (by decide) [(8, .int 0), (0, .ref (ad 168)), (1, .int o270), (2, .int o271), (3, .int o272), (4, .int o273), (5, .int o274), (6, .int o275), (7, .int o276)] rfl ?_
  refine g_iconst (v := 0) C dL_hangs_156 (by decide) ?_
  refine g_istore C dL_hangs_157 (by decide) [(9, .int 0), (8, .int 0), (0, .ref (ad 168)), (1, .int o270), (2, .int o271), (3, .int o272), (4, .int o273), (5, .int o274), (6, .int o275), (7, .int o276)] rfl ?_
  refine g_bipush (v := (-2)) C dL_hangs_159 (by decide) ?_
  refine g_istore C dL_hangs_161 (by decide) [(10, .int (-2)), (9, .int 0), (8, .int 0), (0, .ref (ad 168)), (1, .int o270), (2, .int o271), (3, .int o272), (4, .int o273), (5, .int o274), (6, .int o275), (7, .int o276)] rfl ?_
  refine g_iconst (v := 0) C dL_hangs_163 (by decide) ?_
  refine g_istore C dL_hangs_164 (by decide) [(11, .int 0), (10, .int (-2)), (9, .int 0), (8, .int 0), (0, .ref (ad 168)), (1, .int o270), (2, .int o271), (3, .int o272), (4, .int o273), (5, .int o274), (6, .int o275), (7, .int o276)] rfl ?_
  obtain ⟨o362, o363, o364, o365, eo362, h⟩ := gb4 h
  refine g_sub [4, 5, 6, 7, 8, 9, 10, 11, 3, 2, 1, 0] rfl (cl_L_hangs_L166 C ?_ gFu 0 0 (-2) 0 eo362)
  refine g_aload_n C dL_hangs_300 0 rfl ?_
  refine g_iconst (v := 0) C dL_hangs_301 (by decide) ?_
  obtain ⟨r366, er366, h⟩ := gb1 h
  refine g_callWi (rest := []) C gL_hangs_X5_count rfl ok_X5_count ⟨by decide, by decide⟩ ⟨rfl, rfl⟩ 168 (by decide) rfl rfl (fun hI => cn_X5_count X.2.1 Z ad hI D sav old hsz cs len g 0 er366) rfl dL_hangs_302 rfl (Nat.le_of_ble_eq_true rfl) ?_
  refine g_iload_n C dL_hangs_305 1 rfl ?_
  obtain ⟨c367, h⟩ := gguard h
  refine g_icmp_ne (tgt := 395) C dL_hangs_306 (by decide) (fun hc => absurd c367 hc) (fun _ => ?_)
  refine g_aload_n C dL_hangs_309 0 rfl ?_
  refine g_iconst (v := 1) C dL_hangs_310 (by decide) ?_
  obtain ⟨r368, er368, h⟩ := gb1 h
  refine g_callWi (rest := []) C gL_hangs_X5_count rfl ok_X5_count ⟨by decide, by decide⟩ ⟨rfl, rfl⟩ 168 (by decide) rfl rfl (fun hI => cn_X5_count X.2.1 Z ad hI D sav old hsz cs len g 1 er368) rfl dL_hangs_311 rfl (Nat.le_of_ble_eq_true rfl) ?_
  refine g_iload_n C dL_hangs_314 2 rfl ?_
  obtain ⟨c369, h⟩ := gguard h
  refine g_icmp_ne (tgt := 395) C dL_hangs_315 (by decide) (fun hc => absurd c369 hc) (fun _ => ?_)
  refine g_aload_n C dL_hangs_318 0 rfl ?_
  refine g_iconst (v := 2) C dL_hangs_319 (by decide) ?_
  obtain ⟨r370, er370, h⟩ := gb1 h
  refine g_callWi (rest := []) C gL_hangs_X5_count rfl ok_X5_count ⟨by decide, by decide⟩ ⟨rfl, rfl⟩ 168 (by decide) rfl rfl (fun hI => cn_X5_count X.2.1 Z ad hI D sav old hsz cs len g 2 er370) rfl dL_hangs_320 rfl (Nat.le_of_ble_eq_true rfl) ?_
  refine g_iload C dL_hangs_323 8 rfl ?_
  obtain ⟨c371, h⟩ := gguard h
  refine g_icmp_ne (tgt := 395) C dL_hangs_325 (by decide) (fun hc => absurd c371 hc) (fun _ => ?_)
  refine g_aload_n C dL_hangs_328 0 rfl ?_
  refine g_iconst (v := 3) C dL_hangs_329 (by decide) ?_
  obtain ⟨r372, er372, h⟩ := gb1 h
  refine g_callWi (rest := []) C gL_hangs_X5_count rfl ok_X5_count ⟨by decide, by decide⟩ ⟨rfl, rfl⟩ 168 (by decide) rfl rfl (fun hI => cn_X5_count X.2.1 Z ad hI D sav old hsz cs len g 3 er372) rfl dL_hangs_330 rfl (Nat.le_of_ble_eq_true rfl) ?_
  refine g_iload_n C dL_hangs_333 3 rfl ?_
  obtain ⟨c373, h⟩ := gguard h
  refine g_icmp_ne (tgt := 395) C dL_hangs_334 (by decide) (fun hc => absurd c373 hc) (fun _ => ?_)
  refine g_aload_n C dL_hangs_337 0 rfl ?_
  refine g_iconst (v := 4) C dL_hangs_338 (by decide) ?_
  obtain ⟨r374, er374, h⟩ := gb1 h
  refine g_callWi (rest := []) C gL_hangs_X5_count rfl ok_X5_count ⟨by decide, by decide⟩ ⟨rfl, rfl⟩ 168 (by decide) rfl rfl (fun hI => cn_X5_count X.2.1 Z ad hI D sav old hsz cs len g 4 er374) rfl dL_hangs_339 rfl (Nat.le_of_ble_eq_true rfl) ?_
  refine g_iload C dL_hangs_342 4 rfl ?_
  obtain ⟨c375, h⟩ := gguard h
  refine g_icmp_ne (tgt := 395) C dL_hangs_344 (by decide) (fun hc => absurd c375 hc) (fun _ => ?_)
  refine g_aload_n C dL_hangs_347 0 rfl ?_
  refine g_iconst (v := 5) C dL_hangs_348 (by decide) ?_
  obtain ⟨r376, er376, h⟩ := gb1 h
  refine g_callWi (rest := []) C gL_hangs_X5_count rfl ok_X5_count ⟨by decide, by decide⟩ ⟨rfl, rfl⟩ 168 (by decide) rfl rfl (fun hI => cn_X5_count X.2.1 Z ad hI D sav old hsz cs len g 5 er376) rfl dL_hangs_349 rfl (Nat.le_of_ble_eq_true rfl) ?_
  refine g_iload C dL_hangs_352 5 rfl ?_
  obtain ⟨c377, h⟩ := gguard h
  refine g_icmp_ne (tgt := 395) C dL_hangs_354 (by decide) (fun hc => absurd c377 hc) (fun _ => ?_)
  refine g_aload_n C dL_hangs_357 0 rfl ?_
  refine g_bipush (v := 7) C dL_hangs_358 (by decide) ?_
  obtain ⟨r378, er378, h⟩ := gb1 h
  refine g_callWi (rest := []) C gL_hangs_X5_count rfl ok_X5_count ⟨by decide, by decide⟩ ⟨rfl, rfl⟩ 168 (by decide) rfl rfl (fun hI => cn_X5_count X.2.1 Z ad hI D sav old hsz cs len g 7 er378) rfl dL_hangs_360 rfl (Nat.le_of_ble_eq_true rfl) ?_
  refine g_iload C dL_hangs_363 9 rfl ?_
  obtain ⟨c379, h⟩ := gguard h
  refine g_icmp_ne (tgt := 395) C dL_hangs_365 (by decide) (fun hc => absurd c379 hc) (fun _ => ?_)
  refine g_aload_n C dL_hangs_368 0 rfl ?_
  refine g_bipush (v := 8) C dL_hangs_369 (by decide) ?_
  obtain ⟨r380, er380, h⟩ := gb1 h
  refine g_callWi (rest := []) C gL_hangs_X5_count rfl ok_X5_count ⟨by decide, by decide⟩ ⟨rfl, rfl⟩ 168 (by decide) rfl rfl (fun hI => cn_X5_count X.2.1 Z ad hI D sav old hsz cs len g 8 er380) rfl dL_hangs_371 rfl (Nat.le_of_ble_eq_true rfl) ?_
  refine g_iload C dL_hangs_374 6 rfl ?_
  obtain ⟨c381, h⟩ := gguard h
  refine g_icmp_ne (tgt := 395) C dL_hangs_376 (by decide) (fun hc => absurd c381 hc) (fun _ => ?_)
  refine g_iload C dL_hangs_379 8 rfl ?_
  refine g_iload_n C dL_hangs_381 3 rfl ?_
  refine g_iadd C dL_hangs_382 ?_
  refine g_iload C dL_hangs_383 4 rfl ?_
  refine g_iadd C dL_hangs_385 ?_
  refine g_bipush (v := 64) C dL_hangs_386 (by decide) ?_
  obtain ⟨c382, h⟩ := gguard h
  refine g_icmp_ne (tgt := 395) C dL_hangs_388 (by decide) (fun hc => absurd c382 hc) (fun _ => ?_)
  refine g_iconst (v := 1) C dL_hangs_391 (by decide) ?_
  refine g_goto (tgt := 396) C dL_hangs_392 (by decide) ?_
  refine g_istore C dL_hangs_396 (by decide) [(11, .int 1), (0, .ref (ad 168)), (1, .int o270), (2, .int o271), (3, .int o272), (4, .int o273), (5, .int o274), (6, .int o275), (7, .int o276), (8, .int o362), (9, .int o363), (10, .int o364)] rfl ?_
  refine g_iload C dL_hangs_398 0 rfl ?_
  refine g_if_eq (tgt := 453) C dL_hangs_400 (by decide) (fun hc => absurd hc (by decide)) (fun _ => ?_)
  refine g_aload_n C dL_hangs_403 1 rfl ?_
  obtain ⟨r383, er383, h⟩ := gb1 h
  refine g_callWd (rest := []) C gL_hangs_X5_wholeness rfl ok_X5_wholeness ⟨by decide, by decide⟩ ⟨rfl, rfl⟩ 168 (by decide) rfl rfl (fun hI => cm_X5_wholeness X.2.1 Z ad hI D sav old hsz cs len g er383) rfl dL_hangs_404 rfl (Nat.le_of_ble_eq_true rfl) ?_
  refine g_iload C dL_hangs_407 8 rfl ?_
  refine g_if_ne (tgt := 416) C dL_hangs_409 (by decide) (fun c384 => ?_) (fun c384 => ?_)
  · replace h := gi_neg c384 h
    refine g_iload C dL_hangs_416 8 rfl ?_
    refine g_i2d C dL_hangs_418 ?_
    refine g_iload C dL_hangs_419 7 rfl ?_
    refine g_i2d C dL_hangs_421 ?_
    obtain ⟨b410, h⟩ := gguard h
    refine g_ddivN C (vf_b64_n b410) dL_hangs_422 ?_
    refine g_dcmp C dL_hangs_423 ?_
    obtain ⟨c404, h⟩ := gguard h
    refine g_if_ne (tgt := 453) C dL_hangs_424 (by decide) (fun hc => absurd c404 hc) (fun _ => ?_)
    refine g_aload_n C dL_hangs_427 1 rfl ?_
    refine g_iconst (v := 0) C dL_hangs_428 (by decide) ?_
    obtain ⟨r405, er405, h⟩ := gb1 h
    refine g_callWi (rest := []) C gL_hangs_X5_total rfl ok_X5_total ⟨by decide, by decide⟩ ⟨rfl, rfl⟩ 168 (by decide) rfl rfl (fun hI => cn_X5_total X.2.1 Z ad hI D sav old hsz cs len g 0 er405) rfl dL_hangs_429 rfl (Nat.le_of_ble_eq_true rfl) ?_
    refine g_iload_n C dL_hangs_432 4 rfl ?_
    obtain ⟨c406, h⟩ := gnz h
    refine g_icmp_lt (tgt := 453) C dL_hangs_433 (by decide) (fun hc => absurd hc c406) (fun _ => ?_)
    refine g_aload_n C dL_hangs_436 1 rfl ?_
    refine g_iconst (v := 2) C dL_hangs_437 (by decide) ?_
    obtain ⟨r407, er407, h⟩ := gb1 h
    refine g_callWi (rest := []) C gL_hangs_X5_total rfl ok_X5_total ⟨by decide, by decide⟩ ⟨rfl, rfl⟩ 168 (by decide) rfl rfl (fun hI => cn_X5_total X.2.1 Z ad hI D sav old hsz cs len g 2 er407) rfl dL_hangs_438 rfl (Nat.le_of_ble_eq_true rfl) ?_
    refine g_aload_n C dL_hangs_441 1 rfl ?_
    refine g_iconst (v := 1) C dL_hangs_442 (by decide) ?_
    obtain ⟨r408, er408, h⟩ := gb1 h
    refine g_callWi (rest := [.int r407]) C gL_hangs_X5_total rfl ok_X5_total ⟨by decide, by decide⟩ ⟨rfl, rfl⟩ 168 (by decide) rfl rfl (fun hI => cn_X5_total X.2.1 Z ad hI D sav old hsz cs len g 1 er408) rfl dL_hangs_443 rfl (Nat.le_of_ble_eq_true rfl) ?_
    obtain ⟨c409, h⟩ := gnz h
    refine g_icmp_gt (tgt := 453) C dL_hangs_446 (by decide) (fun hc => absurd hc c409) (fun _ => ?_)
    refine g_iconst (v := 1) C dL_hangs_449 (by decide) ?_
    refine g_goto (tgt := 454) C dL_hangs_450 (by decide) ?_
    obtain rfl := gs1 h
    exact g_zret C e rfl dL_hangs_454
  · replace h := gi_pos c384 h
    refine g_dconst1 C dL_hangs_412 ?_
    refine g_goto (tgt := 423) C dL_hangs_413 (by decide) ?_
    refine g_dcmp C dL_hangs_423 ?_
    obtain ⟨c398, h⟩ := gguard h
    refine g_if_ne (tgt := 453) C dL_hangs_424 (by decide) (fun hc => absurd c398 hc) (fun _ => ?_)
    refine g_aload_n C dL_hangs_427 1 rfl ?_
    refine g_iconst (v := 0) C dL_hangs_428 (by decide) ?_
    obtain ⟨r399, er399, h⟩ := gb1 h
    refine g_callWi (rest := []) C gL_hangs_X5_total rfl ok_X5_total ⟨by decide, by decide⟩ ⟨rfl, rfl⟩ 168 (by decide) rfl rfl (fun hI => cn_X5_total X.2.1 Z ad hI D sav old hsz cs len g 0 er399) rfl dL_hangs_429 rfl (Nat.le_of_ble_eq_true rfl) ?_
    refine g_iload_n C dL_hangs_432 4 rfl ?_
    obtain ⟨c400, h⟩ := gnz h
    refine g_icmp_lt (tgt := 453) C dL_hangs_433 (by decide) (fun hc => absurd hc c400) (fun _ => ?_)
    refine g_aload_n C dL_hangs_436 1 rfl ?_
    refine g_iconst (v := 2) C dL_hangs_437 (by decide) ?_
    obtain ⟨r401, er401, h⟩ := gb1 h
    refine g_callWi (rest := []) C gL_hangs_X5_total rfl ok_X5_total ⟨by decide, by decide⟩ ⟨rfl, rfl⟩ 168 (by decide) rfl rfl (fun hI => cn_X5_total X.2.1 Z ad hI D sav old hsz cs len g 2 er401) rfl dL_hangs_438 rfl (Nat.le_of_ble_eq_true rfl) ?_
    refine g_aload_n C dL_hangs_441 1 rfl ?_
    refine g_iconst (v := 1) C dL_hangs_442 (by decide) ?_
    obtain ⟨r402, er402, h⟩ := gb1 h
    refine g_callWi (rest := [.int r401]) C gL_hangs_X5_total rfl ok_X5_total ⟨by decide, by decide⟩ ⟨rfl, rfl⟩ 168 (by decide) rfl rfl (fun hI => cn_X5_total X.2.1 Z ad hI D sav old hsz cs len g 1 er402) rfl dL_hangs_443 rfl (Nat.le_of_ble_eq_true rfl) ?_
    obtain ⟨c403, h⟩ := gnz h
    refine g_icmp_gt (tgt := 453) C dL_hangs_446 (by decide) (fun hc => absurd hc c403) (fun _ => ?_)
    refine g_iconst (v := 1) C dL_hangs_449 (by decide) ?_
    refine g_goto (tgt := 454) C dL_hangs_450 (by decide) ?_
    obtain rfl := gs1 h
    exact g_zret C e rfl dL_hangs_454
