set_option maxRecDepth 20000 in
theorem ggL_act_L_low : GoodIn wsL_act wsL_low := goodIn_r _ [4, 5] (by decide +kernel) (by decide +kernel)
set_option maxRecDepth 20000 in
theorem gL_act_L_low : GoodIn wsL_act (va_wsS RL 10 yL_low wsL_low) := goodIn_app (goodIn_of _ (by decide +kernel)) ggL_act_L_low
set_option maxRecDepth 20000 in
theorem ggL_act_X5_create : GoodIn wsL_act wsX5_create := goodIn_r _ [10, 11, 12, 13, 14, 15, 16, 17, 18, 19, 20, 21, 22, 23, 24, 25, 26, 27, 28, 29, 30, 31, 32, 33, 34, 35, 36, 37, 38, 39, 40, 41, 42, 43, 44, 45, 46, 47, 48, 49, 50, 51, 52, 9, 53, 54, 55, 56, 57, 58, 59, 60, 61, 62, 63, 64, 65, 66, 67, 233, 234, 235, 236, 237, 238, 239, 240, 241, 242, 243, 244, 245, 246, 247, 248, 249, 250, 251, 252, 253] (by decide +kernel) (by decide +kernel)
set_option maxRecDepth 20000 in
theorem gL_act_X5_create : GoodIn wsL_act (wsV RL 16 RX5 yX5_create wsX5_create) := goodIn_app (goodIn_of _ (by decide +kernel)) ggL_act_X5_create
set_option maxRecDepth 20000 in
theorem ggL_act_X5_open : GoodIn wsL_act wsX5_open := goodIn_r _ [71, 11, 12, 13, 14, 15, 16, 17, 18, 19, 20, 21, 22, 23, 24, 25, 26, 27, 28, 29, 30, 31, 32, 33, 34, 35, 36, 37, 72, 73, 74, 75, 76, 77, 78, 79, 42, 43, 44, 45, 80, 81, 82, 83, 46, 47, 48, 49, 84, 85, 86, 87, 50, 51, 52, 9, 53, 54, 55, 56, 57, 58, 59, 60, 61, 62, 63, 64, 65, 66, 67, 233, 234, 235, 236, 237, 238, 239, 240, 241, 242, 243, 244, 245, 246, 247, 248, 249, 250, 251, 252, 253] (by decide +kernel) (by decide +kernel)
set_option maxRecDepth 20000 in
theorem gL_act_X5_open : GoodIn wsL_act (wsV RL 22 RX5 yX5_open wsX5_open) := goodIn_app (goodIn_of _ (by decide +kernel)) ggL_act_X5_open
set_option maxRecDepth 20000 in
theorem ggL_act_X5_close : GoodIn wsL_act wsX5_close := goodIn_r _ [91, 11, 12, 13, 14, 15, 16, 17, 18, 19, 20, 21, 22, 23, 24, 25, 26, 27, 28, 29, 30, 31, 32, 33, 34, 35, 36, 37, 92, 93, 94, 95, 76, 77, 78, 79, 42, 43, 44, 45, 80, 81, 82, 83, 96, 97, 98, 99, 100, 101, 102, 103, 104, 105, 106, 107, 108, 46, 47, 48, 49, 109, 110, 111, 112, 50, 51, 52, 9, 53, 54, 55, 56, 57, 58, 59, 60, 61, 62, 63, 64, 65, 66, 67, 233, 234, 235, 236, 237, 238, 239, 240, 241, 242, 243, 244, 245, 246, 247, 248, 249, 250, 251, 252, 253] (by decide +kernel) (by decide +kernel)
set_option maxRecDepth 20000 in
theorem gL_act_X5_close : GoodIn wsL_act (wsV RL 26 RX5 yX5_close wsX5_close) := goodIn_app (goodIn_of _ (by decide +kernel)) ggL_act_X5_close
set_option maxRecDepth 20000 in
theorem ggL_act_X5_sync : GoodIn wsL_act wsX5_sync := goodIn_r _ [116, 11, 12, 13, 14, 15, 16, 17, 18, 19, 20, 21, 22, 23, 24, 25, 26, 27, 28, 29, 30, 31, 32, 33, 34, 35, 36, 37, 117, 118, 119, 120, 76, 77, 78, 79, 42, 43, 44, 45, 80, 81, 82, 83, 104, 46, 47, 48, 49, 50, 51, 52, 9, 53, 54, 55, 56, 57, 58, 59, 60, 61, 62, 63, 64, 65, 66, 67, 233, 234, 235, 236, 237, 238, 239, 240, 241, 242, 243, 244, 245, 246, 247, 248, 249, 250, 251, 252, 253] (by decide +kernel) (by decide +kernel)
set_option maxRecDepth 20000 in
theorem gL_act_X5_sync : GoodIn wsL_act (wsV RL 29 RX5 yX5_sync wsX5_sync) := goodIn_app (goodIn_of _ (by decide +kernel)) ggL_act_X5_sync
set_option maxRecDepth 20000 in
theorem ggL_act_X5_remove : GoodIn wsL_act wsX5_remove := goodIn_r _ [124, 11, 12, 13, 14, 15, 16, 17, 18, 19, 20, 21, 22, 23, 24, 25, 26, 27, 28, 29, 30, 31, 32, 33, 34, 35, 36, 37, 125, 126, 127, 128, 76, 77, 78, 79, 42, 43, 44, 45, 80, 81, 82, 83, 104, 105, 106, 107, 108, 46, 47, 48, 49, 50, 51, 52, 9, 53, 54, 55, 56, 57, 58, 59, 60, 61, 62, 63, 64, 65, 66, 67, 233, 234, 235, 236, 237, 238, 239, 240, 241, 242, 243, 244, 245, 246, 247, 248, 249, 250, 251, 252, 253] (by decide +kernel) (by decide +kernel)
set_option maxRecDepth 20000 in
theorem gL_act_X5_remove : GoodIn wsL_act (wsV RL 32 RX5 yX5_remove wsX5_remove) := goodIn_app (goodIn_of _ (by decide +kernel)) ggL_act_X5_remove
set_option maxRecDepth 20000 in
theorem ggL_act_X5_mend : GoodIn wsL_act wsX5_mend := goodIn_r _ [132, 11, 12, 13, 14, 15, 16, 17, 18, 19, 20, 21, 22, 23, 24, 25, 26, 27, 28, 29, 30, 31, 32, 33, 34, 35, 36, 37, 133, 134, 135, 136, 42, 43, 44, 45, 96, 97, 98, 99, 100, 101, 102, 103, 104, 105, 106, 107, 108, 46, 47, 48, 49, 109, 110, 111, 112, 50, 51, 52, 9, 53, 54, 55, 56, 57, 58, 59, 60, 61, 62, 63, 64, 65, 66, 67, 233, 234, 235, 236, 237, 238, 239, 240, 241, 242, 243, 244, 245, 246, 247, 248, 249, 250, 251, 252, 253] (by decide +kernel) (by decide +kernel)
set_option maxRecDepth 20000 in
theorem gL_act_X5_mend : GoodIn wsL_act (wsV RL 35 RX5 yX5_mend wsX5_mend) := goodIn_app (goodIn_of _ (by decide +kernel)) ggL_act_X5_mend
set_option maxRecDepth 20000 in
theorem ggL_act_X5_crash : GoodIn wsL_act wsX5_crash := goodIn_r _ [140, 11, 12, 13, 14, 15, 16, 17, 18, 19, 20, 21, 22, 23, 24, 25, 26, 27, 28, 29, 30, 31, 32, 33, 34, 35, 36, 37, 141, 142, 143, 144, 76, 77, 78, 79, 42, 43, 44, 45, 104, 46, 47, 48, 49, 109, 110, 111, 112, 50, 51, 52, 9, 53, 54, 55, 56, 57, 58, 59, 60, 61, 62, 63, 64, 65, 66, 67, 233, 234, 235, 236, 237, 238, 239, 240, 241, 242, 243, 244, 245, 246, 247, 248, 249, 250, 251, 252, 253] (by decide +kernel) (by decide +kernel)
set_option maxRecDepth 20000 in
theorem gL_act_X5_crash : GoodIn wsL_act (wsV RL 38 RX5 yX5_crash wsX5_crash) := goodIn_app (goodIn_of _ (by decide +kernel)) ggL_act_X5_crash
set_option maxRecDepth 20000 in
theorem ggL_act_X5_set : GoodIn wsL_act wsX5_set := goodIn_r _ [148, 11, 12, 13, 14, 15, 16, 17, 18, 19, 20, 21, 22, 23, 24, 25, 26, 27, 28, 29, 30, 31, 32, 33, 34, 35, 36, 37, 149, 150, 151, 152, 104, 46, 47, 48, 49, 50, 51, 52, 9, 53, 54, 55, 56, 57, 58, 59, 60, 61, 62, 63, 64, 65, 66, 67, 233, 234, 235, 236, 237, 238, 239, 240, 241, 242, 243, 244, 245, 246, 247, 248, 249, 250, 251, 252, 253] (by decide +kernel) (by decide +kernel)
set_option maxRecDepth 20000 in
theorem gL_act_X5_set : GoodIn wsL_act (wsV RL 41 RX5 yX5_set wsX5_set) := goodIn_app (goodIn_of _ (by decide +kernel)) ggL_act_X5_set
set_option maxRecDepth 20000 in
theorem ggL_act_X5_cut : GoodIn wsL_act wsX5_cut := goodIn_r _ [156, 11, 12, 13, 14, 15, 16, 17, 18, 19, 20, 21, 22, 23, 24, 25, 26, 27, 28, 29, 30, 31, 32, 33, 34, 35, 36, 37, 157, 158, 159, 160, 161, 162, 163, 164, 76, 77, 78, 79, 42, 43, 44, 45, 80, 81, 82, 83, 104, 96, 97, 98, 99, 100, 101, 102, 103, 105, 106, 107, 108, 46, 47, 48, 49, 109, 110, 111, 112, 50, 51, 52, 9, 53, 54, 55, 56, 57, 58, 59, 60, 61, 62, 63, 64, 65, 66, 67, 233, 234, 235, 236, 237, 238, 239, 240, 241, 242, 243, 244, 245, 246, 247, 248, 249, 250, 251, 252, 253] (by decide +kernel) (by decide +kernel)
set_option maxRecDepth 20000 in
theorem gL_act_X5_cut : GoodIn wsL_act (wsV RL 44 RX5 yX5_cut wsX5_cut) := goodIn_app (goodIn_of _ (by decide +kernel)) ggL_act_X5_cut
set_option maxRecDepth 20000 in
theorem ggL_act_X5_append : GoodIn wsL_act wsX5_append := goodIn_r _ [168, 11, 12, 13, 14, 15, 16, 17, 18, 19, 20, 21, 22, 23, 24, 25, 26, 27, 28, 29, 30, 31, 32, 33, 34, 35, 36, 37, 169, 170, 171, 172, 76, 77, 78, 79, 42, 43, 44, 45, 80, 81, 82, 83, 173, 174, 175, 176, 177, 178, 179, 180, 104, 100, 101, 102, 103, 181, 182, 183, 184, 185, 186, 187, 188, 189, 190, 191, 192, 96, 97, 98, 99, 105, 106, 107, 108, 46, 47, 48, 49, 109, 110, 111, 112, 193, 194, 195, 196, 161, 162, 163, 164, 197, 198, 199, 200, 201, 202, 203, 204, 205, 206, 207, 208, 209, 210, 211, 212, 213, 214, 215, 216, 217, 218, 219, 220, 221, 222, 223, 224, 225, 226, 227, 228, 229, 230, 231, 232, 50, 51, 52, 9, 53, 54, 55, 56, 57, 58, 59, 60, 61, 62, 63, 64, 65, 66, 67, 233, 234, 235, 236, 237, 238, 239, 240, 241, 242, 243, 244, 245, 246, 247, 248, 249, 250, 251, 252, 253] (by decide +kernel) (by decide +kernel)
set_option maxRecDepth 20000 in
theorem gL_act_X5_append : GoodIn wsL_act (wsV RL 47 RX5 yX5_append wsX5_append) := goodIn_app (goodIn_of _ (by decide +kernel)) ggL_act_X5_append
theorem dL_act_0 : decode cL_act 0 = .ok (.iload_n 1, 1) := by decide +kernel
theorem dL_act_1 : decode cL_act 1 = .ok (.iconst 4, 1) := by decide +kernel
theorem dL_act_2 : decode cL_act 2 = .ok (.ishr, 1) := by decide +kernel
theorem dL_act_3 : decode cL_act 3 = .ok (.iconst 4, 1) := by decide +kernel
theorem dL_act_4 : decode cL_act 4 = .ok (.invokestatic 10, 3) := by decide +kernel
theorem dL_act_7 : decode cL_act 7 = .ok (.istore_n 3, 1) := by decide +kernel
theorem dL_act_8 : decode cL_act 8 = .ok (.iload_n 1, 1) := by decide +kernel
theorem dL_act_9 : decode cL_act 9 = .ok (.bipush 17, 2) := by decide +kernel
theorem dL_act_11 : decode cL_act 11 = .ok (.invokestatic 10, 3) := by decide +kernel
theorem dL_act_14 : decode cL_act 14 = .ok (.tableswitch 177 0 9 #[54, 54, 59, 59, 59, 65, 87, 108, 129, 165], 54) := by decide +kernel
theorem dL_act_68 : decode cL_act 68 = .ok (.aload_n 0, 1) := by decide +kernel
theorem dL_act_69 : decode cL_act 69 = .ok (.invokevirtual 16, 3) := by decide +kernel
theorem dL_act_72 : decode cL_act 72 = .ok (.ireturn, 1) := by decide +kernel
theorem dL_act_73 : decode cL_act 73 = .ok (.aload_n 0, 1) := by decide +kernel
theorem dL_act_74 : decode cL_act 74 = .ok (.iload_n 3, 1) := by decide +kernel
theorem dL_act_75 : decode cL_act 75 = .ok (.invokevirtual 22, 3) := by decide +kernel
theorem dL_act_78 : decode cL_act 78 = .ok (.ireturn, 1) := by decide +kernel
theorem dL_act_79 : decode cL_act 79 = .ok (.iload_n 2, 1) := by decide +kernel
theorem dL_act_80 : decode cL_act 80 = .ok (.iconst 2, 1) := by decide +kernel
theorem dL_act_81 : decode cL_act 81 = .ok (.invokestatic 10, 3) := by decide +kernel
theorem dL_act_84 : decode cL_act 84 = .ok (.ifCond .ne 11, 3) := by decide +kernel
theorem dL_act_87 : decode cL_act 87 = .ok (.aload_n 0, 1) := by decide +kernel
theorem dL_act_88 : decode cL_act 88 = .ok (.iload_n 3, 1) := by decide +kernel
theorem dL_act_89 : decode cL_act 89 = .ok (.invokevirtual 26, 3) := by decide +kernel
theorem dL_act_92 : decode cL_act 92 = .ok (.goto 8, 3) := by decide +kernel
theorem dL_act_95 : decode cL_act 95 = .ok (.aload_n 0, 1) := by decide +kernel
theorem dL_act_96 : decode cL_act 96 = .ok (.iload_n 3, 1) := by decide +kernel
theorem dL_act_97 : decode cL_act 97 = .ok (.invokevirtual 29, 3) := by decide +kernel
theorem dL_act_100 : decode cL_act 100 = .ok (.ireturn, 1) := by decide +kernel
theorem dL_act_101 : decode cL_act 101 = .ok (.iload_n 2, 1) := by decide +kernel
theorem dL_act_102 : decode cL_act 102 = .ok (.iconst 3, 1) := by decide +kernel
theorem dL_act_103 : decode cL_act 103 = .ok (.invokestatic 10, 3) := by decide +kernel
theorem dL_act_106 : decode cL_act 106 = .ok (.ifCond .ne 11, 3) := by decide +kernel
theorem dL_act_109 : decode cL_act 109 = .ok (.aload_n 0, 1) := by decide +kernel
theorem dL_act_110 : decode cL_act 110 = .ok (.iload_n 3, 1) := by decide +kernel
theorem dL_act_111 : decode cL_act 111 = .ok (.invokevirtual 32, 3) := by decide +kernel
theorem dL_act_114 : decode cL_act 114 = .ok (.goto 7, 3) := by decide +kernel
theorem dL_act_117 : decode cL_act 117 = .ok (.aload_n 0, 1) := by decide +kernel
theorem dL_act_118 : decode cL_act 118 = .ok (.invokevirtual 35, 3) := by decide +kernel
theorem dL_act_121 : decode cL_act 121 = .ok (.ireturn, 1) := by decide +kernel
theorem dL_act_122 : decode cL_act 122 = .ok (.iload_n 2, 1) := by decide +kernel
theorem dL_act_123 : decode cL_act 123 = .ok (.iconst 2, 1) := by decide +kernel
theorem dL_act_124 : decode cL_act 124 = .ok (.invokestatic 10, 3) := by decide +kernel
theorem dL_act_127 : decode cL_act 127 = .ok (.ifCond .ne 10, 3) := by decide +kernel
theorem dL_act_130 : decode cL_act 130 = .ok (.aload_n 0, 1) := by decide +kernel
theorem dL_act_131 : decode cL_act 131 = .ok (.invokevirtual 38, 3) := by decide +kernel
theorem dL_act_134 : decode cL_act 134 = .ok (.goto 8, 3) := by decide +kernel
theorem dL_act_137 : decode cL_act 137 = .ok (.aload_n 0, 1) := by decide +kernel
theorem dL_act_138 : decode cL_act 138 = .ok (.iload_n 3, 1) := by decide +kernel
theorem dL_act_139 : decode cL_act 139 = .ok (.invokevirtual 29, 3) := by decide +kernel
theorem dL_act_142 : decode cL_act 142 = .ok (.ireturn, 1) := by decide +kernel
theorem dL_act_143 : decode cL_act 143 = .ok (.aload_n 0, 1) := by decide +kernel
theorem dL_act_144 : decode cL_act 144 = .ok (.iload_n 2, 1) := by decide +kernel
theorem dL_act_145 : decode cL_act 145 = .ok (.iconst 2, 1) := by decide +kernel
theorem dL_act_146 : decode cL_act 146 = .ok (.invokestatic 10, 3) := by decide +kernel
theorem dL_act_149 : decode cL_act 149 = .ok (.iload_n 2, 1) := by decide +kernel
theorem dL_act_150 : decode cL_act 150 = .ok (.iconst 2, 1) := by decide +kernel
theorem dL_act_151 : decode cL_act 151 = .ok (.invokestatic 10, 3) := by decide +kernel
theorem dL_act_154 : decode cL_act 154 = .ok (.ifCond .ne 14, 3) := by decide +kernel
theorem dL_act_157 : decode cL_act 157 = .ok (.iload_n 2, 1) := by decide +kernel
theorem dL_act_158 : decode cL_act 158 = .ok (.iconst 1, 1) := by decide +kernel
theorem dL_act_159 : decode cL_act 159 = .ok (.ishr, 1) := by decide +kernel
theorem dL_act_160 : decode cL_act 160 = .ok (.bipush 17, 2) := by decide +kernel
theorem dL_act_162 : decode cL_act 162 = .ok (.invokestatic 10, 3) := by decide +kernel
theorem dL_act_165 : decode cL_act 165 = .ok (.goto 10, 3) := by decide +kernel
theorem dL_act_168 : decode cL_act 168 = .ok (.iload_n 2, 1) := by decide +kernel
theorem dL_act_169 : decode cL_act 169 = .ok (.iconst 1, 1) := by decide +kernel
theorem dL_act_170 : decode cL_act 170 = .ok (.ishr, 1) := by decide +kernel
theorem dL_act_171 : decode cL_act 171 = .ok (.iconst 2, 1) := by decide +kernel
theorem dL_act_172 : decode cL_act 172 = .ok (.invokestatic 10, 3) := by decide +kernel
theorem dL_act_175 : decode cL_act 175 = .ok (.invokevirtual 41, 3) := by decide +kernel
theorem dL_act_178 : decode cL_act 178 = .ok (.ireturn, 1) := by decide +kernel
theorem dL_act_179 : decode cL_act 179 = .ok (.aload_n 0, 1) := by decide +kernel
theorem dL_act_180 : decode cL_act 180 = .ok (.iload_n 3, 1) := by decide +kernel
theorem dL_act_181 : decode cL_act 181 = .ok (.iload_n 2, 1) := by decide +kernel
theorem dL_act_182 : decode cL_act 182 = .ok (.bipush 14, 2) := by decide +kernel
theorem dL_act_184 : decode cL_act 184 = .ok (.invokestatic 10, 3) := by decide +kernel
theorem dL_act_187 : decode cL_act 187 = .ok (.invokevirtual 44, 3) := by decide +kernel
theorem dL_act_190 : decode cL_act 190 = .ok (.ireturn, 1) := by decide +kernel
theorem dL_act_191 : decode cL_act 191 = .ok (.aload_n 0, 1) := by decide +kernel
theorem dL_act_192 : decode cL_act 192 = .ok (.iload_n 3, 1) := by decide +kernel
theorem dL_act_193 : decode cL_act 193 = .ok (.iconst 1, 1) := by decide +kernel
theorem dL_act_194 : decode cL_act 194 = .ok (.iload_n 2, 1) := by decide +kernel
theorem dL_act_195 : decode cL_act 195 = .ok (.iload_n 2, 1) := by decide +kernel
theorem dL_act_196 : decode cL_act 196 = .ok (.bipush 9, 2) := by decide +kernel
theorem dL_act_198 : decode cL_act 198 = .ok (.ishr, 1) := by decide +kernel
theorem dL_act_199 : decode cL_act 199 = .ok (.iconst 5, 1) := by decide +kernel
theorem dL_act_200 : decode cL_act 200 = .ok (.invokestatic 10, 3) := by decide +kernel
theorem dL_act_203 : decode cL_act 203 = .ok (.ifCond .ne 8, 3) := by decide +kernel
theorem dL_act_206 : decode cL_act 206 = .ok (.bipush 64, 2) := by decide +kernel
theorem dL_act_208 : decode cL_act 208 = .ok (.goto 5, 3) := by decide +kernel
theorem dL_act_211 : decode cL_act 211 = .ok (.bipush 12, 2) := by decide +kernel
theorem dL_act_213 : decode cL_act 213 = .ok (.invokestatic 10, 3) := by decide +kernel
theorem dL_act_216 : decode cL_act 216 = .ok (.iadd, 1) := by decide +kernel
theorem dL_act_217 : decode cL_act 217 = .ok (.iload_n 2, 1) := by decide +kernel
theorem dL_act_218 : decode cL_act 218 = .ok (.iconst 3, 1) := by decide +kernel
theorem dL_act_219 : decode cL_act 219 = .ok (.ishr, 1) := by decide +kernel
theorem dL_act_220 : decode cL_act 220 = .ok (.bipush 100, 2) := by decide +kernel
theorem dL_act_222 : decode cL_act 222 = .ok (.invokestatic 10, 3) := by decide +kernel
theorem dL_act_225 : decode cL_act 225 = .ok (.invokevirtual 47, 3) := by decide +kernel
theorem dL_act_228 : decode cL_act 228 = .ok (.ireturn, 1) := by decide +kernel
abbrev rm_L_act : Room := ({ frames := 6, cells := 0, slots := 0, locals := 144 } : Room)
theorem ok_L_act : gOk yL_act RL 3 := by refine ⟨?_, ?_, ?_, ?_⟩ <;> decide +kernel
def f_L_act (D : Nat → Nat → Nat → Int32) (sav : Int32) (old : Int32) (hsz : Int32) (cs : Nat → Int32) (len : Int32) (g : Nat → Int32) (v1 : Int32) (v2 : Int32) : Option (Int32 × (Nat → Nat → Nat → Int32) × Int32 × Int32) := gb (f_L_low (v1 >>> ((4 : Int32) &&& 31)) 4) (fun r1 => gb (f_L_low v1 17) (fun r2 => if r2 = 0 then gbb4 (f_X5_create D sav old hsz cs len g) (fun r4 D5 old6 hsz7 => some (r4, D5, old6, hsz7)) else if r2 = 1 then gbb4 (f_X5_create D sav old hsz cs len g) (fun r9 D10 old11 hsz12 => some (r9, D10, old11, hsz12)) else if r2 = 2 then gbb4 (f_X5_open D sav old hsz cs len g r1) (fun r14 D15 old16 hsz17 => some (r14, D15, old16, hsz17)) else if r2 = 3 then gbb4 (f_X5_open D sav old hsz cs len g r1) (fun r19 D20 old21 hsz22 => some (r19, D20, old21, hsz22)) else if r2 = 4 then gbb4 (f_X5_open D sav old hsz cs len g r1) (fun r24 D25 old26 hsz27 => some (r24, D25, old26, hsz27)) else if r2 = 5 then gb (f_L_low v2 2) (fun r29 => if r29 = 0 then gbb4 (f_X5_close D sav old hsz cs len g r1) (fun r39 D40 old41 hsz42 => some (r39, D40, old41, hsz42)) else gbb4 (f_X5_sync D sav old hsz cs len g r1) (fun r43 D44 old45 hsz46 => some (r43, D44, old45, hsz46))) else if r2 = 6 then gb (f_L_low v2 3) (fun r48 => if r48 = 0 then gbb4 (f_X5_remove D sav old hsz cs len g r1) (fun r58 D59 old60 hsz61 => some (r58, D59, old60, hsz61)) else gbb4 (f_X5_mend D sav old hsz cs len g) (fun r62 D63 old64 hsz65 => some (r62, D63, old64, hsz65))) else if r2 = 7 then gb (f_L_low v2 2) (fun r67 => if r67 = 0 then gbb4 (f_X5_crash D sav old hsz cs len g) (fun r77 D78 old79 hsz80 => some (r77, D78, old79, hsz80)) else gbb4 (f_X5_sync D sav old hsz cs len g r1) (fun r81 D82 old83 hsz84 => some (r81, D82, old83, hsz84))) else if r2 = 8 then gb (f_L_low v2 2) (fun r86 => gb (f_L_low v2 2) (fun r87 => if r87 = 0 then gb (f_L_low (v2 >>> ((1 : Int32) &&& 31)) 17) (fun r99 => gbb4 (f_X5_set D sav old hsz cs len g r86 r99) (fun r100 D101 old102 hsz103 => some (r100, D101, old102, hsz103))) else gb (f_L_low (v2 >>> ((1 : Int32) &&& 31)) 2) (fun r104 => gbb4 (f_X5_set D sav old hsz cs len g r86 r104) (fun r105 D106 old107 hsz108 => some (r105, D106, old107, hsz108))))) else if r2 = 9 then gb (f_L_low v2 14) (fun r110 => gbb4 (f_X5_cut D sav old hsz cs len g r1 r110) (fun r111 D112 old113 hsz114 => some (r111, D112, old113, hsz114))) else gb (f_L_low (v2 >>> ((9 : Int32) &&& 31)) 5) (fun r115 => if r115 = 0 then gb (f_L_low v2 64) (fun r129 => gb (f_L_low (v2 >>> ((3 : Int32) &&& 31)) 100) (fun r130 => gbb4 (f_X5_append D sav old hsz cs len g r1 (1 + r129) r130) (fun r131 D132 old133 hsz134 => some (r131, D132, old133, hsz134)))) else gb (f_L_low v2 12) (fun r135 => gb (f_L_low (v2 >>> ((3 : Int32) &&& 31)) 100) (fun r136 => gbb4 (f_X5_append D sav old hsz cs len g r1 (1 + r135) r136) (fun r137 D138 old139 hsz140 => some (r137, D138, old139, hsz140)))))))
set_option maxHeartbeats 8000000 in
set_option maxRecDepth 100000 in
theorem cn_L_act (l : Launch) (Z : gZ) (ad : Nat → Nat) (hI : gInj 175 ad) (D : Nat → Nat → Nat → Int32) (sav : Int32) (old : Int32) (hsz : Int32) (cs : Nat → Int32) (len : Int32) (g : Nat → Int32) (v1 : Int32) (v2 : Int32) {r : Int32} {D' : Nat → Nat → Nat → Int32} {old' : Int32} {hsz' : Int32} (h : f_L_act D sav old hsz cs len g v1 v2 = some (r, D', old', hsz')) : gI l yL_act wsL_act rm_L_act Z 175 ad [.ref (ad 168), .int v1, .int v2] (xE Z.2.1 Z.2.2 ad D sav old hsz cs len g) r (xE Z.2.1 Z.2.2 ad D' sav old' hsz' cs len g) := by
  refine g_entryI (cc := cL_act) (maxL := 4) (by decide +kernel) rfl hI (Nat.le_of_ble_eq_true rfl) (fun X C e => ?_)
  unfold f_L_act at h
  show GG X Z 4 175 ad (xE Z.2.1 Z.2.2 ad D sav old hsz cs len g) 0 [(0, .ref (ad 168)), (1, .int v1), (2, .int v2)] []
  refine g_iload_n C dL_act_0 1 rfl ?_
  refine g_iconst (v := 4) C dL_act_1 (by decide) ?_
  refine g_ishr C dL_act_2 ?_
  refine g_iconst (v := 4) C dL_act_3 (by decide) ?_
  obtain ⟨r1, er1, h⟩ := gb1 h
  refine g_callSi (rest := []) C gL_act_L_low rfl ok_L_low ⟨by decide, by decide⟩ ⟨rfl, rfl⟩ (cn_L_low X.2.1 Z (v1 >>> ((4 : Int32) &&& 31)) 4 er1) rfl dL_act_4 rfl (Nat.le_of_ble_eq_true rfl) ?_
  refine g_istore_n C dL_act_7 (by decide) [(3, .int r1), (0, .ref (ad 168)), (1, .int v1), (2, .int v2)] rfl ?_
  refine g_iload_n C dL_act_8 2 rfl ?_
  refine g_bipush (v := 17) C dL_act_9 (by decide) ?_
  obtain ⟨r2, er2, h⟩ := gb1 h
  refine g_callSi (rest := []) C gL_act_L_low rfl ok_L_low ⟨by decide, by decide⟩ ⟨rfl, rfl⟩ (cn_L_low X.2.1 Z v1 17 er2) rfl dL_act_11 rfl (Nat.le_of_ble_eq_true rfl) ?_
  by_cases c3 : r2 = 0
  · replace h := gi_pos c3 h
    refine g_tableIn (tgt := 68) (off := 54) C 0 c3 dL_act_14 (by decide) (by decide) (by decide) (by decide) ?_
    refine g_aload_n C dL_act_68 1 rfl ?_
    obtain ⟨r4, D5, old6, hsz7, er4, h⟩ := gb4 h
    refine g_callWi (rest := []) C gL_act_X5_create rfl ok_X5_create ⟨by decide, by decide⟩ ⟨rfl, rfl⟩ 168 (by decide) rfl rfl (fun hI => cn_X5_create X.2.1 Z ad hI D sav old hsz cs len g er4) rfl dL_act_69 rfl (Nat.le_of_ble_eq_true rfl) ?_
    obtain ⟨rfl, rfl, rfl, rfl⟩ := gs4 h
    exact g_iret C e dL_act_72
  · replace h := gi_neg c3 h
    by_cases c8 : r2 = 1
    · replace h := gi_pos c8 h
      refine g_tableIn (tgt := 68) (off := 54) C 1 c8 dL_act_14 (by decide) (by decide) (by decide) (by decide) ?_
      refine g_aload_n C dL_act_68 1 rfl ?_
      obtain ⟨r9, D10, old11, hsz12, er9, h⟩ := gb4 h
      refine g_callWi (rest := []) C gL_act_X5_create rfl ok_X5_create ⟨by decide, by decide⟩ ⟨rfl, rfl⟩ 168 (by decide) rfl rfl (fun hI => cn_X5_create X.2.1 Z ad hI D sav old hsz cs len g er9) rfl dL_act_69 rfl (Nat.le_of_ble_eq_true rfl) ?_
      obtain ⟨rfl, rfl, rfl, rfl⟩ := gs4 h
      exact g_iret C e dL_act_72
    · replace h := gi_neg c8 h
      by_cases c13 : r2 = 2
      · replace h := gi_pos c13 h
        refine g_tableIn (tgt := 73) (off := 59) C 2 c13 dL_act_14 (by decide) (by decide) (by decide) (by decide) ?_
        refine g_aload_n C dL_act_73 1 rfl ?_
        refine g_iload_n C dL_act_74 0 rfl ?_
        obtain ⟨r14, D15, old16, hsz17, er14, h⟩ := gb4 h
        refine g_callWi (rest := []) C gL_act_X5_open rfl ok_X5_open ⟨by decide, by decide⟩ ⟨rfl, rfl⟩ 168 (by decide) rfl rfl (fun hI => cn_X5_open X.2.1 Z ad hI D sav old hsz cs len g r1 er14) rfl dL_act_75 rfl (Nat.le_of_ble_eq_true rfl) ?_
        obtain ⟨rfl, rfl, rfl, rfl⟩ := gs4 h
        exact g_iret C e dL_act_78
      · replace h := gi_neg c13 h
        by_cases c18 : r2 = 3
        · replace h := gi_pos c18 h
          refine g_tableIn (tgt := 73) (off := 59) C 3 c18 dL_act_14 (by decide) (by decide) (by decide) (by decide) ?_
          refine g_aload_n C dL_act_73 1 rfl ?_
          refine g_iload_n C dL_act_74 0 rfl ?_
          obtain ⟨r19, D20, old21, hsz22, er19, h⟩ := gb4 h
          refine g_callWi (rest := []) C gL_act_X5_open rfl ok_X5_open ⟨by decide, by decide⟩ ⟨rfl, rfl⟩ 168 (by decide) rfl rfl (fun hI => cn_X5_open X.2.1 Z ad hI D sav old hsz cs len g r1 er19) rfl dL_act_75 rfl (Nat.le_of_ble_eq_true rfl) ?_
          obtain ⟨rfl, rfl, rfl, rfl⟩ := gs4 h
          exact g_iret C e dL_act_78
        · replace h := gi_neg c18 h
          by_cases c23 : r2 = 4
          · replace h := gi_pos c23 h
            refine g_tableIn (tgt := 73) (off := 59) C 4 c23 dL_act_14 (by decide) (by decide) (by decide) (by decide) ?_
            refine g_aload_n C dL_act_73 1 rfl ?_
            refine g_iload_n C dL_act_74 0 rfl ?_
            obtain ⟨r24, D25, old26, hsz27, er24, h⟩ := gb4 h
            refine g_callWi (rest := []) C gL_act_X5_open rfl ok_X5_open ⟨by decide, by decide⟩ ⟨rfl, rfl⟩ 168 (by decide) rfl rfl (fun hI => cn_X5_open X.2.1 Z ad hI D sav old hsz cs len g r1 er24) rfl dL_act_75 rfl (Nat.le_of_ble_eq_true rfl) ?_
            obtain ⟨rfl, rfl, rfl, rfl⟩ := gs4 h
            exact g_iret C e dL_act_78
          · replace h := gi_neg c23 h
            by_cases c28 : r2 = 5
            · replace h := gi_pos c28 h
              refine g_tableIn (tgt := 79) (off := 65) C 5 c28 dL_act_14 (by decide) (by decide) (by decide) (by decide) ?_
              refine g_iload_n C dL_act_79 3 rfl ?_
              refine g_iconst (v := 2) C dL_act_80 (by decide) ?_
              obtain ⟨r29, er29, h⟩ := gb1 h
              refine g_callSi (rest := []) C gL_act_L_low rfl ok_L_low ⟨by decide, by decide⟩ ⟨rfl, rfl⟩ (cn_L_low X.2.1 Z v2 2 er29) rfl dL_act_81 rfl (Nat.le_of_ble_eq_true rfl) ?_
              refine g_if_ne (tgt := 95) C dL_act_84 (by decide) (fun c30 => ?_) (fun c30 => ?_)
              · replace h := gi_neg c30 h
                refine g_aload_n C dL_act_95 1 rfl ?_
                refine g_iload_n C dL_act_96 0 rfl ?_
                obtain ⟨r43, D44, old45, hsz46, er43, h⟩ := gb4 h
                refine g_callWi (rest := []) C gL_act_X5_sync rfl ok_X5_sync ⟨by decide, by decide⟩ ⟨rfl, rfl⟩ 168 (by decide) rfl rfl (fun hI => cn_X5_sync X.2.1 Z ad hI D sav old hsz cs len g r1 er43) rfl dL_act_97 rfl (Nat.le_of_ble_eq_true rfl) ?_
                obtain ⟨rfl, rfl, rfl, rfl⟩ := gs4 h
                exact g_iret C e dL_act_100
              · replace h := gi_pos c30 h
                refine g_aload_n C dL_act_87 1 rfl ?_
                refine g_iload_n C dL_act_88 0 rfl ?_
                obtain ⟨r39, D40, old41, hsz42, er39, h⟩ := gb4 h
                refine g_callWi (rest := []) C gL_act_X5_close rfl ok_X5_close ⟨by decide, by decide⟩ ⟨rfl, rfl⟩ 168 (by decide) rfl rfl (fun hI => cn_X5_close X.2.1 Z ad hI D sav old hsz cs len g r1 er39) rfl dL_act_89 rfl (Nat.le_of_ble_eq_true rfl) ?_
                refine g_goto (tgt := 100) C dL_act_92 (by decide) ?_
                obtain ⟨rfl, rfl, rfl, rfl⟩ := gs4 h
                exact g_iret C e dL_act_100
            · replace h := gi_neg c28 h
              by_cases c47 : r2 = 6
              · replace h := gi_pos c47 h
                refine g_tableIn (tgt := 101) (off := 87) C 6 c47 dL_act_14 (by decide) (by decide) (by decide) (by decide) ?_
                refine g_iload_n C dL_act_101 3 rfl ?_
                refine g_iconst (v := 3) C dL_act_102 (by decide) ?_
                obtain ⟨r48, er48, h⟩ := gb1 h
                refine g_callSi (rest := []) C gL_act_L_low rfl ok_L_low ⟨by decide, by decide⟩ ⟨rfl, rfl⟩ (cn_L_low X.2.1 Z v2 3 er48) rfl dL_act_103 rfl (Nat.le_of_ble_eq_true rfl) ?_
                refine g_if_ne (tgt := 117) C dL_act_106 (by decide) (fun c49 => ?_) (fun c49 => ?_)
                · replace h := gi_neg c49 h
                  refine g_aload_n C dL_act_117 1 rfl ?_
                  obtain ⟨r62, D63, old64, hsz65, er62, h⟩ := gb4 h
                  refine g_callWi (rest := []) C gL_act_X5_mend rfl ok_X5_mend ⟨by decide, by decide⟩ ⟨rfl, rfl⟩ 168 (by decide) rfl rfl (fun hI => cn_X5_mend X.2.1 Z ad hI D sav old hsz cs len g er62) rfl dL_act_118 rfl (Nat.le_of_ble_eq_true rfl) ?_
                  obtain ⟨rfl, rfl, rfl, rfl⟩ := gs4 h
                  exact g_iret C e dL_act_121
                · replace h := gi_pos c49 h
                  refine g_aload_n C dL_act_109 1 rfl ?_
                  refine g_iload_n C dL_act_110 0 rfl ?_
                  obtain ⟨r58, D59, old60, hsz61, er58, h⟩ := gb4 h
                  refine g_callWi (rest := []) C gL_act_X5_remove rfl ok_X5_remove ⟨by decide, by decide⟩ ⟨rfl, rfl⟩ 168 (by decide) rfl rfl (fun hI => cn_X5_remove X.2.1 Z ad hI D sav old hsz cs len g r1 er58) rfl dL_act_111 rfl (Nat.le_of_ble_eq_true rfl) ?_
                  refine g_goto (tgt := 121) C dL_act_114 (by decide) ?_
                  obtain ⟨rfl, rfl, rfl, rfl⟩ := gs4 h
                  exact g_iret C e dL_act_121
              · replace h := gi_neg c47 h
                by_cases c66 : r2 = 7
                · replace h := gi_pos c66 h
                  refine g_tableIn (tgt := 122) (off := 108) C 7 c66 dL_act_14 (by decide) (by decide) (by decide) (by decide) ?_
                  refine g_iload_n C dL_act_122 3 rfl ?_
                  refine g_iconst (v := 2) C dL_act_123 (by decide) ?_
                  obtain ⟨r67, er67, h⟩ := gb1 h
                  refine g_callSi (rest := []) C gL_act_L_low rfl ok_L_low ⟨by decide, by decide⟩ ⟨rfl, rfl⟩ (cn_L_low X.2.1 Z v2 2 er67) rfl dL_act_124 rfl (Nat.le_of_ble_eq_true rfl) ?_
                  refine g_if_ne (tgt := 137) C dL_act_127 (by decide) (fun c68 => ?_) (fun c68 => ?_)
                  · replace h := gi_neg c68 h
                    refine g_aload_n C dL_act_137 1 rfl ?_
                    refine g_iload_n C dL_act_138 0 rfl ?_
                    obtain ⟨r81, D82, old83, hsz84, er81, h⟩ := gb4 h
                    refine g_callWi (rest := []) C gL_act_X5_sync rfl ok_X5_sync ⟨by decide, by decide⟩ ⟨rfl, rfl⟩ 168 (by decide) rfl rfl (fun hI => cn_X5_sync X.2.1 Z ad hI D sav old hsz cs len g r1 er81) rfl dL_act_139 rfl (Nat.le_of_ble_eq_true rfl) ?_
                    obtain ⟨rfl, rfl, rfl, rfl⟩ := gs4 h
                    exact g_iret C e dL_act_142
                  · replace h := gi_pos c68 h
                    refine g_aload_n C dL_act_130 1 rfl ?_
                    obtain ⟨r77, D78, old79, hsz80, er77, h⟩ := gb4 h
                    refine g_callWi (rest := []) C gL_act_X5_crash rfl ok_X5_crash ⟨by decide, by decide⟩ ⟨rfl, rfl⟩ 168 (by decide) rfl rfl (fun hI => cn_X5_crash X.2.1 Z ad hI D sav old hsz cs len g er77) rfl dL_act_131 rfl (Nat.le_of_ble_eq_true rfl) ?_
                    refine g_goto (tgt := 142) C dL_act_134 (by decide) ?_
                    obtain ⟨rfl, rfl, rfl, rfl⟩ := gs4 h
                    exact g_iret C e dL_act_142
                · replace h := gi_neg c66 h
                  by_cases c85 : r2 = 8
                  · replace h := gi_pos c85 h
                    refine g_tableIn (tgt := 143) (off := 129) C 8 c85 dL_act_14 (by decide) (by decide) (by decide) (by decide) ?_
                    refine g_aload_n C dL_act_143 1 rfl ?_
                    refine g_iload_n C dL_act_144 3 rfl ?_
                    refine g_iconst (v := 2) C dL_act_145 (by decide) ?_
                    obtain ⟨r86, er86, h⟩ := gb1 h
                    refine g_callSi (rest := [.ref (ad 168)]) C gL_act_L_low rfl ok_L_low ⟨by decide, by decide⟩ ⟨rfl, rfl⟩ (cn_L_low X.2.1 Z v2 2 er86) rfl dL_act_146 rfl (Nat.le_of_ble_eq_true rfl) ?_
                    refine g_iload_n C dL_act_149 3 rfl ?_
                    refine g_iconst (v := 2) C dL_act_150 (by decide) ?_
                    obtain ⟨r87, er87, h⟩ := gb1 h
                    refine g_callSi (rest := [.int r86, .ref (ad 168)]) C gL_act_L_low rfl ok_L_low ⟨by decide, by decide⟩ ⟨rfl, rfl⟩ (cn_L_low X.2.1 Z v2 2 er87) rfl dL_act_151 rfl (Nat.le_of_ble_eq_true rfl) ?_
                    refine g_if_ne (tgt := 168) C dL_act_154 (by decide) (fun c88 => ?_) (fun c88 => ?_)
                    · replace h := gi_neg c88 h
                      refine g_iload_n C dL_act_168 3 rfl ?_
                      refine g_iconst (v := 1) C dL_act_169 (by decide) ?_
                      refine g_ishr C dL_act_170 ?_
                      refine g_iconst (v := 2) C dL_act_171 (by decide) ?_
                      obtain ⟨r104, er104, h⟩ := gb1 h
                      refine g_callSi (rest := [.int r86, .ref (ad 168)]) C gL_act_L_low rfl ok_L_low ⟨by decide, by decide⟩ ⟨rfl, rfl⟩ (cn_L_low X.2.1 Z (v2 >>> ((1 : Int32) &&& 31)) 2 er104) rfl dL_act_172 rfl (Nat.le_of_ble_eq_true rfl) ?_
                      obtain ⟨r105, D106, old107, hsz108, er105, h⟩ := gb4 h
                      refine g_callWi (rest := []) C gL_act_X5_set rfl ok_X5_set ⟨by decide, by decide⟩ ⟨rfl, rfl⟩ 168 (by decide) rfl rfl (fun hI => cn_X5_set X.2.1 Z ad hI D sav old hsz cs len g r86 r104 er105) rfl dL_act_175 rfl (Nat.le_of_ble_eq_true rfl) ?_
                      obtain ⟨rfl, rfl, rfl, rfl⟩ := gs4 h
                      exact g_iret C e dL_act_178
                    · replace h := gi_pos c88 h
                      refine g_iload_n C dL_act_157 3 rfl ?_
                      refine g_iconst (v := 1) C dL_act_158 (by decide) ?_
                      refine g_ishr C dL_act_159 ?_
                      refine g_bipush (v := 17) C dL_act_160 (by decide) ?_
                      obtain ⟨r99, er99, h⟩ := gb1 h
                      refine g_callSi (rest := [.int r86, .ref (ad 168)]) C gL_act_L_low rfl ok_L_low ⟨by decide, by decide⟩ ⟨rfl, rfl⟩ (cn_L_low X.2.1 Z (v2 >>> ((1 : Int32) &&& 31)) 17 er99) rfl dL_act_162 rfl (Nat.le_of_ble_eq_true rfl) ?_
                      refine g_goto (tgt := 175) C dL_act_165 (by decide) ?_
                      obtain ⟨r100, D101, old102, hsz103, er100, h⟩ := gb4 h
                      refine g_callWi (rest := []) C gL_act_X5_set rfl ok_X5_set ⟨by decide, by decide⟩ ⟨rfl, rfl⟩ 168 (by decide) rfl rfl (fun hI => cn_X5_set X.2.1 Z ad hI D sav old hsz cs len g r86 r99 er100) rfl dL_act_175 rfl (Nat.le_of_ble_eq_true rfl) ?_
                      obtain ⟨rfl, rfl, rfl, rfl⟩ := gs4 h
                      exact g_iret C e dL_act_178
                  · replace h := gi_neg c85 h
                    by_cases c109 : r2 = 9
                    · replace h := gi_pos c109 h
                      refine g_tableIn (tgt := 179) (off := 165) C 9 c109 dL_act_14 (by decide) (by decide) (by decide) (by decide) ?_
                      refine g_aload_n C dL_act_179 1 rfl ?_
                      refine g_iload_n C dL_act_180 0 rfl ?_
                      refine g_iload_n C dL_act_181 3 rfl ?_
                      refine g_bipush (v := 14) C dL_act_182 (by decide) ?_
                      obtain ⟨r110, er110, h⟩ := gb1 h
                      refine g_callSi (rest := [.int r1, .ref (ad 168)]) C gL_act_L_low rfl ok_L_low ⟨by decide, by decide⟩ ⟨rfl, rfl⟩ (cn_L_low X.2.1 Z v2 14 er110) rfl dL_act_184 rfl (Nat.le_of_ble_eq_true rfl) ?_
                      obtain ⟨r111, D112, old113, hsz114, er111, h⟩ := gb4 h
                      refine g_callWi (rest := []) C gL_act_X5_cut rfl ok_X5_cut ⟨by decide, by decide⟩ ⟨rfl, rfl⟩ 168 (by decide) rfl rfl (fun hI => cn_X5_cut X.2.1 Z ad hI D sav old hsz cs len g r1 r110 er111) rfl dL_act_187 rfl (Nat.le_of_ble_eq_true rfl) ?_
                      obtain ⟨rfl, rfl, rfl, rfl⟩ := gs4 h
                      exact g_iret C e dL_act_190
                    · replace h := gi_neg c109 h
                      refine g_tableOut (tgt := 191) C dL_act_14 (by have nc3 := g_ne (a := 0) c3 (by decide); have nc8 := g_ne (a := 1) c8 (by decide); have nc13 := g_ne (a := 2) c13 (by decide); have nc18 := g_ne (a := 3) c18 (by decide); have nc23 := g_ne (a := 4) c23 (by decide); have nc28 := g_ne (a := 5) c28 (by decide); have nc47 := g_ne (a := 6) c47 (by decide); have nc66 := g_ne (a := 7) c66 (by decide); have nc85 := g_ne (a := 8) c85 (by decide); have nc109 := g_ne (a := 9) c109 (by decide); omega) (by decide) ?_
                      refine g_aload_n C dL_act_191 1 rfl ?_
                      refine g_iload_n C dL_act_192 0 rfl ?_
                      refine g_iconst (v := 1) C dL_act_193 (by decide) ?_
                      refine g_iload_n C dL_act_194 3 rfl ?_
                      refine g_iload_n C dL_act_195 3 rfl ?_
                      refine g_bipush (v := 9) C dL_act_196 (by decide) ?_
                      refine g_ishr C dL_act_198 ?_
                      refine g_iconst (v := 5) C dL_act_199 (by decide) ?_
                      obtain ⟨r115, er115, h⟩ := gb1 h
                      refine g_callSi (rest := [.int v2, .int 1, .int r1, .ref (ad 168)]) C gL_act_L_low rfl ok_L_low ⟨by decide, by decide⟩ ⟨rfl, rfl⟩ (cn_L_low X.2.1 Z (v2 >>> ((9 : Int32) &&& 31)) 5 er115) rfl dL_act_200 rfl (Nat.le_of_ble_eq_true rfl) ?_
                      refine g_if_ne (tgt := 211) C dL_act_203 (by decide) (fun c116 => ?_) (fun c116 => ?_)
                      · replace h := gi_neg c116 h
                        refine g_bipush (v := 12) C dL_act_211 (by decide) ?_
                        obtain ⟨r135, er135, h⟩ := gb1 h
                        refine g_callSi (rest := [.int 1, .int r1, .ref (ad 168)]) C gL_act_L_low rfl ok_L_low ⟨by decide, by decide⟩ ⟨rfl, rfl⟩ (cn_L_low X.2.1 Z v2 12 er135) rfl dL_act_213 rfl (Nat.le_of_ble_eq_true rfl) ?_
                        refine g_iadd C dL_act_216 ?_
                        refine g_iload_n C dL_act_217 3 rfl ?_
                        refine g_iconst (v := 3) C dL_act_218 (by decide) ?_
                        refine g_ishr C dL_act_219 ?_
                        refine g_bipush (v := 100) C dL_act_220 (by decide) ?_
                        obtain ⟨r136, er136, h⟩ := gb1 h
                        refine g_callSi (rest := [.int (1 + r135), .int r1, .ref (ad 168)]) C gL_act_L_low rfl ok_L_low ⟨by decide, by decide⟩ ⟨rfl, rfl⟩ (cn_L_low X.2.1 Z (v2 >>> ((3 : Int32) &&& 31)) 100 er136) rfl dL_act_222 rfl (Nat.le_of_ble_eq_true rfl) ?_
                        obtain ⟨r137, D138, old139, hsz140, er137, h⟩ := gb4 h
                        refine g_callWi (rest := []) C gL_act_X5_append rfl ok_X5_append ⟨by decide, by decide⟩ ⟨rfl, rfl⟩ 168 (by decide) rfl rfl (fun hI => cn_X5_append X.2.1 Z ad hI D sav old hsz cs len g r1 (1 + r135) r136 er137) rfl dL_act_225 rfl (Nat.le_of_ble_eq_true rfl) ?_
                        obtain ⟨rfl, rfl, rfl, rfl⟩ := gs4 h
                        exact g_iret C e dL_act_228
                      · replace h := gi_pos c116 h
                        refine g_bipush (v := 64) C dL_act_206 (by decide) ?_
                        refine g_goto (tgt := 213) C dL_act_208 (by decide) ?_
                        obtain ⟨r129, er129, h⟩ := gb1 h
                        refine g_callSi (rest := [.int 1, .int r1, .ref (ad 168)]) C gL_act_L_low rfl ok_L_low ⟨by decide, by decide⟩ ⟨rfl, rfl⟩ (cn_L_low X.2.1 Z v2 64 er129) rfl dL_act_213 rfl (Nat.le_of_ble_eq_true rfl) ?_
                        refine g_iadd C dL_act_216 ?_
                        refine g_iload_n C dL_act_217 3 rfl ?_
                        refine g_iconst (v := 3) C dL_act_218 (by decide) ?_
                        refine g_ishr C dL_act_219 ?_
                        refine g_bipush (v := 100) C dL_act_220 (by decide) ?_
                        obtain ⟨r130, er130, h⟩ := gb1 h
                        refine g_callSi (rest := [.int (1 + r129), .int r1, .ref (ad 168)]) C gL_act_L_low rfl ok_L_low ⟨by decide, by decide⟩ ⟨rfl, rfl⟩ (cn_L_low X.2.1 Z (v2 >>> ((3 : Int32) &&& 31)) 100 er130) rfl dL_act_222 rfl (Nat.le_of_ble_eq_true rfl) ?_
                        obtain ⟨r131, D132, old133, hsz134, er131, h⟩ := gb4 h
                        refine g_callWi (rest := []) C gL_act_X5_append rfl ok_X5_append ⟨by decide, by decide⟩ ⟨rfl, rfl⟩ 168 (by decide) rfl rfl (fun hI => cn_X5_append X.2.1 Z ad hI D sav old hsz cs len g r1 (1 + r129) r130 er131) rfl dL_act_225 rfl (Nat.le_of_ble_eq_true rfl) ?_
                        obtain ⟨rfl, rfl, rfl, rfl⟩ := gs4 h
                        exact g_iret C e dL_act_228
