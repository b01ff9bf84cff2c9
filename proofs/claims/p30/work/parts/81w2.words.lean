set_option maxRecDepth 20000 in
theorem ggL_law_L_hangs_p3 : GoodIn wsL_law wsL_hangs_r4 := goodIn_r _ [146, 147, 148, 149, 150, 151, 152, 153, 154, 155, 156, 157, 158, 159, 160, 161, 162, 163, 164, 165, 166, 167, 168, 169] (by decide +kernel) (by decide +kernel)
set_option maxRecDepth 20000 in
theorem ggL_law_L_hangs_p4 : GoodIn wsL_law wsL_hangs_r5 := goodIn_r _ [170, 35, 171, 172, 173, 174, 175, 176, 51, 177, 178, 179, 180, 181, 182, 183, 184, 185, 186, 187, 188, 189, 190, 191] (by decide +kernel) (by decide +kernel)
set_option maxRecDepth 20000 in
theorem ggL_law_L_hangs_p5 : GoodIn wsL_law wsL_hangs_r6 := goodIn_r _ [192, 193, 194, 195, 196, 197, 198, 199, 200, 201, 19, 23, 202, 203, 204, 205, 206, 207, 208, 209, 210, 211, 212, 213] (by decide +kernel) (by decide +kernel)
set_option maxRecDepth 20000 in
theorem ggL_law_L_hangs_p6 : GoodIn wsL_law wsL_hangs_r7 := goodIn_r _ [214, 215, 216, 217, 218, 219, 220, 221, 222, 223, 224, 225, 226, 227, 228, 50, 52, 229, 230, 231, 232, 233, 234, 235] (by decide +kernel) (by decide +kernel)
set_option maxRecDepth 20000 in
theorem ggL_law_L_hangs_p7 : GoodIn wsL_law wsL_hangs_r8 := goodIn_r _ [236, 18, 237, 66, 238, 239, 240, 22, 241, 73, 242, 243, 244, 245, 246, 247, 248, 249, 250, 251, 252, 253, 254, 255] (by decide +kernel) (by decide +kernel)
set_option maxRecDepth 20000 in
theorem ggL_law_L_hangs_p8 : GoodIn wsL_law wsL_hangs_r9 := goodIn_r _ [256, 257, 258, 259, 260, 261, 262, 263, 264, 265, 266, 44] (by decide +kernel) (by decide +kernel)
set_option maxRecDepth 20000 in
theorem ggL_law_L_hangs_p9 : GoodIn wsL_law wsX50 := goodIn_r _ [450, 451, 452, 453, 454, 455, 456] (by decide +kernel) (by decide +kernel)
set_option maxRecDepth 20000 in
theorem ggL_law_L_hangs_p10 : GoodIn wsL_law wsX00 := goodIn_r _ [457, 458, 459, 460, 461, 462, 463, 464, 465, 466] (by decide +kernel) (by decide +kernel)
set_option maxRecDepth 20000 in
theorem ggL_law_L_hangs_p11 : GoodIn wsL_law wsX30 := goodIn_r _ [477] (by decide +kernel) (by decide +kernel)
set_option maxRecDepth 20000 in
theorem ggL_law_L_hangs_p12 : GoodIn wsL_law wsX10 := goodIn_r _ [467, 468, 469] (by decide +kernel) (by decide +kernel)
set_option maxRecDepth 20000 in
theorem ggL_law_L_hangs_p13 : GoodIn wsL_law wsX40 := goodIn_r _ [470, 471] (by decide +kernel) (by decide +kernel)
set_option maxRecDepth 20000 in
theorem ggL_law_L_hangs_p : GoodIn wsL_law [.code yL_hangs cL_hangs 14 (some .boolean)] := goodIn_r _ [86] (by decide +kernel) (by decide +kernel)
theorem ggL_law_L_hangs : GoodIn wsL_law wsL_hangs := fun w h => (List.mem_cons.mp h).elim (fun e => ggL_law_L_hangs_p w (List.mem_cons.mpr (Or.inl e))) (fun h => (goodIn_app (goodIn_app (goodIn_app (goodIn_app (goodIn_app (goodIn_app ggL_law_L_hangs_p0 (goodIn_app ggL_law_L_hangs_p1 (goodIn_app ggL_law_L_hangs_p2 (goodIn_app ggL_law_L_hangs_p3 (goodIn_app ggL_law_L_hangs_p4 (goodIn_app ggL_law_L_hangs_p5 (goodIn_app ggL_law_L_hangs_p6 (goodIn_app ggL_law_L_hangs_p7 ggL_law_L_hangs_p8)))))))) ggL_law_L_hangs_p9) ggL_law_L_hangs_p10) ggL_law_L_hangs_p11) ggL_law_L_hangs_p12) ggL_law_L_hangs_p13) w h)
set_option maxRecDepth 20000 in
theorem ggL_law_L_cell : GoodIn wsL_law wsL_cell := goodIn_r _ [269, 270, 271] (by decide +kernel) (by decide +kernel)
