set_option maxRecDepth 20000 in
theorem ggL_law_L_crashes_p7 : GoodIn wsL_law wsL_crashes_r8 := goodIn_r _ [55, 56, 57, 58, 341, 342, 343, 344, 297, 298, 299, 300, 301, 302, 303, 304, 65, 305, 306, 307, 308, 64, 309, 83] (by decide +kernel) (by decide +kernel)
set_option maxRecDepth 20000 in
theorem ggL_law_L_crashes_p8 : GoodIn wsL_law wsL_crashes_r9 := goodIn_r _ [84, 86, 131, 132, 133, 134, 135, 136, 137, 138, 139, 140, 141, 142, 143, 144, 145, 146, 147, 148, 149, 150, 171, 172] (by decide +kernel) (by decide +kernel)
set_option maxRecDepth 20000 in
theorem ggL_law_L_crashes_p9 : GoodIn wsL_law wsL_crashes_r10 := goodIn_r _ [173, 174, 175, 176, 177, 178, 179, 180, 181, 182, 183, 184, 185, 186, 187, 188, 189, 190, 191, 192, 193, 194, 242, 243] (by decide +kernel) (by decide +kernel)
set_option maxRecDepth 20000 in
theorem ggL_law_L_crashes_p10 : GoodIn wsL_law wsL_crashes_r11 := goodIn_r _ [244, 245, 246, 247, 248, 249, 250, 251, 252, 253, 254, 255, 256, 257, 258, 361, 362, 363, 364, 365, 366, 367, 368, 333] (by decide +kernel) (by decide +kernel)
set_option maxRecDepth 20000 in
theorem ggL_law_L_crashes_p11 : GoodIn wsL_law wsL_crashes_r12 := goodIn_r _ [334, 335, 336, 337, 338, 339, 340, 432, 433, 434, 435, 436, 437, 438, 439] (by decide +kernel) (by decide +kernel)
set_option maxRecDepth 20000 in
theorem ggL_law_L_crashes_p12 : GoodIn wsL_law wsX50 := goodIn_r _ [450, 451, 452, 453, 454, 455, 456] (by decide +kernel) (by decide +kernel)
set_option maxRecDepth 20000 in
theorem ggL_law_L_crashes_p13 : GoodIn wsL_law wsX00 := goodIn_r _ [457, 458, 459, 460, 461, 462, 463, 464, 465, 466] (by decide +kernel) (by decide +kernel)
set_option maxRecDepth 20000 in
theorem ggL_law_L_crashes_p14 : GoodIn wsL_law wsX30 := goodIn_r _ [477] (by decide +kernel) (by decide +kernel)
set_option maxRecDepth 20000 in
theorem ggL_law_L_crashes_p15 : GoodIn wsL_law wsX10 := goodIn_r _ [467, 468, 469] (by decide +kernel) (by decide +kernel)
set_option maxRecDepth 20000 in
theorem ggL_law_L_crashes_p16 : GoodIn wsL_law wsX40 := goodIn_r _ [470, 471] (by decide +kernel) (by decide +kernel)
set_option maxRecDepth 20000 in
theorem ggL_law_L_crashes_p : GoodIn wsL_law [.code yL_crashes cL_crashes 10 (some .boolean)] := goodIn_r _ [449] (by decide +kernel) (by decide +kernel)
theorem ggL_law_L_crashes : GoodIn wsL_law wsL_crashes := fun w h => (List.mem_cons.mp h).elim (fun e => ggL_law_L_crashes_p w (List.mem_cons.mpr (Or.inl e))) (fun h => (goodIn_app (goodIn_app (goodIn_app (goodIn_app (goodIn_app (goodIn_app ggL_law_L_crashes_p0 (goodIn_app ggL_law_L_crashes_p1 (goodIn_app ggL_law_L_crashes_p2 (goodIn_app ggL_law_L_crashes_p3 (goodIn_app ggL_law_L_crashes_p4 (goodIn_app ggL_law_L_crashes_p5 (goodIn_app ggL_law_L_crashes_p6 (goodIn_app ggL_law_L_crashes_p7 (goodIn_app ggL_law_L_crashes_p8 (goodIn_app ggL_law_L_crashes_p9 (goodIn_app ggL_law_L_crashes_p10 ggL_law_L_crashes_p11))))))))))) ggL_law_L_crashes_p12) ggL_law_L_crashes_p13) ggL_law_L_crashes_p14) ggL_law_L_crashes_p15) ggL_law_L_crashes_p16) w h)
