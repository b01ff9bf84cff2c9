set_option maxRecDepth 20000 in
theorem ggL_law_L_grows_p13 : GoodIn wsL_law wsX50 := goodIn_r _ [450, 451, 452, 453, 454, 455, 456] (by decide +kernel) (by decide +kernel)
set_option maxRecDepth 20000 in
theorem ggL_law_L_grows_p14 : GoodIn wsL_law wsX00 := goodIn_r _ [457, 458, 459, 460, 461, 462, 463, 464, 465, 466] (by decide +kernel) (by decide +kernel)
set_option maxRecDepth 20000 in
theorem ggL_law_L_grows_p15 : GoodIn wsL_law wsX30 := goodIn_r _ [477] (by decide +kernel) (by decide +kernel)
set_option maxRecDepth 20000 in
theorem ggL_law_L_grows_p16 : GoodIn wsL_law wsX10 := goodIn_r _ [467, 468, 469] (by decide +kernel) (by decide +kernel)
set_option maxRecDepth 20000 in
theorem ggL_law_L_grows_p17 : GoodIn wsL_law wsX40 := goodIn_r _ [470, 471] (by decide +kernel) (by decide +kernel)
set_option maxRecDepth 20000 in
theorem ggL_law_L_grows_p : GoodIn wsL_law [.code yL_grows cL_grows 18 (some .boolean)] := goodIn_r _ [442] (by decide +kernel) (by decide +kernel)
theorem ggL_law_L_grows : GoodIn wsL_law wsL_grows := fun w h => (List.mem_cons.mp h).elim (fun e => ggL_law_L_grows_p w (List.mem_cons.mpr (Or.inl e))) (fun h => (goodIn_app (goodIn_app (goodIn_app (goodIn_app (goodIn_app (goodIn_app ggL_law_L_grows_p0 (goodIn_app ggL_law_L_grows_p1 (goodIn_app ggL_law_L_grows_p2 (goodIn_app ggL_law_L_grows_p3 (goodIn_app ggL_law_L_grows_p4 (goodIn_app ggL_law_L_grows_p5 (goodIn_app ggL_law_L_grows_p6 (goodIn_app ggL_law_L_grows_p7 (goodIn_app ggL_law_L_grows_p8 (goodIn_app ggL_law_L_grows_p9 (goodIn_app ggL_law_L_grows_p10 (goodIn_app ggL_law_L_grows_p11 ggL_law_L_grows_p12)))))))))))) ggL_law_L_grows_p13) ggL_law_L_grows_p14) ggL_law_L_grows_p15) ggL_law_L_grows_p16) ggL_law_L_grows_p17) w h)
set_option maxRecDepth 20000 in
theorem ggL_law_L_crashes_p0 : GoodIn wsL_law wsL_crashes_r1 := goodIn_r _ [272, 273, 85, 274, 275, 276, 151, 152, 153, 2, 154, 12, 155, 156, 157, 11, 158, 36, 103, 104, 105, 34, 106, 54] (by decide +kernel) (by decide +kernel)
set_option maxRecDepth 20000 in
theorem ggL_law_L_crashes_p1 : GoodIn wsL_law wsL_crashes_r2 := goodIn_r _ [159, 160, 161, 162, 37, 40, 95, 96, 97, 98, 163, 164, 165, 166, 167, 168, 169, 170, 35, 87, 88, 89, 90, 91] (by decide +kernel) (by decide +kernel)
set_option maxRecDepth 20000 in
theorem ggL_law_L_crashes_p2 : GoodIn wsL_law wsL_crashes_r3 := goodIn_r _ [92, 93, 94, 38, 99, 100, 101, 102, 107, 108, 109, 110, 39, 111, 112, 113, 114, 41, 115, 116, 117, 118, 119, 120] (by decide +kernel) (by decide +kernel)
set_option maxRecDepth 20000 in
theorem ggL_law_L_crashes_p3 : GoodIn wsL_law wsL_crashes_r4 := goodIn_r _ [121, 122, 123, 124, 125, 126, 127, 128, 129, 130, 42, 259, 260, 261, 262, 263, 264, 265, 266, 44, 198, 199, 200, 201] (by decide +kernel) (by decide +kernel)
set_option maxRecDepth 20000 in
theorem ggL_law_L_crashes_p4 : GoodIn wsL_law wsL_crashes_r5 := goodIn_r _ [19, 23, 202, 203, 204, 205, 206, 207, 208, 209, 210, 195, 196, 197, 211, 212, 213, 214, 215, 216, 217, 218, 219, 220] (by decide +kernel) (by decide +kernel)
set_option maxRecDepth 20000 in
theorem ggL_law_L_crashes_p5 : GoodIn wsL_law wsL_crashes_r6 := goodIn_r _ [221, 222, 223, 224, 225, 226, 227, 228, 50, 51, 52, 229, 230, 231, 232, 233, 234, 235, 236, 18, 237, 66, 238, 239] (by decide +kernel) (by decide +kernel)
set_option maxRecDepth 20000 in
theorem ggL_law_L_crashes_p6 : GoodIn wsL_law wsL_crashes_r7 := goodIn_r _ [240, 22, 241, 73, 369, 370, 371, 372, 13, 281, 282, 283, 284, 43, 285, 286, 287, 288, 289, 373, 374, 375, 376, 294] (by decide +kernel) (by decide +kernel)
