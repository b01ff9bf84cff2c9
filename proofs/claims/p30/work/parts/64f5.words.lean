set_option maxRecDepth 20000 in
theorem ggL_grows_L_hangs_p7 : GoodIn wsL_grows wsL_hangs_r8 := goodIn_r _ [247, 206, 248, 208, 249, 250, 251, 252, 253, 254, 283, 284, 285, 286, 287, 288, 289, 290, 291, 292, 293, 294, 295, 296] (by decide +kernel) (by decide +kernel)
set_option maxRecDepth 20000 in
theorem ggL_grows_L_hangs_p8 : GoodIn wsL_grows wsL_hangs_r9 := goodIn_r _ [297, 298, 299, 155, 156, 157, 158, 159, 160, 161, 162, 32] (by decide +kernel) (by decide +kernel)
set_option maxRecDepth 20000 in
theorem ggL_grows_L_hangs_p9 : GoodIn wsL_grows wsX50 := goodIn_r _ [308, 309, 310, 311, 312, 313, 314] (by decide +kernel) (by decide +kernel)
set_option maxRecDepth 20000 in
theorem ggL_grows_L_hangs_p10 : GoodIn wsL_grows wsX00 := goodIn_r _ [315, 316, 317, 318, 319, 320, 321, 322, 323, 324] (by decide +kernel) (by decide +kernel)
set_option maxRecDepth 20000 in
theorem ggL_grows_L_hangs_p11 : GoodIn wsL_grows wsX30 := goodIn_r _ [325] (by decide +kernel) (by decide +kernel)
set_option maxRecDepth 20000 in
theorem ggL_grows_L_hangs_p12 : GoodIn wsL_grows wsX10 := goodIn_r _ [326, 327, 328] (by decide +kernel) (by decide +kernel)
set_option maxRecDepth 20000 in
theorem ggL_grows_L_hangs_p13 : GoodIn wsL_grows wsX40 := goodIn_r _ [329, 330] (by decide +kernel) (by decide +kernel)
set_option maxRecDepth 20000 in
theorem ggL_grows_L_hangs_p : GoodIn wsL_grows [.code yL_hangs cL_hangs 14 (some .boolean)] := goodIn_r _ [257] (by decide +kernel) (by decide +kernel)
theorem ggL_grows_L_hangs : GoodIn wsL_grows wsL_hangs := fun w h => (List.mem_cons.mp h).elim (fun e => ggL_grows_L_hangs_p w (List.mem_cons.mpr (Or.inl e))) (fun h => (goodIn_app (goodIn_app (goodIn_app (goodIn_app (goodIn_app (goodIn_app ggL_grows_L_hangs_p0 (goodIn_app ggL_grows_L_hangs_p1 (goodIn_app ggL_grows_L_hangs_p2 (goodIn_app ggL_grows_L_hangs_p3 (goodIn_app ggL_grows_L_hangs_p4 (goodIn_app ggL_grows_L_hangs_p5 (goodIn_app ggL_grows_L_hangs_p6 (goodIn_app ggL_grows_L_hangs_p7 ggL_grows_L_hangs_p8)))))))) ggL_grows_L_hangs_p9) ggL_grows_L_hangs_p10) ggL_grows_L_hangs_p11) ggL_grows_L_hangs_p12) ggL_grows_L_hangs_p13) w h)
set_option maxRecDepth 20000 in
theorem ggL_grows_X5_read : GoodIn wsL_grows wsX5_read := goodIn_r _ [277, 6, 278, 96, 97, 98, 8, 9, 10, 11, 12, 13, 14, 15, 16, 17, 18, 19, 141, 142, 143, 144, 28, 58, 38, 39, 40, 279, 280, 281, 282, 24, 123, 124, 125, 126, 25, 26, 308, 309, 310, 311, 312, 313, 314, 315, 316, 317, 318, 319, 320, 321, 322, 323, 324, 325] (by decide +kernel) (by decide +kernel)
set_option maxRecDepth 20000 in
theorem ggL_grows_X5_undo : GoodIn wsL_grows wsX5_undo := goodIn_r _ [303, 202, 6, 304, 305, 306, 206, 307, 208, 210, 211, 212, 213, 209, 214, 215, 21, 22, 11, 23, 24, 25, 26, 13, 27, 28, 29, 30, 31, 32, 33, 34, 35, 17, 36, 19, 37, 38, 39, 40, 245, 246, 247, 248, 308, 309, 310, 311, 312, 313, 314, 326, 327, 328, 315, 316, 317, 318, 319, 320, 321, 322, 323, 324, 325] (by decide +kernel) (by decide +kernel)
