set_option maxRecDepth 20000 in
theorem ggL_grows_X5_room : GoodIn wsL_grows wsX5_room := goodIn_r _ [166, 6, 8, 9, 10, 11, 12, 13, 14, 15, 16, 17, 18, 19, 149, 47, 48, 49, 167, 51, 52, 53, 54, 55, 56, 57, 28, 58, 38, 39, 40, 308, 309, 310, 311, 312, 313, 314, 315, 316, 317, 318, 319, 320, 321, 322, 323, 324, 325] (by decide +kernel) (by decide +kernel)
set_option maxRecDepth 20000 in
theorem ggL_grows_L_print_p0 : GoodIn wsL_grows wsL_print_r1 := goodIn_r _ [172, 173, 174, 175, 176, 4, 177, 6, 178, 179, 180, 11, 181, 25, 58, 38, 39, 17, 40, 19, 182, 183, 184, 185] (by decide +kernel) (by decide +kernel)
set_option maxRecDepth 20000 in
theorem ggL_grows_L_print_p1 : GoodIn wsL_grows wsL_print_r2 := goodIn_r _ [26, 28, 14, 15, 16, 18, 186, 187, 188, 189, 190, 191, 192, 193, 24, 137, 138, 139, 140, 8, 9, 10, 12, 13] (by decide +kernel) (by decide +kernel)
set_option maxRecDepth 20000 in
theorem ggL_grows_L_print_p2 : GoodIn wsL_grows wsL_print_r3 := goodIn_r _ [141, 142, 143, 144, 135, 60, 61, 62, 27, 145, 146, 147, 148, 29, 149, 47, 48, 49, 150, 128, 129, 130, 131, 132] (by decide +kernel) (by decide +kernel)
set_option maxRecDepth 20000 in
theorem ggL_grows_L_print_p3 : GoodIn wsL_grows wsL_print_r4 := goodIn_r _ [133, 134, 151, 152, 153, 154, 30, 155, 156, 157, 158, 159, 160, 161, 162, 32] (by decide +kernel) (by decide +kernel)
set_option maxRecDepth 20000 in
theorem ggL_grows_L_print_p4 : GoodIn wsL_grows wsX50 := goodIn_r _ [308, 309, 310, 311, 312, 313, 314] (by decide +kernel) (by decide +kernel)
set_option maxRecDepth 20000 in
theorem ggL_grows_L_print_p5 : GoodIn wsL_grows wsX00 := goodIn_r _ [315, 316, 317, 318, 319, 320, 321, 322, 323, 324] (by decide +kernel) (by decide +kernel)
set_option maxRecDepth 20000 in
theorem ggL_grows_L_print_p6 : GoodIn wsL_grows wsX30 := goodIn_r _ [325] (by decide +kernel) (by decide +kernel)
set_option maxRecDepth 20000 in
theorem ggL_grows_L_print_p : GoodIn wsL_grows [.code yL_print cL_print 4 (some .long)] := goodIn_r _ [171] (by decide +kernel) (by decide +kernel)
theorem ggL_grows_L_print : GoodIn wsL_grows wsL_print := fun w h => (List.mem_cons.mp h).elim (fun e => ggL_grows_L_print_p w (List.mem_cons.mpr (Or.inl e))) (fun h => (goodIn_app (goodIn_app (goodIn_app (goodIn_app ggL_grows_L_print_p0 (goodIn_app ggL_grows_L_print_p1 (goodIn_app ggL_grows_L_print_p2 ggL_grows_L_print_p3))) ggL_grows_L_print_p4) ggL_grows_L_print_p5) ggL_grows_L_print_p6) w h)
