set_option maxRecDepth 20000 in
theorem ggL_law_L_print_p4 : GoodIn wsL_law wsX50 := goodIn_r _ [450, 451, 452, 453, 454, 455, 456] (by decide +kernel) (by decide +kernel)
set_option maxRecDepth 20000 in
theorem ggL_law_L_print_p5 : GoodIn wsL_law wsX00 := goodIn_r _ [457, 458, 459, 460, 461, 462, 463, 464, 465, 466] (by decide +kernel) (by decide +kernel)
set_option maxRecDepth 20000 in
theorem ggL_law_L_print_p6 : GoodIn wsL_law wsX30 := goodIn_r _ [477] (by decide +kernel) (by decide +kernel)
set_option maxRecDepth 20000 in
theorem ggL_law_L_print_p : GoodIn wsL_law [.code yL_print cL_print 4 (some .long)] := goodIn_r _ [274] (by decide +kernel) (by decide +kernel)
theorem ggL_law_L_print : GoodIn wsL_law wsL_print := fun w h => (List.mem_cons.mp h).elim (fun e => ggL_law_L_print_p w (List.mem_cons.mpr (Or.inl e))) (fun h => (goodIn_app (goodIn_app (goodIn_app (goodIn_app ggL_law_L_print_p0 (goodIn_app ggL_law_L_print_p1 (goodIn_app ggL_law_L_print_p2 ggL_law_L_print_p3))) ggL_law_L_print_p4) ggL_law_L_print_p5) ggL_law_L_print_p6) w h)
set_option maxRecDepth 20000 in
theorem ggL_law_X5_open : GoodIn wsL_law wsX5_open := goodIn_r _ [280, 13, 12, 281, 282, 283, 11, 284, 35, 36, 37, 38, 39, 40, 41, 42, 43, 44, 285, 286, 287, 34, 288, 54, 289, 104, 105, 106, 290, 291, 292, 293, 294, 92, 93, 94, 95, 96, 97, 98, 295, 116, 117, 118, 55, 56, 57, 58, 296, 203, 204, 205, 297, 298, 299, 2, 300, 19, 301, 302, 303, 18, 304, 66, 65, 305, 306, 307, 308, 64, 309, 450, 451, 452, 453, 454, 455, 456, 457, 458, 459, 460, 461, 462, 463, 464, 465, 466, 477, 467, 468, 469] (by decide +kernel) (by decide +kernel)
set_option maxRecDepth 20000 in
theorem ggL_law_L_act_p0 : GoodIn wsL_law wsL_act_r1 := goodIn_r _ [313, 314, 85, 315, 316, 317, 318, 319, 2, 320, 13, 12, 281, 282, 283, 11, 284, 35, 36, 37, 38, 39, 40, 41] (by decide +kernel) (by decide +kernel)
set_option maxRecDepth 20000 in
theorem ggL_law_L_act_p1 : GoodIn wsL_law wsL_act_r2 := goodIn_r _ [42, 43, 44, 285, 286, 287, 34, 288, 54, 289, 104, 105, 106, 321, 322, 323, 324, 95, 96, 97, 98, 55, 56, 57] (by decide +kernel) (by decide +kernel)
set_option maxRecDepth 20000 in
theorem ggL_law_L_act_p2 : GoodIn wsL_law wsL_act_r3 := goodIn_r _ [58, 297, 298, 299, 300, 19, 301, 302, 303, 18, 304, 66, 65, 305, 306, 307, 308, 64, 309, 277, 278, 279, 280, 290] (by decide +kernel) (by decide +kernel)
