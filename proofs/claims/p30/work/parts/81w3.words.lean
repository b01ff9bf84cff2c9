set_option maxRecDepth 20000 in
theorem ggL_law_X5_count : GoodIn wsL_law wsX5_count := goodIn_r _ [201, 12, 19, 23, 202, 203, 204, 11, 205, 38, 95, 96, 97, 34, 98, 54, 206, 207, 208, 209, 36, 210, 195, 196, 197, 40, 103, 104, 105, 106, 211, 212, 213, 214, 215, 108, 109, 110, 39, 216, 217, 218, 219, 220, 221, 222, 223, 224, 225, 226, 227, 228, 50, 51, 52, 229, 230, 231, 232, 233, 120, 121, 122, 123, 124, 125, 126, 37, 234, 235, 236, 18, 237, 66, 238, 239, 240, 22, 241, 73, 450, 451, 452, 453, 454, 455, 456, 457, 458, 459, 460, 461, 462, 463, 464, 465, 466, 477, 467, 468, 469, 470, 471] (by decide +kernel) (by decide +kernel)
set_option maxRecDepth 20000 in
theorem ggL_law_L_print_p0 : GoodIn wsL_law wsL_print_r1 := goodIn_r _ [275, 276, 151, 152, 153, 2, 154, 12, 155, 156, 157, 11, 158, 36, 103, 104, 105, 34, 106, 54, 159, 160, 161, 162] (by decide +kernel) (by decide +kernel)
set_option maxRecDepth 20000 in
theorem ggL_law_L_print_p1 : GoodIn wsL_law wsL_print_r2 := goodIn_r _ [37, 40, 95, 96, 97, 98, 163, 164, 165, 166, 167, 168, 169, 170, 35, 87, 88, 89, 90, 91, 92, 93, 94, 38] (by decide +kernel) (by decide +kernel)
set_option maxRecDepth 20000 in
theorem ggL_law_L_print_p2 : GoodIn wsL_law wsL_print_r3 := goodIn_r _ [99, 100, 101, 102, 107, 108, 109, 110, 39, 111, 112, 113, 114, 41, 115, 116, 117, 118, 119, 120, 121, 122, 123, 124] (by decide +kernel) (by decide +kernel)
set_option maxRecDepth 20000 in
theorem ggL_law_L_print_p3 : GoodIn wsL_law wsL_print_r4 := goodIn_r _ [125, 126, 127, 128, 129, 130, 42, 259, 260, 261, 262, 263, 264, 265, 266, 44] (by decide +kernel) (by decide +kernel)
