set_option maxRecDepth 20000 in
theorem ggL_law_X5_init : GoodIn wsL_law wsX5_init := goodIn_r _ [5, 6, 7, 8, 9, 10, 11, 12, 13, 14, 15, 16, 17, 18, 19, 20, 21, 22, 23, 24, 25, 26, 27, 28, 29, 30, 31, 32, 33, 34, 35, 36, 37, 38, 39, 40, 41, 42, 43, 44, 45, 46, 47, 48, 49, 50, 51, 52, 53, 54, 55, 56, 57, 58, 59, 60, 61, 62, 63, 64, 65, 66, 67, 68, 69, 70, 71, 72, 73, 74, 75, 76, 77, 78, 79, 80, 81, 82, 457, 458, 459, 460, 461, 462, 463, 464, 465, 466, 450, 451, 452, 453, 454, 455, 456, 467, 468, 469, 470, 471, 472, 473, 474, 475, 476, 477] (by decide +kernel) (by decide +kernel)
set_option maxRecDepth 20000 in
theorem ggL_law_L_hangs_p0 : GoodIn wsL_law wsL_hangs_r1 := goodIn_r _ [87, 88, 89, 2, 90, 12, 91, 92, 93, 11, 94, 38, 95, 96, 97, 34, 98, 54, 99, 100, 101, 102, 40, 103] (by decide +kernel) (by decide +kernel)
set_option maxRecDepth 20000 in
theorem ggL_law_L_hangs_p1 : GoodIn wsL_law wsL_hangs_r2 := goodIn_r _ [104, 105, 106, 107, 108, 109, 110, 39, 111, 112, 113, 114, 41, 115, 116, 117, 118, 119, 120, 121, 122, 36, 123, 124] (by decide +kernel) (by decide +kernel)
set_option maxRecDepth 20000 in
theorem ggL_law_L_hangs_p2 : GoodIn wsL_law wsL_hangs_r3 := goodIn_r _ [125, 126, 37, 127, 128, 129, 130, 42, 131, 132, 85, 133, 134, 135, 136, 137, 138, 139, 140, 141, 142, 143, 144, 145] (by decide +kernel) (by decide +kernel)
