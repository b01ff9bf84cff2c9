set_option maxRecDepth 20000 in
theorem ggL_grows_X5_count : GoodIn wsL_grows wsX5_count := goodIn_r _ [219, 6, 202, 220, 221, 222, 223, 11, 224, 13, 14, 15, 16, 17, 18, 19, 136, 68, 69, 70, 25, 225, 55, 56, 57, 28, 58, 38, 39, 40, 226, 227, 228, 229, 59, 60, 61, 62, 27, 230, 231, 232, 233, 111, 112, 113, 114, 234, 235, 236, 237, 238, 239, 97, 240, 241, 242, 243, 244, 127, 128, 129, 130, 131, 132, 133, 134, 26, 245, 246, 247, 206, 248, 208, 249, 250, 251, 252, 253, 254, 308, 309, 310, 311, 312, 313, 314, 315, 316, 317, 318, 319, 320, 321, 322, 323, 324, 325, 326, 327, 328, 329, 330] (by decide +kernel) (by decide +kernel)
set_option maxRecDepth 20000 in
theorem ggL_grows_L_hangs_p0 : GoodIn wsL_grows wsL_hangs_r1 := goodIn_r _ [137, 138, 139, 4, 140, 6, 8, 9, 10, 11, 12, 13, 14, 15, 16, 17, 18, 19, 141, 142, 143, 144, 28, 58] (by decide +kernel) (by decide +kernel)
set_option maxRecDepth 20000 in
theorem ggL_grows_L_hangs_p1 : GoodIn wsL_grows wsL_hangs_r2 := goodIn_r _ [38, 39, 40, 135, 60, 61, 62, 27, 145, 146, 147, 148, 29, 149, 47, 48, 49, 150, 128, 129, 130, 25, 131, 132] (by decide +kernel) (by decide +kernel)
set_option maxRecDepth 20000 in
theorem ggL_grows_L_hangs_p2 : GoodIn wsL_grows wsL_hangs_r3 := goodIn_r _ [133, 134, 26, 151, 152, 153, 154, 30, 258, 259, 170, 260, 261, 262, 263, 264, 265, 266, 267, 268, 99, 100, 101, 102] (by decide +kernel) (by decide +kernel)
set_option maxRecDepth 20000 in
theorem ggL_grows_L_hangs_p3 : GoodIn wsL_grows wsL_hangs_r4 := goodIn_r _ [269, 270, 271, 272, 273, 174, 175, 176, 177, 178, 179, 180, 181, 182, 183, 184, 185, 186, 187, 188, 189, 190, 191, 192] (by decide +kernel) (by decide +kernel)
set_option maxRecDepth 20000 in
theorem ggL_grows_L_hangs_p4 : GoodIn wsL_grows wsL_hangs_r5 := goodIn_r _ [193, 24, 274, 275, 276, 277, 278, 96, 97, 98, 279, 280, 281, 282, 123, 124, 125, 126, 163, 164, 165, 166, 167, 51] (by decide +kernel) (by decide +kernel)
set_option maxRecDepth 20000 in
theorem ggL_grows_L_hangs_p5 : GoodIn wsL_grows wsL_hangs_r6 := goodIn_r _ [52, 53, 54, 55, 56, 57, 216, 217, 218, 219, 202, 220, 221, 222, 223, 224, 136, 68, 69, 70, 225, 226, 227, 228] (by decide +kernel) (by decide +kernel)
set_option maxRecDepth 20000 in
theorem ggL_grows_L_hangs_p6 : GoodIn wsL_grows wsL_hangs_r7 := goodIn_r _ [229, 59, 230, 231, 232, 233, 111, 112, 113, 114, 234, 235, 236, 237, 238, 239, 240, 241, 242, 243, 244, 127, 245, 246] (by decide +kernel) (by decide +kernel)
