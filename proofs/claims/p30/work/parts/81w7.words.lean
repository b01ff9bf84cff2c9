set_option maxRecDepth 20000 in
theorem ggL_law_L_grows_p5 : GoodIn wsL_law wsL_grows_r6 := goodIn_r _ [430, 431, 182, 183, 184, 185, 233, 120, 121, 122, 123, 124, 125, 126, 107, 206, 87, 88, 89, 90, 99, 100, 101, 102] (by decide +kernel) (by decide +kernel)
set_option maxRecDepth 20000 in
theorem ggL_law_L_grows_p6 : GoodIn wsL_law wsL_grows_r7 := goodIn_r _ [111, 112, 113, 114, 115, 119, 127, 128, 129, 130, 259, 260, 261, 262, 263, 264, 265, 266, 186, 187, 188, 189, 190, 272] (by decide +kernel) (by decide +kernel)
set_option maxRecDepth 20000 in
theorem ggL_law_L_grows_p7 : GoodIn wsL_law wsL_grows_r8 := goodIn_r _ [273, 85, 274, 275, 276, 151, 152, 153, 154, 155, 156, 157, 158, 159, 160, 161, 162, 163, 164, 165, 166, 167, 168, 169] (by decide +kernel) (by decide +kernel)
set_option maxRecDepth 20000 in
theorem ggL_law_L_grows_p8 : GoodIn wsL_law wsL_grows_r9 := goodIn_r _ [170, 394, 395, 396, 397, 297, 298, 299, 300, 19, 301, 302, 303, 18, 304, 66, 65, 305, 306, 307, 308, 64, 309, 198] (by decide +kernel) (by decide +kernel)
set_option maxRecDepth 20000 in
theorem ggL_law_L_grows_p9 : GoodIn wsL_law wsL_grows_r10 := goodIn_r _ [199, 200, 201, 23, 202, 203, 204, 205, 210, 211, 212, 213, 214, 216, 217, 218, 219, 224, 225, 226, 227, 228, 50, 52] (by decide +kernel) (by decide +kernel)
set_option maxRecDepth 20000 in
theorem ggL_law_L_grows_p10 : GoodIn wsL_law wsL_grows_r11 := goodIn_r _ [229, 230, 231, 232, 234, 235, 236, 237, 238, 239, 240, 22, 241, 73, 83, 84, 86, 131, 132, 133, 134, 135, 136, 137] (by decide +kernel) (by decide +kernel)
set_option maxRecDepth 20000 in
theorem ggL_law_L_grows_p11 : GoodIn wsL_law wsL_grows_r12 := goodIn_r _ [138, 139, 140, 141, 146, 147, 148, 149, 150, 171, 172, 173, 174, 175, 178, 179, 180, 181, 242, 243, 244, 245, 246, 247] (by decide +kernel) (by decide +kernel)
set_option maxRecDepth 20000 in
theorem ggL_law_L_grows_p12 : GoodIn wsL_law wsL_grows_r13 := goodIn_r _ [248, 249, 250, 251, 252, 253, 254, 255, 256, 257, 258, 432, 433, 434, 435, 436, 437, 438, 439] (by decide +kernel) (by decide +kernel)
