set_option maxRecDepth 20000 in
theorem ggL_law_X5_undo : GoodIn wsL_law wsX5_undo := goodIn_r _ [435, 19, 12, 436, 437, 438, 18, 439, 66, 305, 306, 307, 308, 65, 64, 309, 282, 283, 11, 284, 35, 36, 37, 38, 39, 40, 41, 42, 43, 44, 285, 286, 287, 34, 288, 54, 289, 104, 105, 106, 234, 235, 236, 237, 450, 451, 452, 453, 454, 455, 456, 467, 468, 469, 457, 458, 459, 460, 461, 462, 463, 464, 465, 466, 477] (by decide +kernel) (by decide +kernel)
set_option maxRecDepth 20000 in
theorem ggL_law_L_grows_p0 : GoodIn wsL_law wsL_grows_r1 := goodIn_r _ [443, 444, 445, 2, 446, 12, 13, 91, 92, 93, 11, 94, 38, 95, 96, 97, 34, 98, 54, 281, 282, 283, 284, 35] (by decide +kernel) (by decide +kernel)
set_option maxRecDepth 20000 in
theorem ggL_law_L_grows_p1 : GoodIn wsL_law wsL_grows_r2 := goodIn_r _ [36, 37, 39, 40, 41, 42, 43, 44, 285, 286, 287, 288, 289, 104, 105, 106, 398, 399, 400, 401, 294, 295, 116, 117] (by decide +kernel) (by decide +kernel)
set_option maxRecDepth 20000 in
theorem ggL_law_L_grows_p2 : GoodIn wsL_law wsL_grows_r3 := goodIn_r _ [118, 402, 191, 192, 193, 194, 195, 196, 197, 103, 215, 108, 109, 110, 403, 404, 405, 406, 407, 207, 208, 209, 408, 409] (by decide +kernel) (by decide +kernel)
set_option maxRecDepth 20000 in
theorem ggL_law_L_grows_p3 : GoodIn wsL_law wsL_grows_r4 := goodIn_r _ [410, 411, 333, 334, 335, 336, 337, 338, 339, 340, 55, 56, 57, 58, 341, 342, 343, 344, 412, 413, 414, 415, 393, 176] (by decide +kernel) (by decide +kernel)
set_option maxRecDepth 20000 in
theorem ggL_law_L_grows_p4 : GoodIn wsL_law wsL_grows_r5 := goodIn_r _ [51, 177, 142, 143, 144, 145, 416, 417, 418, 419, 420, 421, 422, 423, 220, 221, 222, 223, 424, 425, 426, 427, 428, 429] (by decide +kernel) (by decide +kernel)
