set_option maxRecDepth 20000 in
theorem ggL_crashes_X5_total : GoodIn wsL_crashes wsX5_total := goodIn_r _ [87, 12, 88, 89, 90, 16, 91, 92, 19, 20, 21, 22, 23, 24, 280, 281, 282, 283, 284, 285, 286, 287, 288, 289, 290, 291, 292, 293, 294, 295, 296, 297] (by decide +kernel) (by decide +kernel)
set_option maxRecDepth 20000 in
theorem ggL_crashes_X5_crash : GoodIn wsL_crashes wsX5_crash := goodIn_r _ [152, 153, 12, 154, 155, 156, 16, 157, 43, 18, 29, 52, 61, 30, 66, 83, 158, 92, 159, 160, 161, 22, 162, 24, 163, 20, 21, 23, 164, 165, 166, 167, 168, 49, 50, 51, 31, 32, 33, 34, 19, 169, 170, 171, 172, 173, 174, 175, 176, 177, 178, 179, 10, 180, 97, 181, 182, 183, 140, 184, 142, 185, 186, 187, 188, 189, 190, 191, 280, 281, 282, 283, 284, 285, 286, 287, 288, 289, 290, 291, 292, 293, 294, 295, 296, 297, 298, 299, 300] (by decide +kernel) (by decide +kernel)
set_option maxRecDepth 20000 in
theorem ggL_crashes_L_hangs_p0 : GoodIn wsL_crashes wsL_hangs_r1 := goodIn_r _ [44, 45, 46, 10, 47, 12, 48, 49, 50, 16, 51, 52, 31, 32, 33, 22, 34, 24, 53, 54, 55, 56, 30, 19] (by decide +kernel) (by decide +kernel)
set_option maxRecDepth 20000 in
theorem ggL_crashes_L_hangs_p1 : GoodIn wsL_crashes wsL_hangs_r2 := goodIn_r _ [20, 21, 23, 57, 58, 59, 60, 61, 62, 63, 64, 65, 66, 67, 68, 69, 70, 71, 72, 73, 74, 18, 75, 76] (by decide +kernel) (by decide +kernel)
set_option maxRecDepth 20000 in
theorem ggL_crashes_L_hangs_p2 : GoodIn wsL_crashes wsL_hangs_r3 := goodIn_r _ [77, 78, 29, 79, 80, 81, 82, 83, 195, 196, 3, 197, 198, 199, 200, 201, 202, 203, 204, 205, 206, 207, 208, 209] (by decide +kernel) (by decide +kernel)
set_option maxRecDepth 20000 in
theorem ggL_crashes_L_hangs_p3 : GoodIn wsL_crashes wsL_hangs_r4 := goodIn_r _ [210, 211, 212, 213, 214, 7, 8, 9, 11, 13, 14, 15, 17, 25, 26, 27, 28, 35, 36, 37, 38, 39, 40, 41] (by decide +kernel) (by decide +kernel)
set_option maxRecDepth 20000 in
theorem ggL_crashes_L_hangs_p4 : GoodIn wsL_crashes wsL_hangs_r5 := goodIn_r _ [42, 43, 215, 216, 217, 218, 219, 220, 130, 221, 222, 223, 224, 225, 226, 227, 228, 229, 230, 231, 232, 233, 234, 235] (by decide +kernel) (by decide +kernel)
set_option maxRecDepth 20000 in
theorem ggL_crashes_L_hangs_p5 : GoodIn wsL_crashes wsL_hangs_r6 := goodIn_r _ [236, 237, 238, 108, 109, 110, 93, 94, 95, 96, 97, 98, 99, 100, 101, 102, 103, 104, 105, 106, 107, 111, 112, 113] (by decide +kernel) (by decide +kernel)
set_option maxRecDepth 20000 in
theorem ggL_crashes_L_hangs_p6 : GoodIn wsL_crashes wsL_hangs_r7 := goodIn_r _ [114, 115, 116, 117, 118, 119, 120, 121, 122, 123, 124, 125, 126, 127, 128, 129, 131, 132, 133, 134, 135, 136, 137, 138] (by decide +kernel) (by decide +kernel)
