set_option maxRecDepth 20000 in
theorem ggL_crashes_L_print_p0 : GoodIn wsL_crashes wsL_print_r1 := goodIn_r _ [5, 6, 7, 8, 9, 10, 11, 12, 13, 14, 15, 16, 17, 18, 19, 20, 21, 22, 23, 24, 25, 26, 27, 28] (by decide +kernel) (by decide +kernel)
set_option maxRecDepth 20000 in
theorem ggL_crashes_L_print_p1 : GoodIn wsL_crashes wsL_print_r2 := goodIn_r _ [29, 30, 31, 32, 33, 34, 35, 36, 37, 38, 39, 40, 41, 42, 43, 44, 45, 46, 47, 48, 49, 50, 51, 52] (by decide +kernel) (by decide +kernel)
set_option maxRecDepth 20000 in
theorem ggL_crashes_L_print_p2 : GoodIn wsL_crashes wsL_print_r3 := goodIn_r _ [53, 54, 55, 56, 57, 58, 59, 60, 61, 62, 63, 64, 65, 66, 67, 68, 69, 70, 71, 72, 73, 74, 75, 76] (by decide +kernel) (by decide +kernel)
set_option maxRecDepth 20000 in
theorem ggL_crashes_L_print_p3 : GoodIn wsL_crashes wsL_print_r4 := goodIn_r _ [77, 78, 79, 80, 81, 82, 83, 84, 85, 86, 87, 88, 89, 90, 91, 92] (by decide +kernel) (by decide +kernel)
set_option maxRecDepth 20000 in
theorem ggL_crashes_L_print_p4 : GoodIn wsL_crashes wsX50 := goodIn_r _ [280, 281, 282, 283, 284, 285, 286] (by decide +kernel) (by decide +kernel)
set_option maxRecDepth 20000 in
theorem ggL_crashes_L_print_p5 : GoodIn wsL_crashes wsX00 := goodIn_r _ [287, 288, 289, 290, 291, 292, 293, 294, 295, 296] (by decide +kernel) (by decide +kernel)
set_option maxRecDepth 20000 in
theorem ggL_crashes_L_print_p6 : GoodIn wsL_crashes wsX30 := goodIn_r _ [297] (by decide +kernel) (by decide +kernel)
set_option maxRecDepth 20000 in
theorem ggL_crashes_L_print_p : GoodIn wsL_crashes [.code yL_print cL_print 4 (some .long)] := goodIn_r _ [4] (by decide +kernel) (by decide +kernel)
theorem ggL_crashes_L_print : GoodIn wsL_crashes wsL_print := fun w h => (List.mem_cons.mp h).elim (fun e => ggL_crashes_L_print_p w (List.mem_cons.mpr (Or.inl e))) (fun h => (goodIn_app (goodIn_app (goodIn_app (goodIn_app ggL_crashes_L_print_p0 (goodIn_app ggL_crashes_L_print_p1 (goodIn_app ggL_crashes_L_print_p2 ggL_crashes_L_print_p3))) ggL_crashes_L_print_p4) ggL_crashes_L_print_p5) ggL_crashes_L_print_p6) w h)
set_option maxRecDepth 20000 in
theorem ggL_crashes_X5_file : GoodIn wsL_crashes wsX5_file := goodIn_r _ [47, 12, 48, 49, 50, 16, 51, 52, 31, 32, 33, 22, 34, 24, 53, 54, 55, 56, 30, 19, 20, 21, 23, 57, 58, 59, 60, 61, 62, 63, 64, 65, 66, 67, 68, 69, 70, 71, 72, 73, 74, 18, 75, 76, 77, 78, 29, 79, 80, 81, 82, 83, 280, 281, 282, 283, 284, 285, 286, 287, 288, 289, 290, 291, 292, 293, 294, 295, 296, 297] (by decide +kernel) (by decide +kernel)
set_option maxRecDepth 20000 in
theorem ggL_crashes_X5_count : GoodIn wsL_crashes wsX5_count := goodIn_r _ [96, 12, 97, 98, 99, 100, 101, 16, 102, 52, 31, 32, 33, 22, 34, 24, 103, 104, 105, 106, 18, 107, 108, 109, 110, 30, 19, 20, 21, 23, 111, 112, 113, 114, 115, 58, 59, 60, 61, 116, 117, 118, 119, 120, 121, 122, 123, 124, 125, 126, 127, 128, 129, 130, 131, 132, 133, 134, 135, 136, 72, 73, 74, 75, 76, 77, 78, 29, 137, 138, 139, 140, 141, 142, 143, 144, 145, 146, 147, 148, 280, 281, 282, 283, 284, 285, 286, 287, 288, 289, 290, 291, 292, 293, 294, 295, 296, 297, 298, 299, 300, 301, 302] (by decide +kernel) (by decide +kernel)
