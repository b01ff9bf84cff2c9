set_option maxRecDepth 20000 in
theorem ggL_crashes_L_hangs_p7 : GoodIn wsL_crashes wsL_hangs_r8 := goodIn_r _ [139, 140, 141, 142, 143, 144, 145, 146, 147, 148, 239, 240, 241, 242, 243, 244, 245, 246, 247, 248, 249, 250, 251, 252] (by decide +kernel) (by decide +kernel)
set_option maxRecDepth 20000 in
theorem ggL_crashes_L_hangs_p8 : GoodIn wsL_crashes wsL_hangs_r9 := goodIn_r _ [253, 254, 255, 84, 85, 86, 87, 88, 89, 90, 91, 92] (by decide +kernel) (by decide +kernel)
set_option maxRecDepth 20000 in
theorem ggL_crashes_L_hangs_p9 : GoodIn wsL_crashes wsX50 := goodIn_r _ [280, 281, 282, 283, 284, 285, 286] (by decide +kernel) (by decide +kernel)
set_option maxRecDepth 20000 in
theorem ggL_crashes_L_hangs_p10 : GoodIn wsL_crashes wsX00 := goodIn_r _ [287, 288, 289, 290, 291, 292, 293, 294, 295, 296] (by decide +kernel) (by decide +kernel)
set_option maxRecDepth 20000 in
theorem ggL_crashes_L_hangs_p11 : GoodIn wsL_crashes wsX30 := goodIn_r _ [297] (by decide +kernel) (by decide +kernel)
set_option maxRecDepth 20000 in
theorem ggL_crashes_L_hangs_p12 : GoodIn wsL_crashes wsX10 := goodIn_r _ [298, 299, 300] (by decide +kernel) (by decide +kernel)
set_option maxRecDepth 20000 in
theorem ggL_crashes_L_hangs_p13 : GoodIn wsL_crashes wsX40 := goodIn_r _ [301, 302] (by decide +kernel) (by decide +kernel)
set_option maxRecDepth 20000 in
theorem ggL_crashes_L_hangs_p : GoodIn wsL_crashes [.code yL_hangs cL_hangs 14 (some .boolean)] := goodIn_r _ [194] (by decide +kernel) (by decide +kernel)
theorem ggL_crashes_L_hangs : GoodIn wsL_crashes wsL_hangs := fun w h => (List.mem_cons.mp h).elim (fun e => ggL_crashes_L_hangs_p w (List.mem_cons.mpr (Or.inl e))) (fun h => (goodIn_app (goodIn_app (goodIn_app (goodIn_app (goodIn_app (goodIn_app ggL_crashes_L_hangs_p0 (goodIn_app ggL_crashes_L_hangs_p1 (goodIn_app ggL_crashes_L_hangs_p2 (goodIn_app ggL_crashes_L_hangs_p3 (goodIn_app ggL_crashes_L_hangs_p4 (goodIn_app ggL_crashes_L_hangs_p5 (goodIn_app ggL_crashes_L_hangs_p6 (goodIn_app ggL_crashes_L_hangs_p7 ggL_crashes_L_hangs_p8)))))))) ggL_crashes_L_hangs_p9) ggL_crashes_L_hangs_p10) ggL_crashes_L_hangs_p11) ggL_crashes_L_hangs_p12) ggL_crashes_L_hangs_p13) w h)
set_option maxRecDepth 20000 in
theorem ggL_crashes_X5_mend : GoodIn wsL_crashes wsX5_mend := goodIn_r _ [259, 153, 12, 154, 155, 156, 16, 157, 43, 18, 29, 52, 61, 30, 66, 83, 158, 92, 159, 160, 161, 22, 162, 24, 163, 20, 21, 23, 260, 261, 262, 263, 31, 32, 33, 34, 264, 265, 266, 267, 115, 58, 59, 60, 19, 268, 269, 270, 271, 169, 170, 171, 172, 173, 174, 175, 176, 177, 178, 179, 10, 180, 97, 181, 182, 183, 140, 184, 142, 185, 186, 187, 188, 189, 190, 191, 280, 281, 282, 283, 284, 285, 286, 287, 288, 289, 290, 291, 292, 293, 294, 295, 296, 297, 298, 299, 300] (by decide +kernel) (by decide +kernel)
set_option maxRecDepth 20000 in
theorem ggL_crashes_X5_undo : GoodIn wsL_crashes wsX5_undo := goodIn_r _ [275, 97, 12, 276, 277, 278, 140, 279, 142, 186, 187, 188, 189, 185, 190, 191, 155, 156, 16, 157, 43, 18, 29, 52, 61, 30, 66, 83, 158, 92, 159, 160, 161, 22, 162, 24, 163, 20, 21, 23, 137, 138, 139, 141, 280, 281, 282, 283, 284, 285, 286, 298, 299, 300, 287, 288, 289, 290, 291, 292, 293, 294, 295, 296, 297] (by decide +kernel) (by decide +kernel)
