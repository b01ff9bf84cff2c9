set_option maxRecDepth 20000 in
theorem ggL_law_L_act_p3 : GoodIn wsL_law wsL_act_r4 := goodIn_r _ [291, 292, 293, 294, 92, 93, 94, 295, 116, 117, 118, 296, 203, 204, 205, 325, 326, 327, 328, 329, 330, 331, 332, 333] (by decide +kernel) (by decide +kernel)
set_option maxRecDepth 20000 in
theorem ggL_law_L_act_p4 : GoodIn wsL_law wsL_act_r5 := goodIn_r _ [334, 335, 336, 215, 108, 109, 110, 103, 337, 338, 339, 340, 341, 342, 343, 344, 345, 346, 347, 348, 349, 350, 351, 352] (by decide +kernel) (by decide +kernel)
set_option maxRecDepth 20000 in
theorem ggL_law_L_act_p5 : GoodIn wsL_law wsL_act_r6 := goodIn_r _ [353, 354, 355, 356, 357, 358, 359, 360, 361, 362, 363, 364, 365, 366, 367, 368, 369, 370, 371, 372, 373, 374, 375, 376] (by decide +kernel) (by decide +kernel)
set_option maxRecDepth 20000 in
theorem ggL_law_L_act_p6 : GoodIn wsL_law wsL_act_r7 := goodIn_r _ [377, 378, 379, 380, 381, 382, 383, 384, 385, 386, 387, 388, 389, 390, 391, 392, 393, 176, 51, 177, 394, 395, 396, 397] (by decide +kernel) (by decide +kernel)
set_option maxRecDepth 20000 in
theorem ggL_law_L_act_p7 : GoodIn wsL_law wsL_act_r8 := goodIn_r _ [398, 399, 400, 401, 402, 191, 192, 193, 194, 195, 196, 197, 403, 404, 405, 406, 407, 207, 208, 209, 408, 409, 410, 411] (by decide +kernel) (by decide +kernel)
set_option maxRecDepth 20000 in
theorem ggL_law_L_act_p8 : GoodIn wsL_law wsL_act_r9 := goodIn_r _ [412, 413, 414, 415, 142, 143, 144, 145, 416, 417, 418, 419, 420, 421, 422, 423, 220, 221, 222, 223, 424, 425, 426, 427] (by decide +kernel) (by decide +kernel)
set_option maxRecDepth 20000 in
theorem ggL_law_L_act_p9 : GoodIn wsL_law wsL_act_r10 := goodIn_r _ [428, 429, 430, 431, 182, 183, 184, 185, 233, 120, 121, 122, 123, 124, 125, 126] (by decide +kernel) (by decide +kernel)
set_option maxRecDepth 20000 in
theorem ggL_law_L_act_p10 : GoodIn wsL_law wsX50 := goodIn_r _ [450, 451, 452, 453, 454, 455, 456] (by decide +kernel) (by decide +kernel)
set_option maxRecDepth 20000 in
theorem ggL_law_L_act_p11 : GoodIn wsL_law wsX00 := goodIn_r _ [457, 458, 459, 460, 461, 462, 463, 464, 465, 466] (by decide +kernel) (by decide +kernel)
set_option maxRecDepth 20000 in
theorem ggL_law_L_act_p12 : GoodIn wsL_law wsX30 := goodIn_r _ [477] (by decide +kernel) (by decide +kernel)
set_option maxRecDepth 20000 in
theorem ggL_law_L_act_p13 : GoodIn wsL_law wsX10 := goodIn_r _ [467, 468, 469] (by decide +kernel) (by decide +kernel)
set_option maxRecDepth 20000 in
theorem ggL_law_L_act_p : GoodIn wsL_law [.code yL_act cL_act 4 (some .int)] := goodIn_r _ [312] (by decide +kernel) (by decide +kernel)
theorem ggL_law_L_act : GoodIn wsL_law wsL_act := fun w h => (List.mem_cons.mp h).elim (fun e => ggL_law_L_act_p w (List.mem_cons.mpr (Or.inl e))) (fun h => (goodIn_app (goodIn_app (goodIn_app (goodIn_app (goodIn_app ggL_law_L_act_p0 (goodIn_app ggL_law_L_act_p1 (goodIn_app ggL_law_L_act_p2 (goodIn_app ggL_law_L_act_p3 (goodIn_app ggL_law_L_act_p4 (goodIn_app ggL_law_L_act_p5 (goodIn_app ggL_law_L_act_p6 (goodIn_app ggL_law_L_act_p7 (goodIn_app ggL_law_L_act_p8 ggL_law_L_act_p9))))))))) ggL_law_L_act_p10) ggL_law_L_act_p11) ggL_law_L_act_p12) ggL_law_L_act_p13) w h)
set_option maxRecDepth 20000 in
theorem ggL_law_L_low : GoodIn wsL_law wsL_low := goodIn_r _ [315, 316] (by decide +kernel) (by decide +kernel)
