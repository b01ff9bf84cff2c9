set_option maxRecDepth 20000 in
theorem ggL_law_X5_cut : GoodIn wsL_law wsX5_cut := goodIn_r _ [422, 16, 15, 96, 97, 98, 14, 99, 38, 39, 40, 41, 42, 43, 44, 45, 46, 47, 100, 101, 102, 37, 103, 57, 104, 105, 106, 107, 423, 424, 425, 426, 316, 317, 54, 318, 172, 173, 174, 175, 112, 113, 114, 115, 176, 177, 178, 179, 223, 215, 216, 217, 218, 219, 220, 221, 222, 224, 225, 226, 227, 58, 59, 60, 61, 228, 229, 230, 231, 116, 117, 118, 2, 119, 22, 120, 121, 122, 21, 123, 69, 68, 124, 125, 126, 127, 67, 128, 855, 856, 857, 858, 859, 860, 861, 872, 873, 874, 875, 876, 877, 878, 879, 880, 881, 892, 882, 883, 884] (by decide +kernel) (by decide +kernel)
set_option maxRecDepth 20000 in
theorem gL_law_X5_cut : GoodIn wsL_law (wsV RL 40 RX5 yX5_cut wsX5_cut) := goodIn_app (goodIn_of _ (by decide +kernel)) ggL_law_X5_cut
set_option maxRecDepth 20000 in
theorem ggL_law_X6_cut : GoodIn wsL_law wsX6_cut := goodIn_r _ [430, 431, 432, 433, 5, 434, 90, 157, 158, 159, 160, 161, 162, 163, 141, 142, 143, 192, 193, 194, 195, 144, 145, 146, 147, 148, 149, 150, 151, 152, 435, 436, 437, 438, 244, 245, 246, 247, 248, 249, 250, 251, 862, 863, 864, 865, 866, 867, 868, 869, 870, 871] (by decide +kernel) (by decide +kernel)
set_option maxRecDepth 20000 in
theorem gL_law_X6_cut : GoodIn wsL_law (wsV RL 44 RX6 yX6_cut wsX6_cut) := goodIn_app (goodIn_of _ (by decide +kernel)) ggL_law_X6_cut
set_option maxRecDepth 20000 in
theorem ggL_law_X5_crash : GoodIn wsL_law wsX5_crash := goodIn_r _ [442, 16, 15, 96, 97, 98, 14, 99, 38, 39, 40, 41, 42, 43, 44, 45, 46, 47, 100, 101, 102, 37, 103, 57, 104, 105, 106, 107, 443, 444, 445, 446, 172, 173, 174, 175, 112, 113, 114, 115, 223, 58, 59, 60, 61, 228, 229, 230, 231, 116, 117, 118, 2, 119, 22, 120, 121, 122, 21, 123, 69, 68, 124, 125, 126, 127, 67, 128, 855, 856, 857, 858, 859, 860, 861, 872, 873, 874, 875, 876, 877, 878, 879, 880, 881, 892, 882, 883, 884] (by decide +kernel) (by decide +kernel)
set_option maxRecDepth 20000 in
theorem gL_law_X5_crash : GoodIn wsL_law (wsV RL 45 RX5 yX5_crash wsX5_crash) := goodIn_app (goodIn_of _ (by decide +kernel)) ggL_law_X5_crash
set_option maxRecDepth 20000 in
theorem ggL_law_X6_crash : GoodIn wsL_law wsX6_crash := goodIn_r _ [450, 144, 145, 146, 5, 147, 148, 149, 150, 151, 152, 90, 451, 452, 453, 454, 141, 142, 143, 157, 158, 159, 160, 161, 162, 163, 862, 863, 864, 865, 866, 867, 868, 869, 870, 871] (by decide +kernel) (by decide +kernel)
set_option maxRecDepth 20000 in
theorem gL_law_X6_crash : GoodIn wsL_law (wsV RL 48 RX6 yX6_crash wsX6_crash) := goodIn_app (goodIn_of _ (by decide +kernel)) ggL_law_X6_crash
set_option maxRecDepth 20000 in
theorem ggL_law_X5_mend : GoodIn wsL_law wsX5_mend := goodIn_r _ [458, 16, 15, 96, 97, 98, 14, 99, 38, 39, 40, 41, 42, 43, 44, 45, 46, 47, 100, 101, 102, 37, 103, 57, 104, 105, 106, 107, 459, 460, 461, 462, 112, 113, 114, 115, 215, 216, 217, 218, 219, 220, 221, 222, 223, 224, 225, 226, 227, 58, 59, 60, 61, 228, 229, 230, 231, 116, 117, 118, 2, 119, 22, 120, 121, 122, 21, 123, 69, 68, 124, 125, 126, 127, 67, 128, 855, 856, 857, 858, 859, 860, 861, 872, 873, 874, 875, 876, 877, 878, 879, 880, 881, 892, 882, 883, 884] (by decide +kernel) (by decide +kernel)
set_option maxRecDepth 20000 in
theorem gL_law_X5_mend : GoodIn wsL_law (wsV RL 49 RX5 yX5_mend wsX5_mend) := goodIn_app (goodIn_of _ (by decide +kernel)) ggL_law_X5_mend
set_option maxRecDepth 20000 in
theorem ggL_law_X6_mend : GoodIn wsL_law wsX6_mend := goodIn_r _ [466, 144, 145, 146, 5, 147, 148, 149, 150, 151, 152, 90, 467, 468, 469, 470, 157, 158, 159, 160, 161, 162, 163, 141, 142, 143, 192, 193, 194, 195, 244, 245, 246, 247, 248, 249, 250, 251, 862, 863, 864, 865, 866, 867, 868, 869, 870, 871] (by decide +kernel) (by decide +kernel)
set_option maxRecDepth 20000 in
theorem gL_law_X6_mend : GoodIn wsL_law (wsV RL 52 RX6 yX6_mend wsX6_mend) := goodIn_app (goodIn_of _ (by decide +kernel)) ggL_law_X6_mend
set_option maxRecDepth 20000 in
theorem ggL_law_X5_set : GoodIn wsL_law wsX5_set := goodIn_r _ [474, 16, 15, 96, 97, 98, 14, 99, 38, 39, 40, 41, 42, 43, 44, 45, 46, 47, 100, 101, 102, 37, 103, 57, 104, 105, 106, 107, 475, 476, 477, 478, 223, 58, 59, 60, 61, 116, 117, 118, 2, 119, 22, 120, 121, 122, 21, 123, 69, 68, 124, 125, 126, 127, 67, 128, 855, 856, 857, 858, 859, 860, 861, 872, 873, 874, 875, 876, 877, 878, 879, 880, 881, 892, 882, 883, 884] (by decide +kernel) (by decide +kernel)
set_option maxRecDepth 20000 in
theorem gL_law_X5_set : GoodIn wsL_law (wsV RL 53 RX5 yX5_set wsX5_set) := goodIn_app (goodIn_of _ (by decide +kernel)) ggL_law_X5_set
set_option maxRecDepth 20000 in
theorem ggL_law_X6_set : GoodIn wsL_law wsX6_set := goodIn_r _ [482, 90, 161, 162, 5, 163, 144, 145, 146, 147, 148, 149, 150, 151, 152, 862, 863, 864, 865, 866, 867, 868, 869, 870, 871] (by decide +kernel) (by decide +kernel)
set_option maxRecDepth 20000 in
theorem gL_law_X6_set : GoodIn wsL_law (wsV RL 56 RX6 yX6_set wsX6_set) := goodIn_app (goodIn_of _ (by decide +kernel)) ggL_law_X6_set
set_option maxRecDepth 20000 in
theorem ggL_law_X5_type : GoodIn wsL_law wsX5_type := goodIn_r _ [486, 26, 487, 488, 489, 25, 490, 76, 75, 491, 59, 60, 37, 61, 57, 492, 493, 494, 495, 855, 856, 857, 858, 859, 860, 861, 885, 886, 892] (by decide +kernel) (by decide +kernel)
set_option maxRecDepth 20000 in
theorem gL_law_X5_type : GoodIn wsL_law (wsV RL 57 RX5 yX5_type wsX5_type) := goodIn_app (goodIn_of _ (by decide +kernel)) ggL_law_X5_type
set_option maxRecDepth 20000 in
theorem ggL_law_X6_type : GoodIn wsL_law wsX6_type := goodIn_r _ [499, 500, 91, 161, 162, 5, 163, 862, 863, 864, 865, 866, 867, 868, 869, 870, 871] (by decide +kernel) (by decide +kernel)
set_option maxRecDepth 20000 in
theorem gL_law_X6_type : GoodIn wsL_law (wsV RL 60 RX6 yX6_type wsX6_type) := goodIn_app (goodIn_of _ (by decide +kernel)) ggL_law_X6_type
set_option maxRecDepth 20000 in
theorem ggL_law_X5_clearText : GoodIn wsL_law wsX5_clearText := goodIn_r _ [504, 26, 492, 493, 494, 25, 495, 76, 505, 506, 507, 508, 855, 856, 857, 858, 859, 860, 861, 885, 886] (by decide +kernel) (by decide +kernel)
set_option maxRecDepth 20000 in
theorem gL_law_X5_clearText : GoodIn wsL_law (wsV RL 61 RX5 yX5_clearText wsX5_clearText) := goodIn_app (goodIn_of _ (by decide +kernel)) ggL_law_X5_clearText
set_option maxRecDepth 20000 in
theorem ggL_law_X6_clearText : GoodIn wsL_law wsX6_clearText := goodIn_r _ [512, 500, 862, 863, 864, 865, 866, 867, 868, 869, 870, 871] (by decide +kernel) (by decide +kernel)
set_option maxRecDepth 20000 in
theorem gL_law_X6_clearText : GoodIn wsL_law (wsV RL 64 RX6 yX6_clearText wsX6_clearText) := goodIn_app (goodIn_of _ (by decide +kernel)) ggL_law_X6_clearText
set_option maxRecDepth 20000 in
theorem ggL_law_X5_fault : GoodIn wsL_law wsX5_fault := goodIn_r _ [516, 26, 30, 517, 518, 519, 25, 520, 76, 75, 521, 522, 523, 29, 524, 81, 525, 105, 106, 37, 107, 57, 526, 527, 528, 529, 530, 531, 532, 533, 82, 534, 535, 536, 537, 538, 539, 540, 541, 83, 542, 543, 544, 545, 546, 547, 548, 549, 84, 550, 551, 552, 553, 554, 555, 556, 557, 558, 559, 560, 85, 561, 562, 563, 564, 565, 855, 856, 857, 858, 859, 860, 861, 885, 886, 887, 888, 889, 890, 891, 892] (by decide +kernel) (by decide +kernel)
set_option maxRecDepth 20000 in
theorem gL_law_X5_fault : GoodIn wsL_law (wsV RL 65 RX5 yX5_fault wsX5_fault) := goodIn_app (goodIn_of _ (by decide +kernel)) ggL_law_X5_fault
set_option maxRecDepth 20000 in
theorem ggL_law_X6_fault : GoodIn wsL_law wsX6_fault := goodIn_r _ [569, 570, 500, 571, 572, 573, 5, 574, 91, 575, 576, 577, 578, 579, 580, 581, 582, 583, 584, 161, 162, 163, 204, 205, 206, 585, 586, 587, 588, 589, 590, 591, 592, 593, 594, 595, 596, 597, 598, 599, 600, 601, 602, 862, 863, 864, 865, 866, 867, 868, 869, 870, 871] (by decide +kernel) (by decide +kernel)
set_option maxRecDepth 20000 in
theorem gL_law_X6_fault : GoodIn wsL_law (wsV RL 68 RX6 yX6_fault wsX6_fault) := goodIn_app (goodIn_of _ (by decide +kernel)) ggL_law_X6_fault
