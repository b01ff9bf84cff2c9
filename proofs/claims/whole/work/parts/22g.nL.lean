set_option maxRecDepth 20000 in
theorem ggL_law_X5_run : GoodIn wsL_law wsX5_run := goodIn_r _ [752, 15, 753, 754, 755, 14, 756, 331, 332, 333, 334, 39, 112, 113, 114, 37, 115, 57, 757, 855, 856, 857, 858, 859, 860, 861, 872, 873, 874, 875, 876, 877, 878, 879, 880, 881, 892] (by decide +kernel) (by decide +kernel)
set_option maxRecDepth 20000 in
theorem gL_law_X5_run : GoodIn wsL_law (wsV RL 97 RX5 yX5_run wsX5_run) := goodIn_app (goodIn_of _ (by decide +kernel)) ggL_law_X5_run
set_option maxRecDepth 20000 in
theorem ggL_law_X6_run : GoodIn wsL_law wsX6_run := goodIn_r _ [761, 161, 162, 5, 163, 407, 408, 409, 410, 379, 380, 381, 382, 90, 411, 412, 413, 414, 862, 863, 864, 865, 866, 867, 868, 869, 870, 871] (by decide +kernel) (by decide +kernel)
set_option maxRecDepth 20000 in
theorem gL_law_X6_run : GoodIn wsL_law (wsV RL 100 RX6 yX6_run wsX6_run) := goodIn_app (goodIn_of _ (by decide +kernel)) ggL_law_X6_run
set_option maxRecDepth 20000 in
theorem ggL_law_X5_read : GoodIn wsL_law wsX5_read := goodIn_r _ [765, 15, 766, 317, 54, 318, 712, 173, 174, 14, 175, 41, 112, 113, 114, 37, 115, 57, 713, 714, 715, 716, 43, 223, 105, 106, 107, 767, 768, 769, 770, 38, 343, 344, 345, 346, 39, 40, 855, 856, 857, 858, 859, 860, 861, 872, 873, 874, 875, 876, 877, 878, 879, 880, 881, 892] (by decide +kernel) (by decide +kernel)
set_option maxRecDepth 20000 in
theorem gL_law_X5_read : GoodIn wsL_law (wsV RL 101 RX5 yX5_read wsX5_read) := goodIn_app (goodIn_of _ (by decide +kernel)) ggL_law_X5_read
set_option maxRecDepth 20000 in
theorem ggL_law_X6_read : GoodIn wsL_law wsX6_read := goodIn_r _ [774, 90, 157, 158, 159, 5, 160, 161, 162, 163, 141, 142, 143, 395, 396, 397, 398, 862, 863, 864, 865, 866, 867, 868, 869, 870, 871] (by decide +kernel) (by decide +kernel)
set_option maxRecDepth 20000 in
theorem gL_law_X6_read : GoodIn wsL_law (wsV RL 105 RX6 yX6_read wsX6_read) := goodIn_app (goodIn_of _ (by decide +kernel)) ggL_law_X6_read
set_option maxRecDepth 20000 in
theorem ggL_law_X5_count : GoodIn wsL_law wsX5_count := goodIn_r _ [778, 15, 22, 26, 779, 181, 182, 14, 183, 41, 112, 113, 114, 37, 115, 57, 666, 305, 306, 307, 39, 780, 297, 298, 299, 43, 223, 105, 106, 107, 781, 782, 783, 784, 219, 220, 221, 222, 42, 785, 786, 787, 788, 331, 332, 333, 334, 789, 790, 791, 792, 793, 53, 54, 55, 794, 795, 796, 797, 347, 348, 349, 350, 351, 352, 353, 354, 40, 654, 655, 656, 21, 657, 69, 492, 493, 494, 25, 495, 76, 855, 856, 857, 858, 859, 860, 861, 872, 873, 874, 875, 876, 877, 878, 879, 880, 881, 892, 882, 883, 884, 885, 886] (by decide +kernel) (by decide +kernel)
set_option maxRecDepth 20000 in
theorem gL_law_X5_count : GoodIn wsL_law (wsV RL 106 RX5 yX5_count wsX5_count) := goodIn_app (goodIn_of _ (by decide +kernel)) ggL_law_X5_count
set_option maxRecDepth 20000 in
theorem ggL_law_X6_count : GoodIn wsL_law wsX6_count := goodIn_r _ [801, 148, 500, 137, 138, 139, 5, 140, 90, 141, 142, 143, 200, 201, 202, 203, 157, 158, 159, 160, 161, 162, 163, 192, 193, 194, 195, 204, 205, 206, 375, 376, 377, 378, 379, 380, 381, 382, 367, 368, 369, 370, 371, 372, 373, 374, 802, 803, 804, 805, 806, 807, 808, 809, 407, 408, 409, 410, 411, 412, 413, 414, 810, 811, 812, 813, 415, 416, 417, 418, 395, 396, 397, 398, 862, 863, 864, 865, 866, 867, 868, 869, 870, 871] (by decide +kernel) (by decide +kernel)
set_option maxRecDepth 20000 in
theorem gL_law_X6_count : GoodIn wsL_law (wsV RL 109 RX6 yX6_count wsX6_count) := goodIn_app (goodIn_of _ (by decide +kernel)) ggL_law_X6_count
set_option maxRecDepth 20000 in
theorem ggL_law_X5_total : GoodIn wsL_law wsX5_total := goodIn_r _ [817, 15, 818, 819, 820, 14, 821, 47, 223, 105, 106, 37, 107, 57, 855, 856, 857, 858, 859, 860, 861, 872, 873, 874, 875, 876, 877, 878, 879, 880, 881, 892] (by decide +kernel) (by decide +kernel)
set_option maxRecDepth 20000 in
theorem gL_law_X5_total : GoodIn wsL_law (wsV RL 110 RX5 yX5_total wsX5_total) := goodIn_app (goodIn_of _ (by decide +kernel)) ggL_law_X5_total
set_option maxRecDepth 20000 in
theorem ggL_law_X6_total : GoodIn wsL_law wsX6_total := goodIn_r _ [825, 90, 161, 162, 5, 163, 862, 863, 864, 865, 866, 867, 868, 869, 870, 871] (by decide +kernel) (by decide +kernel)
set_option maxRecDepth 20000 in
theorem gL_law_X6_total : GoodIn wsL_law (wsV RL 113 RX6 yX6_total wsX6_total) := goodIn_app (goodIn_of _ (by decide +kernel)) ggL_law_X6_total
set_option maxRecDepth 20000 in
theorem ggL_law_X5_ifAppended : GoodIn wsL_law wsX5_ifAppended := goodIn_r _ [829, 15, 16, 712, 173, 174, 14, 175, 41, 112, 113, 114, 37, 115, 57, 96, 97, 98, 99, 38, 39, 40, 42, 43, 44, 45, 46, 47, 100, 101, 102, 103, 104, 105, 106, 107, 288, 289, 290, 291, 172, 176, 177, 178, 179, 292, 293, 294, 295, 296, 297, 298, 299, 223, 219, 220, 221, 222, 300, 301, 302, 303, 304, 305, 306, 307, 308, 309, 310, 311, 215, 216, 217, 218, 224, 225, 226, 227, 58, 59, 60, 61, 228, 229, 230, 231, 312, 313, 314, 315, 316, 317, 54, 318, 319, 320, 321, 322, 323, 324, 325, 326, 327, 328, 329, 330, 331, 332, 333, 334, 335, 336, 337, 338, 339, 340, 341, 342, 343, 344, 345, 346, 347, 348, 349, 350, 351, 352, 353, 354, 717, 666, 855, 856, 857, 858, 859, 860, 861, 872, 873, 874, 875, 876, 877, 878, 879, 880, 881, 892] (by decide +kernel) (by decide +kernel)
set_option maxRecDepth 20000 in
theorem gL_law_X5_ifAppended : GoodIn wsL_law (wsV RL 114 RX5 yX5_ifAppended wsX5_ifAppended) := goodIn_app (goodIn_of _ (by decide +kernel)) ggL_law_X5_ifAppended
set_option maxRecDepth 20000 in
theorem ggL_law_X6_ifAppended : GoodIn wsL_law wsX6_ifAppended := goodIn_r _ [833, 157, 158, 159, 5, 160, 90, 161, 162, 163, 141, 142, 143, 192, 193, 194, 195, 363, 364, 365, 366, 367, 368, 369, 370, 371, 372, 373, 374, 375, 376, 377, 378, 379, 380, 381, 382, 204, 205, 206, 149, 150, 151, 152, 383, 384, 385, 386, 387, 388, 389, 390, 391, 392, 393, 394, 244, 245, 246, 247, 248, 249, 250, 251, 395, 396, 397, 398, 399, 400, 401, 402, 403, 404, 405, 406, 407, 408, 409, 410, 411, 412, 413, 414, 415, 416, 417, 418, 862, 863, 864, 865, 866, 867, 868, 869, 870, 871] (by decide +kernel) (by decide +kernel)
set_option maxRecDepth 20000 in
theorem gL_law_X6_ifAppended : GoodIn wsL_law (wsV RL 117 RX6 yX6_ifAppended wsX6_ifAppended) := goodIn_app (goodIn_of _ (by decide +kernel)) ggL_law_X6_ifAppended
set_option maxRecDepth 20000 in
theorem ggL_law_X5_room : GoodIn wsL_law wsX5_room := goodIn_r _ [837, 15, 712, 173, 174, 14, 175, 41, 112, 113, 114, 37, 115, 57, 722, 177, 178, 179, 838, 293, 294, 295, 296, 297, 298, 299, 43, 223, 105, 106, 107, 855, 856, 857, 858, 859, 860, 861, 872, 873, 874, 875, 876, 877, 878, 879, 880, 881, 892] (by decide +kernel) (by decide +kernel)
set_option maxRecDepth 20000 in
theorem gL_law_X5_room : GoodIn wsL_law (wsV RL 118 RX5 yX5_room wsX5_room) := goodIn_app (goodIn_of _ (by decide +kernel)) ggL_law_X5_room
set_option maxRecDepth 20000 in
theorem ggL_law_X6_room : GoodIn wsL_law wsX6_room := goodIn_r _ [842, 157, 158, 159, 5, 160, 90, 161, 162, 163, 141, 142, 143, 192, 193, 194, 195, 367, 368, 369, 370, 371, 372, 373, 374, 375, 376, 377, 378, 379, 380, 381, 382, 204, 205, 206, 862, 863, 864, 865, 866, 867, 868, 869, 870, 871] (by decide +kernel) (by decide +kernel)
set_option maxRecDepth 20000 in
theorem gL_law_X6_room : GoodIn wsL_law (wsV RL 121 RX6 yX6_room wsX6_room) := goodIn_app (goodIn_of _ (by decide +kernel)) ggL_law_X6_room
set_option maxRecDepth 20000 in
theorem ggL_law_X5_wholeness : GoodIn wsL_law wsX5_wholeness := goodIn_r _ [846, 15, 794, 795, 796, 14, 797, 347, 348, 349, 350, 39, 112, 113, 114, 37, 115, 57, 351, 352, 353, 354, 40, 223, 105, 106, 107, 847, 848, 849, 850, 42, 855, 856, 857, 858, 859, 860, 861, 872, 873, 874, 875, 876, 877, 878, 879, 880, 881, 892] (by decide +kernel) (by decide +kernel)
set_option maxRecDepth 20000 in
theorem gL_law_X5_wholeness : GoodIn wsL_law (wsV RL 122 RX5 yX5_wholeness wsX5_wholeness) := goodIn_app (goodIn_of _ (by decide +kernel)) ggL_law_X5_wholeness
set_option maxRecDepth 20000 in
theorem ggL_law_X6_wholeness : GoodIn wsL_law wsX6_wholeness := goodIn_r _ [854, 90, 157, 158, 159, 5, 160, 161, 162, 163, 141, 142, 143, 204, 205, 206, 810, 811, 812, 813, 415, 416, 417, 418, 395, 396, 397, 398, 862, 863, 864, 865, 866, 867, 868, 869, 870, 871] (by decide +kernel) (by decide +kernel)
set_option maxRecDepth 20000 in
theorem gL_law_X6_wholeness : GoodIn wsL_law (wsV RL 126 RX6 yX6_wholeness wsX6_wholeness) := goodIn_app (goodIn_of _ (by decide +kernel)) ggL_law_X6_wholeness
