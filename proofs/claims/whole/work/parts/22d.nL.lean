set_option maxRecDepth 20000 in
theorem ggL_law_X5_init : GoodIn wsL_law wsX5_init := goodIn_r _ [8, 9, 10, 11, 12, 13, 14, 15, 16, 17, 18, 19, 20, 21, 22, 23, 24, 25, 26, 27, 28, 29, 30, 31, 32, 33, 34, 35, 36, 37, 38, 39, 40, 41, 42, 43, 44, 45, 46, 47, 48, 49, 50, 51, 52, 53, 54, 55, 56, 57, 58, 59, 60, 61, 62, 63, 64, 65, 66, 67, 68, 69, 70, 71, 72, 73, 74, 75, 76, 77, 78, 79, 80, 81, 82, 83, 84, 85, 872, 873, 874, 875, 876, 877, 878, 879, 880, 881, 855, 856, 857, 858, 859, 860, 861, 882, 883, 884, 885, 886, 887, 888, 889, 890, 891, 892] (by decide +kernel) (by decide +kernel)
set_option maxRecDepth 20000 in
theorem gL_law_X5_init : GoodIn wsL_law (wsX5_init) := ggL_law_X5_init
set_option maxRecDepth 20000 in
theorem ggL_law_X6_init : GoodIn wsL_law wsX6_init := goodIn_r _ [88, 89, 10, 11, 56, 90, 91, 862, 863, 864, 865, 866, 867, 868, 869, 870, 871] (by decide +kernel) (by decide +kernel)
set_option maxRecDepth 20000 in
theorem gL_law_X6_init : GoodIn wsL_law (wsX6_init) := ggL_law_X6_init
set_option maxRecDepth 20000 in
theorem ggL_law_X5_create : GoodIn wsL_law wsX5_create := goodIn_r _ [95, 16, 15, 96, 97, 98, 14, 99, 38, 39, 40, 41, 42, 43, 44, 45, 46, 47, 100, 101, 102, 37, 103, 57, 104, 105, 106, 107, 108, 109, 110, 111, 112, 113, 114, 115, 58, 59, 60, 61, 116, 117, 118, 2, 119, 22, 120, 121, 122, 21, 123, 69, 68, 124, 125, 126, 127, 67, 128, 855, 856, 857, 858, 859, 860, 861, 872, 873, 874, 875, 876, 877, 878, 879, 880, 881, 892, 882, 883, 884] (by decide +kernel) (by decide +kernel)
set_option maxRecDepth 20000 in
theorem gL_law_X5_create : GoodIn wsL_law (wsV RL 13 RX5 yX5_create wsX5_create) := goodIn_app (goodIn_of _ (by decide +kernel)) ggL_law_X5_create
set_option maxRecDepth 20000 in
theorem ggL_law_X6_create : GoodIn wsL_law wsX6_create := goodIn_r _ [132, 133, 134, 135, 5, 136, 137, 138, 139, 140, 90, 141, 142, 143, 144, 145, 146, 147, 148, 149, 150, 151, 152, 153, 154, 155, 156, 157, 158, 159, 160, 161, 162, 163, 862, 863, 864, 865, 866, 867, 868, 869, 870, 871] (by decide +kernel) (by decide +kernel)
set_option maxRecDepth 20000 in
theorem gL_law_X6_create : GoodIn wsL_law (wsV RL 17 RX6 yX6_create wsX6_create) := goodIn_app (goodIn_of _ (by decide +kernel)) ggL_law_X6_create
set_option maxRecDepth 20000 in
theorem ggL_law_X5_open : GoodIn wsL_law wsX5_open := goodIn_r _ [167, 16, 15, 96, 97, 98, 14, 99, 38, 39, 40, 41, 42, 43, 44, 45, 46, 47, 100, 101, 102, 37, 103, 57, 104, 105, 106, 107, 168, 169, 170, 171, 172, 173, 174, 175, 112, 113, 114, 115, 176, 177, 178, 179, 58, 59, 60, 61, 180, 181, 182, 183, 116, 117, 118, 2, 119, 22, 120, 121, 122, 21, 123, 69, 68, 124, 125, 126, 127, 67, 128, 855, 856, 857, 858, 859, 860, 861, 872, 873, 874, 875, 876, 877, 878, 879, 880, 881, 892, 882, 883, 884] (by decide +kernel) (by decide +kernel)
set_option maxRecDepth 20000 in
theorem gL_law_X5_open : GoodIn wsL_law (wsV RL 18 RX5 yX5_open wsX5_open) := goodIn_app (goodIn_of _ (by decide +kernel)) ggL_law_X5_open
set_option maxRecDepth 20000 in
theorem ggL_law_X6_open : GoodIn wsL_law wsX6_open := goodIn_r _ [187, 188, 189, 190, 5, 191, 157, 158, 159, 160, 90, 161, 162, 163, 141, 142, 143, 192, 193, 194, 195, 144, 145, 146, 147, 148, 149, 150, 151, 152, 196, 197, 198, 199, 200, 201, 202, 203, 204, 205, 206, 862, 863, 864, 865, 866, 867, 868, 869, 870, 871] (by decide +kernel) (by decide +kernel)
set_option maxRecDepth 20000 in
theorem gL_law_X6_open : GoodIn wsL_law (wsV RL 22 RX6 yX6_open wsX6_open) := goodIn_app (goodIn_of _ (by decide +kernel)) ggL_law_X6_open
set_option maxRecDepth 20000 in
theorem ggL_law_X5_close : GoodIn wsL_law wsX5_close := goodIn_r _ [210, 16, 15, 96, 97, 98, 14, 99, 38, 39, 40, 41, 42, 43, 44, 45, 46, 47, 100, 101, 102, 37, 103, 57, 104, 105, 106, 107, 211, 212, 213, 214, 172, 173, 174, 175, 112, 113, 114, 115, 176, 177, 178, 179, 215, 216, 217, 218, 219, 220, 221, 222, 223, 224, 225, 226, 227, 58, 59, 60, 61, 228, 229, 230, 231, 116, 117, 118, 2, 119, 22, 120, 121, 122, 21, 123, 69, 68, 124, 125, 126, 127, 67, 128, 855, 856, 857, 858, 859, 860, 861, 872, 873, 874, 875, 876, 877, 878, 879, 880, 881, 892, 882, 883, 884] (by decide +kernel) (by decide +kernel)
set_option maxRecDepth 20000 in
theorem gL_law_X5_close : GoodIn wsL_law (wsV RL 23 RX5 yX5_close wsX5_close) := goodIn_app (goodIn_of _ (by decide +kernel)) ggL_law_X5_close
set_option maxRecDepth 20000 in
theorem ggL_law_X6_close : GoodIn wsL_law wsX6_close := goodIn_r _ [235, 236, 237, 238, 5, 239, 157, 158, 159, 160, 90, 161, 162, 163, 141, 142, 143, 192, 193, 194, 195, 144, 145, 146, 147, 148, 149, 150, 151, 152, 240, 241, 242, 243, 244, 245, 246, 247, 248, 249, 250, 251, 862, 863, 864, 865, 866, 867, 868, 869, 870, 871] (by decide +kernel) (by decide +kernel)
set_option maxRecDepth 20000 in
theorem gL_law_X6_close : GoodIn wsL_law (wsV RL 26 RX6 yX6_close wsX6_close) := goodIn_app (goodIn_of _ (by decide +kernel)) ggL_law_X6_close
set_option maxRecDepth 20000 in
theorem ggL_law_X5_remove : GoodIn wsL_law wsX5_remove := goodIn_r _ [255, 16, 15, 96, 97, 98, 14, 99, 38, 39, 40, 41, 42, 43, 44, 45, 46, 47, 100, 101, 102, 37, 103, 57, 104, 105, 106, 107, 256, 257, 258, 259, 172, 173, 174, 175, 112, 113, 114, 115, 176, 177, 178, 179, 223, 224, 225, 226, 227, 58, 59, 60, 61, 116, 117, 118, 2, 119, 22, 120, 121, 122, 21, 123, 69, 68, 124, 125, 126, 127, 67, 128, 855, 856, 857, 858, 859, 860, 861, 872, 873, 874, 875, 876, 877, 878, 879, 880, 881, 892, 882, 883, 884] (by decide +kernel) (by decide +kernel)
set_option maxRecDepth 20000 in
theorem gL_law_X5_remove : GoodIn wsL_law (wsV RL 27 RX5 yX5_remove wsX5_remove) := goodIn_app (goodIn_of _ (by decide +kernel)) ggL_law_X5_remove
set_option maxRecDepth 20000 in
theorem ggL_law_X6_remove : GoodIn wsL_law wsX6_remove := goodIn_r _ [263, 188, 189, 190, 5, 191, 157, 158, 159, 160, 90, 161, 162, 163, 141, 142, 143, 192, 193, 194, 195, 144, 145, 146, 147, 148, 149, 150, 151, 152, 264, 265, 266, 267, 248, 249, 250, 251, 862, 863, 864, 865, 866, 867, 868, 869, 870, 871] (by decide +kernel) (by decide +kernel)
set_option maxRecDepth 20000 in
theorem gL_law_X6_remove : GoodIn wsL_law (wsV RL 30 RX6 yX6_remove wsX6_remove) := goodIn_app (goodIn_of _ (by decide +kernel)) ggL_law_X6_remove
set_option maxRecDepth 20000 in
theorem ggL_law_X5_sync : GoodIn wsL_law wsX5_sync := goodIn_r _ [271, 16, 15, 96, 97, 98, 14, 99, 38, 39, 40, 41, 42, 43, 44, 45, 46, 47, 100, 101, 102, 37, 103, 57, 104, 105, 106, 107, 272, 273, 274, 275, 172, 173, 174, 175, 112, 113, 114, 115, 176, 177, 178, 179, 223, 58, 59, 60, 61, 116, 117, 118, 2, 119, 22, 120, 121, 122, 21, 123, 69, 68, 124, 125, 126, 127, 67, 128, 855, 856, 857, 858, 859, 860, 861, 872, 873, 874, 875, 876, 877, 878, 879, 880, 881, 892, 882, 883, 884] (by decide +kernel) (by decide +kernel)
set_option maxRecDepth 20000 in
theorem gL_law_X5_sync : GoodIn wsL_law (wsV RL 31 RX5 yX5_sync wsX5_sync) := goodIn_app (goodIn_of _ (by decide +kernel)) ggL_law_X5_sync
set_option maxRecDepth 20000 in
theorem ggL_law_X6_sync : GoodIn wsL_law wsX6_sync := goodIn_r _ [279, 236, 237, 238, 5, 239, 157, 158, 159, 160, 90, 161, 162, 163, 141, 142, 143, 192, 193, 194, 195, 144, 145, 146, 147, 148, 149, 150, 151, 152, 280, 281, 282, 283, 862, 863, 864, 865, 866, 867, 868, 869, 870, 871] (by decide +kernel) (by decide +kernel)
set_option maxRecDepth 20000 in
theorem gL_law_X6_sync : GoodIn wsL_law (wsV RL 34 RX6 yX6_sync wsX6_sync) := goodIn_app (goodIn_of _ (by decide +kernel)) ggL_law_X6_sync
set_option maxRecDepth 20000 in
theorem ggL_law_X5_append : GoodIn wsL_law wsX5_append := goodIn_r _ [287, 16, 15, 96, 97, 98, 14, 99, 38, 39, 40, 41, 42, 43, 44, 45, 46, 47, 100, 101, 102, 37, 103, 57, 104, 105, 106, 107, 288, 289, 290, 291, 172, 173, 174, 175, 112, 113, 114, 115, 176, 177, 178, 179, 292, 293, 294, 295, 296, 297, 298, 299, 223, 219, 220, 221, 222, 300, 301, 302, 303, 304, 305, 306, 307, 308, 309, 310, 311, 215, 216, 217, 218, 224, 225, 226, 227, 58, 59, 60, 61, 228, 229, 230, 231, 312, 313, 314, 315, 316, 317, 54, 318, 319, 320, 321, 322, 323, 324, 325, 326, 327, 328, 329, 330, 331, 332, 333, 334, 335, 336, 337, 338, 339, 340, 341, 342, 343, 344, 345, 346, 347, 348, 349, 350, 351, 352, 353, 354, 116, 117, 118, 2, 119, 22, 120, 121, 122, 21, 123, 69, 68, 124, 125, 126, 127, 67, 128, 855, 856, 857, 858, 859, 860, 861, 872, 873, 874, 875, 876, 877, 878, 879, 880, 881, 892, 882, 883, 884] (by decide +kernel) (by decide +kernel)
set_option maxRecDepth 20000 in
theorem gL_law_X5_append : GoodIn wsL_law (wsV RL 35 RX5 yX5_append wsX5_append) := goodIn_app (goodIn_of _ (by decide +kernel)) ggL_law_X5_append
set_option maxRecDepth 20000 in
theorem ggL_law_X6_append : GoodIn wsL_law wsX6_append := goodIn_r _ [358, 359, 360, 361, 5, 362, 157, 158, 159, 160, 90, 161, 162, 163, 141, 142, 143, 192, 193, 194, 195, 363, 364, 365, 366, 367, 368, 369, 370, 371, 372, 373, 374, 375, 376, 377, 378, 379, 380, 381, 382, 204, 205, 206, 144, 145, 146, 147, 148, 149, 150, 151, 152, 383, 384, 385, 386, 387, 388, 389, 390, 391, 392, 393, 394, 244, 245, 246, 247, 248, 249, 250, 251, 395, 396, 397, 398, 399, 400, 401, 402, 403, 404, 405, 406, 407, 408, 409, 410, 411, 412, 413, 414, 415, 416, 417, 418, 862, 863, 864, 865, 866, 867, 868, 869, 870, 871] (by decide +kernel) (by decide +kernel)
set_option maxRecDepth 20000 in
theorem gL_law_X6_append : GoodIn wsL_law (wsV RL 39 RX6 yX6_append wsX6_append) := goodIn_app (goodIn_of _ (by decide +kernel)) ggL_law_X6_append
