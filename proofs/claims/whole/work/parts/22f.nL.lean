set_option maxRecDepth 20000 in
theorem ggL_law_X5_perform : GoodIn wsL_law wsX5_perform := goodIn_r _ [606, 26, 30, 22, 15, 517, 518, 519, 25, 520, 76, 75, 521, 522, 523, 29, 524, 81, 525, 105, 106, 37, 107, 57, 526, 527, 528, 529, 530, 531, 532, 533, 82, 534, 535, 536, 537, 538, 539, 540, 541, 83, 542, 543, 544, 545, 546, 547, 548, 549, 84, 550, 551, 552, 553, 554, 555, 556, 557, 558, 559, 560, 85, 561, 562, 563, 564, 565, 120, 121, 122, 21, 123, 69, 68, 124, 125, 126, 127, 67, 128, 97, 98, 14, 99, 38, 39, 40, 41, 42, 43, 44, 45, 46, 47, 100, 101, 102, 103, 104, 607, 492, 493, 494, 495, 608, 609, 610, 611, 612, 613, 614, 2, 615, 616, 617, 618, 619, 620, 621, 622, 623, 108, 109, 110, 111, 112, 113, 114, 115, 58, 59, 60, 61, 168, 169, 170, 171, 172, 173, 174, 175, 176, 177, 178, 179, 180, 181, 182, 183, 211, 212, 213, 214, 215, 216, 217, 218, 219, 220, 221, 222, 223, 224, 225, 226, 227, 228, 229, 230, 231, 256, 257, 258, 259, 272, 273, 274, 275, 624, 625, 626, 627, 628, 629, 630, 631, 288, 289, 290, 291, 292, 293, 294, 295, 296, 297, 298, 299, 300, 301, 302, 303, 304, 305, 306, 307, 308, 309, 310, 311, 312, 313, 314, 315, 316, 317, 54, 318, 319, 320, 321, 322, 323, 324, 325, 326, 327, 328, 329, 330, 331, 332, 333, 334, 335, 336, 337, 338, 339, 340, 341, 342, 343, 344, 345, 346, 347, 348, 349, 350, 351, 352, 353, 354, 423, 424, 425, 426, 443, 444, 445, 446, 459, 460, 461, 462, 632, 855, 856, 857, 858, 859, 860, 861, 885, 886, 887, 888, 889, 890, 891, 892, 882, 883, 884, 872, 873, 874, 875, 876, 877, 878, 879, 880, 881] rfl (by decide +kernel)
set_option maxRecDepth 20000 in
theorem gL_law_X5_perform : GoodIn wsL_law (wsV RL 69 RX5 yX5_perform wsX5_perform) := goodIn_app (goodIn_of _ (by decide +kernel)) ggL_law_X5_perform
set_option maxRecDepth 20000 in
theorem ggL_law_X6_perform : GoodIn wsL_law wsX6_perform := goodIn_r _ [636, 570, 637, 567, 568, 5, 569, 500, 571, 572, 573, 574, 91, 575, 576, 577, 578, 579, 580, 581, 582, 583, 584, 161, 162, 163, 204, 205, 206, 585, 586, 587, 588, 589, 590, 591, 592, 593, 594, 595, 596, 597, 598, 599, 600, 601, 602, 144, 145, 146, 147, 148, 149, 150, 151, 152, 90, 638, 639, 640, 641, 133, 134, 135, 136, 137, 138, 139, 140, 141, 142, 143, 188, 189, 190, 191, 157, 158, 159, 160, 192, 193, 194, 195, 236, 237, 238, 239, 359, 360, 361, 362, 363, 364, 365, 366, 367, 368, 369, 370, 371, 372, 373, 374, 375, 376, 377, 378, 379, 380, 381, 382, 431, 432, 433, 434, 642, 643, 644, 645, 153, 154, 155, 156, 196, 197, 198, 199, 200, 201, 202, 203, 240, 241, 242, 243, 244, 245, 246, 247, 248, 249, 250, 251, 264, 265, 266, 267, 280, 281, 282, 283, 383, 384, 385, 386, 387, 388, 389, 390, 391, 392, 393, 394, 395, 396, 397, 398, 399, 400, 401, 402, 403, 404, 405, 406, 407, 408, 409, 410, 411, 412, 413, 414, 415, 416, 417, 418, 435, 436, 437, 438, 451, 452, 453, 454, 467, 468, 469, 470, 862, 863, 864, 865, 866, 867, 868, 869, 870, 871] rfl (by decide +kernel)
set_option maxRecDepth 20000 in
theorem gL_law_X6_perform : GoodIn wsL_law (wsV RL 72 RX6 yX6_perform wsX6_perform) := goodIn_app (goodIn_of _ (by decide +kernel)) ggL_law_X6_perform
set_option maxRecDepth 20000 in
theorem ggL_law_X5_undo : GoodIn wsL_law wsX5_undo := goodIn_r _ [649, 22, 15, 650, 651, 652, 21, 653, 69, 124, 125, 126, 127, 68, 67, 128, 97, 98, 14, 99, 38, 39, 40, 41, 42, 43, 44, 45, 46, 47, 100, 101, 102, 37, 103, 57, 104, 105, 106, 107, 654, 655, 656, 657, 855, 856, 857, 858, 859, 860, 861, 882, 883, 884, 872, 873, 874, 875, 876, 877, 878, 879, 880, 881, 892] (by decide +kernel) (by decide +kernel)
set_option maxRecDepth 20000 in
theorem gL_law_X5_undo : GoodIn wsL_law (wsV RL 73 RX5 yX5_undo wsX5_undo) := goodIn_app (goodIn_of _ (by decide +kernel)) ggL_law_X5_undo
set_option maxRecDepth 20000 in
theorem ggL_law_X6_undo : GoodIn wsL_law wsX6_undo := goodIn_r _ [661, 148, 149, 150, 151, 5, 152, 90, 862, 863, 864, 865, 866, 867, 868, 869, 870, 871] (by decide +kernel) (by decide +kernel)
set_option maxRecDepth 20000 in
theorem gL_law_X6_undo : GoodIn wsL_law (wsV RL 76 RX6 yX6_undo wsX6_undo) := goodIn_app (goodIn_of _ (by decide +kernel)) ggL_law_X6_undo
set_option maxRecDepth 20000 in
theorem ggL_law_X5_save : GoodIn wsL_law wsX5_save := goodIn_r _ [665, 17, 15, 18, 96, 97, 98, 14, 99, 38, 39, 40, 41, 42, 43, 44, 45, 46, 47, 100, 101, 102, 37, 103, 57, 104, 105, 106, 107, 666, 305, 306, 307, 112, 113, 114, 115, 855, 856, 857, 858, 859, 860, 861, 872, 873, 874, 875, 876, 877, 878, 879, 880, 881, 892] (by decide +kernel) (by decide +kernel)
set_option maxRecDepth 20000 in
theorem gL_law_X5_save : GoodIn wsL_law (wsV RL 77 RX5 yX5_save wsX5_save) := goodIn_app (goodIn_of _ (by decide +kernel)) ggL_law_X5_save
set_option maxRecDepth 20000 in
theorem ggL_law_X6_save : GoodIn wsL_law wsX6_save := goodIn_r _ [670, 671, 149, 150, 151, 5, 152, 90, 375, 376, 377, 378, 379, 380, 381, 382, 204, 205, 206, 862, 863, 864, 865, 866, 867, 868, 869, 870, 871] (by decide +kernel) (by decide +kernel)
set_option maxRecDepth 20000 in
theorem gL_law_X6_save : GoodIn wsL_law (wsV RL 80 RX6 yX6_save wsX6_save) := goodIn_app (goodIn_of _ (by decide +kernel)) ggL_law_X6_save
set_option maxRecDepth 20000 in
theorem ggL_law_X5_restore : GoodIn wsL_law wsX5_restore := goodIn_r _ [675, 18, 22, 15, 17, 120, 121, 122, 21, 123, 69, 68, 124, 125, 126, 127, 67, 128, 97, 98, 14, 99, 38, 39, 40, 41, 42, 43, 44, 45, 46, 47, 100, 101, 102, 37, 103, 57, 104, 105, 106, 107, 96, 666, 305, 306, 307, 112, 113, 114, 115, 855, 856, 857, 858, 859, 860, 861, 882, 883, 884, 872, 873, 874, 875, 876, 877, 878, 879, 880, 881, 892] (by decide +kernel) (by decide +kernel)
set_option maxRecDepth 20000 in
theorem gL_law_X5_restore : GoodIn wsL_law (wsV RL 81 RX5 yX5_restore wsX5_restore) := goodIn_app (goodIn_of _ (by decide +kernel)) ggL_law_X5_restore
set_option maxRecDepth 20000 in
theorem ggL_law_X6_restore : GoodIn wsL_law wsX6_restore := goodIn_r _ [679, 671, 144, 145, 146, 5, 147, 148, 149, 150, 151, 152, 90, 375, 376, 377, 378, 379, 380, 381, 382, 204, 205, 206, 862, 863, 864, 865, 866, 867, 868, 869, 870, 871] (by decide +kernel) (by decide +kernel)
set_option maxRecDepth 20000 in
theorem gL_law_X6_restore : GoodIn wsL_law (wsV RL 84 RX6 yX6_restore wsX6_restore) := goodIn_app (goodIn_of _ (by decide +kernel)) ggL_law_X6_restore
set_option maxRecDepth 20000 in
theorem ggL_law_X5_block : GoodIn wsL_law wsX5_block := goodIn_r _ [683, 15, 684, 685, 686, 14, 687, 39, 223, 105, 106, 37, 107, 57, 688, 689, 690, 691, 40, 43, 112, 113, 114, 115, 692, 693, 694, 695, 696, 697, 698, 699, 38, 855, 856, 857, 858, 859, 860, 861, 872, 873, 874, 875, 876, 877, 878, 879, 880, 881, 892] (by decide +kernel) (by decide +kernel)
set_option maxRecDepth 20000 in
theorem gL_law_X5_block : GoodIn wsL_law (wsV RL 85 RX5 yX5_block wsX5_block) := goodIn_app (goodIn_of _ (by decide +kernel)) ggL_law_X5_block
set_option maxRecDepth 20000 in
theorem ggL_law_X6_block : GoodIn wsL_law wsX6_block := goodIn_r _ [703, 90, 161, 162, 5, 163, 379, 380, 381, 382, 704, 705, 706, 707, 141, 142, 143, 862, 863, 864, 865, 866, 867, 868, 869, 870, 871] (by decide +kernel) (by decide +kernel)
set_option maxRecDepth 20000 in
theorem gL_law_X6_block : GoodIn wsL_law (wsV RL 88 RX6 yX6_block wsX6_block) := goodIn_app (goodIn_of _ (by decide +kernel)) ggL_law_X6_block
set_option maxRecDepth 20000 in
theorem ggL_law_X5_file : GoodIn wsL_law wsX5_file := goodIn_r _ [711, 15, 712, 173, 174, 14, 175, 41, 112, 113, 114, 37, 115, 57, 713, 714, 715, 716, 43, 223, 105, 106, 107, 717, 220, 221, 222, 42, 718, 719, 720, 721, 44, 722, 177, 178, 179, 723, 348, 349, 350, 39, 351, 352, 353, 354, 40, 724, 725, 726, 727, 45, 855, 856, 857, 858, 859, 860, 861, 872, 873, 874, 875, 876, 877, 878, 879, 880, 881, 892] (by decide +kernel) (by decide +kernel)
set_option maxRecDepth 20000 in
theorem gL_law_X5_file : GoodIn wsL_law (wsV RL 89 RX5 yX5_file wsX5_file) := goodIn_app (goodIn_of _ (by decide +kernel)) ggL_law_X5_file
set_option maxRecDepth 20000 in
theorem ggL_law_X6_file : GoodIn wsL_law wsX6_file := goodIn_r _ [731, 90, 157, 158, 159, 5, 160, 161, 162, 163, 141, 142, 143, 371, 372, 373, 374, 415, 416, 417, 418, 395, 396, 397, 398, 204, 205, 206, 862, 863, 864, 865, 866, 867, 868, 869, 870, 871] (by decide +kernel) (by decide +kernel)
set_option maxRecDepth 20000 in
theorem gL_law_X6_file : GoodIn wsL_law (wsV RL 92 RX6 yX6_file wsX6_file) := goodIn_app (goodIn_of _ (by decide +kernel)) ggL_law_X6_file
set_option maxRecDepth 20000 in
theorem ggL_law_X5_extent : GoodIn wsL_law wsX5_extent := goodIn_r _ [735, 15, 712, 173, 174, 14, 175, 41, 112, 113, 114, 37, 115, 57, 736, 737, 738, 739, 42, 223, 105, 106, 107, 319, 320, 321, 322, 39, 40, 351, 352, 353, 354, 740, 741, 742, 743, 744, 855, 856, 857, 858, 859, 860, 861, 872, 873, 874, 875, 876, 877, 878, 879, 880, 881, 892] (by decide +kernel) (by decide +kernel)
set_option maxRecDepth 20000 in
theorem gL_law_X5_extent : GoodIn wsL_law (wsV RL 93 RX5 yX5_extent wsX5_extent) := goodIn_app (goodIn_of _ (by decide +kernel)) ggL_law_X5_extent
set_option maxRecDepth 20000 in
theorem ggL_law_X6_extent : GoodIn wsL_law wsX6_extent := goodIn_r _ [748, 90, 157, 158, 159, 5, 160, 161, 162, 163, 141, 142, 143, 395, 396, 397, 398, 204, 205, 206, 862, 863, 864, 865, 866, 867, 868, 869, 870, 871] (by decide +kernel) (by decide +kernel)
set_option maxRecDepth 20000 in
theorem gL_law_X6_extent : GoodIn wsL_law (wsV RL 96 RX6 yX6_extent wsX6_extent) := goodIn_app (goodIn_of _ (by decide +kernel)) ggL_law_X6_extent
