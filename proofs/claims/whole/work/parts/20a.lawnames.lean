set_option maxRecDepth 20000 in
theorem ggL_law_X8_init : GoodIn wsL_law wsX8_init := goodIn_r _ [8, 9, 10, 11, 12, 13, 14, 15, 16, 17, 18, 19, 20, 21, 22, 23, 24, 25, 26, 27, 28, 29, 30, 31, 32, 33, 34, 35, 36, 37, 38, 39, 40, 41, 42, 43, 44, 45, 46, 47, 48, 49, 50, 51, 52, 53, 54, 55, 56, 57, 58, 59, 60, 61, 62, 63, 64, 65, 66, 67, 68, 69, 70, 71, 72, 73, 74, 75, 76, 77, 78, 79, 80, 81, 82, 83, 84, 85, 86, 87, 88, 89, 90, 91, 92, 93, 94, 95, 96, 97, 98, 99, 100, 101, 765, 766, 767, 768, 769, 770, 771, 772, 735, 736, 737, 738, 739, 740, 773, 774, 775, 776, 777, 778, 779, 780, 781, 782, 783, 784, 785, 786, 787, 788, 789, 790, 791, 792, 793, 794, 795, 796, 797, 798, 799, 800, 801, 802, 803, 804, 805, 806, 807] (by decide +kernel) (by decide +kernel)
set_option maxRecDepth 20000 in
theorem gL_law_X8_init : GoodIn wsL_law (wsX8_init) := ggL_law_X8_init
set_option maxRecDepth 20000 in
theorem ggL_law_X9_init : GoodIn wsL_law wsX9_init := goodIn_r _ [104, 105, 10, 11, 40, 106, 107, 108, 109, 110, 111, 112, 113, 114, 115, 116, 117, 741, 742, 743, 744, 745, 746, 747, 748, 749, 750, 751, 752, 753, 754, 755, 756, 757, 758, 759, 760, 761, 762, 763, 764] (by decide +kernel) (by decide +kernel)
set_option maxRecDepth 20000 in
theorem gL_law_X9_init : GoodIn wsL_law (wsX9_init) := ggL_law_X9_init
set_option maxRecDepth 20000 in
theorem ggL_law_X8_type : GoodIn wsL_law wsX8_type := goodIn_r _ [121, 17, 122, 123, 124, 2, 125, 126, 127, 128, 34, 129, 130, 48, 735, 736, 737, 738, 739, 740, 791, 792] (by decide +kernel) (by decide +kernel)
set_option maxRecDepth 20000 in
theorem gL_law_X8_type : GoodIn wsL_law (wsV RL 13 RX8 yX8_type wsX8_type) := goodIn_app (goodIn_r _ [118, 119, 120, 2] (by decide +kernel) (by decide +kernel)) ggL_law_X8_type
set_option maxRecDepth 20000 in
theorem ggL_law_X9_type : GoodIn wsL_law wsX9_type := goodIn_r _ [134, 135, 113, 136, 137, 5, 138, 741, 742, 743, 744, 745, 746, 747, 748, 749, 750, 751, 752, 753, 754, 755, 756, 757, 758, 759, 760, 761, 762, 763, 764] (by decide +kernel) (by decide +kernel)
set_option maxRecDepth 20000 in
theorem gL_law_X9_type : GoodIn wsL_law (wsV RL 17 RX9 yX9_type wsX9_type) := goodIn_app (goodIn_r _ [131, 132, 133, 5] (by decide +kernel) (by decide +kernel)) ggL_law_X9_type
set_option maxRecDepth 20000 in
theorem ggL_law_X8_clear : GoodIn wsL_law wsX8_clear := goodIn_r _ [142, 17, 122, 735, 736, 737, 738, 739, 740, 791, 792] (by decide +kernel) (by decide +kernel)
set_option maxRecDepth 20000 in
theorem gL_law_X8_clear : GoodIn wsL_law (wsV RL 18 RX8 yX8_clear wsX8_clear) := goodIn_app (goodIn_r _ [139, 140, 141, 2] (by decide +kernel) (by decide +kernel)) ggL_law_X8_clear
set_option maxRecDepth 20000 in
theorem ggL_law_X9_clear : GoodIn wsL_law wsX9_clear := goodIn_r _ [146, 135, 741, 742, 743, 744, 745, 746, 747, 748, 749, 750, 751, 752, 753, 754, 755, 756, 757, 758, 759, 760, 761, 762, 763, 764] (by decide +kernel) (by decide +kernel)
set_option maxRecDepth 20000 in
theorem gL_law_X9_clear : GoodIn wsL_law (wsV RL 22 RX9 yX9_clear wsX9_clear) := goodIn_app (goodIn_r _ [143, 144, 145, 5] (by decide +kernel) (by decide +kernel)) ggL_law_X9_clear
set_option maxRecDepth 20000 in
theorem ggL_law_X8_load : GoodIn wsL_law wsX8_load := goodIn_r _ [150, 15, 151, 152, 21, 153, 154, 155, 156, 157, 14, 158, 39, 159, 160, 161, 162, 35, 163, 164, 165, 166, 38, 167, 168, 169, 170, 171, 172, 173, 174, 175, 176, 34, 177, 130, 48, 178, 179, 180, 181, 41, 42, 182, 183, 184, 185, 186, 187, 188, 189, 190, 191, 192, 193, 53, 194, 195, 196, 197, 54, 198, 199, 200, 201, 202, 203, 204, 205, 206, 207, 208, 209, 124, 2, 125, 210, 211, 212, 213, 214, 215, 216, 217, 218, 219, 220, 221, 222, 223, 224, 225, 226, 227, 228, 229, 230, 231, 232, 233, 234, 235, 236, 237, 238, 239, 240, 241, 242, 735, 736, 737, 738, 739, 740, 765, 766, 767, 768, 769, 770, 771, 772, 773, 774, 775, 776, 777, 778, 779, 780, 781, 782, 783, 784, 785, 786, 787, 788, 791, 792, 793, 794, 795, 796] (by decide +kernel) (by decide +kernel)
set_option maxRecDepth 20000 in
theorem gL_law_X8_load : GoodIn wsL_law (wsV RL 23 RX8 yX8_load wsX8_load) := goodIn_app (goodIn_r _ [147, 148, 149, 2] (by decide +kernel) (by decide +kernel)) ggL_law_X8_load
set_option maxRecDepth 20000 in
theorem ggL_law_X9_load : GoodIn wsL_law wsX9_load := goodIn_r _ [246, 247, 106, 248, 114, 115, 249, 250, 251, 5, 252, 253, 254, 135, 117, 116, 255, 256, 257, 258, 259, 260, 261, 262, 113, 263, 264, 265, 266, 267, 268, 269, 270, 271, 272, 273, 274, 136, 137, 138, 275, 276, 277, 278, 279, 280, 281, 282, 283, 284, 285, 286, 287, 288, 289, 741, 742, 743, 744, 745, 746, 747, 748, 749, 750, 751, 752, 753, 754, 755, 756, 757, 758, 759, 760, 761, 762, 763, 764] (by decide +kernel) (by decide +kernel)
set_option maxRecDepth 20000 in
theorem gL_law_X9_load : GoodIn wsL_law (wsV RL 26 RX9 yX9_load wsX9_load) := goodIn_app (goodIn_r _ [243, 244, 245, 5] (by decide +kernel) (by decide +kernel)) ggL_law_X9_load
set_option maxRecDepth 20000 in
theorem ggL_law_X8_unload : GoodIn wsL_law wsX8_unload := goodIn_r _ [293, 21, 153, 229, 187, 188, 38, 189, 169, 168, 294, 165, 166, 167, 735, 736, 737, 738, 739, 740, 773, 774, 775, 776, 777, 778, 779, 780, 781, 782, 783, 784, 785, 786, 787, 788, 793, 794, 795, 796] (by decide +kernel) (by decide +kernel)
set_option maxRecDepth 20000 in
theorem gL_law_X8_unload : GoodIn wsL_law (wsV RL 27 RX8 yX8_unload wsX8_unload) := goodIn_app (goodIn_r _ [290, 291, 292, 2] (by decide +kernel) (by decide +kernel)) ggL_law_X8_unload
set_option maxRecDepth 20000 in
theorem ggL_law_X9_unload : GoodIn wsL_law wsX9_unload := goodIn_r _ [298, 106, 741, 742, 743, 744, 745, 746, 747, 748, 749, 750, 751, 752, 753, 754, 755, 756, 757, 758, 759, 760, 761, 762, 763, 764] (by decide +kernel) (by decide +kernel)
set_option maxRecDepth 20000 in
theorem gL_law_X9_unload : GoodIn wsL_law (wsV RL 30 RX9 yX9_unload wsX9_unload) := goodIn_app (goodIn_r _ [295, 296, 297, 5] (by decide +kernel) (by decide +kernel)) ggL_law_X9_unload
