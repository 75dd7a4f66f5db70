set_option maxRecDepth 20000 in
theorem ggL_law_X9_type : GoodIn wsL_law wsX9_type := goodIn_r _ [133, 134, 112, 135, 136, 5, 137, 740, 741, 742, 743, 744, 745, 746, 747, 748, 749, 750, 751, 752, 753, 754, 755, 756, 757, 758, 759, 760, 761, 762, 763] (by decide +kernel) (by decide +kernel)
set_option maxRecDepth 20000 in
theorem gL_law_X9_type : GoodIn wsL_law (wsV RL 17 RX9 yX9_type wsX9_type) := goodIn_app (goodIn_r _ [130, 131, 132, 5] (by decide +kernel) (by decide +kernel)) ggL_law_X9_type
set_option maxRecDepth 20000 in
theorem ggL_law_X8_clear : GoodIn wsL_law wsX8_clear := goodIn_r _ [141, 15, 121, 734, 735, 736, 737, 738, 739, 764, 765] (by decide +kernel) (by decide +kernel)
set_option maxRecDepth 20000 in
theorem gL_law_X8_clear : GoodIn wsL_law (wsV RL 18 RX8 yX8_clear wsX8_clear) := goodIn_app (goodIn_r _ [138, 139, 140, 2] (by decide +kernel) (by decide +kernel)) ggL_law_X8_clear
set_option maxRecDepth 20000 in
theorem ggL_law_X9_clear : GoodIn wsL_law wsX9_clear := goodIn_r _ [145, 134, 740, 741, 742, 743, 744, 745, 746, 747, 748, 749, 750, 751, 752, 753, 754, 755, 756, 757, 758, 759, 760, 761, 762, 763] (by decide +kernel) (by decide +kernel)
set_option maxRecDepth 20000 in
theorem gL_law_X9_clear : GoodIn wsL_law (wsV RL 22 RX9 yX9_clear wsX9_clear) := goodIn_app (goodIn_r _ [142, 143, 144, 5] (by decide +kernel) (by decide +kernel)) ggL_law_X9_clear
set_option maxRecDepth 20000 in
theorem ggL_law_X8_load : GoodIn wsL_law wsX8_load := goodIn_r _ [149, 19, 150, 151, 23, 152, 153, 154, 155, 156, 18, 157, 44, 158, 159, 160, 161, 40, 162, 163, 164, 165, 43, 166, 167, 168, 169, 170, 171, 172, 173, 174, 175, 14, 176, 129, 35, 177, 178, 179, 180, 46, 47, 181, 182, 183, 184, 185, 186, 187, 188, 189, 190, 191, 192, 52, 193, 194, 195, 196, 53, 197, 198, 199, 200, 201, 202, 203, 204, 205, 206, 207, 208, 123, 2, 124, 209, 210, 211, 212, 213, 214, 215, 216, 217, 218, 219, 220, 221, 222, 223, 224, 225, 226, 227, 228, 229, 230, 231, 232, 233, 234, 235, 236, 237, 238, 239, 240, 241, 734, 735, 736, 737, 738, 739, 766, 767, 768, 769, 770, 771, 772, 773, 774, 775, 776, 777, 778, 779, 780, 781, 782, 783, 784, 785, 786, 787, 788, 789, 764, 765, 792, 793, 794, 795] (by decide +kernel) (by decide +kernel)
set_option maxRecDepth 20000 in
theorem gL_law_X8_load : GoodIn wsL_law (wsV RL 23 RX8 yX8_load wsX8_load) := goodIn_app (goodIn_r _ [146, 147, 148, 2] (by decide +kernel) (by decide +kernel)) ggL_law_X8_load
set_option maxRecDepth 20000 in
theorem ggL_law_X9_load : GoodIn wsL_law wsX9_load := goodIn_r _ [245, 246, 105, 247, 113, 114, 248, 249, 250, 5, 251, 252, 253, 134, 116, 115, 254, 255, 256, 257, 258, 259, 260, 261, 112, 262, 263, 264, 265, 266, 267, 268, 269, 270, 271, 272, 273, 135, 136, 137, 274, 275, 276, 277, 278, 279, 280, 281, 282, 283, 284, 285, 286, 287, 288, 740, 741, 742, 743, 744, 745, 746, 747, 748, 749, 750, 751, 752, 753, 754, 755, 756, 757, 758, 759, 760, 761, 762, 763] (by decide +kernel) (by decide +kernel)
set_option maxRecDepth 20000 in
theorem gL_law_X9_load : GoodIn wsL_law (wsV RL 26 RX9 yX9_load wsX9_load) := goodIn_app (goodIn_r _ [242, 243, 244, 5] (by decide +kernel) (by decide +kernel)) ggL_law_X9_load
set_option maxRecDepth 20000 in
theorem ggL_law_X8_unload : GoodIn wsL_law wsX8_unload := goodIn_r _ [292, 23, 152, 228, 186, 187, 43, 188, 168, 167, 293, 164, 165, 166, 734, 735, 736, 737, 738, 739, 774, 775, 776, 777, 778, 779, 780, 781, 782, 783, 784, 785, 786, 787, 788, 789, 792, 793, 794, 795] (by decide +kernel) (by decide +kernel)
set_option maxRecDepth 20000 in
theorem gL_law_X8_unload : GoodIn wsL_law (wsV RL 27 RX8 yX8_unload wsX8_unload) := goodIn_app (goodIn_r _ [289, 290, 291, 2] (by decide +kernel) (by decide +kernel)) ggL_law_X8_unload
set_option maxRecDepth 20000 in
theorem ggL_law_X9_unload : GoodIn wsL_law wsX9_unload := goodIn_r _ [297, 105, 740, 741, 742, 743, 744, 745, 746, 747, 748, 749, 750, 751, 752, 753, 754, 755, 756, 757, 758, 759, 760, 761, 762, 763] (by decide +kernel) (by decide +kernel)
set_option maxRecDepth 20000 in
theorem gL_law_X9_unload : GoodIn wsL_law (wsV RL 30 RX9 yX9_unload wsX9_unload) := goodIn_app (goodIn_r _ [294, 295, 296, 5] (by decide +kernel) (by decide +kernel)) ggL_law_X9_unload
set_option maxRecDepth 20000 in
theorem ggL_law_X8_item : GoodIn wsL_law wsX8_item := goodIn_r _ [301, 23, 152, 122, 123, 2, 124, 228, 186, 187, 43, 188, 168, 167, 302, 190, 191, 192, 52, 303, 194, 195, 196, 53, 304, 305, 306, 307, 240, 734, 735, 736, 737, 738, 739, 774, 775, 776, 777, 778, 779, 780, 781, 782, 783, 784, 785, 786, 787, 788, 789, 792, 793, 794, 795] (by decide +kernel) (by decide +kernel)
set_option maxRecDepth 20000 in
theorem gL_law_X8_item : GoodIn wsL_law (wsV RL 31 RX8 yX8_item wsX8_item) := goodIn_app (goodIn_r _ [298, 299, 300, 2] (by decide +kernel) (by decide +kernel)) ggL_law_X8_item
set_option maxRecDepth 20000 in
theorem ggL_law_X9_item : GoodIn wsL_law wsX9_item := goodIn_r _ [311, 105, 135, 136, 5, 137, 312, 313, 314, 315, 740, 741, 742, 743, 744, 745, 746, 747, 748, 749, 750, 751, 752, 753, 754, 755, 756, 757, 758, 759, 760, 761, 762, 763] (by decide +kernel) (by decide +kernel)
set_option maxRecDepth 20000 in
theorem gL_law_X9_item : GoodIn wsL_law (wsV RL 35 RX9 yX9_item wsX9_item) := goodIn_app (goodIn_r _ [308, 309, 310, 5] (by decide +kernel) (by decide +kernel)) ggL_law_X9_item
