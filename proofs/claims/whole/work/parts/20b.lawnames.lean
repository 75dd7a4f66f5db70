set_option maxRecDepth 20000 in
theorem ggL_law_X8_item : GoodIn wsL_law wsX8_item := goodIn_r _ [302, 21, 153, 123, 124, 2, 125, 229, 187, 188, 38, 189, 169, 168, 303, 191, 192, 193, 53, 304, 195, 196, 197, 54, 305, 306, 307, 308, 241, 735, 736, 737, 738, 739, 740, 773, 774, 775, 776, 777, 778, 779, 780, 781, 782, 783, 784, 785, 786, 787, 788, 793, 794, 795, 796] (by decide +kernel) (by decide +kernel)
set_option maxRecDepth 20000 in
theorem gL_law_X8_item : GoodIn wsL_law (wsV RL 31 RX8 yX8_item wsX8_item) := goodIn_app (goodIn_r _ [299, 300, 301, 2] (by decide +kernel) (by decide +kernel)) ggL_law_X8_item
set_option maxRecDepth 20000 in
theorem ggL_law_X9_item : GoodIn wsL_law wsX9_item := goodIn_r _ [312, 106, 136, 137, 5, 138, 313, 314, 315, 316, 741, 742, 743, 744, 745, 746, 747, 748, 749, 750, 751, 752, 753, 754, 755, 756, 757, 758, 759, 760, 761, 762, 763, 764] (by decide +kernel) (by decide +kernel)
set_option maxRecDepth 20000 in
theorem gL_law_X9_item : GoodIn wsL_law (wsV RL 35 RX9 yX9_item wsX9_item) := goodIn_app (goodIn_r _ [309, 310, 311, 5] (by decide +kernel) (by decide +kernel)) ggL_law_X9_item
set_option maxRecDepth 20000 in
theorem ggL_law_X8_set : GoodIn wsL_law wsX8_set := goodIn_r _ [320, 21, 321, 322, 323, 324, 63, 325, 124, 2, 125, 326, 327, 328, 329, 330, 331, 332, 333, 334, 335, 336, 337, 338, 339, 81, 340, 341, 342, 343, 735, 736, 737, 738, 739, 740, 773, 774, 775, 776, 777, 778, 779, 780, 781, 782, 783, 784, 785, 786, 787, 788, 797] (by decide +kernel) (by decide +kernel)
set_option maxRecDepth 20000 in
theorem gL_law_X8_set : GoodIn wsL_law (wsV RL 36 RX8 yX8_set wsX8_set) := goodIn_app (goodIn_r _ [317, 318, 319, 2] (by decide +kernel) (by decide +kernel)) ggL_law_X8_set
set_option maxRecDepth 20000 in
theorem ggL_law_X9_set : GoodIn wsL_law wsX9_set := goodIn_r _ [347, 106, 136, 137, 5, 138, 348, 349, 350, 351, 352, 353, 741, 742, 743, 744, 745, 746, 747, 748, 749, 750, 751, 752, 753, 754, 755, 756, 757, 758, 759, 760, 761, 762, 763, 764] (by decide +kernel) (by decide +kernel)
set_option maxRecDepth 20000 in
theorem gL_law_X9_set : GoodIn wsL_law (wsV RL 39 RX9 yX9_set wsX9_set) := goodIn_app (goodIn_r _ [344, 345, 346, 5] (by decide +kernel) (by decide +kernel)) ggL_law_X9_set
set_option maxRecDepth 20000 in
theorem ggL_law_X8_setPitch : GoodIn wsL_law wsX8_setPitch := goodIn_r _ [357, 21, 358, 359, 123, 124, 2, 125, 360, 361, 362, 363, 735, 736, 737, 738, 739, 740, 773, 774, 775, 776, 777, 778, 779, 780, 781, 782, 783, 784, 785, 786, 787, 788] (by decide +kernel) (by decide +kernel)
set_option maxRecDepth 20000 in
theorem gL_law_X8_setPitch : GoodIn wsL_law (wsV RL 40 RX8 yX8_setPitch wsX8_setPitch) := goodIn_app (goodIn_r _ [354, 355, 356, 2] (by decide +kernel) (by decide +kernel)) ggL_law_X8_setPitch
set_option maxRecDepth 20000 in
theorem ggL_law_X9_setPitch : GoodIn wsL_law wsX9_setPitch := goodIn_r _ [367, 112, 368, 136, 137, 5, 138, 369, 370, 371, 372, 373, 374, 375, 376, 377, 378, 379, 380, 741, 742, 743, 744, 745, 746, 747, 748, 749, 750, 751, 752, 753, 754, 755, 756, 757, 758, 759, 760, 761, 762, 763, 764] (by decide +kernel) (by decide +kernel)
set_option maxRecDepth 20000 in
theorem gL_law_X9_setPitch : GoodIn wsL_law (wsV RL 43 RX9 yX9_setPitch wsX9_setPitch) := goodIn_app (goodIn_r _ [364, 365, 366, 5] (by decide +kernel) (by decide +kernel)) ggL_law_X9_setPitch
set_option maxRecDepth 20000 in
theorem ggL_law_X8_setRing : GoodIn wsL_law wsX8_setRing := goodIn_r _ [384, 21, 123, 124, 2, 125, 385, 386, 387, 20, 388, 68, 389, 390, 391, 392, 67, 393, 91, 394, 395, 396, 397, 86, 398, 399, 400, 401, 402, 403, 404, 405, 88, 89, 90, 735, 736, 737, 738, 739, 740, 773, 774, 775, 776, 777, 778, 779, 780, 781, 782, 783, 784, 785, 786, 787, 788, 798, 799] (by decide +kernel) (by decide +kernel)
set_option maxRecDepth 20000 in
theorem gL_law_X8_setRing : GoodIn wsL_law (wsV RL 44 RX8 yX8_setRing wsX8_setRing) := goodIn_app (goodIn_r _ [381, 382, 383, 2] (by decide +kernel) (by decide +kernel)) ggL_law_X8_setRing
set_option maxRecDepth 20000 in
theorem ggL_law_X9_setRing : GoodIn wsL_law wsX9_setRing := goodIn_r _ [409, 106, 136, 137, 5, 138, 410, 411, 412, 413, 741, 742, 743, 744, 745, 746, 747, 748, 749, 750, 751, 752, 753, 754, 755, 756, 757, 758, 759, 760, 761, 762, 763, 764] (by decide +kernel) (by decide +kernel)
set_option maxRecDepth 20000 in
theorem gL_law_X9_setRing : GoodIn wsL_law (wsV RL 47 RX9 yX9_setRing wsX9_setRing) := goodIn_app (goodIn_r _ [406, 407, 408, 5] (by decide +kernel) (by decide +kernel)) ggL_law_X9_setRing
