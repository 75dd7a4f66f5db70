set_option maxRecDepth 20000 in
theorem ggL_law_X8_set : GoodIn wsL_law wsX8_set := goodIn_r _ [319, 23, 320, 321, 322, 323, 62, 324, 123, 2, 124, 325, 326, 327, 328, 329, 330, 331, 332, 333, 334, 335, 336, 337, 338, 80, 339, 340, 341, 342, 734, 735, 736, 737, 738, 739, 774, 775, 776, 777, 778, 779, 780, 781, 782, 783, 784, 785, 786, 787, 788, 789, 796] (by decide +kernel) (by decide +kernel)
set_option maxRecDepth 20000 in
theorem gL_law_X8_set : GoodIn wsL_law (wsV RL 36 RX8 yX8_set wsX8_set) := goodIn_app (goodIn_r _ [316, 317, 318, 2] (by decide +kernel) (by decide +kernel)) ggL_law_X8_set
set_option maxRecDepth 20000 in
theorem ggL_law_X9_set : GoodIn wsL_law wsX9_set := goodIn_r _ [346, 105, 135, 136, 5, 137, 347, 348, 349, 350, 351, 352, 740, 741, 742, 743, 744, 745, 746, 747, 748, 749, 750, 751, 752, 753, 754, 755, 756, 757, 758, 759, 760, 761, 762, 763] (by decide +kernel) (by decide +kernel)
set_option maxRecDepth 20000 in
theorem gL_law_X9_set : GoodIn wsL_law (wsV RL 39 RX9 yX9_set wsX9_set) := goodIn_app (goodIn_r _ [343, 344, 345, 5] (by decide +kernel) (by decide +kernel)) ggL_law_X9_set
set_option maxRecDepth 20000 in
theorem ggL_law_X8_setPitch : GoodIn wsL_law wsX8_setPitch := goodIn_r _ [356, 23, 357, 358, 122, 123, 2, 124, 359, 360, 361, 362, 734, 735, 736, 737, 738, 739, 774, 775, 776, 777, 778, 779, 780, 781, 782, 783, 784, 785, 786, 787, 788, 789] (by decide +kernel) (by decide +kernel)
set_option maxRecDepth 20000 in
theorem gL_law_X8_setPitch : GoodIn wsL_law (wsV RL 40 RX8 yX8_setPitch wsX8_setPitch) := goodIn_app (goodIn_r _ [353, 354, 355, 2] (by decide +kernel) (by decide +kernel)) ggL_law_X8_setPitch
set_option maxRecDepth 20000 in
theorem ggL_law_X9_setPitch : GoodIn wsL_law wsX9_setPitch := goodIn_r _ [366, 111, 367, 135, 136, 5, 137, 368, 369, 370, 371, 372, 373, 374, 375, 376, 377, 378, 379, 740, 741, 742, 743, 744, 745, 746, 747, 748, 749, 750, 751, 752, 753, 754, 755, 756, 757, 758, 759, 760, 761, 762, 763] (by decide +kernel) (by decide +kernel)
set_option maxRecDepth 20000 in
theorem gL_law_X9_setPitch : GoodIn wsL_law (wsV RL 43 RX9 yX9_setPitch wsX9_setPitch) := goodIn_app (goodIn_r _ [363, 364, 365, 5] (by decide +kernel) (by decide +kernel)) ggL_law_X9_setPitch
set_option maxRecDepth 20000 in
theorem ggL_law_X8_setRing : GoodIn wsL_law wsX8_setRing := goodIn_r _ [383, 23, 122, 123, 2, 124, 384, 385, 386, 22, 387, 67, 388, 389, 390, 391, 66, 392, 90, 393, 394, 395, 396, 85, 397, 398, 399, 400, 401, 402, 403, 404, 87, 88, 89, 734, 735, 736, 737, 738, 739, 774, 775, 776, 777, 778, 779, 780, 781, 782, 783, 784, 785, 786, 787, 788, 789, 797, 798] (by decide +kernel) (by decide +kernel)
set_option maxRecDepth 20000 in
theorem gL_law_X8_setRing : GoodIn wsL_law (wsV RL 44 RX8 yX8_setRing wsX8_setRing) := goodIn_app (goodIn_r _ [380, 381, 382, 2] (by decide +kernel) (by decide +kernel)) ggL_law_X8_setRing
set_option maxRecDepth 20000 in
theorem ggL_law_X9_setRing : GoodIn wsL_law wsX9_setRing := goodIn_r _ [408, 105, 135, 136, 5, 137, 409, 410, 411, 412, 740, 741, 742, 743, 744, 745, 746, 747, 748, 749, 750, 751, 752, 753, 754, 755, 756, 757, 758, 759, 760, 761, 762, 763] (by decide +kernel) (by decide +kernel)
set_option maxRecDepth 20000 in
theorem gL_law_X9_setRing : GoodIn wsL_law (wsV RL 47 RX9 yX9_setRing wsX9_setRing) := goodIn_app (goodIn_r _ [405, 406, 407, 5] (by decide +kernel) (by decide +kernel)) ggL_law_X9_setRing
set_option maxRecDepth 20000 in
theorem ggL_law_X8_run : GoodIn wsL_law wsX8_run := goodIn_r _ [416, 23, 417, 418, 419, 2, 420, 122, 123, 124, 421, 422, 423, 22, 424, 425, 71, 426, 427, 74, 63, 428, 429, 67, 430, 431, 432, 433, 434, 435, 436, 437, 438, 439, 440, 441, 442, 443, 336, 337, 62, 338, 80, 444, 445, 446, 70, 447, 448, 449, 450, 451, 452, 453, 454, 455, 456, 457, 59, 458, 459, 186, 187, 43, 188, 168, 167, 460, 190, 191, 192, 52, 461, 194, 195, 196, 53, 462, 463, 464, 465, 466, 467, 468, 469, 470, 471, 472, 473, 474, 475, 476, 477, 478, 479, 480, 481, 482, 483, 484, 485, 486, 487, 72, 488, 489, 490, 491, 492, 493, 494, 495, 496, 497, 498, 499, 66, 500, 90, 85, 398, 399, 400, 401, 402, 403, 501, 502, 503, 504, 505, 506, 507, 734, 735, 736, 737, 738, 739, 774, 775, 776, 777, 778, 779, 780, 781, 782, 783, 784, 785, 786, 787, 788, 789, 799, 800, 801, 802, 803, 804, 805, 806, 796, 792, 793, 794, 795, 797, 798] (by decide +kernel) (by decide +kernel)
set_option maxRecDepth 20000 in
theorem gL_law_X8_run : GoodIn wsL_law (wsV RL 48 RX8 yX8_run wsX8_run) := goodIn_app (goodIn_r _ [413, 414, 415, 2] (by decide +kernel) (by decide +kernel)) ggL_law_X8_run
set_option maxRecDepth 20000 in
theorem ggL_law_X9_run : GoodIn wsL_law wsX9_run := goodIn_r _ [511, 105, 135, 136, 5, 137, 512, 513, 514, 515, 516, 517, 111, 518, 519, 520, 521, 522, 523, 524, 525, 526, 527, 528, 529, 530, 531, 532, 533, 534, 535, 536, 537, 409, 410, 411, 412, 740, 741, 742, 743, 744, 745, 746, 747, 748, 749, 750, 751, 752, 753, 754, 755, 756, 757, 758, 759, 760, 761, 762, 763] (by decide +kernel) (by decide +kernel)
set_option maxRecDepth 20000 in
theorem gL_law_X9_run : GoodIn wsL_law (wsV RL 51 RX9 yX9_run wsX9_run) := goodIn_app (goodIn_r _ [508, 509, 510, 5] (by decide +kernel) (by decide +kernel)) ggL_law_X9_run
set_option maxRecDepth 20000 in
theorem ggL_law_X8_clearFaults : GoodIn wsL_law wsX8_clearFaults := goodIn_r _ [541, 23, 542, 417, 734, 735, 736, 737, 738, 739, 774, 775, 776, 777, 778, 779, 780, 781, 782, 783, 784, 785, 786, 787, 788, 789] (by decide +kernel) (by decide +kernel)
set_option maxRecDepth 20000 in
theorem gL_law_X8_clearFaults : GoodIn wsL_law (wsV RL 52 RX8 yX8_clearFaults wsX8_clearFaults) := goodIn_app (goodIn_r _ [538, 539, 540, 2] (by decide +kernel) (by decide +kernel)) ggL_law_X8_clearFaults
