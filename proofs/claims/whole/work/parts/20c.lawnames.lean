set_option maxRecDepth 20000 in
theorem ggL_law_X8_run : GoodIn wsL_law wsX8_run := goodIn_r _ [417, 21, 418, 419, 420, 2, 421, 123, 124, 125, 422, 423, 424, 20, 425, 426, 72, 427, 428, 75, 64, 429, 430, 68, 431, 432, 433, 434, 435, 436, 437, 438, 439, 440, 441, 442, 443, 444, 337, 338, 63, 339, 81, 445, 446, 447, 71, 448, 449, 450, 451, 452, 453, 454, 455, 456, 457, 458, 60, 459, 460, 187, 188, 38, 189, 169, 168, 461, 191, 192, 193, 53, 462, 195, 196, 197, 54, 463, 464, 465, 466, 467, 468, 469, 470, 471, 472, 473, 474, 475, 476, 477, 478, 479, 480, 481, 482, 483, 484, 485, 486, 487, 488, 73, 489, 490, 491, 492, 493, 494, 495, 496, 497, 498, 499, 500, 67, 501, 91, 86, 399, 400, 401, 402, 403, 404, 502, 503, 504, 505, 506, 507, 508, 735, 736, 737, 738, 739, 740, 773, 774, 775, 776, 777, 778, 779, 780, 781, 782, 783, 784, 785, 786, 787, 788, 800, 801, 802, 803, 804, 805, 806, 807, 797, 793, 794, 795, 796, 798, 799] (by decide +kernel) (by decide +kernel)
set_option maxRecDepth 20000 in
theorem gL_law_X8_run : GoodIn wsL_law (wsV RL 48 RX8 yX8_run wsX8_run) := goodIn_app (goodIn_r _ [414, 415, 416, 2] (by decide +kernel) (by decide +kernel)) ggL_law_X8_run
set_option maxRecDepth 20000 in
theorem ggL_law_X9_run : GoodIn wsL_law wsX9_run := goodIn_r _ [512, 106, 136, 137, 5, 138, 513, 514, 515, 516, 517, 518, 112, 519, 520, 521, 522, 523, 524, 525, 526, 527, 528, 529, 530, 531, 532, 533, 534, 535, 536, 537, 538, 410, 411, 412, 413, 741, 742, 743, 744, 745, 746, 747, 748, 749, 750, 751, 752, 753, 754, 755, 756, 757, 758, 759, 760, 761, 762, 763, 764] (by decide +kernel) (by decide +kernel)
set_option maxRecDepth 20000 in
theorem gL_law_X9_run : GoodIn wsL_law (wsV RL 51 RX9 yX9_run wsX9_run) := goodIn_app (goodIn_r _ [509, 510, 511, 5] (by decide +kernel) (by decide +kernel)) ggL_law_X9_run
set_option maxRecDepth 20000 in
theorem ggL_law_X8_clearFaults : GoodIn wsL_law wsX8_clearFaults := goodIn_r _ [542, 21, 543, 418, 735, 736, 737, 738, 739, 740, 773, 774, 775, 776, 777, 778, 779, 780, 781, 782, 783, 784, 785, 786, 787, 788] (by decide +kernel) (by decide +kernel)
set_option maxRecDepth 20000 in
theorem gL_law_X8_clearFaults : GoodIn wsL_law (wsV RL 52 RX8 yX8_clearFaults wsX8_clearFaults) := goodIn_app (goodIn_r _ [539, 540, 541, 2] (by decide +kernel) (by decide +kernel)) ggL_law_X8_clearFaults
set_option maxRecDepth 20000 in
theorem ggL_law_X9_clearFaults : GoodIn wsL_law wsX9_clearFaults := goodIn_r _ [547, 106, 741, 742, 743, 744, 745, 746, 747, 748, 749, 750, 751, 752, 753, 754, 755, 756, 757, 758, 759, 760, 761, 762, 763, 764] (by decide +kernel) (by decide +kernel)
set_option maxRecDepth 20000 in
theorem gL_law_X9_clearFaults : GoodIn wsL_law (wsV RL 55 RX9 yX9_clearFaults wsX9_clearFaults) := goodIn_app (goodIn_r _ [544, 545, 546, 5] (by decide +kernel) (by decide +kernel)) ggL_law_X9_clearFaults
set_option maxRecDepth 20000 in
theorem ggL_law_X8_latest : GoodIn wsL_law wsX8_latest := goodIn_r _ [551, 21, 552, 553, 123, 124, 2, 125, 554, 555, 556, 71, 557, 449, 450, 558, 454, 452, 453, 735, 736, 737, 738, 739, 740, 773, 774, 775, 776, 777, 778, 779, 780, 781, 782, 783, 784, 785, 786, 787, 788, 800, 801, 802, 803, 804, 805, 806, 807] (by decide +kernel) (by decide +kernel)
set_option maxRecDepth 20000 in
theorem gL_law_X8_latest : GoodIn wsL_law (wsV RL 56 RX8 yX8_latest wsX8_latest) := goodIn_app (goodIn_r _ [548, 549, 550, 2] (by decide +kernel) (by decide +kernel)) ggL_law_X8_latest
set_option maxRecDepth 20000 in
theorem ggL_law_X9_latest : GoodIn wsL_law wsX9_latest := goodIn_r _ [562, 106, 136, 137, 5, 138, 741, 742, 743, 744, 745, 746, 747, 748, 749, 750, 751, 752, 753, 754, 755, 756, 757, 758, 759, 760, 761, 762, 763, 764] (by decide +kernel) (by decide +kernel)
set_option maxRecDepth 20000 in
theorem gL_law_X9_latest : GoodIn wsL_law (wsV RL 59 RX9 yX9_latest wsX9_latest) := goodIn_app (goodIn_r _ [559, 560, 561, 5] (by decide +kernel) (by decide +kernel)) ggL_law_X9_latest
set_option maxRecDepth 20000 in
theorem ggL_law_X8_station : GoodIn wsL_law wsX8_station := goodIn_r _ [566, 21, 567, 568, 123, 124, 2, 125, 569, 395, 396, 67, 397, 86, 735, 736, 737, 738, 739, 740, 773, 774, 775, 776, 777, 778, 779, 780, 781, 782, 783, 784, 785, 786, 787, 788, 798, 799] (by decide +kernel) (by decide +kernel)
set_option maxRecDepth 20000 in
theorem gL_law_X8_station : GoodIn wsL_law (wsV RL 60 RX8 yX8_station wsX8_station) := goodIn_app (goodIn_r _ [563, 564, 565, 2] (by decide +kernel) (by decide +kernel)) ggL_law_X8_station
