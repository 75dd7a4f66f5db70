set_option maxRecDepth 20000 in
theorem ggL_law_X8_restore : GoodIn wsL_law wsX8_restore := goodIn_r _ [673, 659, 23, 658, 152, 122, 123, 2, 124, 660, 661, 662, 663, 28, 29, 586, 587, 588, 22, 589, 59, 63, 67, 71, 72, 74, 425, 430, 431, 487, 402, 403, 488, 489, 490, 491, 590, 591, 592, 43, 593, 238, 164, 165, 166, 167, 168, 594, 230, 231, 232, 233, 234, 235, 236, 237, 186, 187, 188, 239, 190, 191, 192, 52, 240, 194, 195, 196, 53, 241, 198, 199, 200, 595, 596, 597, 62, 598, 80, 599, 336, 337, 338, 600, 601, 602, 66, 603, 90, 85, 393, 394, 395, 396, 604, 605, 606, 70, 607, 448, 449, 450, 451, 452, 453, 557, 608, 609, 610, 611, 612, 228, 790, 791, 734, 735, 736, 737, 738, 739, 774, 775, 776, 777, 778, 779, 780, 781, 782, 783, 784, 785, 786, 787, 788, 789, 792, 793, 794, 795, 796, 797, 798, 799, 800, 801, 802, 803, 804, 805, 806] (by decide +kernel) (by decide +kernel)
set_option maxRecDepth 20000 in
theorem gL_law_X8_restore : GoodIn wsL_law (wsV RL 81 RX8 yX8_restore wsX8_restore) := goodIn_app (goodIn_r _ [670, 671, 672, 2] (by decide +kernel) (by decide +kernel)) ggL_law_X8_restore
set_option maxRecDepth 20000 in
theorem ggL_law_X9_restore : GoodIn wsL_law wsX9_restore := goodIn_r _ [677, 109, 105, 107, 668, 669, 111, 135, 136, 5, 137, 740, 741, 742, 743, 744, 745, 746, 747, 748, 749, 750, 751, 752, 753, 754, 755, 756, 757, 758, 759, 760, 761, 762, 763] (by decide +kernel) (by decide +kernel)
set_option maxRecDepth 20000 in
theorem gL_law_X9_restore : GoodIn wsL_law (wsV RL 84 RX9 yX9_restore wsX9_restore) := goodIn_app (goodIn_r _ [674, 675, 676, 5] (by decide +kernel) (by decide +kernel)) ggL_law_X9_restore
set_option maxRecDepth 20000 in
theorem ggL_law_X8_count : GoodIn wsL_law wsX8_count := goodIn_r _ [681, 15, 121, 23, 122, 123, 2, 124, 682, 683, 684, 22, 685, 63, 59, 425, 67, 388, 487, 402, 403, 488, 489, 490, 491, 430, 431, 609, 610, 611, 612, 72, 443, 336, 337, 62, 338, 80, 459, 186, 187, 43, 188, 168, 167, 686, 687, 688, 689, 237, 239, 190, 191, 192, 52, 690, 305, 306, 307, 240, 194, 195, 196, 53, 389, 390, 391, 66, 392, 90, 393, 394, 395, 396, 85, 734, 735, 736, 737, 738, 739, 764, 765, 774, 775, 776, 777, 778, 779, 780, 781, 782, 783, 784, 785, 786, 787, 788, 789, 797, 798, 796, 792, 793, 794, 795] (by decide +kernel) (by decide +kernel)
set_option maxRecDepth 20000 in
theorem gL_law_X8_count : GoodIn wsL_law (wsV RL 85 RX8 yX8_count wsX8_count) := goodIn_app (goodIn_r _ [678, 679, 680, 2] (by decide +kernel) (by decide +kernel)) ggL_law_X8_count
set_option maxRecDepth 20000 in
theorem ggL_law_X9_count : GoodIn wsL_law wsX9_count := goodIn_r _ [694, 135, 136, 5, 137, 695, 696, 697, 698, 105, 134, 699, 700, 701, 702, 312, 313, 314, 315, 703, 704, 705, 706, 740, 741, 742, 743, 744, 745, 746, 747, 748, 749, 750, 751, 752, 753, 754, 755, 756, 757, 758, 759, 760, 761, 762, 763] (by decide +kernel) (by decide +kernel)
set_option maxRecDepth 20000 in
theorem gL_law_X9_count : GoodIn wsL_law (wsV RL 88 RX9 yX9_count wsX9_count) := goodIn_app (goodIn_r _ [691, 692, 693, 5] (by decide +kernel) (by decide +kernel)) ggL_law_X9_count
