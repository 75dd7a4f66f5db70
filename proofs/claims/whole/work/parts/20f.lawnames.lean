set_option maxRecDepth 20000 in
theorem ggL_law_X9_save : GoodIn wsL_law wsX9_save := goodIn_r _ [668, 108, 106, 112, 669, 670, 110, 136, 137, 5, 138, 741, 742, 743, 744, 745, 746, 747, 748, 749, 750, 751, 752, 753, 754, 755, 756, 757, 758, 759, 760, 761, 762, 763, 764] (by decide +kernel) (by decide +kernel)
set_option maxRecDepth 20000 in
theorem gL_law_X9_save : GoodIn wsL_law (wsV RL 80 RX9 yX9_save wsX9_save) := goodIn_app (goodIn_r _ [665, 666, 667, 5] (by decide +kernel) (by decide +kernel)) ggL_law_X9_save
set_option maxRecDepth 20000 in
theorem ggL_law_X8_restore : GoodIn wsL_law wsX8_restore := goodIn_r _ [674, 660, 21, 659, 153, 123, 124, 2, 125, 661, 662, 663, 664, 26, 27, 587, 588, 589, 20, 590, 60, 64, 68, 72, 73, 75, 426, 431, 432, 488, 403, 404, 489, 490, 491, 492, 591, 592, 593, 38, 594, 239, 165, 166, 167, 168, 169, 595, 231, 232, 233, 234, 235, 236, 237, 238, 187, 188, 189, 240, 191, 192, 193, 53, 241, 195, 196, 197, 54, 242, 199, 200, 201, 596, 597, 598, 63, 599, 81, 600, 337, 338, 339, 601, 602, 603, 67, 604, 91, 86, 394, 395, 396, 397, 605, 606, 607, 71, 608, 449, 450, 451, 452, 453, 454, 558, 609, 610, 611, 612, 613, 229, 789, 790, 735, 736, 737, 738, 739, 740, 773, 774, 775, 776, 777, 778, 779, 780, 781, 782, 783, 784, 785, 786, 787, 788, 793, 794, 795, 796, 797, 798, 799, 800, 801, 802, 803, 804, 805, 806, 807] (by decide +kernel) (by decide +kernel)
set_option maxRecDepth 20000 in
theorem gL_law_X8_restore : GoodIn wsL_law (wsV RL 81 RX8 yX8_restore wsX8_restore) := goodIn_app (goodIn_r _ [671, 672, 673, 2] (by decide +kernel) (by decide +kernel)) ggL_law_X8_restore
set_option maxRecDepth 20000 in
theorem ggL_law_X9_restore : GoodIn wsL_law wsX9_restore := goodIn_r _ [678, 110, 106, 108, 669, 670, 112, 136, 137, 5, 138, 741, 742, 743, 744, 745, 746, 747, 748, 749, 750, 751, 752, 753, 754, 755, 756, 757, 758, 759, 760, 761, 762, 763, 764] (by decide +kernel) (by decide +kernel)
set_option maxRecDepth 20000 in
theorem gL_law_X9_restore : GoodIn wsL_law (wsV RL 84 RX9 yX9_restore wsX9_restore) := goodIn_app (goodIn_r _ [675, 676, 677, 5] (by decide +kernel) (by decide +kernel)) ggL_law_X9_restore
set_option maxRecDepth 20000 in
theorem ggL_law_X8_count : GoodIn wsL_law wsX8_count := goodIn_r _ [682, 17, 122, 21, 123, 124, 2, 125, 683, 684, 685, 20, 686, 64, 60, 426, 68, 389, 488, 403, 404, 489, 490, 491, 492, 431, 432, 610, 611, 612, 613, 73, 444, 337, 338, 63, 339, 81, 460, 187, 188, 38, 189, 169, 168, 687, 688, 689, 690, 238, 240, 191, 192, 193, 53, 691, 306, 307, 308, 241, 195, 196, 197, 54, 390, 391, 392, 67, 393, 91, 394, 395, 396, 397, 86, 735, 736, 737, 738, 739, 740, 791, 792, 773, 774, 775, 776, 777, 778, 779, 780, 781, 782, 783, 784, 785, 786, 787, 788, 798, 799, 797, 793, 794, 795, 796] (by decide +kernel) (by decide +kernel)
set_option maxRecDepth 20000 in
theorem gL_law_X8_count : GoodIn wsL_law (wsV RL 85 RX8 yX8_count wsX8_count) := goodIn_app (goodIn_r _ [679, 680, 681, 2] (by decide +kernel) (by decide +kernel)) ggL_law_X8_count
set_option maxRecDepth 20000 in
theorem ggL_law_X9_count : GoodIn wsL_law wsX9_count := goodIn_r _ [695, 136, 137, 5, 138, 696, 697, 698, 699, 106, 135, 700, 701, 702, 703, 313, 314, 315, 316, 704, 705, 706, 707, 741, 742, 743, 744, 745, 746, 747, 748, 749, 750, 751, 752, 753, 754, 755, 756, 757, 758, 759, 760, 761, 762, 763, 764] (by decide +kernel) (by decide +kernel)
set_option maxRecDepth 20000 in
theorem gL_law_X9_count : GoodIn wsL_law (wsV RL 88 RX9 yX9_count wsX9_count) := goodIn_app (goodIn_r _ [692, 693, 694, 5] (by decide +kernel) (by decide +kernel)) ggL_law_X9_count
