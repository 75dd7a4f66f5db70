set_option maxRecDepth 20000 in
theorem ggL_law_X9_clearFaults : GoodIn wsL_law wsX9_clearFaults := goodIn_r _ [546, 105, 740, 741, 742, 743, 744, 745, 746, 747, 748, 749, 750, 751, 752, 753, 754, 755, 756, 757, 758, 759, 760, 761, 762, 763] (by decide +kernel) (by decide +kernel)
set_option maxRecDepth 20000 in
theorem gL_law_X9_clearFaults : GoodIn wsL_law (wsV RL 55 RX9 yX9_clearFaults wsX9_clearFaults) := goodIn_app (goodIn_r _ [543, 544, 545, 5] (by decide +kernel) (by decide +kernel)) ggL_law_X9_clearFaults
set_option maxRecDepth 20000 in
theorem ggL_law_X8_latest : GoodIn wsL_law wsX8_latest := goodIn_r _ [550, 23, 551, 552, 122, 123, 2, 124, 553, 554, 555, 70, 556, 448, 449, 557, 453, 451, 452, 734, 735, 736, 737, 738, 739, 774, 775, 776, 777, 778, 779, 780, 781, 782, 783, 784, 785, 786, 787, 788, 789, 799, 800, 801, 802, 803, 804, 805, 806] (by decide +kernel) (by decide +kernel)
set_option maxRecDepth 20000 in
theorem gL_law_X8_latest : GoodIn wsL_law (wsV RL 56 RX8 yX8_latest wsX8_latest) := goodIn_app (goodIn_r _ [547, 548, 549, 2] (by decide +kernel) (by decide +kernel)) ggL_law_X8_latest
set_option maxRecDepth 20000 in
theorem ggL_law_X9_latest : GoodIn wsL_law wsX9_latest := goodIn_r _ [561, 105, 135, 136, 5, 137, 740, 741, 742, 743, 744, 745, 746, 747, 748, 749, 750, 751, 752, 753, 754, 755, 756, 757, 758, 759, 760, 761, 762, 763] (by decide +kernel) (by decide +kernel)
set_option maxRecDepth 20000 in
theorem gL_law_X9_latest : GoodIn wsL_law (wsV RL 59 RX9 yX9_latest wsX9_latest) := goodIn_app (goodIn_r _ [558, 559, 560, 5] (by decide +kernel) (by decide +kernel)) ggL_law_X9_latest
set_option maxRecDepth 20000 in
theorem ggL_law_X8_station : GoodIn wsL_law wsX8_station := goodIn_r _ [565, 23, 566, 567, 122, 123, 2, 124, 568, 394, 395, 66, 396, 85, 734, 735, 736, 737, 738, 739, 774, 775, 776, 777, 778, 779, 780, 781, 782, 783, 784, 785, 786, 787, 788, 789, 797, 798] (by decide +kernel) (by decide +kernel)
set_option maxRecDepth 20000 in
theorem gL_law_X8_station : GoodIn wsL_law (wsV RL 60 RX8 yX8_station wsX8_station) := goodIn_app (goodIn_r _ [562, 563, 564, 2] (by decide +kernel) (by decide +kernel)) ggL_law_X8_station
set_option maxRecDepth 20000 in
theorem ggL_law_X9_station : GoodIn wsL_law wsX9_station := goodIn_r _ [572, 105, 135, 136, 5, 137, 740, 741, 742, 743, 744, 745, 746, 747, 748, 749, 750, 751, 752, 753, 754, 755, 756, 757, 758, 759, 760, 761, 762, 763] (by decide +kernel) (by decide +kernel)
set_option maxRecDepth 20000 in
theorem gL_law_X9_station : GoodIn wsL_law (wsV RL 63 RX9 yX9_station wsX9_station) := goodIn_app (goodIn_r _ [569, 570, 571, 5] (by decide +kernel) (by decide +kernel)) ggL_law_X9_station
set_option maxRecDepth 20000 in
theorem ggL_law_X8_pitch : GoodIn wsL_law wsX8_pitch := goodIn_r _ [576, 23, 357, 359, 360, 2, 361, 362, 734, 735, 736, 737, 738, 739, 774, 775, 776, 777, 778, 779, 780, 781, 782, 783, 784, 785, 786, 787, 788, 789] (by decide +kernel) (by decide +kernel)
set_option maxRecDepth 20000 in
theorem gL_law_X8_pitch : GoodIn wsL_law (wsV RL 64 RX8 yX8_pitch wsX8_pitch) := goodIn_app (goodIn_r _ [573, 574, 575, 2] (by decide +kernel) (by decide +kernel)) ggL_law_X8_pitch
set_option maxRecDepth 20000 in
theorem ggL_law_X9_pitch : GoodIn wsL_law wsX9_pitch := goodIn_r _ [580, 111, 368, 369, 370, 371, 372, 373, 374, 375, 376, 377, 378, 379, 740, 741, 742, 743, 744, 745, 746, 747, 748, 749, 750, 751, 752, 753, 754, 755, 756, 757, 758, 759, 760, 761, 762, 763] (by decide +kernel) (by decide +kernel)
set_option maxRecDepth 20000 in
theorem gL_law_X9_pitch : GoodIn wsL_law (wsV RL 67 RX9 yX9_pitch wsX9_pitch) := goodIn_app (goodIn_r _ [577, 578, 579, 5] (by decide +kernel) (by decide +kernel)) ggL_law_X9_pitch
set_option maxRecDepth 20000 in
theorem ggL_law_X8_foretell : GoodIn wsL_law wsX8_foretell := goodIn_r _ [584, 24, 23, 585, 152, 418, 419, 2, 420, 122, 123, 124, 586, 587, 588, 22, 589, 59, 63, 67, 71, 72, 74, 425, 430, 431, 487, 402, 403, 488, 489, 490, 491, 590, 591, 592, 43, 593, 238, 164, 165, 166, 167, 168, 594, 230, 231, 232, 233, 234, 235, 236, 237, 186, 187, 188, 239, 190, 191, 192, 52, 240, 194, 195, 196, 53, 241, 198, 199, 200, 595, 596, 597, 62, 598, 80, 599, 336, 337, 338, 600, 601, 602, 66, 603, 90, 85, 393, 394, 395, 396, 604, 605, 606, 70, 607, 448, 449, 450, 451, 452, 453, 557, 608, 609, 610, 611, 612, 613, 614, 615, 616, 617, 422, 423, 424, 426, 427, 428, 429, 432, 433, 434, 435, 436, 437, 438, 439, 440, 441, 442, 443, 444, 445, 446, 447, 454, 455, 456, 457, 458, 459, 460, 461, 462, 463, 464, 465, 466, 467, 468, 469, 470, 471, 472, 473, 474, 475, 476, 477, 478, 479, 480, 481, 482, 483, 484, 485, 486, 492, 493, 494, 495, 496, 497, 498, 499, 500, 398, 399, 400, 401, 501, 502, 503, 504, 505, 506, 507, 618, 228, 734, 735, 736, 737, 738, 739, 774, 775, 776, 777, 778, 779, 780, 781, 782, 783, 784, 785, 786, 787, 788, 789, 792, 793, 794, 795, 796, 797, 798, 799, 800, 801, 802, 803, 804, 805, 806] (by decide +kernel) (by decide +kernel)
set_option maxRecDepth 20000 in
theorem gL_law_X8_foretell : GoodIn wsL_law (wsV RL 68 RX8 yX8_foretell wsX8_foretell) := goodIn_app (goodIn_r _ [581, 582, 583, 2] (by decide +kernel) (by decide +kernel)) ggL_law_X8_foretell
set_option maxRecDepth 20000 in
theorem ggL_law_X9_foretell : GoodIn wsL_law wsX9_foretell := goodIn_r _ [622, 135, 136, 5, 137, 623, 624, 625, 626, 627, 628, 629, 630, 106, 105, 111, 631, 632, 633, 634, 635, 512, 513, 514, 515, 516, 517, 518, 519, 520, 521, 522, 523, 524, 525, 526, 527, 528, 529, 530, 531, 532, 533, 534, 535, 536, 537, 409, 410, 411, 412, 636, 637, 638, 639, 740, 741, 742, 743, 744, 745, 746, 747, 748, 749, 750, 751, 752, 753, 754, 755, 756, 757, 758, 759, 760, 761, 762, 763] (by decide +kernel) (by decide +kernel)
set_option maxRecDepth 20000 in
theorem gL_law_X9_foretell : GoodIn wsL_law (wsV RL 72 RX9 yX9_foretell wsX9_foretell) := goodIn_app (goodIn_r _ [619, 620, 621, 5] (by decide +kernel) (by decide +kernel)) ggL_law_X9_foretell
