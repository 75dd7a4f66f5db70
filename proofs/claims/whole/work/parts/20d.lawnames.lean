set_option maxRecDepth 20000 in
theorem ggL_law_X9_station : GoodIn wsL_law wsX9_station := goodIn_r _ [573, 106, 136, 137, 5, 138, 741, 742, 743, 744, 745, 746, 747, 748, 749, 750, 751, 752, 753, 754, 755, 756, 757, 758, 759, 760, 761, 762, 763, 764] (by decide +kernel) (by decide +kernel)
set_option maxRecDepth 20000 in
theorem gL_law_X9_station : GoodIn wsL_law (wsV RL 63 RX9 yX9_station wsX9_station) := goodIn_app (goodIn_r _ [570, 571, 572, 5] (by decide +kernel) (by decide +kernel)) ggL_law_X9_station
set_option maxRecDepth 20000 in
theorem ggL_law_X8_pitch : GoodIn wsL_law wsX8_pitch := goodIn_r _ [577, 21, 358, 360, 361, 2, 362, 363, 735, 736, 737, 738, 739, 740, 773, 774, 775, 776, 777, 778, 779, 780, 781, 782, 783, 784, 785, 786, 787, 788] (by decide +kernel) (by decide +kernel)
set_option maxRecDepth 20000 in
theorem gL_law_X8_pitch : GoodIn wsL_law (wsV RL 64 RX8 yX8_pitch wsX8_pitch) := goodIn_app (goodIn_r _ [574, 575, 576, 2] (by decide +kernel) (by decide +kernel)) ggL_law_X8_pitch
set_option maxRecDepth 20000 in
theorem ggL_law_X9_pitch : GoodIn wsL_law wsX9_pitch := goodIn_r _ [581, 112, 369, 370, 371, 372, 373, 374, 375, 376, 377, 378, 379, 380, 741, 742, 743, 744, 745, 746, 747, 748, 749, 750, 751, 752, 753, 754, 755, 756, 757, 758, 759, 760, 761, 762, 763, 764] (by decide +kernel) (by decide +kernel)
set_option maxRecDepth 20000 in
theorem gL_law_X9_pitch : GoodIn wsL_law (wsV RL 67 RX9 yX9_pitch wsX9_pitch) := goodIn_app (goodIn_r _ [578, 579, 580, 5] (by decide +kernel) (by decide +kernel)) ggL_law_X9_pitch
set_option maxRecDepth 20000 in
theorem ggL_law_X8_foretell : GoodIn wsL_law wsX8_foretell := goodIn_r _ [585, 22, 21, 586, 153, 419, 420, 2, 421, 123, 124, 125, 587, 588, 589, 20, 590, 60, 64, 68, 72, 73, 75, 426, 431, 432, 488, 403, 404, 489, 490, 491, 492, 591, 592, 593, 38, 594, 239, 165, 166, 167, 168, 169, 595, 231, 232, 233, 234, 235, 236, 237, 238, 187, 188, 189, 240, 191, 192, 193, 53, 241, 195, 196, 197, 54, 242, 199, 200, 201, 596, 597, 598, 63, 599, 81, 600, 337, 338, 339, 601, 602, 603, 67, 604, 91, 86, 394, 395, 396, 397, 605, 606, 607, 71, 608, 449, 450, 451, 452, 453, 454, 558, 609, 610, 611, 612, 613, 614, 615, 616, 617, 618, 423, 424, 425, 427, 428, 429, 430, 433, 434, 435, 436, 437, 438, 439, 440, 441, 442, 443, 444, 445, 446, 447, 448, 455, 456, 457, 458, 459, 460, 461, 462, 463, 464, 465, 466, 467, 468, 469, 470, 471, 472, 473, 474, 475, 476, 477, 478, 479, 480, 481, 482, 483, 484, 485, 486, 487, 493, 494, 495, 496, 497, 498, 499, 500, 501, 399, 400, 401, 402, 502, 503, 504, 505, 506, 507, 508, 619, 229, 735, 736, 737, 738, 739, 740, 773, 774, 775, 776, 777, 778, 779, 780, 781, 782, 783, 784, 785, 786, 787, 788, 793, 794, 795, 796, 797, 798, 799, 800, 801, 802, 803, 804, 805, 806, 807] (by decide +kernel) (by decide +kernel)
set_option maxRecDepth 20000 in
theorem gL_law_X8_foretell : GoodIn wsL_law (wsV RL 68 RX8 yX8_foretell wsX8_foretell) := goodIn_app (goodIn_r _ [582, 583, 584, 2] (by decide +kernel) (by decide +kernel)) ggL_law_X8_foretell
set_option maxRecDepth 20000 in
theorem ggL_law_X9_foretell : GoodIn wsL_law wsX9_foretell := goodIn_r _ [623, 136, 137, 5, 138, 624, 625, 626, 627, 628, 629, 630, 631, 107, 106, 112, 632, 633, 634, 635, 636, 513, 514, 515, 516, 517, 518, 519, 520, 521, 522, 523, 524, 525, 526, 527, 528, 529, 530, 531, 532, 533, 534, 535, 536, 537, 538, 410, 411, 412, 413, 637, 638, 639, 640, 741, 742, 743, 744, 745, 746, 747, 748, 749, 750, 751, 752, 753, 754, 755, 756, 757, 758, 759, 760, 761, 762, 763, 764] (by decide +kernel) (by decide +kernel)
set_option maxRecDepth 20000 in
theorem gL_law_X9_foretell : GoodIn wsL_law (wsV RL 72 RX9 yX9_foretell wsX9_foretell) := goodIn_app (goodIn_r _ [620, 621, 622, 5] (by decide +kernel) (by decide +kernel)) ggL_law_X9_foretell
