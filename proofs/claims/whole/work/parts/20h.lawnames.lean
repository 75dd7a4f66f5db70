set_option maxRecDepth 20000 in
theorem gX9_digest_r3 : GoodIn wsL_law wsX9_digest_r3 := goodIn_r _ [378, 379, 380, 734, 621, 622, 623, 624, 625, 626, 627, 628, 629, 630, 631, 107, 632, 633, 634, 635, 636, 513, 514, 515] (by decide +kernel) (by decide +kernel)
set_option maxRecDepth 20000 in
theorem gX9_digest_r4 : GoodIn wsL_law wsX9_digest_r4 := goodIn_r _ [516, 517, 518, 519, 520, 521, 522, 523, 524, 525, 526, 527, 528, 529, 530, 531, 532, 533, 534, 535, 536, 537, 538, 410] (by decide +kernel) (by decide +kernel)
set_option maxRecDepth 20000 in
theorem gX9_digest_r5 : GoodIn wsL_law wsX9_digest_r5 := goodIn_r _ [411, 412, 413, 637, 638, 639, 640] (by decide +kernel) (by decide +kernel)
set_option maxRecDepth 20000 in
theorem g9X9_digest_9 : GoodIn wsL_law wsX90 := goodIn_r _ [741, 742, 743, 744, 745, 746, 747, 748, 749, 750, 751, 752, 753, 754, 755, 756, 757, 758, 759, 760, 761, 762, 763, 764] (by decide +kernel) (by decide +kernel)
set_option maxRecDepth 20000 in
theorem ggL_law_X9_digest : GoodIn wsL_law wsX9_digest := goodIn_app g0X9_digest (goodIn_app (goodIn_app gX9_digest_r1 (goodIn_app gX9_digest_r2 (goodIn_app gX9_digest_r3 (goodIn_app gX9_digest_r4 gX9_digest_r5)))) g9X9_digest_9)
set_option maxRecDepth 20000 in
theorem gL_law_X9_digest : GoodIn wsL_law (wsV RL 93 RX9 yX9_digest wsX9_digest) := goodIn_app (goodIn_r _ [721, 722, 723, 5] (by decide +kernel) (by decide +kernel)) ggL_law_X9_digest
