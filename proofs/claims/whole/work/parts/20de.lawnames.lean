set_option maxRecDepth 20000 in
theorem ggr5 : GoodIn wsL_law wsX9_digest_r5 := goodIn_r _ [410, 411, 412, 636, 637, 638, 639] (by decide +kernel) (by decide +kernel)
set_option maxRecDepth 20000 in
theorem ggd9 : GoodIn wsL_law wsX90 := goodIn_r _ [740, 741, 742, 743, 744, 745, 746, 747, 748, 749, 750, 751, 752, 753, 754, 755, 756, 757, 758, 759, 760, 761, 762, 763] (by decide +kernel) (by decide +kernel)
set_option maxRecDepth 20000 in
theorem ggL_law_X9_digest : GoodIn wsL_law wsX9_digest := goodIn_app ggd0 (goodIn_app (goodIn_app ggr1 (goodIn_app ggr2 (goodIn_app ggr3 (goodIn_app ggr4 ggr5)))) ggd9)
set_option maxRecDepth 20000 in
theorem gL_law_X9_digest : GoodIn wsL_law (wsV RL 93 RX9 yX9_digest wsX9_digest) := goodIn_app (goodIn_r _ [720, 721, 722, 5] (by decide +kernel) (by decide +kernel)) ggL_law_X9_digest
