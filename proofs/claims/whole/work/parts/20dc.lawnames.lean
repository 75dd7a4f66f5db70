set_option maxRecDepth 20000 in
theorem ggd0 : GoodIn wsL_law [Cond.code yX9_digest cX9_digest 2 (some .long)] := goodIn_r _ [723] (by decide +kernel) (by decide +kernel)
set_option maxRecDepth 20000 in
theorem ggr1 : GoodIn wsL_law wsX9_digest_r1 := goodIn_r _ [724, 725, 105, 134, 112, 695, 696, 697, 5, 698, 699, 700, 701, 702, 312, 313, 314, 315, 703, 704, 705, 706, 726, 727] (by decide +kernel) (by decide +kernel)
set_option maxRecDepth 20000 in
theorem ggr2 : GoodIn wsL_law wsX9_digest_r2 := goodIn_r _ [728, 729, 730, 731, 309, 310, 311, 135, 136, 137, 732, 578, 579, 580, 111, 368, 369, 370, 371, 372, 373, 374, 375, 376] (by decide +kernel) (by decide +kernel)
