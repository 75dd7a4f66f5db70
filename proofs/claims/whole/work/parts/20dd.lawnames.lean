set_option maxRecDepth 20000 in
theorem ggr3 : GoodIn wsL_law wsX9_digest_r3 := goodIn_r _ [377, 378, 379, 733, 620, 621, 622, 623, 624, 625, 626, 627, 628, 629, 630, 106, 631, 632, 633, 634, 635, 512, 513, 514] (by decide +kernel) (by decide +kernel)
set_option maxRecDepth 20000 in
theorem ggr4 : GoodIn wsL_law wsX9_digest_r4 := goodIn_r _ [515, 516, 517, 518, 519, 520, 521, 522, 523, 524, 525, 526, 527, 528, 529, 530, 531, 532, 533, 534, 535, 536, 537, 409] (by decide +kernel) (by decide +kernel)
