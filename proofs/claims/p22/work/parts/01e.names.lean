set_option maxRecDepth 100000 in
theorem wsL_law_r17_in : ∀ w ∈ wsL_law_r17, w ∈ lw_tbl := fun w h => (goodIn_r wsL_law_r17 [522, 406, 407, 408, 409, 197, 199, 361, 362, 363, 364, 365, 523, 524, 525, 526, 527, 528, 529, 530, 531, 532, 533, 534] (by decide +kernel) (by decide +kernel) w h).1
set_option maxRecDepth 100000 in
theorem wsL_law_r18_in : ∀ w ∈ wsL_law_r18, w ∈ lw_tbl := fun w h => (goodIn_r wsL_law_r18 [535, 536, 160, 152, 165, 164, 537, 539, 11, 540, 541, 542, 28, 543, 544, 545, 546, 547, 548, 549, 550, 155, 551, 553] (by decide +kernel) (by decide +kernel) w h).1
set_option maxRecDepth 100000 in
theorem wsL_law_r19_in : ∀ w ∈ wsL_law_r19, w ∈ lw_tbl := fun w h => (goodIn_r wsL_law_r19 [12, 554, 158, 555, 556, 557, 558, 559, 560, 561, 563, 13, 564, 565, 566, 567, 568, 569, 571, 14, 572, 156, 154, 573] (by decide +kernel) (by decide +kernel) w h).1
set_option maxRecDepth 100000 in
theorem wsL_law_r20_in : ∀ w ∈ wsL_law_r20, w ∈ lw_tbl := fun w h => (goodIn_r wsL_law_r20 [574, 575, 576, 578, 15, 579, 580, 582, 16, 583, 584, 585, 586, 587, 588, 589, 590, 591, 592, 594, 17, 595, 596, 597] (by decide +kernel) (by decide +kernel) w h).1
set_option maxRecDepth 100000 in
theorem wsL_law_r21_in : ∀ w ∈ wsL_law_r21, w ∈ lw_tbl := fun w h => ((show GoodIn lw_tbl (([Cond.code yL_cycles cL_cycles 13 none] : List Cond) ++ (([Cond.constant RL 41 (32768), Cond.methodLink RL 37 yL_follows, Cond.static yL_follows, Cond.code yL_follows cL_follows 7 none] : List Cond))) from (goodIn_app (goodIn_1 598 rfl (by decide +kernel)) (goodIn_r _ [602, 599, 600, 601] (by decide +kernel) (by decide +kernel)))) w h).1
set_option maxRecDepth 100000 in
theorem inX0 : ∀ w ∈ wsX00, w ∈ lw_tbl := fun w h => (goodIn_r wsX00 [166, 168, 170, 172, 174, 176, 178, 180] (by decide +kernel) (by decide +kernel) w h).1
set_option maxRecDepth 100000 in
theorem inX1 : ∀ w ∈ wsX10, w ∈ lw_tbl := fun w h => (goodIn_r wsX10 [69, 71, 73, 75] (by decide +kernel) (by decide +kernel) w h).1
set_option maxRecDepth 100000 in
theorem inX2 : ∀ w ∈ wsX20, w ∈ lw_tbl := fun w h => (goodIn_r wsX20 [207, 209, 211, 213, 215, 217, 219, 221, 223, 225, 227, 229, 231, 233, 235, 237] (by decide +kernel) (by decide +kernel) w h).1
