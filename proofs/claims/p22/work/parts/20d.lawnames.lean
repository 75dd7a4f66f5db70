set_option maxRecDepth 20000 in
theorem g9L_isRun_1 : GoodIn wsL_law wsX10 := goodIn_r _ [519, 520, 521, 522] (by decide +kernel) (by decide +kernel)
set_option maxRecDepth 20000 in
theorem g9L_isRun_4 : GoodIn wsL_law wsX40 := goodIn_r _ [524, 525] (by decide +kernel) (by decide +kernel)
set_option maxRecDepth 20000 in
theorem ggL_law_L_isRun : GoodIn wsL_law wsL_isRun := goodIn_app g0L_isRun (goodIn_app (goodIn_app (goodIn_app (goodIn_app (goodIn_app (goodIn_app (goodIn_app gL_isRun_r1 (goodIn_app gL_isRun_r2 (goodIn_app gL_isRun_r3 (goodIn_app gL_isRun_r4 (goodIn_app gL_isRun_r5 (goodIn_app gL_isRun_r6 gL_isRun_r7)))))) g9L_isRun_8) g9L_isRun_2) g9L_isRun_0) g9L_isRun_5) g9L_isRun_1) g9L_isRun_4)
set_option maxRecDepth 20000 in
theorem gL_law_L_isRun : GoodIn wsL_law (va_wsS RL 118 yL_isRun wsL_isRun) := goodIn_app (goodIn_of _ (by decide +kernel)) ggL_law_L_isRun
