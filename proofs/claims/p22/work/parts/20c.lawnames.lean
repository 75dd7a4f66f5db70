set_option maxRecDepth 20000 in
theorem gL_isRun_r3 : GoodIn wsL_law wsL_isRun_r3 := goodIn_r _ [427, 68, 428, 195, 196, 429, 199, 200, 198, 430, 431, 432, 433, 57, 434, 172, 116, 117, 36, 118, 119, 120, 435, 122] (by decide +kernel) (by decide +kernel)
set_option maxRecDepth 20000 in
theorem gL_isRun_r4 : GoodIn wsL_law wsL_isRun_r4 := goodIn_r _ [123, 124, 50, 436, 126, 127, 128, 51, 437, 438, 439, 440, 441, 442, 443, 444, 445, 446, 447, 448, 449, 450, 451, 452] (by decide +kernel) (by decide +kernel)
set_option maxRecDepth 20000 in
theorem gL_isRun_r5 : GoodIn wsL_law wsL_isRun_r5 := goodIn_r _ [453, 454, 455, 456, 457, 458, 459, 460, 461, 155, 70, 158, 159, 160, 161, 462, 463, 464, 465, 466, 467, 468, 469, 64] (by decide +kernel) (by decide +kernel)
set_option maxRecDepth 20000 in
theorem gL_isRun_r6 : GoodIn wsL_law wsL_isRun_r6 := (show GoodIn wsL_law (([Cond.code yX4_moveOn cX4_moveOn 5 (some .int), Cond.fieldLink RX4 19 "LabelApplicator$Ring" "stations" "I", Cond.fieldLink RX4 9 "LabelApplicator$Ring" "reasons" "[I", Cond.methodLink RX2 119 yX2_passGate, Cond.instanceMethod yX2_passGate, Cond.selects RX2 yX2_passGate yX2_passGate, Cond.code yX2_passGate cX2_passGate 2 none, Cond.fieldLink RX2 79 "LabelApplicator$Machine" "delivered" "I", Cond.fieldLink RX2 82 "LabelApplicator$Machine" "diverted" "I", Cond.methodLink RX2 164 yX2_isFault, Cond.static yX2_isFault, Cond.code yX2_isFault cX2_isFault 1 (some .boolean), Cond.methodLink RX2 129 yX2_hasTooManyFaults, Cond.instanceMethod yX2_hasTooManyFaults, Cond.selects RX2 yX2_hasTooManyFaults yX2_hasTooManyFaults, Cond.code yX2_hasTooManyFaults cX2_hasTooManyFaults 1 (some .boolean), Cond.methodLink RL 66 yL_cycles, Cond.static yL_cycles, Cond.initialized RL] : List Cond) ++ (([Cond.code yL_cycles cL_cycles 13 none] : List Cond) ++ (([Cond.constant RL 41 (32768), Cond.methodLink RL 37 yL_follows, Cond.static yL_follows, Cond.code yL_follows cL_follows 7 none] : List Cond)))) from (goodIn_app (goodIn_r _ [470, 88, 83, 380, 381, 382, 383, 156, 157, 471, 472, 473, 474, 475, 476, 477, 478, 479, 101] (by decide +kernel) (by decide +kernel)) (goodIn_app (goodIn_1 480 rfl (by decide +kernel)) (goodIn_r _ [481, 482, 483, 484] (by decide +kernel) (by decide +kernel)))))
set_option maxRecDepth 20000 in
theorem gL_isRun_r7 : GoodIn wsL_law wsL_isRun_r7 := goodIn_r _ [368, 369, 370] (by decide +kernel) (by decide +kernel)
set_option maxRecDepth 20000 in
theorem g9L_isRun_8 : GoodIn wsL_law wsX80 := goodIn_r _ [485, 486, 487, 488, 489, 490] (by decide +kernel) (by decide +kernel)
set_option maxRecDepth 20000 in
theorem g9L_isRun_2 : GoodIn wsL_law wsX20 := goodIn_r _ [499, 500, 501, 502, 503, 504, 505, 506, 507, 508, 509, 510, 511, 512, 513, 514] (by decide +kernel) (by decide +kernel)
set_option maxRecDepth 20000 in
theorem g9L_isRun_0 : GoodIn wsL_law wsX00 := goodIn_r _ [526, 527, 528, 529, 530, 531, 532, 533] (by decide +kernel) (by decide +kernel)
set_option maxRecDepth 20000 in
theorem g9L_isRun_5 : GoodIn wsL_law wsX50 := goodIn_r _ [523] (by decide +kernel) (by decide +kernel)
