set_option maxRecDepth 100000 in
theorem wsL_law_r1_in : ∀ w ∈ wsL_law_r1, w ∈ lw_tbl := fun w h => (goodIn_r wsL_law_r1 [29, 30, 19, 78, 31, 32, 33, 34, 35, 36, 37, 38, 20, 254, 80, 255, 108, 109, 23, 256, 257, 240, 241, 27] (by decide +kernel) (by decide +kernel) w h).1
set_option maxRecDepth 100000 in
theorem wsL_law_r2_in : ∀ w ∈ wsL_law_r2, w ∈ lw_tbl := fun w h => (goodIn_r wsL_law_r2 [258, 259, 39, 40, 41, 42, 43, 44, 21, 79, 59, 60, 22, 81, 87, 88, 45, 46, 47, 48, 58, 49, 61, 62] (by decide +kernel) (by decide +kernel) w h).1
set_option maxRecDepth 100000 in
theorem wsL_law_r3_in : ∀ w ∈ wsL_law_r3, w ∈ lw_tbl := fun w h => (goodIn_r wsL_law_r3 [63, 64, 65, 66, 110, 111, 112, 113, 114, 184, 116, 117, 24, 186, 126, 127, 25, 188, 145, 146, 26, 190, 192, 183] (by decide +kernel) (by decide +kernel) w h).1
set_option maxRecDepth 100000 in
theorem wsL_law_r4_in : ∀ w ∈ wsL_law_r4, w ∈ lw_tbl := fun w h => (goodIn_r wsL_law_r4 [193, 115, 118, 119, 120, 121, 122, 128, 129, 130, 131, 136, 132, 133, 134, 135, 137, 148, 149, 150, 242, 243, 244, 245] (by decide +kernel) (by decide +kernel) w h).1
set_option maxRecDepth 100000 in
theorem wsL_law_r5_in : ∀ w ∈ wsL_law_r5, w ∈ lw_tbl := fun w h => (goodIn_r wsL_law_r5 [246, 248, 247, 453, 454, 18, 455, 456, 603, 604, 605, 366, 367, 368, 369, 185, 370, 326, 327, 347, 302, 303, 304, 68] (by decide +kernel) (by decide +kernel) w h).1
set_option maxRecDepth 100000 in
theorem wsL_law_r6_in : ∀ w ∈ wsL_law_r6, w ∈ lw_tbl := fun w h => (goodIn_r wsL_law_r6 [67, 371, 306, 307, 308, 372, 310, 311, 312, 373, 374, 375, 376, 359, 606, 607, 608, 609, 189, 139, 610, 442, 443, 444] (by decide +kernel) (by decide +kernel) w h).1
set_option maxRecDepth 100000 in
theorem wsL_law_r7_in : ∀ w ∈ wsL_law_r7, w ∈ lw_tbl := fun w h => (goodIn_r wsL_law_r7 [418, 419, 420, 421, 51, 422, 423, 424, 425, 195, 138, 200, 201, 202, 203, 204, 205, 206, 196, 198, 426, 427, 428, 429] (by decide +kernel) (by decide +kernel) w h).1
set_option maxRecDepth 100000 in
theorem wsL_law_r8_in : ∀ w ∈ wsL_law_r8, w ∈ lw_tbl := fun w h => (goodIn_r wsL_law_r8 [430, 399, 400, 401, 431, 432, 433, 434, 435, 356, 358, 436, 437, 438, 439, 440, 441, 410, 411, 412, 413, 191, 161, 414] (by decide +kernel) (by decide +kernel) w h).1
