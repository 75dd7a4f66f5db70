set_option maxRecDepth 100000 in
theorem wsL_law_r9_in : ∀ w ∈ wsL_law_r9, w ∈ lw_tbl := fun w h => (goodIn_r wsL_law_r9 [415, 416, 417, 151, 153, 163, 162, 157, 159, 611, 612, 613, 614, 194, 498, 499, 500, 501, 490, 491, 492, 493, 273, 274] (by decide +kernel) (by decide +kernel) w h).1
set_option maxRecDepth 100000 in
theorem wsL_law_r10_in : ∀ w ∈ wsL_law_r10, w ∈ lw_tbl := fun w h => (goodIn_r wsL_law_r10 [275, 276, 86, 84, 82, 277, 278, 279, 280, 83, 85, 89, 90, 52, 281, 282, 283, 284, 285, 287, 0, 288, 289, 290] (by decide +kernel) (by decide +kernel) w h).1
set_option maxRecDepth 100000 in
theorem wsL_law_r11_in : ∀ w ∈ wsL_law_r11, w ∈ lw_tbl := fun w h => (goodIn_r wsL_law_r11 [291, 292, 50, 293, 295, 1, 296, 297, 299, 2, 300, 301, 305, 309, 313, 314, 315, 316, 317, 319, 3, 320, 321, 323] (by decide +kernel) (by decide +kernel) w h).1
set_option maxRecDepth 100000 in
theorem wsL_law_r12_in : ∀ w ∈ wsL_law_r12, w ∈ lw_tbl := fun w h => (goodIn_r wsL_law_r12 [4, 324, 328, 330, 5, 331, 332, 334, 6, 335, 336, 338, 7, 339, 340, 342, 8, 343, 344, 345, 346, 348, 349, 350] (by decide +kernel) (by decide +kernel) w h).1
set_option maxRecDepth 100000 in
theorem wsL_law_r13_in : ∀ w ∈ wsL_law_r13, w ∈ lw_tbl := fun w h => (goodIn_r wsL_law_r13 [351, 352, 354, 9, 355, 357, 360, 377, 378, 379, 380, 187, 381, 382, 383, 384, 386, 387, 388, 389, 390, 392, 393, 394] (by decide +kernel) (by decide +kernel) w h).1
set_option maxRecDepth 100000 in
theorem wsL_law_r14_in : ∀ w ∈ wsL_law_r14, w ∈ lw_tbl := fun w h => (goodIn_r wsL_law_r14 [395, 396, 398, 402, 403, 404, 405, 445, 446, 447, 448, 487, 488, 489, 494, 495, 496, 497, 502, 449, 450, 451, 452, 457] (by decide +kernel) (by decide +kernel) w h).1
set_option maxRecDepth 100000 in
theorem wsL_law_r15_in : ∀ w ∈ wsL_law_r15, w ∈ lw_tbl := fun w h => (goodIn_r wsL_law_r15 [458, 459, 460, 461, 462, 463, 464, 465, 466, 467, 468, 469, 470, 471, 472, 473, 474, 475, 476, 477, 478, 479, 480, 481] (by decide +kernel) (by decide +kernel) w h).1
set_option maxRecDepth 100000 in
theorem wsL_law_r16_in : ∀ w ∈ wsL_law_r16, w ∈ lw_tbl := fun w h => (goodIn_r wsL_law_r16 [482, 483, 484, 485, 486, 503, 504, 505, 506, 507, 508, 509, 510, 511, 512, 513, 514, 515, 516, 517, 518, 520, 10, 521] (by decide +kernel) (by decide +kernel) w h).1
