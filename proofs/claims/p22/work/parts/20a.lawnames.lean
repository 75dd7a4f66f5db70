set_option maxRecDepth 20000 in
theorem ggL_law_X8_init : GoodIn wsL_law wsX8_init := goodIn_r _ [6, 7, 8, 9, 10, 11, 12, 13, 14, 15, 16, 17, 18, 19, 20, 21, 22, 23, 24, 25, 26, 27, 28, 29, 30, 31, 32, 33, 34, 35, 36, 37, 3, 38, 39, 40, 41, 42, 43, 44, 45, 46, 47, 48, 49, 50, 51, 52, 53, 54, 55, 56, 57, 58, 59, 60, 61, 62, 63, 64, 65, 66, 67, 68, 69, 70, 71, 72, 73, 74, 75, 76, 77, 78, 79, 80, 81, 82, 83, 84, 85, 86, 87, 88, 89, 90, 91, 92, 93, 94, 95, 96, 97, 98, 491, 492, 493, 494, 495, 496, 497, 498, 485, 486, 487, 488, 489, 490, 499, 500, 501, 502, 503, 504, 505, 506, 507, 508, 509, 510, 511, 512, 513, 514, 515, 516, 517, 518, 519, 520, 521, 522, 523, 524, 525, 526, 527, 528, 529, 530, 531, 532, 533] (by decide +kernel) (by decide +kernel)
set_option maxRecDepth 20000 in
theorem gL_law_X8_init : GoodIn wsL_law (wsX8_init) := ggL_law_X8_init
set_option maxRecDepth 20000 in
theorem ggL_law_L_begins : GoodIn wsL_law wsL_begins := goodIn_r _ [102, 103] (by decide +kernel) (by decide +kernel)
set_option maxRecDepth 20000 in
theorem gL_law_L_begins : GoodIn wsL_law (va_wsS RL 86 yL_begins wsL_begins) := goodIn_app (goodIn_of _ (by decide +kernel)) ggL_law_L_begins
set_option maxRecDepth 20000 in
theorem ggL_law_L_isTold : GoodIn wsL_law wsL_isTold := goodIn_r _ [106, 107, 108, 109, 2, 110, 19, 111, 112, 113, 114, 115, 116, 117, 36, 118, 119, 120, 121, 122, 123, 124, 50, 125, 126, 127, 128, 51, 129, 130, 131, 132, 133, 134, 135, 136, 137, 138, 139, 140, 141, 142, 64, 143, 83, 144, 145, 146, 147, 15, 148, 149, 150, 151, 18, 152, 61, 57, 153, 65, 154, 155, 156, 157, 158, 159, 160, 161, 162, 163, 164, 165, 166, 167, 70, 168, 169, 170, 60, 171, 78, 172, 173, 174, 175, 176, 177, 178, 179, 180, 181, 182, 183, 88, 184, 185, 186, 187, 188, 189, 190, 191, 192, 193, 68, 194, 195, 196, 197, 198, 199, 200, 201, 202, 203, 204, 205, 206, 207, 208, 209, 210, 211, 101, 212, 213, 485, 486, 487, 488, 489, 490, 499, 500, 501, 502, 503, 504, 505, 506, 507, 508, 509, 510, 511, 512, 513, 514, 519, 520, 521, 522, 524, 525, 517, 518, 523, 526, 527, 528, 529, 530, 531, 532, 533] (by decide +kernel) (by decide +kernel)
set_option maxRecDepth 20000 in
theorem gL_law_L_isTold : GoodIn wsL_law (va_wsS RL 90 yL_isTold wsL_isTold) := goodIn_app (goodIn_of _ (by decide +kernel)) ggL_law_L_isTold
set_option maxRecDepth 20000 in
theorem ggL_law_X8_item : GoodIn wsL_law wsX8_item := goodIn_r _ [110, 19, 111, 112, 113, 2, 114, 115, 116, 117, 36, 118, 119, 120, 121, 122, 123, 124, 50, 125, 126, 127, 128, 51, 129, 130, 131, 132, 133, 485, 486, 487, 488, 489, 490, 499, 500, 501, 502, 503, 504, 505, 506, 507, 508, 509, 510, 511, 512, 513, 514, 519, 520, 521, 522] (by decide +kernel) (by decide +kernel)
set_option maxRecDepth 20000 in
theorem gL_law_X8_item : GoodIn wsL_law (wsV RL 70 RX8 yX8_item wsX8_item) := goodIn_app (goodIn_r _ [107, 108, 109, 2] (by decide +kernel) (by decide +kernel)) ggL_law_X8_item
set_option maxRecDepth 20000 in
theorem ggL_law_X8_latest : GoodIn wsL_law wsX8_latest := goodIn_r _ [188, 19, 189, 190, 112, 113, 2, 114, 191, 192, 193, 68, 194, 195, 196, 197, 198, 199, 200, 485, 486, 487, 488, 489, 490, 499, 500, 501, 502, 503, 504, 505, 506, 507, 508, 509, 510, 511, 512, 513, 514, 526, 527, 528, 529, 530, 531, 532, 533] (by decide +kernel) (by decide +kernel)
set_option maxRecDepth 20000 in
theorem gL_law_X8_latest : GoodIn wsL_law (wsV RL 79 RX8 yX8_latest wsX8_latest) := goodIn_app (goodIn_r _ [185, 186, 187, 2] (by decide +kernel) (by decide +kernel)) ggL_law_X8_latest
set_option maxRecDepth 20000 in
theorem ggL_law_X8_count : GoodIn wsL_law wsX8_count := goodIn_r _ [147, 15, 148, 19, 112, 113, 2, 114, 149, 150, 151, 18, 152, 61, 57, 153, 65, 154, 155, 156, 157, 158, 159, 160, 161, 162, 163, 164, 165, 166, 167, 70, 168, 169, 170, 60, 171, 78, 172, 116, 117, 36, 118, 119, 120, 173, 174, 175, 176, 177, 178, 122, 123, 124, 50, 179, 130, 131, 132, 133, 126, 127, 128, 51, 180, 181, 182, 64, 183, 88, 184, 141, 142, 143, 83, 485, 486, 487, 488, 489, 490, 517, 518, 499, 500, 501, 502, 503, 504, 505, 506, 507, 508, 509, 510, 511, 512, 513, 514, 524, 525, 523, 519, 520, 521, 522] (by decide +kernel) (by decide +kernel)
set_option maxRecDepth 20000 in
theorem gL_law_X8_count : GoodIn wsL_law (wsV RL 76 RX8 yX8_count wsX8_count) := goodIn_app (goodIn_r _ [144, 145, 146, 2] (by decide +kernel) (by decide +kernel)) ggL_law_X8_count
set_option maxRecDepth 20000 in
theorem ggL_law_X8_load : GoodIn wsL_law wsX8_load := goodIn_r _ [217, 13, 218, 219, 19, 111, 220, 221, 222, 223, 12, 224, 37, 225, 226, 227, 228, 33, 229, 230, 231, 232, 36, 233, 120, 119, 234, 235, 236, 237, 238, 239, 240, 32, 241, 242, 45, 243, 244, 245, 246, 38, 39, 247, 248, 249, 250, 251, 116, 117, 118, 252, 122, 123, 124, 50, 253, 126, 127, 128, 51, 254, 255, 256, 257, 258, 259, 260, 261, 262, 263, 264, 265, 113, 2, 114, 266, 267, 268, 269, 270, 271, 272, 273, 274, 275, 276, 277, 278, 279, 280, 281, 282, 283, 284, 115, 285, 286, 287, 288, 289, 290, 291, 292, 177, 293, 178, 133, 294, 485, 486, 487, 488, 489, 490, 491, 492, 493, 494, 495, 496, 497, 498, 499, 500, 501, 502, 503, 504, 505, 506, 507, 508, 509, 510, 511, 512, 513, 514, 517, 518, 519, 520, 521, 522] (by decide +kernel) (by decide +kernel)
set_option maxRecDepth 20000 in
theorem gL_law_X8_load : GoodIn wsL_law (wsV RL 34 RX8 yX8_load wsX8_load) := goodIn_app (goodIn_r _ [214, 215, 216, 2] (by decide +kernel) (by decide +kernel)) ggL_law_X8_load
set_option maxRecDepth 20000 in
theorem ggL_law_X8_set : GoodIn wsL_law wsX8_set := goodIn_r _ [298, 19, 299, 300, 301, 302, 60, 303, 113, 2, 114, 304, 305, 306, 307, 308, 309, 310, 311, 312, 313, 314, 169, 170, 171, 78, 315, 316, 317, 318, 485, 486, 487, 488, 489, 490, 499, 500, 501, 502, 503, 504, 505, 506, 507, 508, 509, 510, 511, 512, 513, 514, 523] (by decide +kernel) (by decide +kernel)
set_option maxRecDepth 20000 in
theorem gL_law_X8_set : GoodIn wsL_law (wsV RL 51 RX8 yX8_set wsX8_set) := goodIn_app (goodIn_r _ [295, 296, 297, 2] (by decide +kernel) (by decide +kernel)) ggL_law_X8_set
set_option maxRecDepth 20000 in
theorem ggL_law_L_cell : GoodIn wsL_law wsL_cell := goodIn_r _ [321, 322] (by decide +kernel) (by decide +kernel)
set_option maxRecDepth 20000 in
theorem gL_law_L_cell : GoodIn wsL_law (va_wsS RL 94 yL_cell wsL_cell) := goodIn_app (goodIn_of _ (by decide +kernel)) ggL_law_L_cell
set_option maxRecDepth 20000 in
theorem ggL_law_L_setsPitch : GoodIn wsL_law wsL_setsPitch := goodIn_r _ [325, 210, 211, 101, 212, 213, 326, 327, 328, 2, 329, 19, 205, 330, 112, 113, 114, 206, 207, 208, 209, 485, 486, 487, 488, 489, 490, 499, 500, 501, 502, 503, 504, 505, 506, 507, 508, 509, 510, 511, 512, 513, 514] (by decide +kernel) (by decide +kernel)
set_option maxRecDepth 20000 in
theorem gL_law_L_setsPitch : GoodIn wsL_law (va_wsS RL 98 yL_setsPitch wsL_setsPitch) := goodIn_app (goodIn_of _ (by decide +kernel)) ggL_law_L_setsPitch
set_option maxRecDepth 20000 in
theorem ggL_law_L_low : GoodIn wsL_law wsL_low := goodIn_r _ [333, 334] (by decide +kernel) (by decide +kernel)
set_option maxRecDepth 20000 in
theorem gL_law_L_low : GoodIn wsL_law (va_wsS RL 19 yL_low wsL_low) := goodIn_app (goodIn_of _ (by decide +kernel)) ggL_law_L_low
