set_option maxRecDepth 20000 in
theorem ggL_law_L_loads : GoodIn wsL_law wsL_loads := goodIn_r _ [337, 331, 332, 101, 333, 334, 338, 339, 340, 2, 341, 15, 148, 342, 343, 344, 345, 346, 347, 348, 112, 113, 114, 349, 350, 351, 32, 352, 242, 45, 353, 354, 355, 214, 215, 216, 217, 13, 218, 219, 19, 111, 220, 221, 222, 223, 12, 224, 37, 225, 226, 227, 228, 33, 229, 230, 231, 232, 36, 233, 120, 119, 234, 235, 236, 237, 238, 239, 240, 241, 243, 244, 245, 246, 38, 39, 247, 248, 249, 250, 251, 116, 117, 118, 252, 122, 123, 124, 50, 253, 126, 127, 128, 51, 254, 255, 256, 257, 258, 259, 260, 261, 262, 263, 264, 265, 266, 267, 268, 269, 270, 271, 272, 273, 274, 275, 276, 277, 278, 279, 280, 281, 282, 283, 284, 115, 285, 286, 287, 288, 289, 290, 291, 292, 177, 293, 178, 133, 294, 485, 486, 487, 488, 489, 490, 517, 518, 491, 492, 493, 494, 495, 496, 497, 498, 499, 500, 501, 502, 503, 504, 505, 506, 507, 508, 509, 510, 511, 512, 513, 514, 519, 520, 521, 522] (by decide +kernel) (by decide +kernel)
set_option maxRecDepth 20000 in
theorem gL_law_L_loads : GoodIn wsL_law (va_wsS RL 102 yL_loads wsL_loads) := goodIn_app (goodIn_of _ (by decide +kernel)) ggL_law_L_loads
set_option maxRecDepth 20000 in
theorem ggL_law_L_sets : GoodIn wsL_law wsL_sets := goodIn_r _ [358, 331, 332, 101, 333, 334, 359, 360, 361, 362, 363, 364, 295, 296, 297, 2, 298, 19, 299, 300, 301, 302, 60, 303, 113, 114, 304, 305, 306, 307, 308, 309, 310, 311, 312, 313, 314, 169, 170, 171, 78, 315, 316, 317, 318, 485, 486, 487, 488, 489, 490, 499, 500, 501, 502, 503, 504, 505, 506, 507, 508, 509, 510, 511, 512, 513, 514, 523] (by decide +kernel) (by decide +kernel)
set_option maxRecDepth 20000 in
theorem gL_law_L_sets : GoodIn wsL_law (va_wsS RL 106 yL_sets wsL_sets) := goodIn_app (goodIn_of _ (by decide +kernel)) ggL_law_L_sets
set_option maxRecDepth 20000 in
theorem ggL_law_L_setsRing : GoodIn wsL_law wsL_setsRing := goodIn_r _ [367, 368, 369, 101, 370, 371, 372, 373, 2, 374, 19, 112, 113, 114, 375, 376, 377, 18, 378, 65, 154, 180, 181, 182, 64, 183, 88, 184, 141, 142, 143, 83, 379, 380, 381, 382, 383, 156, 157, 384, 85, 86, 87, 485, 486, 487, 488, 489, 490, 499, 500, 501, 502, 503, 504, 505, 506, 507, 508, 509, 510, 511, 512, 513, 514, 524, 525] (by decide +kernel) (by decide +kernel)
set_option maxRecDepth 20000 in
theorem gL_law_L_setsRing : GoodIn wsL_law (va_wsS RL 109 yL_setsRing wsL_setsRing) := goodIn_app (goodIn_of _ (by decide +kernel)) ggL_law_L_setsRing
set_option maxRecDepth 20000 in
theorem ggL_law_X8_clearFaults : GoodIn wsL_law wsX8_clearFaults := goodIn_r _ [388, 19, 389, 390, 485, 486, 487, 488, 489, 490, 499, 500, 501, 502, 503, 504, 505, 506, 507, 508, 509, 510, 511, 512, 513, 514] (by decide +kernel) (by decide +kernel)
set_option maxRecDepth 20000 in
theorem gL_law_X8_clearFaults : GoodIn wsL_law (wsV RL 112 RX8 yX8_clearFaults wsX8_clearFaults) := goodIn_app (goodIn_r _ [385, 386, 387, 2] (by decide +kernel) (by decide +kernel)) ggL_law_X8_clearFaults
set_option maxRecDepth 20000 in
theorem ggL_law_X8_unload : GoodIn wsL_law wsX8_unload := goodIn_r _ [394, 19, 111, 115, 116, 117, 36, 118, 119, 120, 395, 231, 232, 233, 485, 486, 487, 488, 489, 490, 499, 500, 501, 502, 503, 504, 505, 506, 507, 508, 509, 510, 511, 512, 513, 514, 519, 520, 521, 522] (by decide +kernel) (by decide +kernel)
set_option maxRecDepth 20000 in
theorem gL_law_X8_unload : GoodIn wsL_law (wsV RL 115 RX8 yX8_unload wsX8_unload) := goodIn_app (goodIn_r _ [391, 392, 393, 2] (by decide +kernel) (by decide +kernel)) ggL_law_X8_unload
set_option maxRecDepth 20000 in
theorem g0L_isRun : GoodIn wsL_law [Cond.code yL_isRun cL_isRun 6 (some .boolean)] := goodIn_r _ [398] (by decide +kernel) (by decide +kernel)
set_option maxRecDepth 20000 in
theorem gL_isRun_r1 : GoodIn wsL_law wsL_isRun_r1 := goodIn_r _ [399, 400, 401, 2, 402, 19, 390, 403, 404, 405, 112, 113, 114, 406, 407, 408, 18, 409, 153, 69, 410, 411, 72, 61] (by decide +kernel) (by decide +kernel)
set_option maxRecDepth 20000 in
theorem gL_isRun_r2 : GoodIn wsL_law wsL_isRun_r2 := goodIn_r _ [412, 413, 65, 162, 163, 414, 415, 416, 417, 418, 419, 420, 421, 422, 423, 424, 168, 169, 170, 60, 171, 78, 425, 426] (by decide +kernel) (by decide +kernel)
