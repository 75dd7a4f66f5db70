set_option maxRecDepth 100000 in
theorem wsL_law_r1_in : ∀ w ∈ wsL_law_r1, w ∈ lw_tbl := fun w h => (goodIn_r wsL_law_r1 [57, 58, 45, 658, 659, 54, 59, 60, 61, 62, 63, 64, 65, 66, 46, 286, 108, 287, 136, 137, 49, 288, 289, 270] (by decide +kernel) (by decide +kernel) w h).1
set_option maxRecDepth 100000 in
theorem wsL_law_r2_in : ∀ w ∈ wsL_law_r2, w ∈ lw_tbl := fun w h => (goodIn_r wsL_law_r2 [271, 53, 290, 291, 67, 68, 69, 70, 71, 72, 47, 107, 87, 88, 48, 109, 106, 115, 116, 73, 74, 75, 76, 86] (by decide +kernel) (by decide +kernel) w h).1
set_option maxRecDepth 100000 in
theorem wsL_law_r3_in : ∀ w ∈ wsL_law_r3, w ∈ lw_tbl := fun w h => (goodIn_r wsL_law_r3 [77, 89, 90, 91, 92, 93, 94, 138, 139, 140, 141, 142, 213, 144, 145, 50, 215, 154, 155, 51, 217, 173, 174, 52] (by decide +kernel) (by decide +kernel) w h).1
set_option maxRecDepth 100000 in
theorem wsL_law_r4_in : ∀ w ∈ wsL_law_r4, w ∈ lw_tbl := fun w h => (goodIn_r wsL_law_r4 [219, 221, 212, 222, 143, 146, 147, 148, 149, 150, 156, 157, 158, 159, 164, 160, 161, 162, 163, 165, 176, 177, 178, 272] (by decide +kernel) (by decide +kernel) w h).1
set_option maxRecDepth 100000 in
theorem wsL_law_r5_in : ∀ w ∈ wsL_law_r5, w ∈ lw_tbl := fun w h => (goodIn_r wsL_law_r5 [273, 274, 275, 276, 278, 277, 660, 661, 662, 663, 665, 666, 667, 738, 668, 664, 669, 673, 677, 678, 680, 681, 305, 306] (by decide +kernel) (by decide +kernel) w h).1
set_option maxRecDepth 100000 in
theorem wsL_law_r6_in : ∀ w ∈ wsL_law_r6, w ∈ lw_tbl := fun w h => (goodIn_r wsL_law_r6 [307, 308, 79, 309, 310, 311, 312, 313, 314, 315, 78, 739, 740, 741, 742, 674, 743, 744, 745, 316, 317, 318, 319, 746] (by decide +kernel) (by decide +kernel) w h).1
set_option maxRecDepth 100000 in
theorem wsL_law_r7_in : ∀ w ∈ wsL_law_r7, w ∈ lw_tbl := fun w h => (goodIn_r wsL_law_r7 [747, 748, 749, 320, 321, 322, 323, 114, 112, 214, 110, 324, 325, 326, 327, 111, 113, 117, 118, 80, 328, 329, 330, 331] (by decide +kernel) (by decide +kernel) w h).1
set_option maxRecDepth 100000 in
theorem wsL_law_r8_in : ∀ w ∈ wsL_law_r8, w ∈ lw_tbl := fun w h => (goodIn_r wsL_law_r8 [95, 96, 332, 334, 0, 335, 336, 337, 338, 339, 340, 342, 1, 343, 344, 346, 2, 347, 348, 349, 350, 351, 352, 353] (by decide +kernel) (by decide +kernel) w h).1
set_option maxRecDepth 100000 in
theorem wsL_law_r9_in : ∀ w ∈ wsL_law_r9, w ∈ lw_tbl := fun w h => (goodIn_r wsL_law_r9 [354, 355, 356, 357, 358, 359, 360, 361, 362, 363, 364, 366, 3, 367, 368, 370, 4, 371, 373, 375, 5, 376, 377, 379] (by decide +kernel) (by decide +kernel) w h).1
set_option maxRecDepth 100000 in
theorem wsL_law_r10_in : ∀ w ∈ wsL_law_r10, w ∈ lw_tbl := fun w h => (goodIn_r wsL_law_r10 [6, 380, 381, 383, 7, 384, 385, 387, 8, 388, 389, 390, 391, 392, 393, 394, 395, 396, 397, 399, 9, 400, 401, 402] (by decide +kernel) (by decide +kernel) w h).1
set_option maxRecDepth 100000 in
theorem wsL_law_r11_in : ∀ w ∈ wsL_law_r11, w ∈ lw_tbl := fun w h => (goodIn_r wsL_law_r11 [403, 404, 405, 750, 751, 752, 753, 676, 679, 754, 756, 20, 757, 675, 682, 758, 760, 21, 761, 762, 764, 22, 765, 766] (by decide +kernel) (by decide +kernel) w h).1
set_option maxRecDepth 100000 in
theorem wsL_law_r12_in : ∀ w ∈ wsL_law_r12, w ∈ lw_tbl := fun w h => (goodIn_r wsL_law_r12 [768, 23, 769, 770, 772, 24, 773, 774, 776, 25, 777, 778, 780, 26, 781, 782, 784, 27, 785, 786, 787, 788, 789, 791] (by decide +kernel) (by decide +kernel) w h).1
set_option maxRecDepth 100000 in
theorem wsL_law_r13_in : ∀ w ∈ wsL_law_r13, w ∈ lw_tbl := fun w h => (goodIn_r wsL_law_r13 [28, 792, 406, 407, 408, 409, 410, 793, 794, 795, 796, 411, 412, 413, 414, 415, 416, 417, 418, 419, 420, 797, 798, 799] (by decide +kernel) (by decide +kernel) w h).1
set_option maxRecDepth 100000 in
theorem wsL_law_r14_in : ∀ w ∈ wsL_law_r14, w ∈ lw_tbl := fun w h => (goodIn_r wsL_law_r14 [800, 801, 803, 29, 804, 421, 422, 423, 424, 216, 425, 426, 427, 428, 430, 431, 432, 433, 434, 436, 437, 438, 439, 440] (by decide +kernel) (by decide +kernel) w h).1
set_option maxRecDepth 100000 in
theorem wsL_law_r15_in : ∀ w ∈ wsL_law_r15, w ∈ lw_tbl := fun w h => (goodIn_r wsL_law_r15 [442, 443, 444, 445, 446, 447, 448, 449, 805, 806, 807, 808, 809, 810, 811, 812, 813, 814, 450, 451, 452, 453, 223, 458] (by decide +kernel) (by decide +kernel) w h).1
set_option maxRecDepth 100000 in
theorem wsL_law_r16_in : ∀ w ∈ wsL_law_r16, w ∈ lw_tbl := fun w h => (goodIn_r wsL_law_r16 [454, 455, 456, 457, 815, 816, 817, 818, 829, 819, 820, 55, 821, 825, 827, 826, 55, 828, 822, 823, 824, 459, 460, 461] (by decide +kernel) (by decide +kernel) w h).1
set_option maxRecDepth 100000 in
theorem wsL_law_r17_in : ∀ w ∈ wsL_law_r17, w ∈ lw_tbl := fun w h => (goodIn_r wsL_law_r17 [462, 463, 464, 465, 466, 166, 467, 468, 469, 470, 471, 472, 473, 474, 475, 476, 478, 10, 479, 230, 231, 480, 830, 831] (by decide +kernel) (by decide +kernel) w h).1
set_option maxRecDepth 100000 in
theorem wsL_law_r18_in : ∀ w ∈ wsL_law_r18, w ∈ lw_tbl := fun w h => (goodIn_r wsL_law_r18 [832, 833, 834, 836, 30, 837, 481, 482, 483, 484, 228, 485, 486, 487, 488, 489, 490, 491, 224, 188, 180, 194, 192, 225] (by decide +kernel) (by decide +kernel) w h).1
set_option maxRecDepth 100000 in
theorem wsL_law_r19_in : ∀ w ∈ wsL_law_r19, w ∈ lw_tbl := fun w h => (goodIn_r wsL_law_r19 [227, 492, 494, 11, 495, 497, 498, 56, 499, 500, 501, 502, 496, 503, 504, 505, 506, 179, 181, 183, 185, 187, 190, 507] (by decide +kernel) (by decide +kernel) w h).1
set_option maxRecDepth 100000 in
theorem wsL_law_r20_in : ∀ w ∈ wsL_law_r20, w ∈ lw_tbl := fun w h => (goodIn_r wsL_law_r20 [509, 12, 510, 186, 511, 512, 513, 514, 515, 516, 517, 518, 520, 13, 521, 522, 523, 524, 525, 526, 528, 14, 529, 184] (by decide +kernel) (by decide +kernel) w h).1
set_option maxRecDepth 100000 in
theorem wsL_law_r21_in : ∀ w ∈ wsL_law_r21, w ∈ lw_tbl := fun w h => (goodIn_r wsL_law_r21 [182, 530, 531, 532, 533, 535, 15, 536, 229, 232, 233, 235, 236, 537, 539, 16, 540, 541, 542, 543, 544, 545, 546, 547] (by decide +kernel) (by decide +kernel) w h).1
set_option maxRecDepth 100000 in
theorem wsL_law_r22_in : ∀ w ∈ wsL_law_r22, w ∈ lw_tbl := fun w h => (goodIn_r wsL_law_r22 [548, 549, 551, 17, 552, 838, 839, 840, 841, 842, 844, 31, 845, 687, 683, 858, 685, 686, 684, 846, 848, 32, 849, 850] (by decide +kernel) (by decide +kernel) w h).1
set_option maxRecDepth 100000 in
theorem wsL_law_r23_in : ∀ w ∈ wsL_law_r23, w ∈ lw_tbl := fun w h => (goodIn_r wsL_law_r23 [852, 33, 853, 854, 856, 34, 857, 859, 861, 35, 862, 553, 554, 555, 556, 226, 863, 864, 865, 866, 557, 558, 559, 560] (by decide +kernel) (by decide +kernel) w h).1
set_option maxRecDepth 100000 in
theorem wsL_law_r24_in : ∀ w ∈ wsL_law_r24, w ∈ lw_tbl := fun w h => (goodIn_r wsL_law_r24 [220, 189, 561, 562, 563, 564, 191, 867, 868, 869, 870, 565, 566, 567, 568, 218, 167, 569, 871, 872, 873, 874, 570, 571] (by decide +kernel) (by decide +kernel) w h).1
set_option maxRecDepth 100000 in
theorem wsL_law_r25_in : ∀ w ∈ wsL_law_r25, w ∈ lw_tbl := fun w h => (goodIn_r wsL_law_r25 [572, 573, 875, 876, 877, 878, 574, 575, 576, 577, 234, 578, 579, 580, 581, 582, 583, 584, 585, 586, 587, 588, 589, 590] (by decide +kernel) (by decide +kernel) w h).1
set_option maxRecDepth 100000 in
theorem wsL_law_r26_in : ∀ w ∈ wsL_law_r26, w ∈ lw_tbl := fun w h => (goodIn_r wsL_law_r26 [591, 592, 593, 594, 595, 596, 597, 598, 599, 193, 600, 601, 602, 603, 604, 605, 606, 607, 608, 609, 879, 880, 881, 882] (by decide +kernel) (by decide +kernel) w h).1
set_option maxRecDepth 100000 in
theorem wsL_law_r27_in : ∀ w ∈ wsL_law_r27, w ∈ lw_tbl := fun w h => (goodIn_r wsL_law_r27 [883, 885, 36, 886, 887, 889, 37, 890, 670, 891, 893, 38, 894, 895, 897, 39, 898, 610, 611, 612, 613, 614, 615, 616] (by decide +kernel) (by decide +kernel) w h).1
set_option maxRecDepth 100000 in
theorem wsL_law_r28_in : ∀ w ∈ wsL_law_r28, w ∈ lw_tbl := fun w h => (goodIn_r wsL_law_r28 [618, 18, 619, 899, 900, 901, 902, 620, 621, 622, 623, 279, 280, 624, 626, 19, 627, 903, 904, 905, 906, 671, 672, 628] (by decide +kernel) (by decide +kernel) w h).1
set_option maxRecDepth 100000 in
theorem wsL_law_r29_in : ∀ w ∈ wsL_law_r29, w ∈ lw_tbl := fun w h => (goodIn_r wsL_law_r29 [629, 630, 631, 907, 908, 909, 910, 632, 633, 634, 635, 636, 637, 638, 639, 640, 641, 642, 643, 644, 911, 912, 913, 914] (by decide +kernel) (by decide +kernel) w h).1
set_option maxRecDepth 100000 in
theorem wsL_law_r30_in : ∀ w ∈ wsL_law_r30, w ∈ lw_tbl := fun w h => (goodIn_r wsL_law_r30 [915, 917, 40, 918, 919, 921, 41, 922, 923, 925, 42, 926, 645, 646, 647, 648, 649, 650, 651, 652, 653, 654, 655, 656] (by decide +kernel) (by decide +kernel) w h).1
set_option maxRecDepth 100000 in
theorem wsL_law_r31_in : ∀ w ∈ wsL_law_r31, w ∈ lw_tbl := fun w h => (goodIn_r wsL_law_r31 [657, 927, 928, 929, 930, 931, 688, 932, 934, 43, 935, 936, 937, 938, 939] (by decide +kernel) (by decide +kernel) w h).1
set_option maxRecDepth 100000 in
theorem inX0 : ∀ w ∈ wsX00, w ∈ lw_tbl := fun w h => (goodIn_r wsX00 [195, 197, 199, 201, 203, 205, 207, 209] (by decide +kernel) (by decide +kernel) w h).1
set_option maxRecDepth 100000 in
theorem inX1 : ∀ w ∈ wsX10, w ∈ lw_tbl := fun w h => (goodIn_r wsX10 [97, 99, 101, 103] (by decide +kernel) (by decide +kernel) w h).1
set_option maxRecDepth 100000 in
theorem inX2 : ∀ w ∈ wsX20, w ∈ lw_tbl := fun w h => (goodIn_r wsX20 [237, 239, 241, 243, 245, 247, 249, 251, 253, 255, 257, 259, 261, 263, 265, 267] (by decide +kernel) (by decide +kernel) w h).1
set_option maxRecDepth 100000 in
theorem inX3 : ∀ w ∈ wsX30, w ∈ lw_tbl := fun w h => (goodIn_r wsX30 [119, 121, 123, 125, 127, 129, 131, 133] (by decide +kernel) (by decide +kernel) w h).1
set_option maxRecDepth 100000 in
theorem inX4 : ∀ w ∈ wsX40, w ∈ lw_tbl := fun w h => (goodIn_r wsX40 [168, 170] (by decide +kernel) (by decide +kernel) w h).1
set_option maxRecDepth 100000 in
theorem inX5 : ∀ w ∈ wsX50, w ∈ lw_tbl := fun w h => (goodIn_r wsX50 [151] (by decide +kernel) (by decide +kernel) w h).1
set_option maxRecDepth 100000 in
theorem inX6 : ∀ w ∈ wsX60, w ∈ lw_tbl := fun w h => (goodIn_r wsX60 [281, 283] (by decide +kernel) (by decide +kernel) w h).1
set_option maxRecDepth 100000 in
theorem inX7 : ∀ w ∈ wsX70, w ∈ lw_tbl := fun w h => (goodIn_r wsX70 [81, 83] (by decide +kernel) (by decide +kernel) w h).1
set_option maxRecDepth 100000 in
theorem inX8 : ∀ w ∈ wsX80, w ∈ lw_tbl := fun w h => (goodIn_r wsX80 [292, 294, 296, 298, 300, 302] (by decide +kernel) (by decide +kernel) w h).1
set_option maxRecDepth 100000 in
theorem inX9 : ∀ w ∈ wsX90, w ∈ lw_tbl := fun w h => (goodIn_r wsX90 [689, 691, 693, 695, 697, 699, 701, 703, 705, 707, 709, 711, 713, 715, 717, 719, 721, 723, 725, 727, 729, 731, 733, 735] (by decide +kernel) (by decide +kernel) w h).1
set_option maxRecDepth 100000 in
theorem wsL_law_in : ∀ w ∈ wsL_law, w ∈ lw_tbl := fun w h => (fun h => (List.mem_append.mp h).elim (fun h => (List.mem_append.mp h).elim (fun h => (List.mem_append.mp h).elim (fun h => (List.mem_append.mp h).elim (fun h => (List.mem_append.mp h).elim (fun h => (List.mem_append.mp h).elim (fun h => (List.mem_append.mp h).elim (fun h => (List.mem_append.mp h).elim (fun h => (List.mem_append.mp h).elim (fun h => (List.mem_append.mp h).elim (fun h => (List.mem_append.mp h).elim (wsL_law_r1_in w) (fun h => (List.mem_append.mp h).elim (wsL_law_r2_in w) (fun h => (List.mem_append.mp h).elim (wsL_law_r3_in w) (fun h => (List.mem_append.mp h).elim (wsL_law_r4_in w) (fun h => (List.mem_append.mp h).elim (wsL_law_r5_in w) (fun h => (List.mem_append.mp h).elim (wsL_law_r6_in w) (fun h => (List.mem_append.mp h).elim (wsL_law_r7_in w) (fun h => (List.mem_append.mp h).elim (wsL_law_r8_in w) (fun h => (List.mem_append.mp h).elim (wsL_law_r9_in w) (fun h => (List.mem_append.mp h).elim (wsL_law_r10_in w) (fun h => (List.mem_append.mp h).elim (wsL_law_r11_in w) (fun h => (List.mem_append.mp h).elim (wsL_law_r12_in w) (fun h => (List.mem_append.mp h).elim (wsL_law_r13_in w) (fun h => (List.mem_append.mp h).elim (wsL_law_r14_in w) (fun h => (List.mem_append.mp h).elim (wsL_law_r15_in w) (fun h => (List.mem_append.mp h).elim (wsL_law_r16_in w) (fun h => (List.mem_append.mp h).elim (wsL_law_r17_in w) (fun h => (List.mem_append.mp h).elim (wsL_law_r18_in w) (fun h => (List.mem_append.mp h).elim (wsL_law_r19_in w) (fun h => (List.mem_append.mp h).elim (wsL_law_r20_in w) (fun h => (List.mem_append.mp h).elim (wsL_law_r21_in w) (fun h => (List.mem_append.mp h).elim (wsL_law_r22_in w) (fun h => (List.mem_append.mp h).elim (wsL_law_r23_in w) (fun h => (List.mem_append.mp h).elim (wsL_law_r24_in w) (fun h => (List.mem_append.mp h).elim (wsL_law_r25_in w) (fun h => (List.mem_append.mp h).elim (wsL_law_r26_in w) (fun h => (List.mem_append.mp h).elim (wsL_law_r27_in w) (fun h => (List.mem_append.mp h).elim (wsL_law_r28_in w) (fun h => (List.mem_append.mp h).elim (wsL_law_r29_in w) (fun h => (List.mem_append.mp h).elim (wsL_law_r30_in w) (wsL_law_r31_in w))))))))))))))))))))))))))))))) (inX8 w)) (inX9 w)) (inX3 w)) (inX2 w)) (inX6 w)) (inX7 w)) (inX1 w)) (inX5 w)) (inX4 w)) (inX0 w)) h
theorem inlX0 : ∀ w ∈ wsX00, w ∈ wsL_law := fun _ h => List.mem_append_left _ (List.mem_append_right _ h)
theorem inlX1 : ∀ w ∈ wsX10, w ∈ wsL_law := fun _ h => List.mem_append_left _ (List.mem_append_left _ (List.mem_append_left _ (List.mem_append_left _ (List.mem_append_right _ h))))
theorem inlX2 : ∀ w ∈ wsX20, w ∈ wsL_law := fun _ h => List.mem_append_left _ (List.mem_append_left _ (List.mem_append_left _ (List.mem_append_left _ (List.mem_append_left _ (List.mem_append_left _ (List.mem_append_left _ (List.mem_append_right _ h)))))))
theorem inlX3 : ∀ w ∈ wsX30, w ∈ wsL_law := fun _ h => List.mem_append_left _ (List.mem_append_left _ (List.mem_append_left _ (List.mem_append_left _ (List.mem_append_left _ (List.mem_append_left _ (List.mem_append_left _ (List.mem_append_left _ (List.mem_append_right _ h))))))))
theorem inlX4 : ∀ w ∈ wsX40, w ∈ wsL_law := fun _ h => List.mem_append_left _ (List.mem_append_left _ (List.mem_append_right _ h))
theorem inlX5 : ∀ w ∈ wsX50, w ∈ wsL_law := fun _ h => List.mem_append_left _ (List.mem_append_left _ (List.mem_append_left _ (List.mem_append_right _ h)))
theorem inlX6 : ∀ w ∈ wsX60, w ∈ wsL_law := fun _ h => List.mem_append_left _ (List.mem_append_left _ (List.mem_append_left _ (List.mem_append_left _ (List.mem_append_left _ (List.mem_append_left _ (List.mem_append_right _ h))))))
theorem inlX7 : ∀ w ∈ wsX70, w ∈ wsL_law := fun _ h => List.mem_append_left _ (List.mem_append_left _ (List.mem_append_left _ (List.mem_append_left _ (List.mem_append_left _ (List.mem_append_right _ h)))))
theorem inlX8 : ∀ w ∈ wsX80, w ∈ wsL_law := fun _ h => List.mem_append_left _ (List.mem_append_left _ (List.mem_append_left _ (List.mem_append_left _ (List.mem_append_left _ (List.mem_append_left _ (List.mem_append_left _ (List.mem_append_left _ (List.mem_append_left _ (List.mem_append_left _ (List.mem_append_right _ h))))))))))
theorem inlX9 : ∀ w ∈ wsX90, w ∈ wsL_law := fun _ h => List.mem_append_left _ (List.mem_append_left _ (List.mem_append_left _ (List.mem_append_left _ (List.mem_append_left _ (List.mem_append_left _ (List.mem_append_left _ (List.mem_append_left _ (List.mem_append_left _ (List.mem_append_right _ h)))))))))
theorem inJxf58ca : ∀ w ∈ wsJxf58ca0, w ∈ lw_tbl := by decide +kernel
theorem inJ9 : ∀ w ∈ wsJ90, w ∈ lw_tbl := by decide +kernel
theorem dX0_init_0 : decode cX0_init 0 = .ok (.aload_n 0, 1) := by decide +kernel
theorem dX0_init_1 : decode cX0_init 1 = .ok (.invokespecial 3, 3) := by decide +kernel
theorem dX0_init_4 : decode cX0_init 4 = .ok (.return_, 1) := by decide +kernel
theorem dX0_begin_0 : decode cX0_begin 0 = .ok (.aload_n 0, 1) := by decide +kernel
theorem dX0_begin_1 : decode cX0_begin 1 = .ok (.iconst 0, 1) := by decide +kernel
theorem dX0_begin_2 : decode cX0_begin 2 = .ok (.putfield 9, 3) := by decide +kernel
theorem dX0_begin_5 : decode cX0_begin 5 = .ok (.aload_n 0, 1) := by decide +kernel
theorem dX0_begin_6 : decode cX0_begin 6 = .ok (.iconst 0, 1) := by decide +kernel
theorem dX0_begin_7 : decode cX0_begin 7 = .ok (.putfield 15, 3) := by decide +kernel
theorem dX0_begin_10 : decode cX0_begin 10 = .ok (.aload_n 0, 1) := by decide +kernel
theorem dX0_begin_11 : decode cX0_begin 11 = .ok (.iconst 0, 1) := by decide +kernel
theorem dX0_begin_12 : decode cX0_begin 12 = .ok (.putfield 18, 3) := by decide +kernel
theorem dX0_begin_15 : decode cX0_begin 15 = .ok (.aload_n 0, 1) := by decide +kernel
theorem dX0_begin_16 : decode cX0_begin 16 = .ok (.iconst 0, 1) := by decide +kernel
theorem dX0_begin_17 : decode cX0_begin 17 = .ok (.putfield 21, 3) := by decide +kernel
theorem dX0_begin_20 : decode cX0_begin 20 = .ok (.aload_n 0, 1) := by decide +kernel
theorem dX0_begin_21 : decode cX0_begin 21 = .ok (.iconst 0, 1) := by decide +kernel
theorem dX0_begin_22 : decode cX0_begin 22 = .ok (.putfield 24, 3) := by decide +kernel
theorem dX0_begin_25 : decode cX0_begin 25 = .ok (.aload_n 0, 1) := by decide +kernel
theorem dX0_begin_26 : decode cX0_begin 26 = .ok (.iload_n 1, 1) := by decide +kernel
theorem dX0_begin_27 : decode cX0_begin 27 = .ok (.putfield 27, 3) := by decide +kernel
theorem dX0_begin_30 : decode cX0_begin 30 = .ok (.return_, 1) := by decide +kernel
theorem dX0_take_0 : decode cX0_take 0 = .ok (.aload_n 0, 1) := by decide +kernel
theorem dX0_take_1 : decode cX0_take 1 = .ok (.dup, 1) := by decide +kernel
theorem dX0_take_2 : decode cX0_take 2 = .ok (.getfield 21, 3) := by decide +kernel
theorem dX0_take_5 : decode cX0_take 5 = .ok (.iconst 1, 1) := by decide +kernel
theorem dX0_take_6 : decode cX0_take 6 = .ok (.iadd, 1) := by decide +kernel
theorem dX0_take_7 : decode cX0_take 7 = .ok (.putfield 21, 3) := by decide +kernel
theorem dX0_take_10 : decode cX0_take 10 = .ok (.aload_n 0, 1) := by decide +kernel
theorem dX0_take_11 : decode cX0_take 11 = .ok (.dup, 1) := by decide +kernel
theorem dX0_take_12 : decode cX0_take 12 = .ok (.getfield 9, 3) := by decide +kernel
theorem dX0_take_15 : decode cX0_take 15 = .ok (.iload_n 2, 1) := by decide +kernel
theorem dX0_take_16 : decode cX0_take 16 = .ok (.iadd, 1) := by decide +kernel
theorem dX0_take_17 : decode cX0_take 17 = .ok (.putfield 9, 3) := by decide +kernel
theorem dX0_take_20 : decode cX0_take 20 = .ok (.iload_n 1, 1) := by decide +kernel
theorem dX0_take_21 : decode cX0_take 21 = .ok (.ifCond .ne 13, 3) := by decide +kernel
theorem dX0_take_24 : decode cX0_take 24 = .ok (.aload_n 0, 1) := by decide +kernel
theorem dX0_take_25 : decode cX0_take 25 = .ok (.dup, 1) := by decide +kernel
theorem dX0_take_26 : decode cX0_take 26 = .ok (.getfield 15, 3) := by decide +kernel
theorem dX0_take_29 : decode cX0_take 29 = .ok (.iconst 1, 1) := by decide +kernel
theorem dX0_take_30 : decode cX0_take 30 = .ok (.iadd, 1) := by decide +kernel
theorem dX0_take_31 : decode cX0_take 31 = .ok (.putfield 15, 3) := by decide +kernel
theorem dX0_take_34 : decode cX0_take 34 = .ok (.iload_n 1, 1) := by decide +kernel
theorem dX0_take_35 : decode cX0_take 35 = .ok (.iconst 3, 1) := by decide +kernel
theorem dX0_take_36 : decode cX0_take 36 = .ok (.if_icmp .ne 13, 3) := by decide +kernel
theorem dX0_take_39 : decode cX0_take 39 = .ok (.aload_n 0, 1) := by decide +kernel
theorem dX0_take_40 : decode cX0_take 40 = .ok (.dup, 1) := by decide +kernel
theorem dX0_take_41 : decode cX0_take 41 = .ok (.getfield 18, 3) := by decide +kernel
theorem dX0_take_44 : decode cX0_take 44 = .ok (.iconst 1, 1) := by decide +kernel
theorem dX0_take_45 : decode cX0_take 45 = .ok (.iadd, 1) := by decide +kernel
theorem dX0_take_46 : decode cX0_take 46 = .ok (.putfield 18, 3) := by decide +kernel
theorem dX0_take_49 : decode cX0_take 49 = .ok (.return_, 1) := by decide +kernel
theorem dX0_number_0 : decode cX0_number 0 = .ok (.iload_n 1, 1) := by decide +kernel
theorem dX0_number_1 : decode cX0_number 1 = .ok (.tableswitch 60 0 4 #[35, 40, 45, 50, 55], 35) := by decide +kernel
theorem dX0_number_36 : decode cX0_number 36 = .ok (.aload_n 0, 1) := by decide +kernel
theorem dX0_number_37 : decode cX0_number 37 = .ok (.getfield 9, 3) := by decide +kernel
theorem dX0_number_40 : decode cX0_number 40 = .ok (.ireturn, 1) := by decide +kernel
theorem dX0_number_41 : decode cX0_number 41 = .ok (.aload_n 0, 1) := by decide +kernel
theorem dX0_number_42 : decode cX0_number 42 = .ok (.getfield 15, 3) := by decide +kernel
theorem dX0_number_45 : decode cX0_number 45 = .ok (.ireturn, 1) := by decide +kernel
theorem dX0_number_46 : decode cX0_number 46 = .ok (.aload_n 0, 1) := by decide +kernel
theorem dX0_number_47 : decode cX0_number 47 = .ok (.getfield 30, 3) := by decide +kernel
theorem dX0_number_50 : decode cX0_number 50 = .ok (.ireturn, 1) := by decide +kernel
theorem dX0_number_51 : decode cX0_number 51 = .ok (.aload_n 0, 1) := by decide +kernel
theorem dX0_number_52 : decode cX0_number 52 = .ok (.getfield 27, 3) := by decide +kernel
theorem dX0_number_55 : decode cX0_number 55 = .ok (.ireturn, 1) := by decide +kernel
theorem dX0_number_56 : decode cX0_number 56 = .ok (.aload_n 0, 1) := by decide +kernel
theorem dX0_number_57 : decode cX0_number 57 = .ok (.getfield 21, 3) := by decide +kernel
theorem dX0_number_60 : decode cX0_number 60 = .ok (.ireturn, 1) := by decide +kernel
theorem dX0_number_61 : decode cX0_number 61 = .ok (.aload_n 0, 1) := by decide +kernel
theorem dX0_number_62 : decode cX0_number 62 = .ok (.getfield 24, 3) := by decide +kernel
theorem dX0_number_65 : decode cX0_number 65 = .ok (.ireturn, 1) := by decide +kernel
theorem dX0_copyFrom_0 : decode cX0_copyFrom 0 = .ok (.aload_n 0, 1) := by decide +kernel
theorem dX0_copyFrom_1 : decode cX0_copyFrom 1 = .ok (.aload_n 1, 1) := by decide +kernel
theorem dX0_copyFrom_2 : decode cX0_copyFrom 2 = .ok (.getfield 9, 3) := by decide +kernel
theorem dX0_copyFrom_5 : decode cX0_copyFrom 5 = .ok (.putfield 9, 3) := by decide +kernel
theorem dX0_copyFrom_8 : decode cX0_copyFrom 8 = .ok (.aload_n 0, 1) := by decide +kernel
theorem dX0_copyFrom_9 : decode cX0_copyFrom 9 = .ok (.aload_n 1, 1) := by decide +kernel
theorem dX0_copyFrom_10 : decode cX0_copyFrom 10 = .ok (.getfield 15, 3) := by decide +kernel
theorem dX0_copyFrom_13 : decode cX0_copyFrom 13 = .ok (.putfield 15, 3) := by decide +kernel
theorem dX0_copyFrom_16 : decode cX0_copyFrom 16 = .ok (.aload_n 0, 1) := by decide +kernel
theorem dX0_copyFrom_17 : decode cX0_copyFrom 17 = .ok (.aload_n 1, 1) := by decide +kernel
theorem dX0_copyFrom_18 : decode cX0_copyFrom 18 = .ok (.getfield 18, 3) := by decide +kernel
theorem dX0_copyFrom_21 : decode cX0_copyFrom 21 = .ok (.putfield 18, 3) := by decide +kernel
theorem dX0_copyFrom_24 : decode cX0_copyFrom 24 = .ok (.aload_n 0, 1) := by decide +kernel
theorem dX0_copyFrom_25 : decode cX0_copyFrom 25 = .ok (.aload_n 1, 1) := by decide +kernel
theorem dX0_copyFrom_26 : decode cX0_copyFrom 26 = .ok (.getfield 21, 3) := by decide +kernel
theorem dX0_copyFrom_29 : decode cX0_copyFrom 29 = .ok (.putfield 21, 3) := by decide +kernel
theorem dX0_copyFrom_32 : decode cX0_copyFrom 32 = .ok (.aload_n 0, 1) := by decide +kernel
theorem dX0_copyFrom_33 : decode cX0_copyFrom 33 = .ok (.aload_n 1, 1) := by decide +kernel
theorem dX0_copyFrom_34 : decode cX0_copyFrom 34 = .ok (.getfield 24, 3) := by decide +kernel
theorem dX0_copyFrom_37 : decode cX0_copyFrom 37 = .ok (.putfield 24, 3) := by decide +kernel
theorem dX0_copyFrom_40 : decode cX0_copyFrom 40 = .ok (.aload_n 0, 1) := by decide +kernel
theorem dX0_copyFrom_41 : decode cX0_copyFrom 41 = .ok (.aload_n 1, 1) := by decide +kernel
theorem dX0_copyFrom_42 : decode cX0_copyFrom 42 = .ok (.getfield 27, 3) := by decide +kernel
theorem dX0_copyFrom_45 : decode cX0_copyFrom 45 = .ok (.putfield 27, 3) := by decide +kernel
theorem dX0_copyFrom_48 : decode cX0_copyFrom 48 = .ok (.aload_n 0, 1) := by decide +kernel
theorem dX0_copyFrom_49 : decode cX0_copyFrom 49 = .ok (.aload_n 1, 1) := by decide +kernel
theorem dX0_copyFrom_50 : decode cX0_copyFrom 50 = .ok (.getfield 30, 3) := by decide +kernel
theorem dX0_copyFrom_53 : decode cX0_copyFrom 53 = .ok (.putfield 30, 3) := by decide +kernel
theorem dX0_copyFrom_56 : decode cX0_copyFrom 56 = .ok (.aload_n 0, 1) := by decide +kernel
theorem dX0_copyFrom_57 : decode cX0_copyFrom 57 = .ok (.aload_n 1, 1) := by decide +kernel
theorem dX0_copyFrom_58 : decode cX0_copyFrom 58 = .ok (.getfield 33, 3) := by decide +kernel
theorem dX0_copyFrom_61 : decode cX0_copyFrom 61 = .ok (.putfield 33, 3) := by decide +kernel
theorem dX0_copyFrom_64 : decode cX0_copyFrom 64 = .ok (.return_, 1) := by decide +kernel
theorem dX1_init_0 : decode cX1_init 0 = .ok (.aload_n 0, 1) := by decide +kernel
theorem dX1_init_1 : decode cX1_init 1 = .ok (.invokespecial 3, 3) := by decide +kernel
theorem dX1_init_4 : decode cX1_init 4 = .ok (.aload_n 0, 1) := by decide +kernel
theorem dX1_init_5 : decode cX1_init 5 = .ok (.bipush 80, 2) := by decide +kernel
theorem dX1_init_7 : decode cX1_init 7 = .ok (.newarray .int, 2) := by decide +kernel
theorem dX1_init_9 : decode cX1_init 9 = .ok (.putfield 9, 3) := by decide +kernel
theorem dX1_init_12 : decode cX1_init 12 = .ok (.aload_n 0, 1) := by decide +kernel
theorem dX1_init_13 : decode cX1_init 13 = .ok (.bipush 80, 2) := by decide +kernel
theorem dX1_init_15 : decode cX1_init 15 = .ok (.newarray .int, 2) := by decide +kernel
theorem dX1_init_17 : decode cX1_init 17 = .ok (.putfield 15, 3) := by decide +kernel
theorem dX1_init_20 : decode cX1_init 20 = .ok (.return_, 1) := by decide +kernel
theorem dX1_size_0 : decode cX1_size 0 = .ok (.aload_n 0, 1) := by decide +kernel
theorem dX1_size_1 : decode cX1_size 1 = .ok (.getfield 18, 3) := by decide +kernel
theorem dX1_size_4 : decode cX1_size 4 = .ok (.aload_n 0, 1) := by decide +kernel
theorem dX1_size_5 : decode cX1_size 5 = .ok (.getfield 22, 3) := by decide +kernel
theorem dX1_size_8 : decode cX1_size 8 = .ok (.isub, 1) := by decide +kernel
theorem dX1_size_9 : decode cX1_size 9 = .ok (.ireturn, 1) := by decide +kernel
theorem dX1_kindOf_0 : decode cX1_kindOf 0 = .ok (.aload_n 0, 1) := by decide +kernel
theorem dX1_kindOf_1 : decode cX1_kindOf 1 = .ok (.getfield 22, 3) := by decide +kernel
theorem dX1_kindOf_4 : decode cX1_kindOf 4 = .ok (.iload_n 1, 1) := by decide +kernel
theorem dX1_kindOf_5 : decode cX1_kindOf 5 = .ok (.iadd, 1) := by decide +kernel
theorem dX1_kindOf_6 : decode cX1_kindOf 6 = .ok (.istore_n 2, 1) := by decide +kernel
theorem dX1_kindOf_7 : decode cX1_kindOf 7 = .ok (.iload_n 2, 1) := by decide +kernel
theorem dX1_kindOf_8 : decode cX1_kindOf 8 = .ok (.ifCond .lt 21, 3) := by decide +kernel
theorem dX1_kindOf_11 : decode cX1_kindOf 11 = .ok (.iload_n 2, 1) := by decide +kernel
theorem dX1_kindOf_12 : decode cX1_kindOf 12 = .ok (.aload_n 0, 1) := by decide +kernel
theorem dX1_kindOf_13 : decode cX1_kindOf 13 = .ok (.getfield 9, 3) := by decide +kernel
theorem dX1_kindOf_16 : decode cX1_kindOf 16 = .ok (.arraylength, 1) := by decide +kernel
theorem dX1_kindOf_17 : decode cX1_kindOf 17 = .ok (.if_icmp .ge 12, 3) := by decide +kernel
theorem dX1_kindOf_20 : decode cX1_kindOf 20 = .ok (.aload_n 0, 1) := by decide +kernel
theorem dX1_kindOf_21 : decode cX1_kindOf 21 = .ok (.getfield 9, 3) := by decide +kernel
theorem dX1_kindOf_24 : decode cX1_kindOf 24 = .ok (.iload_n 2, 1) := by decide +kernel
theorem dX1_kindOf_25 : decode cX1_kindOf 25 = .ok (.iaload, 1) := by decide +kernel
theorem dX1_kindOf_26 : decode cX1_kindOf 26 = .ok (.goto 4, 3) := by decide +kernel
theorem dX1_kindOf_29 : decode cX1_kindOf 29 = .ok (.iconst (-1), 1) := by decide +kernel
theorem dX1_kindOf_30 : decode cX1_kindOf 30 = .ok (.ireturn, 1) := by decide +kernel
theorem dX1_lengthOf_0 : decode cX1_lengthOf 0 = .ok (.aload_n 0, 1) := by decide +kernel
theorem dX1_lengthOf_1 : decode cX1_lengthOf 1 = .ok (.getfield 22, 3) := by decide +kernel
theorem dX1_lengthOf_4 : decode cX1_lengthOf 4 = .ok (.iload_n 1, 1) := by decide +kernel
theorem dX1_lengthOf_5 : decode cX1_lengthOf 5 = .ok (.iadd, 1) := by decide +kernel
theorem dX1_lengthOf_6 : decode cX1_lengthOf 6 = .ok (.istore_n 2, 1) := by decide +kernel
theorem dX1_lengthOf_7 : decode cX1_lengthOf 7 = .ok (.iload_n 2, 1) := by decide +kernel
theorem dX1_lengthOf_8 : decode cX1_lengthOf 8 = .ok (.ifCond .lt 21, 3) := by decide +kernel
theorem dX1_lengthOf_11 : decode cX1_lengthOf 11 = .ok (.iload_n 2, 1) := by decide +kernel
theorem dX1_lengthOf_12 : decode cX1_lengthOf 12 = .ok (.aload_n 0, 1) := by decide +kernel
theorem dX1_lengthOf_13 : decode cX1_lengthOf 13 = .ok (.getfield 15, 3) := by decide +kernel
theorem dX1_lengthOf_16 : decode cX1_lengthOf 16 = .ok (.arraylength, 1) := by decide +kernel
theorem dX1_lengthOf_17 : decode cX1_lengthOf 17 = .ok (.if_icmp .ge 12, 3) := by decide +kernel
theorem dX1_lengthOf_20 : decode cX1_lengthOf 20 = .ok (.aload_n 0, 1) := by decide +kernel
theorem dX1_lengthOf_21 : decode cX1_lengthOf 21 = .ok (.getfield 15, 3) := by decide +kernel
theorem dX1_lengthOf_24 : decode cX1_lengthOf 24 = .ok (.iload_n 2, 1) := by decide +kernel
theorem dX1_lengthOf_25 : decode cX1_lengthOf 25 = .ok (.iaload, 1) := by decide +kernel
theorem dX1_lengthOf_26 : decode cX1_lengthOf 26 = .ok (.goto 4, 3) := by decide +kernel
theorem dX1_lengthOf_29 : decode cX1_lengthOf 29 = .ok (.iconst 0, 1) := by decide +kernel
theorem dX1_lengthOf_30 : decode cX1_lengthOf 30 = .ok (.ireturn, 1) := by decide +kernel
set_option maxRecDepth 20000 in
theorem ggX1_lengthAhead_X1_lengthOf : GoodIn wsX1_lengthAhead wsX1_lengthOf := goodIn_r _ [5, 6, 7, 8, 9, 10, 11] (by decide +kernel) (by decide +kernel)
set_option maxRecDepth 20000 in
theorem gX1_lengthAhead_X1_lengthOf : GoodIn wsX1_lengthAhead (wsV RX1 25 RX1 yX1_lengthOf wsX1_lengthOf) := goodIn_app (goodIn_of _ (by decide +kernel)) ggX1_lengthAhead_X1_lengthOf
theorem dX1_lengthAhead_0 : decode cX1_lengthAhead 0 = .ok (.iconst 0, 1) := by decide +kernel
theorem dX1_lengthAhead_1 : decode cX1_lengthAhead 1 = .ok (.istore_n 2, 1) := by decide +kernel
theorem dX1_lengthAhead_2 : decode cX1_lengthAhead 2 = .ok (.iconst 0, 1) := by decide +kernel
theorem dX1_lengthAhead_3 : decode cX1_lengthAhead 3 = .ok (.istore_n 3, 1) := by decide +kernel
theorem dX1_lengthAhead_4 : decode cX1_lengthAhead 4 = .ok (.iload_n 3, 1) := by decide +kernel
theorem dX1_lengthAhead_5 : decode cX1_lengthAhead 5 = .ok (.iload_n 1, 1) := by decide +kernel
theorem dX1_lengthAhead_6 : decode cX1_lengthAhead 6 = .ok (.if_icmp .ge 17, 3) := by decide +kernel
theorem dX1_lengthAhead_9 : decode cX1_lengthAhead 9 = .ok (.iload_n 2, 1) := by decide +kernel
theorem dX1_lengthAhead_10 : decode cX1_lengthAhead 10 = .ok (.aload_n 0, 1) := by decide +kernel
theorem dX1_lengthAhead_11 : decode cX1_lengthAhead 11 = .ok (.iload_n 3, 1) := by decide +kernel
theorem dX1_lengthAhead_12 : decode cX1_lengthAhead 12 = .ok (.invokevirtual 25, 3) := by decide +kernel
theorem dX1_lengthAhead_15 : decode cX1_lengthAhead 15 = .ok (.iadd, 1) := by decide +kernel
theorem dX1_lengthAhead_16 : decode cX1_lengthAhead 16 = .ok (.istore_n 2, 1) := by decide +kernel
theorem dX1_lengthAhead_17 : decode cX1_lengthAhead 17 = .ok (.iinc 3 1, 3) := by decide +kernel
theorem dX1_lengthAhead_20 : decode cX1_lengthAhead 20 = .ok (.goto (-16), 3) := by decide +kernel
theorem dX1_lengthAhead_23 : decode cX1_lengthAhead 23 = .ok (.iload_n 2, 1) := by decide +kernel
theorem dX1_lengthAhead_24 : decode cX1_lengthAhead 24 = .ok (.ireturn, 1) := by decide +kernel
set_option maxRecDepth 20000 in
theorem ggX1_labels_X1_size : GoodIn wsX1_labels wsX1_size := goodIn_r _ [5, 6, 7, 13, 14, 15, 16] (by decide +kernel) (by decide +kernel)
set_option maxRecDepth 20000 in
theorem gX1_labels_X1_size : GoodIn wsX1_labels (wsV RX1 29 RX1 yX1_size wsX1_size) := goodIn_app (goodIn_of _ (by decide +kernel)) ggX1_labels_X1_size
set_option maxRecDepth 20000 in
theorem ggX1_labels_X1_kindOf : GoodIn wsX1_labels wsX1_kindOf := goodIn_r _ [11, 7, 12, 13, 14, 15, 16] (by decide +kernel) (by decide +kernel)
set_option maxRecDepth 20000 in
theorem gX1_labels_X1_kindOf : GoodIn wsX1_labels (wsV RX1 33 RX1 yX1_kindOf wsX1_kindOf) := goodIn_app (goodIn_of _ (by decide +kernel)) ggX1_labels_X1_kindOf
theorem dX1_labels_0 : decode cX1_labels 0 = .ok (.iconst 0, 1) := by decide +kernel
theorem dX1_labels_1 : decode cX1_labels 1 = .ok (.istore_n 1, 1) := by decide +kernel
theorem dX1_labels_2 : decode cX1_labels 2 = .ok (.iconst 0, 1) := by decide +kernel
theorem dX1_labels_3 : decode cX1_labels 3 = .ok (.istore_n 2, 1) := by decide +kernel
theorem dX1_labels_4 : decode cX1_labels 4 = .ok (.iload_n 2, 1) := by decide +kernel
theorem dX1_labels_5 : decode cX1_labels 5 = .ok (.aload_n 0, 1) := by decide +kernel
theorem dX1_labels_6 : decode cX1_labels 6 = .ok (.invokevirtual 29, 3) := by decide +kernel
theorem dX1_labels_9 : decode cX1_labels 9 = .ok (.if_icmp .ge 20, 3) := by decide +kernel
theorem dX1_labels_12 : decode cX1_labels 12 = .ok (.aload_n 0, 1) := by decide +kernel
theorem dX1_labels_13 : decode cX1_labels 13 = .ok (.iload_n 2, 1) := by decide +kernel
theorem dX1_labels_14 : decode cX1_labels 14 = .ok (.invokevirtual 33, 3) := by decide +kernel
theorem dX1_labels_17 : decode cX1_labels 17 = .ok (.ifCond .ne 6, 3) := by decide +kernel
theorem dX1_labels_20 : decode cX1_labels 20 = .ok (.iinc 1 1, 3) := by decide +kernel
theorem dX1_labels_23 : decode cX1_labels 23 = .ok (.iinc 2 1, 3) := by decide +kernel
theorem dX1_labels_26 : decode cX1_labels 26 = .ok (.goto (-22), 3) := by decide +kernel
theorem dX1_labels_29 : decode cX1_labels 29 = .ok (.iload_n 1, 1) := by decide +kernel
theorem dX1_labels_30 : decode cX1_labels 30 = .ok (.ireturn, 1) := by decide +kernel
theorem dX1_removeAll_0 : decode cX1_removeAll 0 = .ok (.aload_n 0, 1) := by decide +kernel
theorem dX1_removeAll_1 : decode cX1_removeAll 1 = .ok (.iconst 0, 1) := by decide +kernel
theorem dX1_removeAll_2 : decode cX1_removeAll 2 = .ok (.putfield 22, 3) := by decide +kernel
theorem dX1_removeAll_5 : decode cX1_removeAll 5 = .ok (.aload_n 0, 1) := by decide +kernel
theorem dX1_removeAll_6 : decode cX1_removeAll 6 = .ok (.iconst 0, 1) := by decide +kernel
theorem dX1_removeAll_7 : decode cX1_removeAll 7 = .ok (.putfield 18, 3) := by decide +kernel
theorem dX1_removeAll_10 : decode cX1_removeAll 10 = .ok (.return_, 1) := by decide +kernel
theorem dX1_removeFirst_0 : decode cX1_removeFirst 0 = .ok (.aload_n 0, 1) := by decide +kernel
theorem dX1_removeFirst_1 : decode cX1_removeFirst 1 = .ok (.dup, 1) := by decide +kernel
theorem dX1_removeFirst_2 : decode cX1_removeFirst 2 = .ok (.getfield 22, 3) := by decide +kernel
theorem dX1_removeFirst_5 : decode cX1_removeFirst 5 = .ok (.iload_n 1, 1) := by decide +kernel
theorem dX1_removeFirst_6 : decode cX1_removeFirst 6 = .ok (.iadd, 1) := by decide +kernel
theorem dX1_removeFirst_7 : decode cX1_removeFirst 7 = .ok (.putfield 22, 3) := by decide +kernel
theorem dX1_removeFirst_10 : decode cX1_removeFirst 10 = .ok (.return_, 1) := by decide +kernel
theorem dX1_append_0 : decode cX1_append 0 = .ok (.aload_n 0, 1) := by decide +kernel
theorem dX1_append_1 : decode cX1_append 1 = .ok (.getfield 18, 3) := by decide +kernel
theorem dX1_append_4 : decode cX1_append 4 = .ok (.ifCond .lt 27, 3) := by decide +kernel
theorem dX1_append_7 : decode cX1_append 7 = .ok (.aload_n 0, 1) := by decide +kernel
theorem dX1_append_8 : decode cX1_append 8 = .ok (.getfield 18, 3) := by decide +kernel
theorem dX1_append_11 : decode cX1_append 11 = .ok (.aload_n 0, 1) := by decide +kernel
theorem dX1_append_12 : decode cX1_append 12 = .ok (.getfield 9, 3) := by decide +kernel
theorem dX1_append_15 : decode cX1_append 15 = .ok (.arraylength, 1) := by decide +kernel
theorem dX1_append_16 : decode cX1_append 16 = .ok (.if_icmp .ge 15, 3) := by decide +kernel
theorem dX1_append_19 : decode cX1_append 19 = .ok (.aload_n 0, 1) := by decide +kernel
theorem dX1_append_20 : decode cX1_append 20 = .ok (.getfield 18, 3) := by decide +kernel
theorem dX1_append_23 : decode cX1_append 23 = .ok (.aload_n 0, 1) := by decide +kernel
theorem dX1_append_24 : decode cX1_append 24 = .ok (.getfield 15, 3) := by decide +kernel
theorem dX1_append_27 : decode cX1_append 27 = .ok (.arraylength, 1) := by decide +kernel
theorem dX1_append_28 : decode cX1_append 28 = .ok (.if_icmp .lt 5, 3) := by decide +kernel
theorem dX1_append_31 : decode cX1_append 31 = .ok (.iconst 0, 1) := by decide +kernel
theorem dX1_append_32 : decode cX1_append 32 = .ok (.ireturn, 1) := by decide +kernel
theorem dX1_append_33 : decode cX1_append 33 = .ok (.aload_n 0, 1) := by decide +kernel
theorem dX1_append_34 : decode cX1_append 34 = .ok (.getfield 9, 3) := by decide +kernel
theorem dX1_append_37 : decode cX1_append 37 = .ok (.aload_n 0, 1) := by decide +kernel
theorem dX1_append_38 : decode cX1_append 38 = .ok (.getfield 18, 3) := by decide +kernel
theorem dX1_append_41 : decode cX1_append 41 = .ok (.iload_n 1, 1) := by decide +kernel
theorem dX1_append_42 : decode cX1_append 42 = .ok (.iastore, 1) := by decide +kernel
theorem dX1_append_43 : decode cX1_append 43 = .ok (.aload_n 0, 1) := by decide +kernel
theorem dX1_append_44 : decode cX1_append 44 = .ok (.getfield 15, 3) := by decide +kernel
theorem dX1_append_47 : decode cX1_append 47 = .ok (.aload_n 0, 1) := by decide +kernel
theorem dX1_append_48 : decode cX1_append 48 = .ok (.getfield 18, 3) := by decide +kernel
theorem dX1_append_51 : decode cX1_append 51 = .ok (.iload_n 2, 1) := by decide +kernel
theorem dX1_append_52 : decode cX1_append 52 = .ok (.iastore, 1) := by decide +kernel
theorem dX1_append_53 : decode cX1_append 53 = .ok (.aload_n 0, 1) := by decide +kernel
theorem dX1_append_54 : decode cX1_append 54 = .ok (.dup, 1) := by decide +kernel
theorem dX1_append_55 : decode cX1_append 55 = .ok (.getfield 18, 3) := by decide +kernel
theorem dX1_append_58 : decode cX1_append 58 = .ok (.iconst 1, 1) := by decide +kernel
theorem dX1_append_59 : decode cX1_append 59 = .ok (.iadd, 1) := by decide +kernel
theorem dX1_append_60 : decode cX1_append 60 = .ok (.putfield 18, 3) := by decide +kernel
theorem dX1_append_63 : decode cX1_append 63 = .ok (.iconst 1, 1) := by decide +kernel
theorem dX1_append_64 : decode cX1_append 64 = .ok (.ireturn, 1) := by decide +kernel
set_option maxRecDepth 20000 in
theorem ggX1_appendAll_X1_closeUp : GoodIn wsX1_appendAll wsX1_closeUp := goodIn_r _ [5, 6, 7, 8, 9, 4, 10, 11, 12, 13, 14, 15, 16, 17, 18, 19, 20, 21, 22, 23, 24, 25, 26, 27, 28, 29, 30, 31, 32, 33] (by decide +kernel) (by decide +kernel)
set_option maxRecDepth 20000 in
theorem gX1_appendAll_X1_closeUp : GoodIn wsX1_appendAll (wsV RX1 36 RX1 yX1_closeUp wsX1_closeUp) := goodIn_app (goodIn_of _ (by decide +kernel)) ggX1_appendAll_X1_closeUp
set_option maxRecDepth 20000 in
theorem ggX1_appendAll_X1_size : GoodIn wsX1_appendAll wsX1_size := goodIn_r _ [10, 11, 6, 30, 31, 32, 33] (by decide +kernel) (by decide +kernel)
set_option maxRecDepth 20000 in
theorem gX1_appendAll_X1_size : GoodIn wsX1_appendAll (wsV RX1 29 RX1 yX1_size wsX1_size) := goodIn_app (goodIn_of _ (by decide +kernel)) ggX1_appendAll_X1_size
set_option maxRecDepth 20000 in
theorem ggX1_appendAll_X1_kindOf : GoodIn wsX1_appendAll wsX1_kindOf := goodIn_r _ [19, 6, 20, 30, 31, 32, 33] (by decide +kernel) (by decide +kernel)
set_option maxRecDepth 20000 in
theorem gX1_appendAll_X1_kindOf : GoodIn wsX1_appendAll (wsV RX1 33 RX1 yX1_kindOf wsX1_kindOf) := goodIn_app (goodIn_of _ (by decide +kernel)) ggX1_appendAll_X1_kindOf
set_option maxRecDepth 20000 in
theorem ggX1_appendAll_X1_lengthOf : GoodIn wsX1_appendAll wsX1_lengthOf := goodIn_r _ [24, 6, 25, 30, 31, 32, 33] (by decide +kernel) (by decide +kernel)
set_option maxRecDepth 20000 in
theorem gX1_appendAll_X1_lengthOf : GoodIn wsX1_appendAll (wsV RX1 25 RX1 yX1_lengthOf wsX1_lengthOf) := goodIn_app (goodIn_of _ (by decide +kernel)) ggX1_appendAll_X1_lengthOf
set_option maxRecDepth 20000 in
theorem ggX1_appendAll_X1_append : GoodIn wsX1_appendAll wsX1_append := goodIn_r _ [29, 11, 20, 25, 30, 31, 32, 33] (by decide +kernel) (by decide +kernel)
set_option maxRecDepth 20000 in
theorem gX1_appendAll_X1_append : GoodIn wsX1_appendAll (wsV RX1 39 RX1 yX1_append wsX1_append) := goodIn_app (goodIn_of _ (by decide +kernel)) ggX1_appendAll_X1_append
theorem dX1_appendAll_0 : decode cX1_appendAll 0 = .ok (.aload_n 0, 1) := by decide +kernel
theorem dX1_appendAll_1 : decode cX1_appendAll 1 = .ok (.invokevirtual 36, 3) := by decide +kernel
theorem dX1_appendAll_4 : decode cX1_appendAll 4 = .ok (.iconst 0, 1) := by decide +kernel
theorem dX1_appendAll_5 : decode cX1_appendAll 5 = .ok (.istore_n 2, 1) := by decide +kernel
theorem dX1_appendAll_6 : decode cX1_appendAll 6 = .ok (.iload_n 2, 1) := by decide +kernel
theorem dX1_appendAll_7 : decode cX1_appendAll 7 = .ok (.aload_n 1, 1) := by decide +kernel
theorem dX1_appendAll_8 : decode cX1_appendAll 8 = .ok (.invokevirtual 29, 3) := by decide +kernel
theorem dX1_appendAll_11 : decode cX1_appendAll 11 = .ok (.if_icmp .ge 24, 3) := by decide +kernel
theorem dX1_appendAll_14 : decode cX1_appendAll 14 = .ok (.aload_n 0, 1) := by decide +kernel
theorem dX1_appendAll_15 : decode cX1_appendAll 15 = .ok (.aload_n 1, 1) := by decide +kernel
theorem dX1_appendAll_16 : decode cX1_appendAll 16 = .ok (.iload_n 2, 1) := by decide +kernel
theorem dX1_appendAll_17 : decode cX1_appendAll 17 = .ok (.invokevirtual 33, 3) := by decide +kernel
theorem dX1_appendAll_20 : decode cX1_appendAll 20 = .ok (.aload_n 1, 1) := by decide +kernel
theorem dX1_appendAll_21 : decode cX1_appendAll 21 = .ok (.iload_n 2, 1) := by decide +kernel
theorem dX1_appendAll_22 : decode cX1_appendAll 22 = .ok (.invokevirtual 25, 3) := by decide +kernel
theorem dX1_appendAll_25 : decode cX1_appendAll 25 = .ok (.invokevirtual 39, 3) := by decide +kernel
theorem dX1_appendAll_28 : decode cX1_appendAll 28 = .ok (.pop, 1) := by decide +kernel
theorem dX1_appendAll_29 : decode cX1_appendAll 29 = .ok (.iinc 2 1, 3) := by decide +kernel
theorem dX1_appendAll_32 : decode cX1_appendAll 32 = .ok (.goto (-26), 3) := by decide +kernel
theorem dX1_appendAll_35 : decode cX1_appendAll 35 = .ok (.return_, 1) := by decide +kernel
set_option maxRecDepth 20000 in
theorem ggX1_copyFrom_X1_removeAll : GoodIn wsX1_copyFrom wsX1_removeAll := goodIn_r _ [5, 6, 7, 34, 35, 36, 37] (by decide +kernel) (by decide +kernel)
set_option maxRecDepth 20000 in
theorem gX1_copyFrom_X1_removeAll : GoodIn wsX1_copyFrom (wsV RX1 43 RX1 yX1_removeAll wsX1_removeAll) := goodIn_app (goodIn_of _ (by decide +kernel)) ggX1_copyFrom_X1_removeAll
set_option maxRecDepth 20000 in
theorem ggX1_copyFrom_X1_appendAll : GoodIn wsX1_copyFrom wsX1_appendAll := goodIn_r _ [11, 12, 13, 14, 4, 15, 6, 16, 17, 18, 19, 7, 1, 2, 3, 5, 20, 21, 22, 23, 24, 25, 26, 27, 28, 29, 30, 31, 32, 33, 34, 35, 36, 37] (by decide +kernel) (by decide +kernel)
set_option maxRecDepth 20000 in
theorem gX1_copyFrom_X1_appendAll : GoodIn wsX1_copyFrom (wsV RX1 46 RX1 yX1_appendAll wsX1_appendAll) := goodIn_app (goodIn_of _ (by decide +kernel)) ggX1_copyFrom_X1_appendAll
theorem dX1_copyFrom_0 : decode cX1_copyFrom 0 = .ok (.aload_n 0, 1) := by decide +kernel
theorem dX1_copyFrom_1 : decode cX1_copyFrom 1 = .ok (.invokevirtual 43, 3) := by decide +kernel
theorem dX1_copyFrom_4 : decode cX1_copyFrom 4 = .ok (.aload_n 0, 1) := by decide +kernel
theorem dX1_copyFrom_5 : decode cX1_copyFrom 5 = .ok (.aload_n 1, 1) := by decide +kernel
theorem dX1_copyFrom_6 : decode cX1_copyFrom 6 = .ok (.invokevirtual 46, 3) := by decide +kernel
theorem dX1_copyFrom_9 : decode cX1_copyFrom 9 = .ok (.return_, 1) := by decide +kernel
set_option maxRecDepth 20000 in
theorem ggX1_closeUp_X1_size : GoodIn wsX1_closeUp wsX1_size := goodIn_r _ [6, 7, 1, 26, 27, 28, 29] (by decide +kernel) (by decide +kernel)
set_option maxRecDepth 20000 in
theorem gX1_closeUp_X1_size : GoodIn wsX1_closeUp (wsV RX1 29 RX1 yX1_size wsX1_size) := goodIn_app (goodIn_of _ (by decide +kernel)) ggX1_closeUp_X1_size
set_option maxRecDepth 20000 in
theorem ggX1_closeUp_X1_removeAll : GoodIn wsX1_closeUp wsX1_removeAll := goodIn_r _ [11, 1, 7, 26, 27, 28, 29] (by decide +kernel) (by decide +kernel)
set_option maxRecDepth 20000 in
theorem gX1_closeUp_X1_removeAll : GoodIn wsX1_closeUp (wsV RX1 43 RX1 yX1_removeAll wsX1_removeAll) := goodIn_app (goodIn_of _ (by decide +kernel)) ggX1_closeUp_X1_removeAll
set_option maxRecDepth 20000 in
theorem ggX1_closeUp_X1_kindOf : GoodIn wsX1_closeUp wsX1_kindOf := goodIn_r _ [15, 1, 16, 26, 27, 28, 29] (by decide +kernel) (by decide +kernel)
set_option maxRecDepth 20000 in
theorem gX1_closeUp_X1_kindOf : GoodIn wsX1_closeUp (wsV RX1 33 RX1 yX1_kindOf wsX1_kindOf) := goodIn_app (goodIn_of _ (by decide +kernel)) ggX1_closeUp_X1_kindOf
set_option maxRecDepth 20000 in
theorem ggX1_closeUp_X1_lengthOf : GoodIn wsX1_closeUp wsX1_lengthOf := goodIn_r _ [20, 1, 21, 26, 27, 28, 29] (by decide +kernel) (by decide +kernel)
set_option maxRecDepth 20000 in
theorem gX1_closeUp_X1_lengthOf : GoodIn wsX1_closeUp (wsV RX1 25 RX1 yX1_lengthOf wsX1_lengthOf) := goodIn_app (goodIn_of _ (by decide +kernel)) ggX1_closeUp_X1_lengthOf
set_option maxRecDepth 20000 in
theorem ggX1_closeUp_X1_append : GoodIn wsX1_closeUp wsX1_append := goodIn_r _ [25, 7, 16, 21, 26, 27, 28, 29] (by decide +kernel) (by decide +kernel)
set_option maxRecDepth 20000 in
theorem gX1_closeUp_X1_append : GoodIn wsX1_closeUp (wsV RX1 39 RX1 yX1_append wsX1_append) := goodIn_app (goodIn_of _ (by decide +kernel)) ggX1_closeUp_X1_append
theorem dX1_closeUp_0 : decode cX1_closeUp 0 = .ok (.aload_n 0, 1) := by decide +kernel
theorem dX1_closeUp_1 : decode cX1_closeUp 1 = .ok (.getfield 22, 3) := by decide +kernel
theorem dX1_closeUp_4 : decode cX1_closeUp 4 = .ok (.istore_n 1, 1) := by decide +kernel
theorem dX1_closeUp_5 : decode cX1_closeUp 5 = .ok (.aload_n 0, 1) := by decide +kernel
theorem dX1_closeUp_6 : decode cX1_closeUp 6 = .ok (.invokevirtual 29, 3) := by decide +kernel
theorem dX1_closeUp_9 : decode cX1_closeUp 9 = .ok (.istore_n 2, 1) := by decide +kernel
theorem dX1_closeUp_10 : decode cX1_closeUp 10 = .ok (.aload_n 0, 1) := by decide +kernel
theorem dX1_closeUp_11 : decode cX1_closeUp 11 = .ok (.invokevirtual 43, 3) := by decide +kernel
theorem dX1_closeUp_14 : decode cX1_closeUp 14 = .ok (.iconst 0, 1) := by decide +kernel
theorem dX1_closeUp_15 : decode cX1_closeUp 15 = .ok (.istore_n 3, 1) := by decide +kernel
theorem dX1_closeUp_16 : decode cX1_closeUp 16 = .ok (.iload_n 3, 1) := by decide +kernel
theorem dX1_closeUp_17 : decode cX1_closeUp 17 = .ok (.iload_n 2, 1) := by decide +kernel
theorem dX1_closeUp_18 : decode cX1_closeUp 18 = .ok (.if_icmp .ge 28, 3) := by decide +kernel
theorem dX1_closeUp_21 : decode cX1_closeUp 21 = .ok (.aload_n 0, 1) := by decide +kernel
theorem dX1_closeUp_22 : decode cX1_closeUp 22 = .ok (.aload_n 0, 1) := by decide +kernel
theorem dX1_closeUp_23 : decode cX1_closeUp 23 = .ok (.iload_n 1, 1) := by decide +kernel
theorem dX1_closeUp_24 : decode cX1_closeUp 24 = .ok (.iload_n 3, 1) := by decide +kernel
theorem dX1_closeUp_25 : decode cX1_closeUp 25 = .ok (.iadd, 1) := by decide +kernel
theorem dX1_closeUp_26 : decode cX1_closeUp 26 = .ok (.invokevirtual 33, 3) := by decide +kernel
theorem dX1_closeUp_29 : decode cX1_closeUp 29 = .ok (.aload_n 0, 1) := by decide +kernel
theorem dX1_closeUp_30 : decode cX1_closeUp 30 = .ok (.iload_n 1, 1) := by decide +kernel
theorem dX1_closeUp_31 : decode cX1_closeUp 31 = .ok (.iload_n 3, 1) := by decide +kernel
theorem dX1_closeUp_32 : decode cX1_closeUp 32 = .ok (.iadd, 1) := by decide +kernel
theorem dX1_closeUp_33 : decode cX1_closeUp 33 = .ok (.invokevirtual 25, 3) := by decide +kernel
theorem dX1_closeUp_36 : decode cX1_closeUp 36 = .ok (.invokevirtual 39, 3) := by decide +kernel
theorem dX1_closeUp_39 : decode cX1_closeUp 39 = .ok (.pop, 1) := by decide +kernel
theorem dX1_closeUp_40 : decode cX1_closeUp 40 = .ok (.iinc 3 1, 3) := by decide +kernel
theorem dX1_closeUp_43 : decode cX1_closeUp 43 = .ok (.goto (-27), 3) := by decide +kernel
theorem dX1_closeUp_46 : decode cX1_closeUp 46 = .ok (.return_, 1) := by decide +kernel
set_option maxRecDepth 20000 in
theorem ggX2_init_X1_init : GoodIn wsX2_init wsX1_init := goodIn_r _ [26, 27, 2, 3, 20, 28, 29, 48, 49, 50, 51] (by decide +kernel) (by decide +kernel)
set_option maxRecDepth 20000 in
theorem gX2_init_X1_init : GoodIn wsX2_init (wsX1_init) := ggX2_init_X1_init
set_option maxRecDepth 20000 in
theorem ggX2_init_X5_init : GoodIn wsX2_init wsX5_init := goodIn_r _ [32, 33, 2, 3, 20, 34, 68] (by decide +kernel) (by decide +kernel)
set_option maxRecDepth 20000 in
theorem gX2_init_X5_init : GoodIn wsX2_init (wsX5_init) := ggX2_init_X5_init
set_option maxRecDepth 20000 in
theorem ggX2_init_X4_init : GoodIn wsX2_init wsX4_init := goodIn_r _ [37, 38, 2, 3, 20, 39, 40, 41, 42, 14, 43, 44, 69, 70] (by decide +kernel) (by decide +kernel)
set_option maxRecDepth 20000 in
theorem gX2_init_X4_init : GoodIn wsX2_init (wsX4_init) := ggX2_init_X4_init
set_option maxRecDepth 20000 in
theorem ggX2_init_X0_init : GoodIn wsX2_init wsX0_init := goodIn_r _ [46, 47, 2, 3] (by decide +kernel) (by decide +kernel)
set_option maxRecDepth 20000 in
theorem gX2_init_X0_init_n34 : GoodIn wsX2_init (wsX0_init) := ggX2_init_X0_init
theorem dX2_init_0 : decode cX2_init 0 = .ok (.aload_n 0, 1) := by decide +kernel
theorem dX2_init_1 : decode cX2_init 1 = .ok (.invokespecial 3, 3) := by decide +kernel
theorem dX2_init_4 : decode cX2_init 4 = .ok (.aload_n 0, 1) := by decide +kernel
theorem dX2_init_5 : decode cX2_init 5 = .ok (.new 9, 3) := by decide +kernel
theorem dX2_init_8 : decode cX2_init 8 = .ok (.dup, 1) := by decide +kernel
theorem dX2_init_9 : decode cX2_init 9 = .ok (.invokespecial 11, 3) := by decide +kernel
theorem dX2_init_12 : decode cX2_init 12 = .ok (.putfield 12, 3) := by decide +kernel
theorem dX2_init_15 : decode cX2_init 15 = .ok (.aload_n 0, 1) := by decide +kernel
theorem dX2_init_16 : decode cX2_init 16 = .ok (.new 18, 3) := by decide +kernel
theorem dX2_init_19 : decode cX2_init 19 = .ok (.dup, 1) := by decide +kernel
theorem dX2_init_20 : decode cX2_init 20 = .ok (.invokespecial 20, 3) := by decide +kernel
theorem dX2_init_23 : decode cX2_init 23 = .ok (.putfield 21, 3) := by decide +kernel
theorem dX2_init_26 : decode cX2_init 26 = .ok (.aload_n 0, 1) := by decide +kernel
theorem dX2_init_27 : decode cX2_init 27 = .ok (.new 25, 3) := by decide +kernel
theorem dX2_init_30 : decode cX2_init 30 = .ok (.dup, 1) := by decide +kernel
theorem dX2_init_31 : decode cX2_init 31 = .ok (.invokespecial 27, 3) := by decide +kernel
theorem dX2_init_34 : decode cX2_init 34 = .ok (.putfield 28, 3) := by decide +kernel
theorem dX2_init_37 : decode cX2_init 37 = .ok (.aload_n 0, 1) := by decide +kernel
theorem dX2_init_38 : decode cX2_init 38 = .ok (.new 32, 3) := by decide +kernel
theorem dX2_init_41 : decode cX2_init 41 = .ok (.dup, 1) := by decide +kernel
theorem dX2_init_42 : decode cX2_init 42 = .ok (.invokespecial 34, 3) := by decide +kernel
theorem dX2_init_45 : decode cX2_init 45 = .ok (.putfield 35, 3) := by decide +kernel
theorem dX2_init_48 : decode cX2_init 48 = .ok (.aload_n 0, 1) := by decide +kernel
theorem dX2_init_49 : decode cX2_init 49 = .ok (.bipush 8, 2) := by decide +kernel
theorem dX2_init_51 : decode cX2_init 51 = .ok (.newarray .int, 2) := by decide +kernel
theorem dX2_init_53 : decode cX2_init 53 = .ok (.putfield 39, 3) := by decide +kernel
theorem dX2_init_56 : decode cX2_init 56 = .ok (.aload_n 0, 1) := by decide +kernel
theorem dX2_init_57 : decode cX2_init 57 = .ok (.ldc 43, 2) := by decide +kernel
theorem dX2_init_59 : decode cX2_init 59 = .ok (.putfield 44, 3) := by decide +kernel
theorem dX2_init_62 : decode cX2_init 62 = .ok (.return_, 1) := by decide +kernel
set_option maxRecDepth 20000 in
theorem ggX2_copyFrom_X1_copyFrom : GoodIn wsX2_copyFrom wsX1_copyFrom := goodIn_r _ [21, 22, 23, 24, 20, 25, 26, 27, 28, 29, 30, 31, 32, 33, 34, 35, 36, 37, 38, 39, 40, 41, 42, 43, 44, 45, 46, 47, 48, 49, 50, 51, 52, 53, 109, 110, 111, 112] (by decide +kernel) (by decide +kernel)
set_option maxRecDepth 20000 in
theorem gX2_copyFrom_X1_copyFrom : GoodIn wsX2_copyFrom (wsV RX2 48 RX1 yX1_copyFrom wsX1_copyFrom) := goodIn_app (goodIn_of _ (by decide +kernel)) ggX2_copyFrom_X1_copyFrom
set_option maxRecDepth 20000 in
theorem ggX2_copyFrom_X5_copyFrom : GoodIn wsX2_copyFrom wsX5_copyFrom := goodIn_r _ [58, 59, 60, 61, 62, 57, 63, 113] (by decide +kernel) (by decide +kernel)
set_option maxRecDepth 20000 in
theorem gX2_copyFrom_X5_copyFrom : GoodIn wsX2_copyFrom (wsV RX2 52 RX5 yX5_copyFrom wsX5_copyFrom) := goodIn_app (goodIn_of _ (by decide +kernel)) ggX2_copyFrom_X5_copyFrom
set_option maxRecDepth 20000 in
theorem ggX2_copyFrom_X4_copyFrom : GoodIn wsX2_copyFrom wsX4_copyFrom := goodIn_r _ [68, 69, 70, 71, 72, 73, 67, 74, 114, 115] (by decide +kernel) (by decide +kernel)
set_option maxRecDepth 20000 in
theorem gX2_copyFrom_X4_copyFrom : GoodIn wsX2_copyFrom (wsV RX2 55 RX4 yX4_copyFrom wsX4_copyFrom) := goodIn_app (goodIn_of _ (by decide +kernel)) ggX2_copyFrom_X4_copyFrom
set_option maxRecDepth 20000 in
theorem ggX2_copyFrom_X0_copyFrom : GoodIn wsX2_copyFrom wsX0_copyFrom := goodIn_r _ [79, 80, 81, 82, 83, 84, 85, 86, 87, 116, 117, 118, 119, 120, 121, 122, 123] (by decide +kernel) (by decide +kernel)
set_option maxRecDepth 20000 in
theorem gX2_copyFrom_X0_copyFrom : GoodIn wsX2_copyFrom (wsV RX2 58 RX0 yX0_copyFrom wsX0_copyFrom) := goodIn_app (goodIn_of _ (by decide +kernel)) ggX2_copyFrom_X0_copyFrom
set_option maxRecDepth 20000 in
theorem ggX2_copyFrom_X2_cameWith : GoodIn wsX2_copyFrom wsX2_cameWith := goodIn_r _ [92, 5, 93, 94, 95, 96, 97, 98, 99, 100, 101, 102, 103, 104, 105, 106, 107, 108] (by decide +kernel) (by decide +kernel)
set_option maxRecDepth 20000 in
theorem gX2_copyFrom_X2_cameWith : GoodIn wsX2_copyFrom (wsV RX2 61 RX2 yX2_cameWith wsX2_cameWith) := goodIn_app (goodIn_of _ (by decide +kernel)) ggX2_copyFrom_X2_cameWith
theorem dX2_copyFrom_0 : decode cX2_copyFrom 0 = .ok (.aload_n 0, 1) := by decide +kernel
theorem dX2_copyFrom_1 : decode cX2_copyFrom 1 = .ok (.getfield 12, 3) := by decide +kernel
theorem dX2_copyFrom_4 : decode cX2_copyFrom 4 = .ok (.aload_n 1, 1) := by decide +kernel
theorem dX2_copyFrom_5 : decode cX2_copyFrom 5 = .ok (.getfield 12, 3) := by decide +kernel
theorem dX2_copyFrom_8 : decode cX2_copyFrom 8 = .ok (.invokevirtual 48, 3) := by decide +kernel
theorem dX2_copyFrom_11 : decode cX2_copyFrom 11 = .ok (.aload_n 0, 1) := by decide +kernel
theorem dX2_copyFrom_12 : decode cX2_copyFrom 12 = .ok (.getfield 21, 3) := by decide +kernel
theorem dX2_copyFrom_15 : decode cX2_copyFrom 15 = .ok (.aload_n 1, 1) := by decide +kernel
theorem dX2_copyFrom_16 : decode cX2_copyFrom 16 = .ok (.getfield 21, 3) := by decide +kernel
theorem dX2_copyFrom_19 : decode cX2_copyFrom 19 = .ok (.invokevirtual 52, 3) := by decide +kernel
theorem dX2_copyFrom_22 : decode cX2_copyFrom 22 = .ok (.aload_n 0, 1) := by decide +kernel
theorem dX2_copyFrom_23 : decode cX2_copyFrom 23 = .ok (.getfield 28, 3) := by decide +kernel
theorem dX2_copyFrom_26 : decode cX2_copyFrom 26 = .ok (.aload_n 1, 1) := by decide +kernel
theorem dX2_copyFrom_27 : decode cX2_copyFrom 27 = .ok (.getfield 28, 3) := by decide +kernel
theorem dX2_copyFrom_30 : decode cX2_copyFrom 30 = .ok (.invokevirtual 55, 3) := by decide +kernel
theorem dX2_copyFrom_33 : decode cX2_copyFrom 33 = .ok (.aload_n 0, 1) := by decide +kernel
theorem dX2_copyFrom_34 : decode cX2_copyFrom 34 = .ok (.getfield 35, 3) := by decide +kernel
theorem dX2_copyFrom_37 : decode cX2_copyFrom 37 = .ok (.aload_n 1, 1) := by decide +kernel
theorem dX2_copyFrom_38 : decode cX2_copyFrom 38 = .ok (.getfield 35, 3) := by decide +kernel
theorem dX2_copyFrom_41 : decode cX2_copyFrom 41 = .ok (.invokevirtual 58, 3) := by decide +kernel
theorem dX2_copyFrom_44 : decode cX2_copyFrom 44 = .ok (.iconst 0, 1) := by decide +kernel
theorem dX2_copyFrom_45 : decode cX2_copyFrom 45 = .ok (.istore_n 2, 1) := by decide +kernel
theorem dX2_copyFrom_46 : decode cX2_copyFrom 46 = .ok (.iload_n 2, 1) := by decide +kernel
theorem dX2_copyFrom_47 : decode cX2_copyFrom 47 = .ok (.aload_n 0, 1) := by decide +kernel
theorem dX2_copyFrom_48 : decode cX2_copyFrom 48 = .ok (.getfield 39, 3) := by decide +kernel
theorem dX2_copyFrom_51 : decode cX2_copyFrom 51 = .ok (.arraylength, 1) := by decide +kernel
theorem dX2_copyFrom_52 : decode cX2_copyFrom 52 = .ok (.if_icmp .ge 20, 3) := by decide +kernel
theorem dX2_copyFrom_55 : decode cX2_copyFrom 55 = .ok (.aload_n 0, 1) := by decide +kernel
theorem dX2_copyFrom_56 : decode cX2_copyFrom 56 = .ok (.getfield 39, 3) := by decide +kernel
theorem dX2_copyFrom_59 : decode cX2_copyFrom 59 = .ok (.iload_n 2, 1) := by decide +kernel
theorem dX2_copyFrom_60 : decode cX2_copyFrom 60 = .ok (.aload_n 1, 1) := by decide +kernel
theorem dX2_copyFrom_61 : decode cX2_copyFrom 61 = .ok (.iload_n 2, 1) := by decide +kernel
theorem dX2_copyFrom_62 : decode cX2_copyFrom 62 = .ok (.invokevirtual 61, 3) := by decide +kernel
theorem dX2_copyFrom_65 : decode cX2_copyFrom 65 = .ok (.iastore, 1) := by decide +kernel
theorem dX2_copyFrom_66 : decode cX2_copyFrom 66 = .ok (.iinc 2 1, 3) := by decide +kernel
theorem dX2_copyFrom_69 : decode cX2_copyFrom 69 = .ok (.goto (-23), 3) := by decide +kernel
theorem dX2_copyFrom_72 : decode cX2_copyFrom 72 = .ok (.aload_n 0, 1) := by decide +kernel
theorem dX2_copyFrom_73 : decode cX2_copyFrom 73 = .ok (.aload_n 1, 1) := by decide +kernel
theorem dX2_copyFrom_74 : decode cX2_copyFrom 74 = .ok (.getfield 44, 3) := by decide +kernel
theorem dX2_copyFrom_77 : decode cX2_copyFrom 77 = .ok (.putfield 44, 3) := by decide +kernel
theorem dX2_copyFrom_80 : decode cX2_copyFrom 80 = .ok (.aload_n 0, 1) := by decide +kernel
theorem dX2_copyFrom_81 : decode cX2_copyFrom 81 = .ok (.aload_n 1, 1) := by decide +kernel
theorem dX2_copyFrom_82 : decode cX2_copyFrom 82 = .ok (.getfield 65, 3) := by decide +kernel
theorem dX2_copyFrom_85 : decode cX2_copyFrom 85 = .ok (.putfield 65, 3) := by decide +kernel
theorem dX2_copyFrom_88 : decode cX2_copyFrom 88 = .ok (.aload_n 0, 1) := by decide +kernel
theorem dX2_copyFrom_89 : decode cX2_copyFrom 89 = .ok (.aload_n 1, 1) := by decide +kernel
theorem dX2_copyFrom_90 : decode cX2_copyFrom 90 = .ok (.getfield 69, 3) := by decide +kernel
theorem dX2_copyFrom_93 : decode cX2_copyFrom 93 = .ok (.putfield 69, 3) := by decide +kernel
theorem dX2_copyFrom_96 : decode cX2_copyFrom 96 = .ok (.aload_n 0, 1) := by decide +kernel
theorem dX2_copyFrom_97 : decode cX2_copyFrom 97 = .ok (.aload_n 1, 1) := by decide +kernel
theorem dX2_copyFrom_98 : decode cX2_copyFrom 98 = .ok (.getfield 72, 3) := by decide +kernel
theorem dX2_copyFrom_101 : decode cX2_copyFrom 101 = .ok (.putfield 72, 3) := by decide +kernel
theorem dX2_copyFrom_104 : decode cX2_copyFrom 104 = .ok (.aload_n 0, 1) := by decide +kernel
theorem dX2_copyFrom_105 : decode cX2_copyFrom 105 = .ok (.aload_n 1, 1) := by decide +kernel
theorem dX2_copyFrom_106 : decode cX2_copyFrom 106 = .ok (.getfield 76, 3) := by decide +kernel
theorem dX2_copyFrom_109 : decode cX2_copyFrom 109 = .ok (.putfield 76, 3) := by decide +kernel
theorem dX2_copyFrom_112 : decode cX2_copyFrom 112 = .ok (.aload_n 0, 1) := by decide +kernel
theorem dX2_copyFrom_113 : decode cX2_copyFrom 113 = .ok (.aload_n 1, 1) := by decide +kernel
theorem dX2_copyFrom_114 : decode cX2_copyFrom 114 = .ok (.getfield 79, 3) := by decide +kernel
theorem dX2_copyFrom_117 : decode cX2_copyFrom 117 = .ok (.putfield 79, 3) := by decide +kernel
theorem dX2_copyFrom_120 : decode cX2_copyFrom 120 = .ok (.aload_n 0, 1) := by decide +kernel
theorem dX2_copyFrom_121 : decode cX2_copyFrom 121 = .ok (.aload_n 1, 1) := by decide +kernel
theorem dX2_copyFrom_122 : decode cX2_copyFrom 122 = .ok (.getfield 82, 3) := by decide +kernel
theorem dX2_copyFrom_125 : decode cX2_copyFrom 125 = .ok (.putfield 82, 3) := by decide +kernel
theorem dX2_copyFrom_128 : decode cX2_copyFrom 128 = .ok (.aload_n 0, 1) := by decide +kernel
theorem dX2_copyFrom_129 : decode cX2_copyFrom 129 = .ok (.aload_n 1, 1) := by decide +kernel
theorem dX2_copyFrom_130 : decode cX2_copyFrom 130 = .ok (.getfield 85, 3) := by decide +kernel
theorem dX2_copyFrom_133 : decode cX2_copyFrom 133 = .ok (.putfield 85, 3) := by decide +kernel
theorem dX2_copyFrom_136 : decode cX2_copyFrom 136 = .ok (.aload_n 0, 1) := by decide +kernel
theorem dX2_copyFrom_137 : decode cX2_copyFrom 137 = .ok (.aload_n 1, 1) := by decide +kernel
theorem dX2_copyFrom_138 : decode cX2_copyFrom 138 = .ok (.getfield 88, 3) := by decide +kernel
theorem dX2_copyFrom_141 : decode cX2_copyFrom 141 = .ok (.putfield 88, 3) := by decide +kernel
theorem dX2_copyFrom_144 : decode cX2_copyFrom 144 = .ok (.aload_n 0, 1) := by decide +kernel
theorem dX2_copyFrom_145 : decode cX2_copyFrom 145 = .ok (.aload_n 1, 1) := by decide +kernel
theorem dX2_copyFrom_146 : decode cX2_copyFrom 146 = .ok (.getfield 91, 3) := by decide +kernel
theorem dX2_copyFrom_149 : decode cX2_copyFrom 149 = .ok (.putfield 91, 3) := by decide +kernel
theorem dX2_copyFrom_152 : decode cX2_copyFrom 152 = .ok (.aload_n 0, 1) := by decide +kernel
theorem dX2_copyFrom_153 : decode cX2_copyFrom 153 = .ok (.aload_n 1, 1) := by decide +kernel
theorem dX2_copyFrom_154 : decode cX2_copyFrom 154 = .ok (.getfield 94, 3) := by decide +kernel
theorem dX2_copyFrom_157 : decode cX2_copyFrom 157 = .ok (.putfield 94, 3) := by decide +kernel
theorem dX2_copyFrom_160 : decode cX2_copyFrom 160 = .ok (.return_, 1) := by decide +kernel
theorem dX2_cameWith_0 : decode cX2_cameWith 0 = .ok (.iload_n 1, 1) := by decide +kernel
theorem dX2_cameWith_1 : decode cX2_cameWith 1 = .ok (.ifCond .lt 21, 3) := by decide +kernel
theorem dX2_cameWith_4 : decode cX2_cameWith 4 = .ok (.iload_n 1, 1) := by decide +kernel
theorem dX2_cameWith_5 : decode cX2_cameWith 5 = .ok (.aload_n 0, 1) := by decide +kernel
theorem dX2_cameWith_6 : decode cX2_cameWith 6 = .ok (.getfield 39, 3) := by decide +kernel
theorem dX2_cameWith_9 : decode cX2_cameWith 9 = .ok (.arraylength, 1) := by decide +kernel
theorem dX2_cameWith_10 : decode cX2_cameWith 10 = .ok (.if_icmp .ge 12, 3) := by decide +kernel
theorem dX2_cameWith_13 : decode cX2_cameWith 13 = .ok (.aload_n 0, 1) := by decide +kernel
theorem dX2_cameWith_14 : decode cX2_cameWith 14 = .ok (.getfield 39, 3) := by decide +kernel
theorem dX2_cameWith_17 : decode cX2_cameWith 17 = .ok (.iload_n 1, 1) := by decide +kernel
theorem dX2_cameWith_18 : decode cX2_cameWith 18 = .ok (.iaload, 1) := by decide +kernel
theorem dX2_cameWith_19 : decode cX2_cameWith 19 = .ok (.goto 4, 3) := by decide +kernel
theorem dX2_cameWith_22 : decode cX2_cameWith 22 = .ok (.iconst 0, 1) := by decide +kernel
theorem dX2_cameWith_23 : decode cX2_cameWith 23 = .ok (.ireturn, 1) := by decide +kernel
set_option maxRecDepth 20000 in
theorem ggX2_number_X2_cameWith : GoodIn wsX2_number wsX2_cameWith := goodIn_r _ [19, 20, 64, 65, 66, 67, 68, 69, 70, 71, 72, 73, 74, 75, 76, 77, 78, 79] (by decide +kernel) (by decide +kernel)
set_option maxRecDepth 20000 in
theorem gX2_number_X2_cameWith : GoodIn wsX2_number (wsV RX2 61 RX2 yX2_cameWith wsX2_cameWith) := goodIn_app (goodIn_of _ (by decide +kernel)) ggX2_number_X2_cameWith
set_option maxRecDepth 20000 in
theorem ggX2_number_X5_value : GoodIn wsX2_number wsX5_value := goodIn_r _ [25, 26, 82] (by decide +kernel) (by decide +kernel)
set_option maxRecDepth 20000 in
theorem gX2_number_X5_value : GoodIn wsX2_number (wsV RX2 97 RX5 yX5_value wsX5_value) := goodIn_app (goodIn_of _ (by decide +kernel)) ggX2_number_X5_value
set_option maxRecDepth 20000 in
theorem ggX2_number_X1_size : GoodIn wsX2_number wsX1_size := goodIn_r _ [31, 32, 33, 83, 84, 85, 86] (by decide +kernel) (by decide +kernel)
set_option maxRecDepth 20000 in
theorem gX2_number_X1_size : GoodIn wsX2_number (wsV RX2 100 RX1 yX1_size wsX1_size) := goodIn_app (goodIn_of _ (by decide +kernel)) ggX2_number_X1_size
set_option maxRecDepth 20000 in
theorem ggX2_number_X1_labels : GoodIn wsX2_number wsX1_labels := goodIn_r _ [37, 38, 28, 29, 30, 31, 32, 33, 39, 40, 41, 42, 43, 83, 84, 85, 86] (by decide +kernel) (by decide +kernel)
set_option maxRecDepth 20000 in
theorem gX2_number_X1_labels : GoodIn wsX2_number (wsV RX2 104 RX1 yX1_labels wsX1_labels) := goodIn_app (goodIn_of _ (by decide +kernel)) ggX2_number_X1_labels
set_option maxRecDepth 20000 in
theorem ggX2_number_X1_lengthAhead : GoodIn wsX2_number wsX1_lengthAhead := goodIn_r _ [47, 48, 49, 50, 30, 51, 33, 52, 83, 84, 85, 86] (by decide +kernel) (by decide +kernel)
set_option maxRecDepth 20000 in
theorem gX2_number_X1_lengthAhead : GoodIn wsX2_number (wsV RX2 107 RX1 yX1_lengthAhead wsX1_lengthAhead) := goodIn_app (goodIn_of _ (by decide +kernel)) ggX2_number_X1_lengthAhead
set_option maxRecDepth 20000 in
theorem ggX2_number_X4_products : GoodIn wsX2_number wsX4_products := goodIn_r _ [57, 58, 59, 60, 61, 56, 62, 63, 80, 81] (by decide +kernel) (by decide +kernel)
set_option maxRecDepth 20000 in
theorem gX2_number_X4_products : GoodIn wsX2_number (wsV RX2 113 RX4 yX4_products wsX4_products) := goodIn_app (goodIn_of _ (by decide +kernel)) ggX2_number_X4_products
theorem dX2_number_0 : decode cX2_number 0 = .ok (.iload_n 1, 1) := by decide +kernel
theorem dX2_number_1 : decode cX2_number 1 = .ok (.bipush 24, 2) := by decide +kernel
theorem dX2_number_3 : decode cX2_number 3 = .ok (.if_icmp .lt 12, 3) := by decide +kernel
theorem dX2_number_6 : decode cX2_number 6 = .ok (.aload_n 0, 1) := by decide +kernel
theorem dX2_number_7 : decode cX2_number 7 = .ok (.iload_n 1, 1) := by decide +kernel
theorem dX2_number_8 : decode cX2_number 8 = .ok (.bipush 24, 2) := by decide +kernel
theorem dX2_number_10 : decode cX2_number 10 = .ok (.isub, 1) := by decide +kernel
theorem dX2_number_11 : decode cX2_number 11 = .ok (.invokevirtual 61, 3) := by decide +kernel
theorem dX2_number_14 : decode cX2_number 14 = .ok (.ireturn, 1) := by decide +kernel
theorem dX2_number_15 : decode cX2_number 15 = .ok (.iload_n 1, 1) := by decide +kernel
theorem dX2_number_16 : decode cX2_number 16 = .ok (.bipush 15, 2) := by decide +kernel
theorem dX2_number_18 : decode cX2_number 18 = .ok (.if_icmp .lt 15, 3) := by decide +kernel
theorem dX2_number_21 : decode cX2_number 21 = .ok (.aload_n 0, 1) := by decide +kernel
theorem dX2_number_22 : decode cX2_number 22 = .ok (.getfield 21, 3) := by decide +kernel
theorem dX2_number_25 : decode cX2_number 25 = .ok (.iload_n 1, 1) := by decide +kernel
theorem dX2_number_26 : decode cX2_number 26 = .ok (.bipush 15, 2) := by decide +kernel
theorem dX2_number_28 : decode cX2_number 28 = .ok (.isub, 1) := by decide +kernel
theorem dX2_number_29 : decode cX2_number 29 = .ok (.invokevirtual 97, 3) := by decide +kernel
theorem dX2_number_32 : decode cX2_number 32 = .ok (.ireturn, 1) := by decide +kernel
theorem dX2_number_33 : decode cX2_number 33 = .ok (.iload_n 1, 1) := by decide +kernel
theorem dX2_number_34 : decode cX2_number 34 = .ok (.tableswitch 162 0 13 #[70, 78, 86, 101, 106, 114, 122, 127, 132, 137, 142, 147, 152, 157], 70) := by decide +kernel
theorem dX2_number_104 : decode cX2_number 104 = .ok (.aload_n 0, 1) := by decide +kernel
theorem dX2_number_105 : decode cX2_number 105 = .ok (.getfield 12, 3) := by decide +kernel
theorem dX2_number_108 : decode cX2_number 108 = .ok (.invokevirtual 100, 3) := by decide +kernel
theorem dX2_number_111 : decode cX2_number 111 = .ok (.ireturn, 1) := by decide +kernel
theorem dX2_number_112 : decode cX2_number 112 = .ok (.aload_n 0, 1) := by decide +kernel
theorem dX2_number_113 : decode cX2_number 113 = .ok (.getfield 12, 3) := by decide +kernel
theorem dX2_number_116 : decode cX2_number 116 = .ok (.invokevirtual 104, 3) := by decide +kernel
theorem dX2_number_119 : decode cX2_number 119 = .ok (.ireturn, 1) := by decide +kernel
theorem dX2_number_120 : decode cX2_number 120 = .ok (.aload_n 0, 1) := by decide +kernel
theorem dX2_number_121 : decode cX2_number 121 = .ok (.getfield 12, 3) := by decide +kernel
theorem dX2_number_124 : decode cX2_number 124 = .ok (.aload_n 0, 1) := by decide +kernel
theorem dX2_number_125 : decode cX2_number 125 = .ok (.getfield 12, 3) := by decide +kernel
theorem dX2_number_128 : decode cX2_number 128 = .ok (.invokevirtual 100, 3) := by decide +kernel
theorem dX2_number_131 : decode cX2_number 131 = .ok (.invokevirtual 107, 3) := by decide +kernel
theorem dX2_number_134 : decode cX2_number 134 = .ok (.ireturn, 1) := by decide +kernel
theorem dX2_number_135 : decode cX2_number 135 = .ok (.aload_n 0, 1) := by decide +kernel
theorem dX2_number_136 : decode cX2_number 136 = .ok (.getfield 65, 3) := by decide +kernel
theorem dX2_number_139 : decode cX2_number 139 = .ok (.ireturn, 1) := by decide +kernel
theorem dX2_number_140 : decode cX2_number 140 = .ok (.aload_n 0, 1) := by decide +kernel
theorem dX2_number_141 : decode cX2_number 141 = .ok (.getfield 28, 3) := by decide +kernel
theorem dX2_number_144 : decode cX2_number 144 = .ok (.getfield 110, 3) := by decide +kernel
theorem dX2_number_147 : decode cX2_number 147 = .ok (.ireturn, 1) := by decide +kernel
theorem dX2_number_148 : decode cX2_number 148 = .ok (.aload_n 0, 1) := by decide +kernel
theorem dX2_number_149 : decode cX2_number 149 = .ok (.getfield 28, 3) := by decide +kernel
theorem dX2_number_152 : decode cX2_number 152 = .ok (.invokevirtual 113, 3) := by decide +kernel
theorem dX2_number_155 : decode cX2_number 155 = .ok (.ireturn, 1) := by decide +kernel
theorem dX2_number_156 : decode cX2_number 156 = .ok (.aload_n 0, 1) := by decide +kernel
theorem dX2_number_157 : decode cX2_number 157 = .ok (.getfield 76, 3) := by decide +kernel
theorem dX2_number_160 : decode cX2_number 160 = .ok (.ireturn, 1) := by decide +kernel
theorem dX2_number_161 : decode cX2_number 161 = .ok (.aload_n 0, 1) := by decide +kernel
theorem dX2_number_162 : decode cX2_number 162 = .ok (.getfield 79, 3) := by decide +kernel
theorem dX2_number_165 : decode cX2_number 165 = .ok (.ireturn, 1) := by decide +kernel
theorem dX2_number_166 : decode cX2_number 166 = .ok (.aload_n 0, 1) := by decide +kernel
theorem dX2_number_167 : decode cX2_number 167 = .ok (.getfield 82, 3) := by decide +kernel
theorem dX2_number_170 : decode cX2_number 170 = .ok (.ireturn, 1) := by decide +kernel
theorem dX2_number_171 : decode cX2_number 171 = .ok (.aload_n 0, 1) := by decide +kernel
theorem dX2_number_172 : decode cX2_number 172 = .ok (.getfield 85, 3) := by decide +kernel
theorem dX2_number_175 : decode cX2_number 175 = .ok (.ireturn, 1) := by decide +kernel
theorem dX2_number_176 : decode cX2_number 176 = .ok (.aload_n 0, 1) := by decide +kernel
theorem dX2_number_177 : decode cX2_number 177 = .ok (.getfield 88, 3) := by decide +kernel
theorem dX2_number_180 : decode cX2_number 180 = .ok (.ireturn, 1) := by decide +kernel
theorem dX2_number_181 : decode cX2_number 181 = .ok (.aload_n 0, 1) := by decide +kernel
theorem dX2_number_182 : decode cX2_number 182 = .ok (.getfield 91, 3) := by decide +kernel
theorem dX2_number_185 : decode cX2_number 185 = .ok (.ireturn, 1) := by decide +kernel
theorem dX2_number_186 : decode cX2_number 186 = .ok (.aload_n 0, 1) := by decide +kernel
theorem dX2_number_187 : decode cX2_number 187 = .ok (.getfield 94, 3) := by decide +kernel
theorem dX2_number_190 : decode cX2_number 190 = .ok (.ireturn, 1) := by decide +kernel
theorem dX2_number_191 : decode cX2_number 191 = .ok (.aload_n 0, 1) := by decide +kernel
theorem dX2_number_192 : decode cX2_number 192 = .ok (.getfield 69, 3) := by decide +kernel
theorem dX2_number_195 : decode cX2_number 195 = .ok (.ireturn, 1) := by decide +kernel
theorem dX2_number_196 : decode cX2_number 196 = .ok (.aload_n 0, 1) := by decide +kernel
theorem dX2_number_197 : decode cX2_number 197 = .ok (.getfield 72, 3) := by decide +kernel
theorem dX2_number_200 : decode cX2_number 200 = .ok (.ifCond .eq 7, 3) := by decide +kernel
theorem dX2_number_203 : decode cX2_number 203 = .ok (.iconst 1, 1) := by decide +kernel
theorem dX2_number_204 : decode cX2_number 204 = .ok (.goto 4, 3) := by decide +kernel
theorem dX2_number_207 : decode cX2_number 207 = .ok (.iconst 0, 1) := by decide +kernel
theorem dX2_number_208 : decode cX2_number 208 = .ok (.ireturn, 1) := by decide +kernel
set_option maxRecDepth 20000 in
theorem ggX2_rebuildRing_X4_products : GoodIn wsX2_rebuildRing wsX4_products := goodIn_r _ [7, 8, 9, 10, 11, 6, 12, 13, 42, 43] (by decide +kernel) (by decide +kernel)
set_option maxRecDepth 20000 in
theorem gX2_rebuildRing_X4_products : GoodIn wsX2_rebuildRing (wsV RX2 113 RX4 yX4_products wsX4_products) := goodIn_app (goodIn_of _ (by decide +kernel)) ggX2_rebuildRing_X4_products
set_option maxRecDepth 20000 in
theorem ggX2_rebuildRing_X4_reasonAt : GoodIn wsX2_rebuildRing wsX4_reasonAt := goodIn_r _ [12, 13, 42, 43] (by decide +kernel) (by decide +kernel)
set_option maxRecDepth 20000 in
theorem gX2_rebuildRing_X4_reasonAt : GoodIn wsX2_rebuildRing (wsV RX2 116 RX4 yX4_reasonAt wsX4_reasonAt) := goodIn_app (goodIn_of _ (by decide +kernel)) ggX2_rebuildRing_X4_reasonAt
set_option maxRecDepth 20000 in
theorem ggX2_rebuildRing_X2_passGate : GoodIn wsX2_rebuildRing wsX2_passGate := goodIn_r _ [19, 20, 21, 26, 27, 28, 29, 30, 31, 32, 33, 34, 35, 36, 37, 38, 39, 40, 41] (by decide +kernel) (by decide +kernel)
set_option maxRecDepth 20000 in
theorem gX2_rebuildRing_X2_passGate : GoodIn wsX2_rebuildRing (wsV RX2 119 RX2 yX2_passGate wsX2_passGate) := goodIn_app (goodIn_of _ (by decide +kernel)) ggX2_rebuildRing_X2_passGate
set_option maxRecDepth 20000 in
theorem ggX2_rebuildRing_X4_makeEmpty : GoodIn wsX2_rebuildRing wsX4_makeEmpty := goodIn_r _ [25, 8, 13, 42, 43] (by decide +kernel) (by decide +kernel)
set_option maxRecDepth 20000 in
theorem gX2_rebuildRing_X4_makeEmpty : GoodIn wsX2_rebuildRing (wsV RX2 123 RX4 yX4_makeEmpty wsX4_makeEmpty) := goodIn_app (goodIn_of _ (by decide +kernel)) ggX2_rebuildRing_X4_makeEmpty
theorem dX2_rebuildRing_0 : decode cX2_rebuildRing 0 = .ok (.aload_n 0, 1) := by decide +kernel
theorem dX2_rebuildRing_1 : decode cX2_rebuildRing 1 = .ok (.getfield 28, 3) := by decide +kernel
theorem dX2_rebuildRing_4 : decode cX2_rebuildRing 4 = .ok (.invokevirtual 113, 3) := by decide +kernel
theorem dX2_rebuildRing_7 : decode cX2_rebuildRing 7 = .ok (.istore_n 2, 1) := by decide +kernel
theorem dX2_rebuildRing_8 : decode cX2_rebuildRing 8 = .ok (.aload_n 0, 1) := by decide +kernel
theorem dX2_rebuildRing_9 : decode cX2_rebuildRing 9 = .ok (.getfield 28, 3) := by decide +kernel
theorem dX2_rebuildRing_12 : decode cX2_rebuildRing 12 = .ok (.getfield 110, 3) := by decide +kernel
theorem dX2_rebuildRing_15 : decode cX2_rebuildRing 15 = .ok (.iconst 1, 1) := by decide +kernel
theorem dX2_rebuildRing_16 : decode cX2_rebuildRing 16 = .ok (.isub, 1) := by decide +kernel
theorem dX2_rebuildRing_17 : decode cX2_rebuildRing 17 = .ok (.istore_n 3, 1) := by decide +kernel
theorem dX2_rebuildRing_18 : decode cX2_rebuildRing 18 = .ok (.iload_n 3, 1) := by decide +kernel
theorem dX2_rebuildRing_19 : decode cX2_rebuildRing 19 = .ok (.ifCond .lt 21, 3) := by decide +kernel
theorem dX2_rebuildRing_22 : decode cX2_rebuildRing 22 = .ok (.aload_n 0, 1) := by decide +kernel
theorem dX2_rebuildRing_23 : decode cX2_rebuildRing 23 = .ok (.aload_n 0, 1) := by decide +kernel
theorem dX2_rebuildRing_24 : decode cX2_rebuildRing 24 = .ok (.getfield 28, 3) := by decide +kernel
theorem dX2_rebuildRing_27 : decode cX2_rebuildRing 27 = .ok (.iload_n 3, 1) := by decide +kernel
theorem dX2_rebuildRing_28 : decode cX2_rebuildRing 28 = .ok (.invokevirtual 116, 3) := by decide +kernel
theorem dX2_rebuildRing_31 : decode cX2_rebuildRing 31 = .ok (.invokevirtual 119, 3) := by decide +kernel
theorem dX2_rebuildRing_34 : decode cX2_rebuildRing 34 = .ok (.iinc 3 (-1), 3) := by decide +kernel
theorem dX2_rebuildRing_37 : decode cX2_rebuildRing 37 = .ok (.goto (-19), 3) := by decide +kernel
theorem dX2_rebuildRing_40 : decode cX2_rebuildRing 40 = .ok (.aload_n 0, 1) := by decide +kernel
theorem dX2_rebuildRing_41 : decode cX2_rebuildRing 41 = .ok (.getfield 28, 3) := by decide +kernel
theorem dX2_rebuildRing_44 : decode cX2_rebuildRing 44 = .ok (.iload_n 1, 1) := by decide +kernel
theorem dX2_rebuildRing_45 : decode cX2_rebuildRing 45 = .ok (.invokevirtual 123, 3) := by decide +kernel
theorem dX2_rebuildRing_48 : decode cX2_rebuildRing 48 = .ok (.iload_n 2, 1) := by decide +kernel
theorem dX2_rebuildRing_49 : decode cX2_rebuildRing 49 = .ok (.ireturn, 1) := by decide +kernel
set_option maxRecDepth 20000 in
theorem ggX2_serveAll_X2_serve : GoodIn wsX2_serveAll wsX2_serve := goodIn_r _ [5, 6, 7, 8, 9, 10, 11, 12, 13, 14, 15, 16, 17, 18, 19, 4, 20, 21, 22, 23, 24, 25, 26, 27, 28, 29, 30, 31, 32, 33, 34, 35, 36, 37, 38, 39, 40, 41, 42, 43, 44, 45, 46, 47, 48, 49, 50, 51, 52, 53, 54, 55, 56, 57, 58, 59, 60, 61, 62, 63, 64, 65, 66, 67, 68, 69, 70, 71, 72, 73, 74, 75, 76, 77, 78, 79, 80, 81, 82, 83, 84, 85, 86, 87, 88, 89, 90, 91, 92, 93, 94, 95, 96, 97, 98, 99, 100, 101, 102, 103, 104, 105, 106, 107, 108, 109, 110, 111, 112, 113, 114, 115, 116, 117, 118, 119, 120, 121, 122, 123, 124, 125, 126, 127, 128, 129, 130, 131, 132, 133, 134, 135, 136, 137, 138, 139, 140, 141, 142, 143, 144, 145, 146, 147, 148, 149, 150, 151, 152, 153, 154] (by decide +kernel) (by decide +kernel)
set_option maxRecDepth 20000 in
theorem gX2_serveAll_X2_serve : GoodIn wsX2_serveAll (wsV RX2 126 RX2 yX2_serve wsX2_serve) := goodIn_app (goodIn_of _ (by decide +kernel)) ggX2_serveAll_X2_serve
set_option maxRecDepth 20000 in
theorem ggX2_serveAll_X2_hasTooManyFaults : GoodIn wsX2_serveAll wsX2_hasTooManyFaults := goodIn_r _ [123, 15, 11, 28, 29, 30, 31, 32, 33, 124, 125, 126, 127, 128, 129, 130, 131, 132, 133, 134, 135, 136, 137, 138, 139, 148] (by decide +kernel) (by decide +kernel)
set_option maxRecDepth 20000 in
theorem gX2_serveAll_X2_hasTooManyFaults : GoodIn wsX2_serveAll (wsV RX2 129 RX2 yX2_hasTooManyFaults wsX2_hasTooManyFaults) := goodIn_app (goodIn_of _ (by decide +kernel)) ggX2_serveAll_X2_hasTooManyFaults
theorem dX2_serveAll_0 : decode cX2_serveAll 0 = .ok (.iconst (-1), 1) := by decide +kernel
theorem dX2_serveAll_1 : decode cX2_serveAll 1 = .ok (.istore_n 3, 1) := by decide +kernel
theorem dX2_serveAll_2 : decode cX2_serveAll 2 = .ok (.iconst 1, 1) := by decide +kernel
theorem dX2_serveAll_3 : decode cX2_serveAll 3 = .ok (.istore 4, 2) := by decide +kernel
theorem dX2_serveAll_5 : decode cX2_serveAll 5 = .ok (.iload 4, 2) := by decide +kernel
theorem dX2_serveAll_7 : decode cX2_serveAll 7 = .ok (.iload_n 1, 1) := by decide +kernel
theorem dX2_serveAll_8 : decode cX2_serveAll 8 = .ok (.if_icmp .gt 29, 3) := by decide +kernel
theorem dX2_serveAll_11 : decode cX2_serveAll 11 = .ok (.aload_n 0, 1) := by decide +kernel
theorem dX2_serveAll_12 : decode cX2_serveAll 12 = .ok (.iload_n 2, 1) := by decide +kernel
theorem dX2_serveAll_13 : decode cX2_serveAll 13 = .ok (.invokevirtual 126, 3) := by decide +kernel
theorem dX2_serveAll_16 : decode cX2_serveAll 16 = .ok (.iload_n 3, 1) := by decide +kernel
theorem dX2_serveAll_17 : decode cX2_serveAll 17 = .ok (.iconst (-1), 1) := by decide +kernel
theorem dX2_serveAll_18 : decode cX2_serveAll 18 = .ok (.if_icmp .ne 13, 3) := by decide +kernel
theorem dX2_serveAll_21 : decode cX2_serveAll 21 = .ok (.aload_n 0, 1) := by decide +kernel
theorem dX2_serveAll_22 : decode cX2_serveAll 22 = .ok (.invokevirtual 129, 3) := by decide +kernel
theorem dX2_serveAll_25 : decode cX2_serveAll 25 = .ok (.ifCond .eq 6, 3) := by decide +kernel
theorem dX2_serveAll_28 : decode cX2_serveAll 28 = .ok (.iload 4, 2) := by decide +kernel
theorem dX2_serveAll_30 : decode cX2_serveAll 30 = .ok (.istore_n 3, 1) := by decide +kernel
theorem dX2_serveAll_31 : decode cX2_serveAll 31 = .ok (.iinc 4 1, 3) := by decide +kernel
theorem dX2_serveAll_34 : decode cX2_serveAll 34 = .ok (.goto (-29), 3) := by decide +kernel
theorem dX2_serveAll_37 : decode cX2_serveAll 37 = .ok (.iload_n 3, 1) := by decide +kernel
theorem dX2_serveAll_38 : decode cX2_serveAll 38 = .ok (.ireturn, 1) := by decide +kernel
set_option maxRecDepth 20000 in
theorem ggX2_serve_X2_speedTowards : GoodIn wsX2_serve wsX2_speedTowards := goodIn_r _ [16, 6, 1, 17, 18, 19, 20, 21, 22, 23, 24, 25, 26, 27, 28, 29, 120, 121, 122, 123, 124, 125, 126, 127, 128, 129, 130, 131, 132, 133, 134, 135, 144] (by decide +kernel) (by decide +kernel)
set_option maxRecDepth 20000 in
theorem gX2_serve_X2_speedTowards : GoodIn wsX2_serve (wsV RX2 133 RX2 yX2_speedTowards wsX2_speedTowards) := goodIn_app (goodIn_of _ (by decide +kernel)) ggX2_serve_X2_speedTowards
set_option maxRecDepth 20000 in
theorem ggX2_serve_X0_begin : GoodIn wsX2_serve wsX0_begin := goodIn_r _ [34, 35, 36, 37, 38, 39, 40, 136, 137, 138, 139, 140, 141, 142, 143] (by decide +kernel) (by decide +kernel)
set_option maxRecDepth 20000 in
theorem gX2_serve_X0_begin : GoodIn wsX2_serve (wsV RX2 136 RX0 yX0_begin wsX0_begin) := goodIn_app (goodIn_of _ (by decide +kernel)) ggX2_serve_X0_begin
set_option maxRecDepth 20000 in
theorem ggX2_serve_X2_feed : GoodIn wsX2_serve wsX2_feed := goodIn_r _ [44, 45, 2, 3, 46, 47, 48, 49, 50, 51, 52, 53, 54, 55, 56, 57, 58, 59, 60, 61, 62, 63, 64, 65, 66, 33, 67, 38, 35, 36, 37, 68, 69, 70, 15, 71, 6, 4, 5, 24, 25, 26, 27, 28, 29, 72, 73, 74, 75, 120, 121, 122, 123, 124, 125, 126, 127, 128, 129, 130, 131, 132, 133, 134, 135, 136, 137, 138, 139, 140, 141, 142, 143, 145, 146, 147, 148, 144] (by decide +kernel) (by decide +kernel)
set_option maxRecDepth 20000 in
theorem gX2_serve_X2_feed : GoodIn wsX2_serve (wsV RX2 139 RX2 yX2_feed wsX2_feed) := goodIn_app (goodIn_of _ (by decide +kernel)) ggX2_serve_X2_feed
set_option maxRecDepth 20000 in
theorem ggX2_serve_X5_value : GoodIn wsX2_serve wsX5_value := goodIn_r _ [28, 29, 144] (by decide +kernel) (by decide +kernel)
set_option maxRecDepth 20000 in
theorem gX2_serve_X5_value : GoodIn wsX2_serve (wsV RX2 97 RX5 yX5_value wsX5_value) := goodIn_app (goodIn_of _ (by decide +kernel)) ggX2_serve_X5_value
set_option maxRecDepth 20000 in
theorem ggX2_serve_X2_reasonAt : GoodIn wsX2_serve wsX2_reasonAt := goodIn_r _ [79, 2, 3, 80, 81, 7, 1, 82, 83, 19, 84, 6, 24, 25, 26, 27, 28, 29, 120, 121, 122, 123, 124, 125, 126, 127, 128, 129, 130, 131, 132, 133, 134, 135, 136, 137, 138, 139, 140, 141, 142, 143, 144] (by decide +kernel) (by decide +kernel)
set_option maxRecDepth 20000 in
theorem gX2_serve_X2_reasonAt : GoodIn wsX2_serve (wsV RX2 151 RX2 yX2_reasonAt wsX2_reasonAt) := goodIn_app (goodIn_of _ (by decide +kernel)) ggX2_serve_X2_reasonAt
set_option maxRecDepth 20000 in
theorem ggX2_serve_X2_countCycle : GoodIn wsX2_serve wsX2_countCycle := goodIn_r _ [88, 2, 8, 89, 90, 91, 81, 92, 80, 93, 7, 94, 120, 121, 122, 123, 124, 125, 126, 127, 128, 129, 130, 131, 132, 133, 134, 135, 136, 137, 138, 139, 140, 141, 142, 143] (by decide +kernel) (by decide +kernel)
set_option maxRecDepth 20000 in
theorem gX2_serve_X2_countCycle : GoodIn wsX2_serve (wsV RX2 155 RX2 yX2_countCycle wsX2_countCycle) := goodIn_app (goodIn_of _ (by decide +kernel)) ggX2_serve_X2_countCycle
set_option maxRecDepth 20000 in
theorem ggX2_serve_X2_learnPitch : GoodIn wsX2_serve wsX2_learnPitch := goodIn_r _ [98, 6, 99, 5, 2, 4, 24, 25, 26, 27, 28, 29, 120, 121, 122, 123, 124, 125, 126, 127, 128, 129, 130, 131, 132, 133, 134, 135, 136, 137, 138, 139, 140, 141, 142, 143, 144] (by decide +kernel) (by decide +kernel)
set_option maxRecDepth 20000 in
theorem gX2_serve_X2_learnPitch : GoodIn wsX2_serve (wsV RX2 158 RX2 yX2_learnPitch wsX2_learnPitch) := goodIn_app (goodIn_of _ (by decide +kernel)) ggX2_serve_X2_learnPitch
set_option maxRecDepth 20000 in
theorem ggX2_serve_X4_moveOn : GoodIn wsX2_serve wsX4_moveOn := goodIn_r _ [104, 105, 106, 149, 150] (by decide +kernel) (by decide +kernel)
set_option maxRecDepth 20000 in
theorem gX2_serve_X4_moveOn : GoodIn wsX2_serve (wsV RX2 161 RX4 yX4_moveOn wsX4_moveOn) := goodIn_app (goodIn_of _ (by decide +kernel)) ggX2_serve_X4_moveOn
set_option maxRecDepth 20000 in
theorem ggX2_serve_X2_passGate : GoodIn wsX2_serve wsX2_passGate := goodIn_r _ [110, 111, 112, 120, 121, 122, 123, 124, 125, 126, 127, 128, 129, 130, 131, 132, 133, 134, 135] (by decide +kernel) (by decide +kernel)
set_option maxRecDepth 20000 in
theorem gX2_serve_X2_passGate : GoodIn wsX2_serve (wsV RX2 119 RX2 yX2_passGate wsX2_passGate) := goodIn_app (goodIn_of _ (by decide +kernel)) ggX2_serve_X2_passGate
set_option maxRecDepth 20000 in
theorem ggX2_serve_X2_isFault : GoodIn wsX2_serve wsX2_isFault := goodIn_r _ [115] (by decide +kernel) (by decide +kernel)
set_option maxRecDepth 20000 in
theorem gX2_serve_X2_isFault : GoodIn wsX2_serve (va_wsS RX2 164 yX2_isFault wsX2_isFault) := goodIn_app (goodIn_of _ (by decide +kernel)) ggX2_serve_X2_isFault
set_option maxRecDepth 20000 in
theorem ggX2_serve_X2_hasTooManyFaults : GoodIn wsX2_serve wsX2_hasTooManyFaults := goodIn_r _ [119, 10, 6, 24, 25, 26, 27, 28, 29, 120, 121, 122, 123, 124, 125, 126, 127, 128, 129, 130, 131, 132, 133, 134, 135, 144] (by decide +kernel) (by decide +kernel)
set_option maxRecDepth 20000 in
theorem gX2_serve_X2_hasTooManyFaults : GoodIn wsX2_serve (wsV RX2 129 RX2 yX2_hasTooManyFaults wsX2_hasTooManyFaults) := goodIn_app (goodIn_of _ (by decide +kernel)) ggX2_serve_X2_hasTooManyFaults
theorem dX2_serve_0 : decode cX2_serve 0 = .ok (.aload_n 0, 1) := by decide +kernel
theorem dX2_serve_1 : decode cX2_serve 1 = .ok (.aload_n 0, 1) := by decide +kernel
theorem dX2_serve_2 : decode cX2_serve 2 = .ok (.iload_n 1, 1) := by decide +kernel
theorem dX2_serve_3 : decode cX2_serve 3 = .ok (.invokevirtual 133, 3) := by decide +kernel
theorem dX2_serve_6 : decode cX2_serve 6 = .ok (.putfield 65, 3) := by decide +kernel
theorem dX2_serve_9 : decode cX2_serve 9 = .ok (.aload_n 0, 1) := by decide +kernel
theorem dX2_serve_10 : decode cX2_serve 10 = .ok (.getfield 35, 3) := by decide +kernel
theorem dX2_serve_13 : decode cX2_serve 13 = .ok (.aload_n 0, 1) := by decide +kernel
theorem dX2_serve_14 : decode cX2_serve 14 = .ok (.getfield 65, 3) := by decide +kernel
theorem dX2_serve_17 : decode cX2_serve 17 = .ok (.invokevirtual 136, 3) := by decide +kernel
theorem dX2_serve_20 : decode cX2_serve 20 = .ok (.aload_n 0, 1) := by decide +kernel
theorem dX2_serve_21 : decode cX2_serve 21 = .ok (.invokevirtual 139, 3) := by decide +kernel
theorem dX2_serve_24 : decode cX2_serve 24 = .ok (.aload_n 0, 1) := by decide +kernel
theorem dX2_serve_25 : decode cX2_serve 25 = .ok (.getfield 35, 3) := by decide +kernel
theorem dX2_serve_28 : decode cX2_serve 28 = .ok (.aload_n 0, 1) := by decide +kernel
theorem dX2_serve_29 : decode cX2_serve 29 = .ok (.getfield 35, 3) := by decide +kernel
theorem dX2_serve_32 : decode cX2_serve 32 = .ok (.getfield 142, 3) := by decide +kernel
theorem dX2_serve_35 : decode cX2_serve 35 = .ok (.iconst 1, 1) := by decide +kernel
theorem dX2_serve_36 : decode cX2_serve 36 = .ok (.if_icmp .ne 33, 3) := by decide +kernel
theorem dX2_serve_39 : decode cX2_serve 39 = .ok (.aload_n 0, 1) := by decide +kernel
theorem dX2_serve_40 : decode cX2_serve 40 = .ok (.getfield 35, 3) := by decide +kernel
theorem dX2_serve_43 : decode cX2_serve 43 = .ok (.getfield 145, 3) := by decide +kernel
theorem dX2_serve_46 : decode cX2_serve 46 = .ok (.i2f, 1) := by decide +kernel
theorem dX2_serve_47 : decode cX2_serve 47 = .ok (.aload_n 0, 1) := by decide +kernel
theorem dX2_serve_48 : decode cX2_serve 48 = .ok (.getfield 44, 3) := by decide +kernel
theorem dX2_serve_51 : decode cX2_serve 51 = .ok (.aload_n 0, 1) := by decide +kernel
theorem dX2_serve_52 : decode cX2_serve 52 = .ok (.getfield 21, 3) := by decide +kernel
theorem dX2_serve_55 : decode cX2_serve 55 = .ok (.iconst 1, 1) := by decide +kernel
theorem dX2_serve_56 : decode cX2_serve 56 = .ok (.invokevirtual 97, 3) := by decide +kernel
theorem dX2_serve_59 : decode cX2_serve 59 = .ok (.i2f, 1) := by decide +kernel
theorem dX2_serve_60 : decode cX2_serve 60 = .ok (.fadd, 1) := by decide +kernel
theorem dX2_serve_61 : decode cX2_serve 61 = .ok (.fcmp .l, 1) := by decide +kernel
theorem dX2_serve_62 : decode cX2_serve 62 = .ok (.ifCond .le 7, 3) := by decide +kernel
theorem dX2_serve_65 : decode cX2_serve 65 = .ok (.iconst 1, 1) := by decide +kernel
theorem dX2_serve_66 : decode cX2_serve 66 = .ok (.goto 4, 3) := by decide +kernel
theorem dX2_serve_69 : decode cX2_serve 69 = .ok (.iconst 0, 1) := by decide +kernel
theorem dX2_serve_70 : decode cX2_serve 70 = .ok (.putfield 148, 3) := by decide +kernel
theorem dX2_serve_73 : decode cX2_serve 73 = .ok (.aload_n 0, 1) := by decide +kernel
theorem dX2_serve_74 : decode cX2_serve 74 = .ok (.getfield 35, 3) := by decide +kernel
theorem dX2_serve_77 : decode cX2_serve 77 = .ok (.aload_n 0, 1) := by decide +kernel
theorem dX2_serve_78 : decode cX2_serve 78 = .ok (.iload_n 1, 1) := by decide +kernel
theorem dX2_serve_79 : decode cX2_serve 79 = .ok (.invokevirtual 151, 3) := by decide +kernel
theorem dX2_serve_82 : decode cX2_serve 82 = .ok (.putfield 152, 3) := by decide +kernel
theorem dX2_serve_85 : decode cX2_serve 85 = .ok (.aload_n 0, 1) := by decide +kernel
theorem dX2_serve_86 : decode cX2_serve 86 = .ok (.invokevirtual 155, 3) := by decide +kernel
theorem dX2_serve_89 : decode cX2_serve 89 = .ok (.aload_n 0, 1) := by decide +kernel
theorem dX2_serve_90 : decode cX2_serve 90 = .ok (.getfield 35, 3) := by decide +kernel
theorem dX2_serve_93 : decode cX2_serve 93 = .ok (.getfield 152, 3) := by decide +kernel
theorem dX2_serve_96 : decode cX2_serve 96 = .ok (.ifCond .ne 7, 3) := by decide +kernel
theorem dX2_serve_99 : decode cX2_serve 99 = .ok (.aload_n 0, 1) := by decide +kernel
theorem dX2_serve_100 : decode cX2_serve 100 = .ok (.invokevirtual 158, 3) := by decide +kernel
theorem dX2_serve_103 : decode cX2_serve 103 = .ok (.aload_n 0, 1) := by decide +kernel
theorem dX2_serve_104 : decode cX2_serve 104 = .ok (.aload_n 0, 1) := by decide +kernel
theorem dX2_serve_105 : decode cX2_serve 105 = .ok (.getfield 28, 3) := by decide +kernel
theorem dX2_serve_108 : decode cX2_serve 108 = .ok (.aload_n 0, 1) := by decide +kernel
theorem dX2_serve_109 : decode cX2_serve 109 = .ok (.getfield 35, 3) := by decide +kernel
theorem dX2_serve_112 : decode cX2_serve 112 = .ok (.getfield 152, 3) := by decide +kernel
theorem dX2_serve_115 : decode cX2_serve 115 = .ok (.invokevirtual 161, 3) := by decide +kernel
theorem dX2_serve_118 : decode cX2_serve 118 = .ok (.invokevirtual 119, 3) := by decide +kernel
theorem dX2_serve_121 : decode cX2_serve 121 = .ok (.aload_n 0, 1) := by decide +kernel
theorem dX2_serve_122 : decode cX2_serve 122 = .ok (.aload_n 0, 1) := by decide +kernel
theorem dX2_serve_123 : decode cX2_serve 123 = .ok (.getfield 35, 3) := by decide +kernel
theorem dX2_serve_126 : decode cX2_serve 126 = .ok (.getfield 152, 3) := by decide +kernel
theorem dX2_serve_129 : decode cX2_serve 129 = .ok (.invokestatic 164, 3) := by decide +kernel
theorem dX2_serve_132 : decode cX2_serve 132 = .ok (.ifCond .eq 12, 3) := by decide +kernel
