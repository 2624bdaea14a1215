set_option maxRecDepth 20000 in
theorem ggL_law_L_many : GoodIn wsL_law wsL_many := goodIn_ca (goodIn_r _ [592, 112, 593, 594, 595, 2, 596, 16, 118, 119, 120, 121, 122, 597, 273, 274, 15, 275, 44, 598, 599, 600, 601, 268, 602, 603, 604, 605, 271, 29, 786, 787, 791, 792, 793, 794, 795, 796, 797, 798, 799, 800, 801, 802, 803, 804, 805, 810, 811, 812, 813, 814, 815, 837, 838, 839, 840, 841, 842, 843] (by decide +kernel) (by decide +kernel)) (goodIn_sub (fun _ h => List.mem_append_left _ (List.mem_append_left _ (List.mem_append_right _ h))) (by decide +kernel))
set_option maxRecDepth 20000 in
theorem ggL_law_X10_many : GoodIn wsL_law wsX10_many := goodIn_r _ [609, 140, 141, 142, 5, 143, 610, 611, 612, 613, 42, 90, 614, 407, 408, 89, 409, 104, 615, 616, 617, 618, 405, 98, 144, 145, 146, 147, 788, 789, 790, 844, 845, 846, 847, 848, 849, 850, 851, 852, 853, 854, 855, 856, 857, 858, 859, 860, 861, 862, 863, 864, 865, 866, 867] (by decide +kernel) (by decide +kernel)
set_option maxRecDepth 20000 in
theorem ggL_law_X8_meanWarmth : GoodIn wsL_law wsX8_meanWarmth := goodIn_r _ [622, 16, 469, 298, 299, 47, 300, 291, 73, 786, 787, 791, 792, 793, 794, 795, 796, 797, 798, 799, 800, 801, 802, 803, 804, 805, 821, 822, 823, 806, 807, 808, 809] (by decide +kernel) (by decide +kernel)
set_option maxRecDepth 20000 in
theorem ggL_law_X10_meanWarmth : GoodIn wsL_law wsX10_meanWarmth := goodIn_r _ [626, 140, 90, 478, 479, 480, 5, 481, 482, 416, 89, 417, 483, 423, 424, 788, 789, 790, 844, 845, 846, 847, 848, 849, 850, 851, 852, 853, 854, 855, 856, 857, 858, 859, 860, 861, 862, 863, 864, 865, 866, 867] (by decide +kernel) (by decide +kernel)
set_option maxRecDepth 20000 in
theorem ggL_law_L_wouldGive_c : GoodIn wsL_law [.codeWith yL_wouldGive cL_wouldGive 4 (some .int) [(0, 9, 12, 13)]] := goodIn_r (big := wsL_law) _ [629] (by decide +kernel) (by decide +kernel)
set_option maxRecDepth 20000 in
theorem ggL_law_L_wouldGive_r1 : GoodIn wsL_law wsL_wouldGive_r1 := goodIn_r (big := wsL_law) _ [112, 630, 631, 632, 2, 633, 17, 16, 118, 119, 120, 121, 122, 634, 635, 636, 15, 637, 23, 25, 27, 29, 33, 37] (by decide +kernel) (by decide +kernel)
set_option maxRecDepth 20000 in
theorem ggL_law_L_wouldGive_r2 : GoodIn wsL_law wsL_wouldGive_r2 := goodIn_r (big := wsL_law) _ [41, 43, 638, 639, 640, 641, 44, 377, 269, 270, 271, 268, 642, 643, 644, 47, 645, 73, 291, 646, 647, 648, 649, 32] (by decide +kernel) (by decide +kernel)
set_option maxRecDepth 20000 in
theorem ggL_law_L_wouldGive_r3 : GoodIn wsL_law wsL_wouldGive_r3 := goodIn_r (big := wsL_law) _ [650, 132, 133, 134, 135, 651, 652, 653, 49, 654, 655, 656, 657, 658, 659, 660, 661, 51, 662, 663, 664, 665, 331, 330] (by decide +kernel) (by decide +kernel)
set_option maxRecDepth 20000 in
theorem ggL_law_L_wouldGive_r4 : GoodIn wsL_law wsL_wouldGive_r4 := goodIn_r (big := wsL_law) _ [322, 323, 324, 325, 666, 667, 668, 53, 669, 670, 671, 364, 363, 366, 367, 368, 672, 673, 674, 675, 36, 676, 60, 61] (by decide +kernel) (by decide +kernel)
set_option maxRecDepth 20000 in
theorem ggL_law_L_wouldGive_r5 : GoodIn wsL_law wsL_wouldGive_r5 := goodIn_r (big := wsL_law) _ [677, 678, 679, 680, 681, 682, 683, 40, 684, 66, 67, 68, 685, 686, 687, 261, 262, 263, 264, 265, 266, 267, 272, 273] (by decide +kernel) (by decide +kernel)
set_option maxRecDepth 20000 in
theorem ggL_law_L_wouldGive_r6 : GoodIn wsL_law wsL_wouldGive_r6 := goodIn_r (big := wsL_law) _ [274, 275, 276, 277, 278, 279, 280, 281, 282, 283, 45, 284, 285, 286, 287, 288, 289, 290, 292, 293, 294, 295, 296, 297] (by decide +kernel) (by decide +kernel)
set_option maxRecDepth 20000 in
theorem ggL_law_L_wouldGive_r7 : GoodIn wsL_law wsL_wouldGive_r7 := goodIn_r (big := wsL_law) _ [298, 299, 300, 301, 302, 303, 304, 305, 306, 307, 308, 309, 129, 130, 131, 310, 311, 312, 313, 314, 315, 316, 317, 318] (by decide +kernel) (by decide +kernel)
set_option maxRecDepth 20000 in
theorem ggL_law_L_wouldGive_r8 : GoodIn wsL_law wsL_wouldGive_r8 := goodIn_r (big := wsL_law) _ [319, 320, 321, 326, 327, 328, 329, 332, 333, 334, 335, 336, 337, 338, 339, 340, 341, 342, 343, 344, 345, 346, 347, 348] (by decide +kernel) (by decide +kernel)
set_option maxRecDepth 20000 in
theorem ggL_law_L_wouldGive_r9 : GoodIn wsL_law wsL_wouldGive_r9 := goodIn_r (big := wsL_law) _ [349, 350, 351, 352, 353, 354, 355, 356, 357, 358, 359, 360, 361, 362, 365, 369, 370, 371, 372, 373, 374, 375, 376, 378] (by decide +kernel) (by decide +kernel)
set_option maxRecDepth 20000 in
theorem ggL_law_L_wouldGive_r10 : GoodIn wsL_law wsL_wouldGive_r10 := goodIn_r (big := wsL_law) _ [379, 380, 381] (by decide +kernel) (by decide +kernel)
set_option maxRecDepth 20000 in
theorem ggL_law_L_wouldGive_wsX80 : GoodIn wsL_law wsX80 := goodIn_r (big := wsL_law) _ [786, 787] (by decide +kernel) (by decide +kernel)
set_option maxRecDepth 20000 in
theorem ggL_law_L_wouldGive_wsX30 : GoodIn wsL_law wsX30 := goodIn_r (big := wsL_law) _ [791, 792, 793, 794, 795, 796, 797, 798, 799, 800, 801, 802, 803, 804, 805] (by decide +kernel) (by decide +kernel)
set_option maxRecDepth 20000 in
theorem ggL_law_L_wouldGive_wsX00 : GoodIn wsL_law wsX00 := goodIn_r (big := wsL_law) _ [821, 822, 823] (by decide +kernel) (by decide +kernel)
set_option maxRecDepth 20000 in
theorem ggL_law_L_wouldGive_wsX60 : GoodIn wsL_law wsX60 := goodIn_r (big := wsL_law) _ [806, 807, 808, 809] (by decide +kernel) (by decide +kernel)
set_option maxRecDepth 20000 in
theorem ggL_law_L_wouldGive_wsX20 : GoodIn wsL_law wsX20 := goodIn_r (big := wsL_law) _ [824, 825, 826, 827] (by decide +kernel) (by decide +kernel)
set_option maxRecDepth 20000 in
theorem ggL_law_L_wouldGive_wsX70 : GoodIn wsL_law wsX70 := goodIn_r (big := wsL_law) _ [828, 829, 830, 831, 832, 833, 834, 835, 836] (by decide +kernel) (by decide +kernel)
set_option maxRecDepth 20000 in
theorem ggL_law_L_wouldGive_wsX50 : GoodIn wsL_law wsX50 := goodIn_r (big := wsL_law) _ [837, 838, 839, 840, 841, 842, 843] (by decide +kernel) (by decide +kernel)
set_option maxRecDepth 20000 in
theorem ggL_law_L_wouldGive_wsX40 : GoodIn wsL_law wsX40 := goodIn_r (big := wsL_law) _ [810, 811, 812, 813, 814, 815] (by decide +kernel) (by decide +kernel)
set_option maxRecDepth 20000 in
theorem ggL_law_L_wouldGive_wsX10 : GoodIn wsL_law wsX10 := goodIn_r (big := wsL_law) _ [816, 817, 818, 819, 820] (by decide +kernel) (by decide +kernel)
theorem ggL_law_L_wouldGive : GoodIn wsL_law wsL_wouldGive := by
  intro w h
  rcases List.mem_cons.mp h with h | h
  · exact ggL_law_L_wouldGive_c w (List.mem_cons.mpr (Or.inl h))
  rcases List.mem_append.mp h with h | h
  rotate_left
  · exact goodIn_sub (big := wsL_law) (ws := (vx_atS RX8 78 "java/lang/IllegalArgumentException" ["java/lang/RuntimeException", "java/lang/Exception"]).filter goodWord) (fun _ h => List.mem_append_left _ (List.mem_append_left _ (List.mem_append_right _ h))) (by decide +kernel) w h
  rcases List.mem_append.mp h with h | h
  rotate_left
  · exact ggL_law_L_wouldGive_wsX10 w h
  rcases List.mem_append.mp h with h | h
  rotate_left
  · exact ggL_law_L_wouldGive_wsX40 w h
  rcases List.mem_append.mp h with h | h
  rotate_left
  · exact ggL_law_L_wouldGive_wsX50 w h
  rcases List.mem_append.mp h with h | h
  rotate_left
  · exact ggL_law_L_wouldGive_wsX70 w h
  rcases List.mem_append.mp h with h | h
  rotate_left
  · exact ggL_law_L_wouldGive_wsX20 w h
  rcases List.mem_append.mp h with h | h
  rotate_left
  · exact ggL_law_L_wouldGive_wsX60 w h
  rcases List.mem_append.mp h with h | h
  rotate_left
  · exact ggL_law_L_wouldGive_wsX00 w h
  rcases List.mem_append.mp h with h | h
  rotate_left
  · exact ggL_law_L_wouldGive_wsX30 w h
  rcases List.mem_append.mp h with h | h
  rotate_left
  · exact ggL_law_L_wouldGive_wsX80 w h
  rcases List.mem_append.mp h with h | h
  · exact ggL_law_L_wouldGive_r1 w h
  rcases List.mem_append.mp h with h | h
  · exact ggL_law_L_wouldGive_r2 w h
  rcases List.mem_append.mp h with h | h
  · exact ggL_law_L_wouldGive_r3 w h
  rcases List.mem_append.mp h with h | h
  · exact ggL_law_L_wouldGive_r4 w h
  rcases List.mem_append.mp h with h | h
  · exact ggL_law_L_wouldGive_r5 w h
  rcases List.mem_append.mp h with h | h
  · exact ggL_law_L_wouldGive_r6 w h
  rcases List.mem_append.mp h with h | h
  · exact ggL_law_L_wouldGive_r7 w h
  rcases List.mem_append.mp h with h | h
  · exact ggL_law_L_wouldGive_r8 w h
  rcases List.mem_append.mp h with h | h
  · exact ggL_law_L_wouldGive_r9 w h
  exact ggL_law_L_wouldGive_r10 w h
set_option maxRecDepth 20000 in
theorem ggL_law_X10_wouldGive_c : GoodIn wsL_law [.code yX10_wouldGive cX10_wouldGive 2 (some .int)] := goodIn_r (big := wsL_law) _ [691] (by decide +kernel) (by decide +kernel)
set_option maxRecDepth 20000 in
theorem ggL_law_X10_wouldGive_r1 : GoodIn wsL_law wsX10_wouldGive_r1 := goodIn_r (big := wsL_law) _ [140, 90, 386, 387, 5, 388, 141, 142, 143, 692, 693, 694, 89, 695, 696, 88, 95, 96, 97, 98, 460, 399, 400, 405] (by decide +kernel) (by decide +kernel)
set_option maxRecDepth 20000 in
theorem ggL_law_X10_wouldGive_r2 : GoodIn wsL_law wsX10_wouldGive_r2 := goodIn_r (big := wsL_law) _ [99, 697, 639, 640, 641, 104, 103, 105, 401, 106, 398, 698, 91, 92, 93, 11, 12, 94, 42, 100, 101, 102, 107, 699] (by decide +kernel) (by decide +kernel)
set_option maxRecDepth 20000 in
theorem ggL_law_X10_wouldGive_r3 : GoodIn wsL_law wsX10_wouldGive_r3 := goodIn_r (big := wsL_law) _ [700, 701, 389, 390, 391, 392, 393, 394, 395, 396, 397, 402, 316, 282, 317, 403, 285, 286, 404, 406, 407, 408, 409, 410] (by decide +kernel) (by decide +kernel)
set_option maxRecDepth 20000 in
theorem ggL_law_X10_wouldGive_r4 : GoodIn wsL_law wsX10_wouldGive_r4 := goodIn_r (big := wsL_law) _ [411, 412, 413, 414, 281, 283, 415, 416, 417, 418, 419, 420, 421, 422, 423, 424, 425, 426, 427, 428, 429, 430, 431, 432] (by decide +kernel) (by decide +kernel)
set_option maxRecDepth 20000 in
theorem ggL_law_X10_wouldGive_r5 : GoodIn wsL_law wsX10_wouldGive_r5 := goodIn_r (big := wsL_law) _ [433, 434, 435, 436, 437, 438, 439, 440, 441, 442, 443, 444, 445, 446, 447, 448, 449, 450, 451, 452, 453, 454, 455, 456] (by decide +kernel) (by decide +kernel)
set_option maxRecDepth 20000 in
theorem ggL_law_X10_wouldGive_r6 : GoodIn wsL_law wsX10_wouldGive_r6 := goodIn_r (big := wsL_law) _ [457, 458, 459, 144, 145, 146, 147] (by decide +kernel) (by decide +kernel)
set_option maxRecDepth 20000 in
theorem ggL_law_X10_wouldGive_wsX100 : GoodIn wsL_law wsX100 := goodIn_r (big := wsL_law) _ [788, 789, 790] (by decide +kernel) (by decide +kernel)
set_option maxRecDepth 20000 in
theorem ggL_law_X10_wouldGive_wsX90 : GoodIn wsL_law wsX90 := goodIn_r (big := wsL_law) _ [844, 845, 846, 847, 848, 849, 850, 851, 852, 853, 854, 855, 856, 857, 858, 859, 860, 861, 862, 863, 864, 865, 866, 867] (by decide +kernel) (by decide +kernel)
theorem ggL_law_X10_wouldGive : GoodIn wsL_law wsX10_wouldGive := by
  intro w h
  rcases List.mem_cons.mp h with h | h
  · exact ggL_law_X10_wouldGive_c w (List.mem_cons.mpr (Or.inl h))
  rcases List.mem_append.mp h with h | h
  rotate_left
  · exact ggL_law_X10_wouldGive_wsX90 w h
  rcases List.mem_append.mp h with h | h
  rotate_left
  · exact ggL_law_X10_wouldGive_wsX100 w h
  rcases List.mem_append.mp h with h | h
  · exact ggL_law_X10_wouldGive_r1 w h
  rcases List.mem_append.mp h with h | h
  · exact ggL_law_X10_wouldGive_r2 w h
  rcases List.mem_append.mp h with h | h
  · exact ggL_law_X10_wouldGive_r3 w h
  rcases List.mem_append.mp h with h | h
  · exact ggL_law_X10_wouldGive_r4 w h
  rcases List.mem_append.mp h with h | h
  · exact ggL_law_X10_wouldGive_r5 w h
  exact ggL_law_X10_wouldGive_r6 w h
set_option maxRecDepth 20000 in
theorem ggL_law_L_coldIn_c : GoodIn wsL_law [.codeWith yL_coldIn cL_coldIn 5 (some .int) [(0, 10, 13, 21), (0, 10, 17, 13)]] := goodIn_r (big := wsL_law) _ [704] (by decide +kernel) (by decide +kernel)
set_option maxRecDepth 20000 in
theorem ggL_law_L_coldIn_r1 : GoodIn wsL_law wsL_coldIn_r1 := goodIn_r (big := wsL_law) _ [155, 112, 705, 706, 707, 2, 708, 16, 17, 160, 161, 162, 163, 164, 118, 119, 120, 121, 122, 634, 635, 636, 15, 637] (by decide +kernel) (by decide +kernel)
set_option maxRecDepth 20000 in
theorem ggL_law_L_coldIn_r2 : GoodIn wsL_law wsL_coldIn_r2 := goodIn_r (big := wsL_law) _ [23, 25, 27, 29, 33, 37, 41, 43, 638, 639, 640, 641, 44, 377, 269, 270, 271, 268, 642, 643, 644, 47, 645, 73] (by decide +kernel) (by decide +kernel)
set_option maxRecDepth 20000 in
theorem ggL_law_L_coldIn_r3 : GoodIn wsL_law wsL_coldIn_r3 := goodIn_r (big := wsL_law) _ [291, 646, 647, 648, 649, 32, 650, 132, 133, 134, 135, 651, 652, 653, 49, 654, 655, 656, 657, 658, 659, 660, 661, 51] (by decide +kernel) (by decide +kernel)
set_option maxRecDepth 20000 in
theorem ggL_law_L_coldIn_r4 : GoodIn wsL_law wsL_coldIn_r4 := goodIn_r (big := wsL_law) _ [662, 663, 664, 665, 331, 330, 322, 323, 324, 325, 666, 667, 668, 53, 669, 670, 671, 364, 363, 366, 367, 368, 672, 673] (by decide +kernel) (by decide +kernel)
set_option maxRecDepth 20000 in
theorem ggL_law_L_coldIn_r5 : GoodIn wsL_law wsL_coldIn_r5 := goodIn_r (big := wsL_law) _ [674, 675, 36, 676, 60, 61, 677, 678, 679, 680, 681, 682, 683, 40, 684, 66, 67, 68, 685, 686, 687, 469, 298, 299] (by decide +kernel) (by decide +kernel)
