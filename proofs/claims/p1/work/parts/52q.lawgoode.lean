set_option maxRecDepth 20000 in
theorem ggL_law_L_coldIn_r6 : GoodIn wsL_law wsL_coldIn_r6 := goodIn_r (big := wsL_law) _ [300, 264, 265, 266, 267, 272, 273, 274, 275, 276, 277, 278, 279, 280, 281, 282, 283, 45, 284, 285, 286, 287, 288, 289] (by decide +kernel) (by decide +kernel)
set_option maxRecDepth 20000 in
theorem ggL_law_L_coldIn_r7 : GoodIn wsL_law wsL_coldIn_r7 := goodIn_r (big := wsL_law) _ [290, 292, 293, 294, 295, 296, 297, 301, 302, 303, 304, 305, 306, 307, 308, 309, 129, 130, 131, 310, 311, 312, 313, 314] (by decide +kernel) (by decide +kernel)
set_option maxRecDepth 20000 in
theorem ggL_law_L_coldIn_r8 : GoodIn wsL_law wsL_coldIn_r8 := goodIn_r (big := wsL_law) _ [315, 316, 317, 318, 319, 320, 321, 326, 327, 328, 329, 332, 333, 334, 335, 336, 337, 338, 339, 340, 341, 342, 343, 344] (by decide +kernel) (by decide +kernel)
set_option maxRecDepth 20000 in
theorem ggL_law_L_coldIn_r9 : GoodIn wsL_law wsL_coldIn_r9 := goodIn_r (big := wsL_law) _ [345, 346, 347, 348, 349, 350, 351, 352, 353, 354, 355, 356, 357, 358, 359, 360, 361, 362, 365, 369, 370, 371, 372, 373] (by decide +kernel) (by decide +kernel)
set_option maxRecDepth 20000 in
theorem ggL_law_L_coldIn_r10 : GoodIn wsL_law wsL_coldIn_r10 := goodIn_r (big := wsL_law) _ [374, 375, 376, 378, 379, 380, 381] (by decide +kernel) (by decide +kernel)
set_option maxRecDepth 20000 in
theorem ggL_law_L_coldIn_wsX80 : GoodIn wsL_law wsX80 := goodIn_r (big := wsL_law) _ [786, 787] (by decide +kernel) (by decide +kernel)
set_option maxRecDepth 20000 in
theorem ggL_law_L_coldIn_wsX30 : GoodIn wsL_law wsX30 := goodIn_r (big := wsL_law) _ [791, 792, 793, 794, 795, 796, 797, 798, 799, 800, 801, 802, 803, 804, 805] (by decide +kernel) (by decide +kernel)
set_option maxRecDepth 20000 in
theorem ggL_law_L_coldIn_wsX70 : GoodIn wsL_law wsX70 := goodIn_r (big := wsL_law) _ [828, 829, 830, 831, 832, 833, 834, 835, 836] (by decide +kernel) (by decide +kernel)
set_option maxRecDepth 20000 in
theorem ggL_law_L_coldIn_wsX00 : GoodIn wsL_law wsX00 := goodIn_r (big := wsL_law) _ [821, 822, 823] (by decide +kernel) (by decide +kernel)
set_option maxRecDepth 20000 in
theorem ggL_law_L_coldIn_wsX60 : GoodIn wsL_law wsX60 := goodIn_r (big := wsL_law) _ [806, 807, 808, 809] (by decide +kernel) (by decide +kernel)
set_option maxRecDepth 20000 in
theorem ggL_law_L_coldIn_wsX20 : GoodIn wsL_law wsX20 := goodIn_r (big := wsL_law) _ [824, 825, 826, 827] (by decide +kernel) (by decide +kernel)
set_option maxRecDepth 20000 in
theorem ggL_law_L_coldIn_wsX50 : GoodIn wsL_law wsX50 := goodIn_r (big := wsL_law) _ [837, 838, 839, 840, 841, 842, 843] (by decide +kernel) (by decide +kernel)
set_option maxRecDepth 20000 in
theorem ggL_law_L_coldIn_wsX40 : GoodIn wsL_law wsX40 := goodIn_r (big := wsL_law) _ [810, 811, 812, 813, 814, 815] (by decide +kernel) (by decide +kernel)
set_option maxRecDepth 20000 in
theorem ggL_law_L_coldIn_wsX10 : GoodIn wsL_law wsX10 := goodIn_r (big := wsL_law) _ [816, 817, 818, 819, 820] (by decide +kernel) (by decide +kernel)
theorem ggL_law_L_coldIn : GoodIn wsL_law wsL_coldIn := by
  intro w h
  rcases List.mem_cons.mp h with h | h
  · exact ggL_law_L_coldIn_c w (List.mem_cons.mpr (Or.inl h))
  rcases List.mem_append.mp h with h | h
  rotate_left
  · exact goodIn_sub (big := wsL_law) (ws := (vx_atS RX8 78 "java/lang/IllegalArgumentException" ["java/lang/RuntimeException", "java/lang/Exception"]).filter goodWord) (fun _ h => List.mem_append_left _ (List.mem_append_left _ (List.mem_append_right _ h))) (by decide +kernel) w h
  rcases List.mem_append.mp h with h | h
  rotate_left
  · exact goodIn_sub (big := wsL_law) (ws := (vx_atS RX8 308 "java/lang/IndexOutOfBoundsException" ["java/lang/RuntimeException", "java/lang/Exception"]).filter goodWord) (fun _ h => List.mem_append_right _ h) (by decide +kernel) w h
  rcases List.mem_append.mp h with h | h
  rotate_left
  · exact ggL_law_L_coldIn_wsX10 w h
  rcases List.mem_append.mp h with h | h
  rotate_left
  · exact ggL_law_L_coldIn_wsX40 w h
  rcases List.mem_append.mp h with h | h
  rotate_left
  · exact ggL_law_L_coldIn_wsX50 w h
  rcases List.mem_append.mp h with h | h
  rotate_left
  · exact ggL_law_L_coldIn_wsX20 w h
  rcases List.mem_append.mp h with h | h
  rotate_left
  · exact ggL_law_L_coldIn_wsX60 w h
  rcases List.mem_append.mp h with h | h
  rotate_left
  · exact ggL_law_L_coldIn_wsX00 w h
  rcases List.mem_append.mp h with h | h
  rotate_left
  · exact ggL_law_L_coldIn_wsX70 w h
  rcases List.mem_append.mp h with h | h
  rotate_left
  · exact ggL_law_L_coldIn_wsX30 w h
  rcases List.mem_append.mp h with h | h
  rotate_left
  · exact ggL_law_L_coldIn_wsX80 w h
  rcases List.mem_append.mp h with h | h
  · exact ggL_law_L_coldIn_r1 w h
  rcases List.mem_append.mp h with h | h
  · exact ggL_law_L_coldIn_r2 w h
  rcases List.mem_append.mp h with h | h
  · exact ggL_law_L_coldIn_r3 w h
  rcases List.mem_append.mp h with h | h
  · exact ggL_law_L_coldIn_r4 w h
  rcases List.mem_append.mp h with h | h
  · exact ggL_law_L_coldIn_r5 w h
  rcases List.mem_append.mp h with h | h
  · exact ggL_law_L_coldIn_r6 w h
  rcases List.mem_append.mp h with h | h
  · exact ggL_law_L_coldIn_r7 w h
  rcases List.mem_append.mp h with h | h
  · exact ggL_law_L_coldIn_r8 w h
  rcases List.mem_append.mp h with h | h
  · exact ggL_law_L_coldIn_r9 w h
  exact ggL_law_L_coldIn_r10 w h
set_option maxRecDepth 20000 in
theorem ggL_law_X10_coldIn_c : GoodIn wsL_law [.code yX10_coldIn cX10_coldIn 3 (some .int)] := goodIn_r (big := wsL_law) _ [712] (by decide +kernel) (by decide +kernel)
set_option maxRecDepth 20000 in
theorem ggL_law_X10_coldIn_r1 : GoodIn wsL_law wsX10_coldIn_r1 := goodIn_r (big := wsL_law) _ [140, 206, 207, 208, 5, 209, 90, 141, 142, 143, 144, 145, 146, 147, 713, 714, 715, 716, 692, 693, 694, 89, 695, 696] (by decide +kernel) (by decide +kernel)
set_option maxRecDepth 20000 in
theorem ggL_law_X10_coldIn_r2 : GoodIn wsL_law wsX10_coldIn_r2 := goodIn_r (big := wsL_law) _ [88, 95, 96, 97, 98, 460, 399, 400, 405, 99, 697, 639, 640, 641, 104, 103, 105, 401, 106, 398, 698, 91, 92, 93] (by decide +kernel) (by decide +kernel)
set_option maxRecDepth 20000 in
theorem ggL_law_X10_coldIn_r3 : GoodIn wsL_law wsX10_coldIn_r3 := goodIn_r (big := wsL_law) _ [11, 12, 94, 42, 100, 101, 102, 107, 699, 700, 701, 483, 423, 424, 717, 395, 396, 397, 402, 316, 282, 317, 403, 285] (by decide +kernel) (by decide +kernel)
set_option maxRecDepth 20000 in
theorem ggL_law_X10_coldIn_r4 : GoodIn wsL_law wsX10_coldIn_r4 := goodIn_r (big := wsL_law) _ [286, 404, 406, 407, 408, 409, 410, 411, 412, 413, 414, 281, 283, 415, 416, 417, 418, 419, 420, 421, 422, 425, 426, 427] (by decide +kernel) (by decide +kernel)
set_option maxRecDepth 20000 in
theorem ggL_law_X10_coldIn_r5 : GoodIn wsL_law wsX10_coldIn_r5 := goodIn_r (big := wsL_law) _ [428, 429, 430, 431, 432, 433, 434, 435, 436, 393, 437, 438, 439, 440, 441, 442, 443, 444, 445, 446, 447, 448, 449, 450] (by decide +kernel) (by decide +kernel)
set_option maxRecDepth 20000 in
theorem ggL_law_X10_coldIn_r6 : GoodIn wsL_law wsX10_coldIn_r6 := goodIn_r (big := wsL_law) _ [451, 452, 453, 454, 455, 456, 457, 458, 459] (by decide +kernel) (by decide +kernel)
set_option maxRecDepth 20000 in
theorem ggL_law_X10_coldIn_wsX100 : GoodIn wsL_law wsX100 := goodIn_r (big := wsL_law) _ [788, 789, 790] (by decide +kernel) (by decide +kernel)
set_option maxRecDepth 20000 in
theorem ggL_law_X10_coldIn_wsX90 : GoodIn wsL_law wsX90 := goodIn_r (big := wsL_law) _ [844, 845, 846, 847, 848, 849, 850, 851, 852, 853, 854, 855, 856, 857, 858, 859, 860, 861, 862, 863, 864, 865, 866, 867] (by decide +kernel) (by decide +kernel)
theorem ggL_law_X10_coldIn : GoodIn wsL_law wsX10_coldIn := by
  intro w h
  rcases List.mem_cons.mp h with h | h
  · exact ggL_law_X10_coldIn_c w (List.mem_cons.mpr (Or.inl h))
  rcases List.mem_append.mp h with h | h
  rotate_left
  · exact ggL_law_X10_coldIn_wsX90 w h
  rcases List.mem_append.mp h with h | h
  rotate_left
  · exact ggL_law_X10_coldIn_wsX100 w h
  rcases List.mem_append.mp h with h | h
  · exact ggL_law_X10_coldIn_r1 w h
  rcases List.mem_append.mp h with h | h
  · exact ggL_law_X10_coldIn_r2 w h
  rcases List.mem_append.mp h with h | h
  · exact ggL_law_X10_coldIn_r3 w h
  rcases List.mem_append.mp h with h | h
  · exact ggL_law_X10_coldIn_r4 w h
  rcases List.mem_append.mp h with h | h
  · exact ggL_law_X10_coldIn_r5 w h
  exact ggL_law_X10_coldIn_r6 w h
set_option maxRecDepth 20000 in
theorem ggL_law_L_causedBy_c : GoodIn wsL_law [.codeWith yL_causedBy cL_causedBy 6 (some .int) [(0, 12, 15, 21), (0, 12, 19, 13)]] := goodIn_r (big := wsL_law) _ [720] (by decide +kernel) (by decide +kernel)
set_option maxRecDepth 20000 in
theorem ggL_law_L_causedBy_r1 : GoodIn wsL_law wsL_causedBy_r1 := goodIn_r (big := wsL_law) _ [155, 112, 721, 722, 723, 2, 724, 16, 17, 160, 161, 162, 163, 164, 118, 119, 120, 121, 122, 634, 635, 636, 15, 637] (by decide +kernel) (by decide +kernel)
set_option maxRecDepth 20000 in
theorem ggL_law_L_causedBy_r2 : GoodIn wsL_law wsL_causedBy_r2 := goodIn_r (big := wsL_law) _ [23, 25, 27, 29, 33, 37, 41, 43, 638, 639, 640, 641, 44, 377, 269, 270, 271, 268, 642, 643, 644, 47, 645, 73] (by decide +kernel) (by decide +kernel)
set_option maxRecDepth 20000 in
theorem ggL_law_L_causedBy_r3 : GoodIn wsL_law wsL_causedBy_r3 := goodIn_r (big := wsL_law) _ [291, 646, 647, 648, 649, 32, 650, 132, 133, 134, 135, 651, 652, 653, 49, 654, 655, 656, 657, 658, 659, 660, 661, 51] (by decide +kernel) (by decide +kernel)
set_option maxRecDepth 20000 in
theorem ggL_law_L_causedBy_r4 : GoodIn wsL_law wsL_causedBy_r4 := goodIn_r (big := wsL_law) _ [662, 663, 664, 665, 331, 330, 322, 323, 324, 325, 666, 667, 668, 53, 669, 670, 671, 364, 363, 366, 367, 368, 672, 673] (by decide +kernel) (by decide +kernel)
set_option maxRecDepth 20000 in
theorem ggL_law_L_causedBy_r5 : GoodIn wsL_law wsL_causedBy_r5 := goodIn_r (big := wsL_law) _ [674, 675, 36, 676, 60, 61, 677, 678, 679, 680, 681, 682, 683, 40, 684, 66, 67, 68, 685, 686, 687, 261, 262, 263] (by decide +kernel) (by decide +kernel)
set_option maxRecDepth 20000 in
theorem ggL_law_L_causedBy_r6 : GoodIn wsL_law wsL_causedBy_r6 := goodIn_r (big := wsL_law) _ [264, 265, 266, 267, 272, 273, 274, 275, 276, 277, 278, 279, 280, 281, 282, 283, 45, 284, 285, 286, 287, 288, 289, 290] (by decide +kernel) (by decide +kernel)
set_option maxRecDepth 20000 in
theorem ggL_law_L_causedBy_r7 : GoodIn wsL_law wsL_causedBy_r7 := goodIn_r (big := wsL_law) _ [292, 293, 294, 295, 296, 297, 298, 299, 300, 301, 302, 303, 304, 305, 306, 307, 308, 309, 129, 130, 131, 310, 311, 312] (by decide +kernel) (by decide +kernel)
set_option maxRecDepth 20000 in
theorem ggL_law_L_causedBy_r8 : GoodIn wsL_law wsL_causedBy_r8 := goodIn_r (big := wsL_law) _ [313, 314, 315, 316, 317, 318, 319, 320, 321, 326, 327, 328, 329, 332, 333, 334, 335, 336, 337, 338, 339, 340, 341, 342] (by decide +kernel) (by decide +kernel)
set_option maxRecDepth 20000 in
theorem ggL_law_L_causedBy_r9 : GoodIn wsL_law wsL_causedBy_r9 := goodIn_r (big := wsL_law) _ [343, 344, 345, 346, 347, 348, 349, 350, 351, 352, 353, 354, 355, 356, 357, 358, 359, 360, 361, 362, 365, 369, 370, 371] (by decide +kernel) (by decide +kernel)
set_option maxRecDepth 20000 in
theorem ggL_law_L_causedBy_r10 : GoodIn wsL_law wsL_causedBy_r10 := goodIn_r (big := wsL_law) _ [372, 373, 374, 375, 376, 378, 379, 380, 381] (by decide +kernel) (by decide +kernel)
set_option maxRecDepth 20000 in
theorem ggL_law_L_causedBy_wsX80 : GoodIn wsL_law wsX80 := goodIn_r (big := wsL_law) _ [786, 787] (by decide +kernel) (by decide +kernel)
set_option maxRecDepth 20000 in
theorem ggL_law_L_causedBy_wsX30 : GoodIn wsL_law wsX30 := goodIn_r (big := wsL_law) _ [791, 792, 793, 794, 795, 796, 797, 798, 799, 800, 801, 802, 803, 804, 805] (by decide +kernel) (by decide +kernel)
set_option maxRecDepth 20000 in
theorem ggL_law_L_causedBy_wsX50 : GoodIn wsL_law wsX50 := goodIn_r (big := wsL_law) _ [837, 838, 839, 840, 841, 842, 843] (by decide +kernel) (by decide +kernel)
set_option maxRecDepth 20000 in
theorem ggL_law_L_causedBy_wsX70 : GoodIn wsL_law wsX70 := goodIn_r (big := wsL_law) _ [828, 829, 830, 831, 832, 833, 834, 835, 836] (by decide +kernel) (by decide +kernel)
set_option maxRecDepth 20000 in
theorem ggL_law_L_causedBy_wsX00 : GoodIn wsL_law wsX00 := goodIn_r (big := wsL_law) _ [821, 822, 823] (by decide +kernel) (by decide +kernel)
set_option maxRecDepth 20000 in
theorem ggL_law_L_causedBy_wsX60 : GoodIn wsL_law wsX60 := goodIn_r (big := wsL_law) _ [806, 807, 808, 809] (by decide +kernel) (by decide +kernel)
set_option maxRecDepth 20000 in
theorem ggL_law_L_causedBy_wsX20 : GoodIn wsL_law wsX20 := goodIn_r (big := wsL_law) _ [824, 825, 826, 827] (by decide +kernel) (by decide +kernel)
set_option maxRecDepth 20000 in
theorem ggL_law_L_causedBy_wsX40 : GoodIn wsL_law wsX40 := goodIn_r (big := wsL_law) _ [810, 811, 812, 813, 814, 815] (by decide +kernel) (by decide +kernel)
set_option maxRecDepth 20000 in
theorem ggL_law_L_causedBy_wsX10 : GoodIn wsL_law wsX10 := goodIn_r (big := wsL_law) _ [816, 817, 818, 819, 820] (by decide +kernel) (by decide +kernel)
theorem ggL_law_L_causedBy : GoodIn wsL_law wsL_causedBy := by
  intro w h
  rcases List.mem_cons.mp h with h | h
  · exact ggL_law_L_causedBy_c w (List.mem_cons.mpr (Or.inl h))
  rcases List.mem_append.mp h with h | h
  rotate_left
  · exact goodIn_sub (big := wsL_law) (ws := (vx_atS RX8 78 "java/lang/IllegalArgumentException" ["java/lang/RuntimeException", "java/lang/Exception"]).filter goodWord) (fun _ h => List.mem_append_left _ (List.mem_append_left _ (List.mem_append_right _ h))) (by decide +kernel) w h
  rcases List.mem_append.mp h with h | h
  rotate_left
  · exact goodIn_sub (big := wsL_law) (ws := (vx_atS RX8 308 "java/lang/IndexOutOfBoundsException" ["java/lang/RuntimeException", "java/lang/Exception"]).filter goodWord) (fun _ h => List.mem_append_right _ h) (by decide +kernel) w h
  rcases List.mem_append.mp h with h | h
  rotate_left
  · exact ggL_law_L_causedBy_wsX10 w h
  rcases List.mem_append.mp h with h | h
  rotate_left
  · exact ggL_law_L_causedBy_wsX40 w h
  rcases List.mem_append.mp h with h | h
  rotate_left
  · exact ggL_law_L_causedBy_wsX20 w h
  rcases List.mem_append.mp h with h | h
  rotate_left
  · exact ggL_law_L_causedBy_wsX60 w h
  rcases List.mem_append.mp h with h | h
  rotate_left
  · exact ggL_law_L_causedBy_wsX00 w h
  rcases List.mem_append.mp h with h | h
  rotate_left
  · exact ggL_law_L_causedBy_wsX70 w h
  rcases List.mem_append.mp h with h | h
  rotate_left
  · exact ggL_law_L_causedBy_wsX50 w h
  rcases List.mem_append.mp h with h | h
  rotate_left
  · exact ggL_law_L_causedBy_wsX30 w h
  rcases List.mem_append.mp h with h | h
  rotate_left
  · exact ggL_law_L_causedBy_wsX80 w h
  rcases List.mem_append.mp h with h | h
  · exact ggL_law_L_causedBy_r1 w h
  rcases List.mem_append.mp h with h | h
  · exact ggL_law_L_causedBy_r2 w h
  rcases List.mem_append.mp h with h | h
  · exact ggL_law_L_causedBy_r3 w h
  rcases List.mem_append.mp h with h | h
  · exact ggL_law_L_causedBy_r4 w h
  rcases List.mem_append.mp h with h | h
  · exact ggL_law_L_causedBy_r5 w h
  rcases List.mem_append.mp h with h | h
  · exact ggL_law_L_causedBy_r6 w h
  rcases List.mem_append.mp h with h | h
  · exact ggL_law_L_causedBy_r7 w h
  rcases List.mem_append.mp h with h | h
  · exact ggL_law_L_causedBy_r8 w h
  rcases List.mem_append.mp h with h | h
  · exact ggL_law_L_causedBy_r9 w h
  exact ggL_law_L_causedBy_r10 w h
set_option maxRecDepth 20000 in
theorem ggL_law_X10_causedBy_c : GoodIn wsL_law [.code yX10_causedBy cX10_causedBy 4 (some .int)] := goodIn_r (big := wsL_law) _ [728] (by decide +kernel) (by decide +kernel)
set_option maxRecDepth 20000 in
theorem ggL_law_X10_causedBy_r1 : GoodIn wsL_law wsX10_causedBy_r1 := goodIn_r (big := wsL_law) _ [140, 506, 507, 508, 5, 509, 90, 141, 142, 143, 206, 207, 208, 209, 144, 145, 146, 147, 386, 387, 388, 729, 730, 731] (by decide +kernel) (by decide +kernel)
set_option maxRecDepth 20000 in
theorem ggL_law_X10_causedBy_r2 : GoodIn wsL_law wsX10_causedBy_r2 := goodIn_r (big := wsL_law) _ [732, 692, 693, 694, 89, 695, 696, 88, 95, 96, 97, 98, 460, 399, 400, 405, 99, 697, 639, 640, 641, 104, 103, 105] (by decide +kernel) (by decide +kernel)
