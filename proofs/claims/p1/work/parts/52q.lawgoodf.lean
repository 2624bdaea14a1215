set_option maxRecDepth 20000 in
theorem ggL_law_X10_causedBy_r3 : GoodIn wsL_law wsX10_causedBy_r3 := goodIn_r (big := wsL_law) _ [401, 106, 398, 698, 91, 92, 93, 11, 12, 94, 42, 100, 101, 102, 107, 699, 700, 701, 389, 390, 391, 392, 393, 394] (by decide +kernel) (by decide +kernel)
set_option maxRecDepth 20000 in
theorem ggL_law_X10_causedBy_r4 : GoodIn wsL_law wsX10_causedBy_r4 := goodIn_r (big := wsL_law) _ [395, 396, 397, 402, 316, 282, 317, 403, 285, 286, 404, 406, 407, 408, 409, 410, 411, 412, 413, 414, 281, 283, 415, 416] (by decide +kernel) (by decide +kernel)
set_option maxRecDepth 20000 in
theorem ggL_law_X10_causedBy_r5 : GoodIn wsL_law wsX10_causedBy_r5 := goodIn_r (big := wsL_law) _ [417, 418, 419, 420, 421, 422, 423, 424, 425, 426, 427, 428, 429, 430, 431, 432, 433, 434, 435, 436, 437, 438, 439, 440] (by decide +kernel) (by decide +kernel)
set_option maxRecDepth 20000 in
theorem ggL_law_X10_causedBy_r6 : GoodIn wsL_law wsX10_causedBy_r6 := goodIn_r (big := wsL_law) _ [441, 442, 443, 444, 445, 446, 447, 448, 449, 450, 451, 452, 453, 454, 455, 456, 457, 458, 459] (by decide +kernel) (by decide +kernel)
set_option maxRecDepth 20000 in
theorem ggL_law_X10_causedBy_wsX100 : GoodIn wsL_law wsX100 := goodIn_r (big := wsL_law) _ [788, 789, 790] (by decide +kernel) (by decide +kernel)
set_option maxRecDepth 20000 in
theorem ggL_law_X10_causedBy_wsX90 : GoodIn wsL_law wsX90 := goodIn_r (big := wsL_law) _ [844, 845, 846, 847, 848, 849, 850, 851, 852, 853, 854, 855, 856, 857, 858, 859, 860, 861, 862, 863, 864, 865, 866, 867] (by decide +kernel) (by decide +kernel)
theorem ggL_law_X10_causedBy : GoodIn wsL_law wsX10_causedBy := by
  intro w h
  rcases List.mem_cons.mp h with h | h
  · exact ggL_law_X10_causedBy_c w (List.mem_cons.mpr (Or.inl h))
  rcases List.mem_append.mp h with h | h
  rotate_left
  · exact ggL_law_X10_causedBy_wsX90 w h
  rcases List.mem_append.mp h with h | h
  rotate_left
  · exact ggL_law_X10_causedBy_wsX100 w h
  rcases List.mem_append.mp h with h | h
  · exact ggL_law_X10_causedBy_r1 w h
  rcases List.mem_append.mp h with h | h
  · exact ggL_law_X10_causedBy_r2 w h
  rcases List.mem_append.mp h with h | h
  · exact ggL_law_X10_causedBy_r3 w h
  rcases List.mem_append.mp h with h | h
  · exact ggL_law_X10_causedBy_r4 w h
  rcases List.mem_append.mp h with h | h
  · exact ggL_law_X10_causedBy_r5 w h
  exact ggL_law_X10_causedBy_r6 w h
set_option maxRecDepth 20000 in
theorem ggL_law_L_bestValves_c : GoodIn wsL_law [.codeWith yL_bestValves cL_bestValves 4 (some .int) [(0, 9, 12, 13)]] := goodIn_r (big := wsL_law) _ [735] (by decide +kernel) (by decide +kernel)
set_option maxRecDepth 20000 in
theorem ggL_law_L_bestValves_r1 : GoodIn wsL_law wsL_bestValves_r1 := goodIn_r (big := wsL_law) _ [112, 736, 737, 738, 2, 739, 16, 17, 118, 119, 120, 121, 122, 602, 603, 604, 15, 605, 271, 29, 634, 635, 636, 637] (by decide +kernel) (by decide +kernel)
set_option maxRecDepth 20000 in
theorem ggL_law_L_bestValves_r2 : GoodIn wsL_law wsL_bestValves_r2 := goodIn_r (big := wsL_law) _ [23, 25, 27, 33, 37, 41, 43, 638, 639, 640, 641, 44, 377, 269, 270, 268, 642, 643, 644, 47, 645, 73, 291, 646] (by decide +kernel) (by decide +kernel)
set_option maxRecDepth 20000 in
theorem ggL_law_L_bestValves_r3 : GoodIn wsL_law wsL_bestValves_r3 := goodIn_r (big := wsL_law) _ [647, 648, 649, 32, 650, 132, 133, 134, 135, 651, 652, 653, 49, 654, 655, 656, 657, 658, 659, 660, 661, 51, 662, 663] (by decide +kernel) (by decide +kernel)
set_option maxRecDepth 20000 in
theorem ggL_law_L_bestValves_r4 : GoodIn wsL_law wsL_bestValves_r4 := goodIn_r (big := wsL_law) _ [664, 665, 331, 330, 322, 323, 324, 325, 666, 667, 668, 53, 669, 670, 671, 364, 363, 366, 367, 368, 672, 673, 674, 675] (by decide +kernel) (by decide +kernel)
set_option maxRecDepth 20000 in
theorem ggL_law_L_bestValves_r5 : GoodIn wsL_law wsL_bestValves_r5 := goodIn_r (big := wsL_law) _ [36, 676, 60, 61, 677, 678, 679, 680, 681, 682, 683, 40, 684, 66, 67, 68, 685, 686, 687, 740, 741, 742, 743, 261] (by decide +kernel) (by decide +kernel)
set_option maxRecDepth 20000 in
theorem ggL_law_L_bestValves_r6 : GoodIn wsL_law wsL_bestValves_r6 := goodIn_r (big := wsL_law) _ [262, 263, 264, 265, 266, 267, 272, 273, 274, 275, 276, 277, 278, 279, 280, 281, 282, 283, 45, 284, 285, 286, 287, 288] (by decide +kernel) (by decide +kernel)
set_option maxRecDepth 20000 in
theorem ggL_law_L_bestValves_r7 : GoodIn wsL_law wsL_bestValves_r7 := goodIn_r (big := wsL_law) _ [289, 290, 292, 293, 294, 295, 296, 297, 298, 299, 300, 301, 302, 303, 304, 305, 306, 307, 308, 309, 129, 130, 131, 310] (by decide +kernel) (by decide +kernel)
set_option maxRecDepth 20000 in
theorem ggL_law_L_bestValves_r8 : GoodIn wsL_law wsL_bestValves_r8 := goodIn_r (big := wsL_law) _ [311, 312, 313, 314, 315, 316, 317, 318, 319, 320, 321, 326, 327, 328, 329, 332, 333, 334, 335, 336, 337, 338, 339, 340] (by decide +kernel) (by decide +kernel)
set_option maxRecDepth 20000 in
theorem ggL_law_L_bestValves_r9 : GoodIn wsL_law wsL_bestValves_r9 := goodIn_r (big := wsL_law) _ [341, 342, 343, 344, 345, 346, 347, 348, 349, 350, 351, 352, 353, 354, 355, 356, 357, 358, 359, 360, 361, 362, 365, 369] (by decide +kernel) (by decide +kernel)
set_option maxRecDepth 20000 in
theorem ggL_law_L_bestValves_r10 : GoodIn wsL_law wsL_bestValves_r10 := goodIn_r (big := wsL_law) _ [370, 371, 372, 373, 374, 375, 376, 378, 379, 380, 381] (by decide +kernel) (by decide +kernel)
set_option maxRecDepth 20000 in
theorem ggL_law_L_bestValves_wsX80 : GoodIn wsL_law wsX80 := goodIn_r (big := wsL_law) _ [786, 787] (by decide +kernel) (by decide +kernel)
set_option maxRecDepth 20000 in
theorem ggL_law_L_bestValves_wsX30 : GoodIn wsL_law wsX30 := goodIn_r (big := wsL_law) _ [791, 792, 793, 794, 795, 796, 797, 798, 799, 800, 801, 802, 803, 804, 805] (by decide +kernel) (by decide +kernel)
set_option maxRecDepth 20000 in
theorem ggL_law_L_bestValves_wsX50 : GoodIn wsL_law wsX50 := goodIn_r (big := wsL_law) _ [837, 838, 839, 840, 841, 842, 843] (by decide +kernel) (by decide +kernel)
set_option maxRecDepth 20000 in
theorem ggL_law_L_bestValves_wsX00 : GoodIn wsL_law wsX00 := goodIn_r (big := wsL_law) _ [821, 822, 823] (by decide +kernel) (by decide +kernel)
set_option maxRecDepth 20000 in
theorem ggL_law_L_bestValves_wsX60 : GoodIn wsL_law wsX60 := goodIn_r (big := wsL_law) _ [806, 807, 808, 809] (by decide +kernel) (by decide +kernel)
set_option maxRecDepth 20000 in
theorem ggL_law_L_bestValves_wsX20 : GoodIn wsL_law wsX20 := goodIn_r (big := wsL_law) _ [824, 825, 826, 827] (by decide +kernel) (by decide +kernel)
set_option maxRecDepth 20000 in
theorem ggL_law_L_bestValves_wsX70 : GoodIn wsL_law wsX70 := goodIn_r (big := wsL_law) _ [828, 829, 830, 831, 832, 833, 834, 835, 836] (by decide +kernel) (by decide +kernel)
set_option maxRecDepth 20000 in
theorem ggL_law_L_bestValves_wsX40 : GoodIn wsL_law wsX40 := goodIn_r (big := wsL_law) _ [810, 811, 812, 813, 814, 815] (by decide +kernel) (by decide +kernel)
set_option maxRecDepth 20000 in
theorem ggL_law_L_bestValves_wsX10 : GoodIn wsL_law wsX10 := goodIn_r (big := wsL_law) _ [816, 817, 818, 819, 820] (by decide +kernel) (by decide +kernel)
theorem ggL_law_L_bestValves : GoodIn wsL_law wsL_bestValves := by
  intro w h
  rcases List.mem_cons.mp h with h | h
  · exact ggL_law_L_bestValves_c w (List.mem_cons.mpr (Or.inl h))
  rcases List.mem_append.mp h with h | h
  rotate_left
  · exact goodIn_sub (big := wsL_law) (ws := (vx_atS RX8 78 "java/lang/IllegalArgumentException" ["java/lang/RuntimeException", "java/lang/Exception"]).filter goodWord) (fun _ h => List.mem_append_left _ (List.mem_append_left _ (List.mem_append_right _ h))) (by decide +kernel) w h
  rcases List.mem_append.mp h with h | h
  rotate_left
  · exact ggL_law_L_bestValves_wsX10 w h
  rcases List.mem_append.mp h with h | h
  rotate_left
  · exact ggL_law_L_bestValves_wsX40 w h
  rcases List.mem_append.mp h with h | h
  rotate_left
  · exact ggL_law_L_bestValves_wsX70 w h
  rcases List.mem_append.mp h with h | h
  rotate_left
  · exact ggL_law_L_bestValves_wsX20 w h
  rcases List.mem_append.mp h with h | h
  rotate_left
  · exact ggL_law_L_bestValves_wsX60 w h
  rcases List.mem_append.mp h with h | h
  rotate_left
  · exact ggL_law_L_bestValves_wsX00 w h
  rcases List.mem_append.mp h with h | h
  rotate_left
  · exact ggL_law_L_bestValves_wsX50 w h
  rcases List.mem_append.mp h with h | h
  rotate_left
  · exact ggL_law_L_bestValves_wsX30 w h
  rcases List.mem_append.mp h with h | h
  rotate_left
  · exact ggL_law_L_bestValves_wsX80 w h
  rcases List.mem_append.mp h with h | h
  · exact ggL_law_L_bestValves_r1 w h
  rcases List.mem_append.mp h with h | h
  · exact ggL_law_L_bestValves_r2 w h
  rcases List.mem_append.mp h with h | h
  · exact ggL_law_L_bestValves_r3 w h
  rcases List.mem_append.mp h with h | h
  · exact ggL_law_L_bestValves_r4 w h
  rcases List.mem_append.mp h with h | h
  · exact ggL_law_L_bestValves_r5 w h
  rcases List.mem_append.mp h with h | h
  · exact ggL_law_L_bestValves_r6 w h
  rcases List.mem_append.mp h with h | h
  · exact ggL_law_L_bestValves_r7 w h
  rcases List.mem_append.mp h with h | h
  · exact ggL_law_L_bestValves_r8 w h
  rcases List.mem_append.mp h with h | h
  · exact ggL_law_L_bestValves_r9 w h
  exact ggL_law_L_bestValves_r10 w h
set_option maxRecDepth 20000 in
theorem ggL_law_X10_bestValves_c : GoodIn wsL_law [.code yX10_bestValves cX10_bestValves 2 (some .int)] := goodIn_r (big := wsL_law) _ [747] (by decide +kernel) (by decide +kernel)
set_option maxRecDepth 20000 in
theorem ggL_law_X10_bestValves_r1 : GoodIn wsL_law wsX10_bestValves_r1 := goodIn_r (big := wsL_law) _ [140, 141, 142, 5, 143, 748, 749, 750, 751, 752, 753, 754, 755, 90, 692, 693, 694, 89, 695, 696, 88, 95, 96, 97] (by decide +kernel) (by decide +kernel)
set_option maxRecDepth 20000 in
theorem ggL_law_X10_bestValves_r2 : GoodIn wsL_law wsX10_bestValves_r2 := goodIn_r (big := wsL_law) _ [98, 460, 399, 400, 405, 99, 697, 639, 640, 641, 104, 103, 105, 401, 106, 398, 698, 91, 92, 93, 11, 12, 94, 42] (by decide +kernel) (by decide +kernel)
set_option maxRecDepth 20000 in
theorem ggL_law_X10_bestValves_r3 : GoodIn wsL_law wsX10_bestValves_r3 := goodIn_r (big := wsL_law) _ [100, 101, 102, 107, 699, 700, 701, 615, 616, 617, 618, 389, 390, 391, 392, 393, 394, 395, 396, 397, 402, 316, 282, 317] (by decide +kernel) (by decide +kernel)
set_option maxRecDepth 20000 in
theorem ggL_law_X10_bestValves_r4 : GoodIn wsL_law wsX10_bestValves_r4 := goodIn_r (big := wsL_law) _ [403, 285, 286, 404, 406, 407, 408, 409, 410, 411, 412, 413, 414, 281, 283, 415, 416, 417, 418, 419, 420, 421, 422, 423] (by decide +kernel) (by decide +kernel)
set_option maxRecDepth 20000 in
theorem ggL_law_X10_bestValves_r5 : GoodIn wsL_law wsX10_bestValves_r5 := goodIn_r (big := wsL_law) _ [424, 425, 426, 427, 428, 429, 430, 431, 432, 433, 434, 435, 436, 437, 438, 439, 440, 441, 442, 443, 444, 445, 446, 447] (by decide +kernel) (by decide +kernel)
set_option maxRecDepth 20000 in
theorem ggL_law_X10_bestValves_r6 : GoodIn wsL_law wsX10_bestValves_r6 := goodIn_r (big := wsL_law) _ [448, 449, 450, 451, 452, 453, 454, 455, 456, 457, 458, 459, 144, 145, 146, 147] (by decide +kernel) (by decide +kernel)
set_option maxRecDepth 20000 in
theorem ggL_law_X10_bestValves_wsX100 : GoodIn wsL_law wsX100 := goodIn_r (big := wsL_law) _ [788, 789, 790] (by decide +kernel) (by decide +kernel)
set_option maxRecDepth 20000 in
theorem ggL_law_X10_bestValves_wsX90 : GoodIn wsL_law wsX90 := goodIn_r (big := wsL_law) _ [844, 845, 846, 847, 848, 849, 850, 851, 852, 853, 854, 855, 856, 857, 858, 859, 860, 861, 862, 863, 864, 865, 866, 867] (by decide +kernel) (by decide +kernel)
theorem ggL_law_X10_bestValves : GoodIn wsL_law wsX10_bestValves := by
  intro w h
  rcases List.mem_cons.mp h with h | h
  · exact ggL_law_X10_bestValves_c w (List.mem_cons.mpr (Or.inl h))
  rcases List.mem_append.mp h with h | h
  rotate_left
  · exact ggL_law_X10_bestValves_wsX90 w h
  rcases List.mem_append.mp h with h | h
  rotate_left
  · exact ggL_law_X10_bestValves_wsX100 w h
  rcases List.mem_append.mp h with h | h
  · exact ggL_law_X10_bestValves_r1 w h
  rcases List.mem_append.mp h with h | h
  · exact ggL_law_X10_bestValves_r2 w h
  rcases List.mem_append.mp h with h | h
  · exact ggL_law_X10_bestValves_r3 w h
  rcases List.mem_append.mp h with h | h
  · exact ggL_law_X10_bestValves_r4 w h
  rcases List.mem_append.mp h with h | h
  · exact ggL_law_X10_bestValves_r5 w h
  exact ggL_law_X10_bestValves_r6 w h
set_option maxRecDepth 20000 in
theorem ggL_law_X8_digest_c : GoodIn wsL_law [.code yX8_digest cX8_digest 5 (some .long)] := goodIn_r (big := wsL_law) _ [759] (by decide +kernel) (by decide +kernel)
set_option maxRecDepth 20000 in
theorem ggL_law_X8_digest_r1 : GoodIn wsL_law wsX8_digest_r1 := goodIn_r (big := wsL_law) _ [760, 761, 16, 762, 594, 595, 2, 596, 118, 119, 120, 121, 122, 597, 273, 274, 15, 275, 44, 598, 599, 600, 601, 268] (by decide +kernel) (by decide +kernel)
set_option maxRecDepth 20000 in
theorem ggL_law_X8_digest_r2 : GoodIn wsL_law wsX8_digest_r2 := goodIn_r (big := wsL_law) _ [602, 603, 604, 605, 271, 29, 763, 465, 466, 467, 160, 161, 162, 163, 164, 468, 288, 289, 47, 290, 291, 73, 469, 298] (by decide +kernel) (by decide +kernel)
set_option maxRecDepth 20000 in
theorem ggL_law_X8_digest_r3 : GoodIn wsL_law wsX8_digest_r3 := goodIn_r (big := wsL_law) _ [299, 300, 470, 471, 472, 32, 473, 132, 133, 134, 135, 764, 488, 489, 490, 765, 706, 707, 708, 17, 634, 635, 636, 637] (by decide +kernel) (by decide +kernel)
set_option maxRecDepth 20000 in
theorem ggL_law_X8_digest_r4 : GoodIn wsL_law wsX8_digest_r4 := goodIn_r (big := wsL_law) _ [23, 25, 27, 33, 37, 41, 43, 638, 639, 640, 641, 377, 269, 270, 642, 643, 644, 645, 646, 647, 648, 649, 650, 651] (by decide +kernel) (by decide +kernel)
set_option maxRecDepth 20000 in
theorem ggL_law_X8_digest_r5 : GoodIn wsL_law wsX8_digest_r5 := goodIn_r (big := wsL_law) _ [652, 653, 49, 654, 655, 656, 657, 658, 659, 660, 661, 51, 662, 663, 664, 665, 331, 330, 322, 323, 324, 325, 666, 667] (by decide +kernel) (by decide +kernel)
set_option maxRecDepth 20000 in
theorem ggL_law_X8_digest_r6 : GoodIn wsL_law wsX8_digest_r6 := goodIn_r (big := wsL_law) _ [668, 53, 669, 670, 671, 364, 363, 366, 367, 368, 672, 673, 674, 675, 36, 676, 60, 61, 677, 678, 679, 680, 681, 682] (by decide +kernel) (by decide +kernel)
set_option maxRecDepth 20000 in
theorem ggL_law_X8_digest_r7 : GoodIn wsL_law wsX8_digest_r7 := goodIn_r (big := wsL_law) _ [683, 40, 684, 66, 67, 68, 685, 686, 687, 264, 265, 266, 267, 272, 276, 277, 278, 279, 280, 281, 282, 283, 45, 284] (by decide +kernel) (by decide +kernel)
set_option maxRecDepth 20000 in
theorem ggL_law_X8_digest_r8 : GoodIn wsL_law wsX8_digest_r8 := goodIn_r (big := wsL_law) _ [285, 286, 287, 292, 293, 294, 295, 296, 297, 301, 302, 303, 304, 305, 306, 307, 308, 309, 129, 130, 131, 310, 311, 312] (by decide +kernel) (by decide +kernel)
