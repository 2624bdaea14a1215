set_option maxRecDepth 20000 in
theorem ggL_law_X10_trace : GoodIn wsL_law wsX10_trace := goodIn_r _ [220, 140, 90, 206, 207, 208, 5, 209, 141, 142, 143, 144, 145, 146, 147, 788, 789, 790, 844, 845, 846, 847, 848, 849, 850, 851, 852, 853, 854, 855, 856, 857, 858, 859, 860, 861, 862, 863, 864, 865, 866, 867] (by decide +kernel) (by decide +kernel)
set_option maxRecDepth 20000 in
theorem ggL_law_L_clean : GoodIn wsL_law wsL_clean := goodIn_ca (goodIn_ca (goodIn_r _ [223, 155, 113, 224, 225, 226, 2, 227, 126, 127, 16, 160, 161, 162, 163, 164, 786, 787, 791, 792, 793, 794, 795, 796, 797, 798, 799, 800, 801, 802, 803, 804, 805, 828, 829, 830, 831, 832, 833, 834, 835, 836, 821, 822, 823] (by decide +kernel) (by decide +kernel)) (goodIn_sub (fun _ h => List.mem_append_left _ (List.mem_append_right _ h)) (by decide +kernel))) (goodIn_sub (fun _ h => List.mem_append_right _ h) (by decide +kernel))
set_option maxRecDepth 20000 in
theorem ggL_law_X10_clean : GoodIn wsL_law wsX10_clean := goodIn_r _ [231, 140, 90, 206, 207, 208, 5, 209, 141, 142, 143, 144, 145, 146, 147, 788, 789, 790, 844, 845, 846, 847, 848, 849, 850, 851, 852, 853, 854, 855, 856, 857, 858, 859, 860, 861, 862, 863, 864, 865, 866, 867] (by decide +kernel) (by decide +kernel)
set_option maxRecDepth 20000 in
theorem ggL_law_L_turbine : GoodIn wsL_law wsL_turbine := goodIn_ca (goodIn_r _ [234, 112, 235, 236, 237, 2, 238, 16, 118, 119, 120, 121, 122, 786, 787, 791, 792, 793, 794, 795, 796, 797, 798, 799, 800, 801, 802, 803, 804, 805, 810, 811, 812, 813, 814, 815] (by decide +kernel) (by decide +kernel)) (goodIn_sub (fun _ h => List.mem_append_left _ (List.mem_append_left _ (List.mem_append_right _ h))) (by decide +kernel))
set_option maxRecDepth 20000 in
theorem ggL_law_X10_turbine : GoodIn wsL_law wsX10_turbine := goodIn_r _ [242, 140, 90, 141, 142, 5, 143, 144, 145, 146, 147, 788, 789, 790, 844, 845, 846, 847, 848, 849, 850, 851, 852, 853, 854, 855, 856, 857, 858, 859, 860, 861, 862, 863, 864, 865, 866, 867] (by decide +kernel) (by decide +kernel)
set_option maxRecDepth 20000 in
theorem ggL_law_L_town : GoodIn wsL_law wsL_town := goodIn_ca (goodIn_r _ [245, 112, 246, 247, 248, 2, 249, 16, 118, 119, 120, 121, 122, 786, 787, 791, 792, 793, 794, 795, 796, 797, 798, 799, 800, 801, 802, 803, 804, 805, 810, 811, 812, 813, 814, 815] (by decide +kernel) (by decide +kernel)) (goodIn_sub (fun _ h => List.mem_append_left _ (List.mem_append_left _ (List.mem_append_right _ h))) (by decide +kernel))
set_option maxRecDepth 20000 in
theorem ggL_law_X10_town : GoodIn wsL_law wsX10_town := goodIn_r _ [253, 140, 90, 141, 142, 5, 143, 144, 145, 146, 147, 788, 789, 790, 844, 845, 846, 847, 848, 849, 850, 851, 852, 853, 854, 855, 856, 857, 858, 859, 860, 861, 862, 863, 864, 865, 866, 867] (by decide +kernel) (by decide +kernel)
set_option maxRecDepth 20000 in
theorem ggL_law_L_run_c : GoodIn wsL_law [.codeWith yL_run cL_run 4 (some .int) [(0, 9, 12, 13)]] := goodIn_r (big := wsL_law) _ [256] (by decide +kernel) (by decide +kernel)
set_option maxRecDepth 20000 in
theorem ggL_law_L_run_r1 : GoodIn wsL_law wsL_run_r1 := goodIn_r (big := wsL_law) _ [112, 257, 258, 259, 2, 260, 16, 118, 119, 120, 121, 122, 261, 262, 263, 264, 265, 266, 15, 267, 268, 269, 25, 270] (by decide +kernel) (by decide +kernel)
set_option maxRecDepth 20000 in
theorem ggL_law_L_run_r2 : GoodIn wsL_law wsL_run_r2 := goodIn_r (big := wsL_law) _ [27, 44, 271, 29, 272, 273, 274, 275, 276, 277, 278, 279, 23, 280, 281, 282, 283, 45, 284, 285, 286, 287, 288, 289] (by decide +kernel) (by decide +kernel)
set_option maxRecDepth 20000 in
theorem ggL_law_L_run_r3 : GoodIn wsL_law wsL_run_r3 := goodIn_r (big := wsL_law) _ [47, 290, 291, 73, 292, 293, 294, 295, 296, 297, 298, 299, 300, 301, 302, 303, 32, 304, 132, 305, 306, 307, 308, 133] (by decide +kernel) (by decide +kernel)
set_option maxRecDepth 20000 in
theorem ggL_law_L_run_r4 : GoodIn wsL_law wsL_run_r4 := goodIn_r (big := wsL_law) _ [134, 135, 309, 129, 130, 131, 310, 311, 312, 313, 314, 315, 316, 317, 33, 318, 319, 320, 51, 321, 322, 323, 324, 325] (by decide +kernel) (by decide +kernel)
set_option maxRecDepth 20000 in
theorem ggL_law_L_run_r5 : GoodIn wsL_law wsL_run_r5 := goodIn_r (big := wsL_law) _ [326, 327, 328, 329, 330, 331, 332, 333, 334, 335, 336, 37, 41, 337, 338, 339, 340, 341, 342, 343, 344, 345, 346, 347] (by decide +kernel) (by decide +kernel)
set_option maxRecDepth 20000 in
theorem ggL_law_L_run_r6 : GoodIn wsL_law wsL_run_r6 := goodIn_r (big := wsL_law) _ [348, 349, 350, 351, 352, 353, 354, 355, 356, 357, 358, 359, 360, 361, 53, 362, 363, 364, 365, 366, 367, 368, 369, 370] (by decide +kernel) (by decide +kernel)
set_option maxRecDepth 20000 in
theorem ggL_law_L_run_r7 : GoodIn wsL_law wsL_run_r7 := goodIn_r (big := wsL_law) _ [371, 372, 43, 373, 374, 375, 376, 377, 378, 379, 380, 381] (by decide +kernel) (by decide +kernel)
set_option maxRecDepth 20000 in
theorem ggL_law_L_run_wsX80 : GoodIn wsL_law wsX80 := goodIn_r (big := wsL_law) _ [786, 787] (by decide +kernel) (by decide +kernel)
set_option maxRecDepth 20000 in
theorem ggL_law_L_run_wsX30 : GoodIn wsL_law wsX30 := goodIn_r (big := wsL_law) _ [791, 792, 793, 794, 795, 796, 797, 798, 799, 800, 801, 802, 803, 804, 805] (by decide +kernel) (by decide +kernel)
set_option maxRecDepth 20000 in
theorem ggL_law_L_run_wsX40 : GoodIn wsL_law wsX40 := goodIn_r (big := wsL_law) _ [810, 811, 812, 813, 814, 815] (by decide +kernel) (by decide +kernel)
set_option maxRecDepth 20000 in
theorem ggL_law_L_run_wsX70 : GoodIn wsL_law wsX70 := goodIn_r (big := wsL_law) _ [828, 829, 830, 831, 832, 833, 834, 835, 836] (by decide +kernel) (by decide +kernel)
set_option maxRecDepth 20000 in
theorem ggL_law_L_run_wsX20 : GoodIn wsL_law wsX20 := goodIn_r (big := wsL_law) _ [824, 825, 826, 827] (by decide +kernel) (by decide +kernel)
set_option maxRecDepth 20000 in
theorem ggL_law_L_run_wsX00 : GoodIn wsL_law wsX00 := goodIn_r (big := wsL_law) _ [821, 822, 823] (by decide +kernel) (by decide +kernel)
set_option maxRecDepth 20000 in
theorem ggL_law_L_run_wsX60 : GoodIn wsL_law wsX60 := goodIn_r (big := wsL_law) _ [806, 807, 808, 809] (by decide +kernel) (by decide +kernel)
set_option maxRecDepth 20000 in
theorem ggL_law_L_run_wsX10 : GoodIn wsL_law wsX10 := goodIn_r (big := wsL_law) _ [816, 817, 818, 819, 820] (by decide +kernel) (by decide +kernel)
set_option maxRecDepth 20000 in
theorem ggL_law_L_run_wsX50 : GoodIn wsL_law wsX50 := goodIn_r (big := wsL_law) _ [837, 838, 839, 840, 841, 842, 843] (by decide +kernel) (by decide +kernel)
theorem ggL_law_L_run : GoodIn wsL_law wsL_run := by
  intro w h
  rcases List.mem_cons.mp h with h | h
  · exact ggL_law_L_run_c w (List.mem_cons.mpr (Or.inl h))
  rcases List.mem_append.mp h with h | h
  rotate_left
  · exact goodIn_sub (big := wsL_law) (ws := (vx_atS RX8 78 "java/lang/IllegalArgumentException" ["java/lang/RuntimeException", "java/lang/Exception"]).filter goodWord) (fun _ h => List.mem_append_left _ (List.mem_append_left _ (List.mem_append_right _ h))) (by decide +kernel) w h
  rcases List.mem_append.mp h with h | h
  rotate_left
  · exact ggL_law_L_run_wsX50 w h
  rcases List.mem_append.mp h with h | h
  rotate_left
  · exact ggL_law_L_run_wsX10 w h
  rcases List.mem_append.mp h with h | h
  rotate_left
  · exact ggL_law_L_run_wsX60 w h
  rcases List.mem_append.mp h with h | h
  rotate_left
  · exact ggL_law_L_run_wsX00 w h
  rcases List.mem_append.mp h with h | h
  rotate_left
  · exact ggL_law_L_run_wsX20 w h
  rcases List.mem_append.mp h with h | h
  rotate_left
  · exact ggL_law_L_run_wsX70 w h
  rcases List.mem_append.mp h with h | h
  rotate_left
  · exact ggL_law_L_run_wsX40 w h
  rcases List.mem_append.mp h with h | h
  rotate_left
  · exact ggL_law_L_run_wsX30 w h
  rcases List.mem_append.mp h with h | h
  rotate_left
  · exact ggL_law_L_run_wsX80 w h
  rcases List.mem_append.mp h with h | h
  · exact ggL_law_L_run_r1 w h
  rcases List.mem_append.mp h with h | h
  · exact ggL_law_L_run_r2 w h
  rcases List.mem_append.mp h with h | h
  · exact ggL_law_L_run_r3 w h
  rcases List.mem_append.mp h with h | h
  · exact ggL_law_L_run_r4 w h
  rcases List.mem_append.mp h with h | h
  · exact ggL_law_L_run_r5 w h
  rcases List.mem_append.mp h with h | h
  · exact ggL_law_L_run_r6 w h
  exact ggL_law_L_run_r7 w h
set_option maxRecDepth 20000 in
theorem ggL_law_X10_run_c : GoodIn wsL_law [.code yX10_run cX10_run 2 (some .int)] := goodIn_r (big := wsL_law) _ [385] (by decide +kernel) (by decide +kernel)
set_option maxRecDepth 20000 in
theorem ggL_law_X10_run_r1 : GoodIn wsL_law wsX10_run_r1 := goodIn_r (big := wsL_law) _ [140, 90, 386, 387, 5, 388, 141, 142, 143, 389, 390, 391, 89, 392, 393, 394, 395, 396, 397, 398, 399, 96, 400, 97] (by decide +kernel) (by decide +kernel)
set_option maxRecDepth 20000 in
theorem ggL_law_X10_run_r2 : GoodIn wsL_law wsX10_run_r2 := goodIn_r (big := wsL_law) _ [401, 99, 402, 316, 282, 317, 403, 285, 286, 404, 101, 107, 104, 405, 98, 406, 407, 408, 409, 410, 411, 412, 413, 95] (by decide +kernel) (by decide +kernel)
set_option maxRecDepth 20000 in
theorem ggL_law_X10_run_r3 : GoodIn wsL_law wsX10_run_r3 := goodIn_r (big := wsL_law) _ [414, 281, 283, 415, 416, 417, 418, 419, 420, 421, 422, 423, 424, 425, 426, 427, 428, 429, 430, 431, 432, 433, 434, 435] (by decide +kernel) (by decide +kernel)
set_option maxRecDepth 20000 in
theorem ggL_law_X10_run_r4 : GoodIn wsL_law wsX10_run_r4 := goodIn_r (big := wsL_law) _ [436, 106, 105, 437, 438, 439, 440, 441, 442, 443, 444, 445, 446, 447, 448, 449, 450, 451, 102, 452, 453, 454, 455, 103] (by decide +kernel) (by decide +kernel)
set_option maxRecDepth 20000 in
theorem ggL_law_X10_run_r5 : GoodIn wsL_law wsX10_run_r5 := goodIn_r (big := wsL_law) _ [456, 457, 458, 459, 460, 144, 145, 146, 147] (by decide +kernel) (by decide +kernel)
set_option maxRecDepth 20000 in
theorem ggL_law_X10_run_wsX100 : GoodIn wsL_law wsX100 := goodIn_r (big := wsL_law) _ [788, 789, 790] (by decide +kernel) (by decide +kernel)
set_option maxRecDepth 20000 in
theorem ggL_law_X10_run_wsX90 : GoodIn wsL_law wsX90 := goodIn_r (big := wsL_law) _ [844, 845, 846, 847, 848, 849, 850, 851, 852, 853, 854, 855, 856, 857, 858, 859, 860, 861, 862, 863, 864, 865, 866, 867] (by decide +kernel) (by decide +kernel)
theorem ggL_law_X10_run : GoodIn wsL_law wsX10_run := by
  intro w h
  rcases List.mem_cons.mp h with h | h
  · exact ggL_law_X10_run_c w (List.mem_cons.mpr (Or.inl h))
  rcases List.mem_append.mp h with h | h
  rotate_left
  · exact ggL_law_X10_run_wsX90 w h
  rcases List.mem_append.mp h with h | h
  rotate_left
  · exact ggL_law_X10_run_wsX100 w h
  rcases List.mem_append.mp h with h | h
  · exact ggL_law_X10_run_r1 w h
  rcases List.mem_append.mp h with h | h
  · exact ggL_law_X10_run_r2 w h
  rcases List.mem_append.mp h with h | h
  · exact ggL_law_X10_run_r3 w h
  rcases List.mem_append.mp h with h | h
  · exact ggL_law_X10_run_r4 w h
  exact ggL_law_X10_run_r5 w h
set_option maxRecDepth 20000 in
theorem ggL_law_L_ofBlock : GoodIn wsL_law wsL_ofBlock := goodIn_ca (goodIn_ca (goodIn_r _ [463, 155, 112, 464, 465, 466, 2, 467, 16, 160, 161, 162, 163, 164, 118, 119, 120, 121, 122, 468, 288, 289, 47, 290, 291, 73, 469, 298, 299, 300, 470, 471, 472, 32, 473, 132, 133, 134, 135, 786, 787, 791, 792, 793, 794, 795, 796, 797, 798, 799, 800, 801, 802, 803, 804, 805, 821, 822, 823, 806, 807, 808, 809] (by decide +kernel) (by decide +kernel)) (goodIn_sub (fun _ h => List.mem_append_right _ h) (by decide +kernel))) (goodIn_sub (fun _ h => List.mem_append_left _ (List.mem_append_left _ (List.mem_append_right _ h))) (by decide +kernel))
