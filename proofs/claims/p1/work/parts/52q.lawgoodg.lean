set_option maxRecDepth 20000 in
theorem ggL_law_X8_digest_r9 : GoodIn wsL_law wsX8_digest_r9 := goodIn_r (big := wsL_law) _ [313, 314, 315, 316, 317, 318, 319, 320, 321, 326, 327, 328, 329, 332, 333, 334, 335, 336, 337, 338, 339, 340, 341, 342] (by decide +kernel) (by decide +kernel)
set_option maxRecDepth 20000 in
theorem ggL_law_X8_digest_r10 : GoodIn wsL_law wsX8_digest_r10 := goodIn_r (big := wsL_law) _ [343, 344, 345, 346, 347, 348, 349, 350, 351, 352, 353, 354, 355, 356, 357, 358, 359, 360, 361, 362, 365, 369, 370, 371] (by decide +kernel) (by decide +kernel)
set_option maxRecDepth 20000 in
theorem ggL_law_X8_digest_r11 : GoodIn wsL_law wsX8_digest_r11 := goodIn_r (big := wsL_law) _ [372, 373, 374, 375, 376, 378, 379, 380, 381, 766, 514, 515, 516, 767, 499, 500, 501, 768, 722, 723, 724, 261, 262, 263] (by decide +kernel) (by decide +kernel)
set_option maxRecDepth 20000 in
theorem ggL_law_X8_digest_r12 : GoodIn wsL_law wsX8_digest_r12 := goodIn_r (big := wsL_law) _ [769, 529, 530, 531, 770, 540, 541, 542, 543, 771, 553, 554, 555, 556, 557, 558, 559, 560, 772, 574, 575, 576, 577, 578] (by decide +kernel) (by decide +kernel)
set_option maxRecDepth 20000 in
theorem ggL_law_X8_digest_r13 : GoodIn wsL_law wsX8_digest_r13 := goodIn_r (big := wsL_law) _ [579, 580, 581, 773, 631, 632, 633, 774, 737, 738, 739, 740, 741, 742, 743] (by decide +kernel) (by decide +kernel)
set_option maxRecDepth 20000 in
theorem ggL_law_X8_digest_wsX80 : GoodIn wsL_law wsX80 := goodIn_r (big := wsL_law) _ [786, 787] (by decide +kernel) (by decide +kernel)
set_option maxRecDepth 20000 in
theorem ggL_law_X8_digest_wsX30 : GoodIn wsL_law wsX30 := goodIn_r (big := wsL_law) _ [791, 792, 793, 794, 795, 796, 797, 798, 799, 800, 801, 802, 803, 804, 805] (by decide +kernel) (by decide +kernel)
set_option maxRecDepth 20000 in
theorem ggL_law_X8_digest_wsX40 : GoodIn wsL_law wsX40 := goodIn_r (big := wsL_law) _ [810, 811, 812, 813, 814, 815] (by decide +kernel) (by decide +kernel)
set_option maxRecDepth 20000 in
theorem ggL_law_X8_digest_wsX50 : GoodIn wsL_law wsX50 := goodIn_r (big := wsL_law) _ [837, 838, 839, 840, 841, 842, 843] (by decide +kernel) (by decide +kernel)
set_option maxRecDepth 20000 in
theorem ggL_law_X8_digest_wsX00 : GoodIn wsL_law wsX00 := goodIn_r (big := wsL_law) _ [821, 822, 823] (by decide +kernel) (by decide +kernel)
set_option maxRecDepth 20000 in
theorem ggL_law_X8_digest_wsX60 : GoodIn wsL_law wsX60 := goodIn_r (big := wsL_law) _ [806, 807, 808, 809] (by decide +kernel) (by decide +kernel)
set_option maxRecDepth 20000 in
theorem ggL_law_X8_digest_wsX70 : GoodIn wsL_law wsX70 := goodIn_r (big := wsL_law) _ [828, 829, 830, 831, 832, 833, 834, 835, 836] (by decide +kernel) (by decide +kernel)
set_option maxRecDepth 20000 in
theorem ggL_law_X8_digest_wsX20 : GoodIn wsL_law wsX20 := goodIn_r (big := wsL_law) _ [824, 825, 826, 827] (by decide +kernel) (by decide +kernel)
set_option maxRecDepth 20000 in
theorem ggL_law_X8_digest_wsX10 : GoodIn wsL_law wsX10 := goodIn_r (big := wsL_law) _ [816, 817, 818, 819, 820] (by decide +kernel) (by decide +kernel)
theorem ggL_law_X8_digest : GoodIn wsL_law wsX8_digest := by
  intro w h
  rcases List.mem_cons.mp h with h | h
  · exact ggL_law_X8_digest_c w (List.mem_cons.mpr (Or.inl h))
  rcases List.mem_append.mp h with h | h
  rotate_left
  · exact goodIn_sub (big := wsL_law) (ws := (vx_atS RX8 308 "java/lang/IndexOutOfBoundsException" ["java/lang/RuntimeException", "java/lang/Exception"]).filter goodWord) (fun _ h => List.mem_append_right _ h) (by decide +kernel) w h
  rcases List.mem_append.mp h with h | h
  rotate_left
  · exact goodIn_sub (big := wsL_law) (ws := (vx_atS RX8 78 "java/lang/IllegalArgumentException" ["java/lang/RuntimeException", "java/lang/Exception"]).filter goodWord) (fun _ h => List.mem_append_left _ (List.mem_append_left _ (List.mem_append_right _ h))) (by decide +kernel) w h
  rcases List.mem_append.mp h with h | h
  rotate_left
  · exact ggL_law_X8_digest_wsX10 w h
  rcases List.mem_append.mp h with h | h
  rotate_left
  · exact ggL_law_X8_digest_wsX20 w h
  rcases List.mem_append.mp h with h | h
  rotate_left
  · exact ggL_law_X8_digest_wsX70 w h
  rcases List.mem_append.mp h with h | h
  rotate_left
  · exact ggL_law_X8_digest_wsX60 w h
  rcases List.mem_append.mp h with h | h
  rotate_left
  · exact ggL_law_X8_digest_wsX00 w h
  rcases List.mem_append.mp h with h | h
  rotate_left
  · exact ggL_law_X8_digest_wsX50 w h
  rcases List.mem_append.mp h with h | h
  rotate_left
  · exact ggL_law_X8_digest_wsX40 w h
  rcases List.mem_append.mp h with h | h
  rotate_left
  · exact ggL_law_X8_digest_wsX30 w h
  rcases List.mem_append.mp h with h | h
  rotate_left
  · exact ggL_law_X8_digest_wsX80 w h
  rcases List.mem_append.mp h with h | h
  · exact ggL_law_X8_digest_r1 w h
  rcases List.mem_append.mp h with h | h
  · exact ggL_law_X8_digest_r2 w h
  rcases List.mem_append.mp h with h | h
  · exact ggL_law_X8_digest_r3 w h
  rcases List.mem_append.mp h with h | h
  · exact ggL_law_X8_digest_r4 w h
  rcases List.mem_append.mp h with h | h
  · exact ggL_law_X8_digest_r5 w h
  rcases List.mem_append.mp h with h | h
  · exact ggL_law_X8_digest_r6 w h
  rcases List.mem_append.mp h with h | h
  · exact ggL_law_X8_digest_r7 w h
  rcases List.mem_append.mp h with h | h
  · exact ggL_law_X8_digest_r8 w h
  rcases List.mem_append.mp h with h | h
  · exact ggL_law_X8_digest_r9 w h
  rcases List.mem_append.mp h with h | h
  · exact ggL_law_X8_digest_r10 w h
  rcases List.mem_append.mp h with h | h
  · exact ggL_law_X8_digest_r11 w h
  rcases List.mem_append.mp h with h | h
  · exact ggL_law_X8_digest_r12 w h
  exact ggL_law_X8_digest_r13 w h
set_option maxRecDepth 20000 in
theorem ggL_law_X10_digest_c : GoodIn wsL_law [.code yX10_digest cX10_digest 3 (some .long)] := goodIn_r (big := wsL_law) _ [778] (by decide +kernel) (by decide +kernel)
set_option maxRecDepth 20000 in
theorem ggL_law_X10_digest_r1 : GoodIn wsL_law wsX10_digest_r1 := goodIn_r (big := wsL_law) _ [140, 779, 780, 90, 610, 611, 612, 5, 613, 42, 614, 407, 408, 89, 409, 104, 615, 616, 617, 618, 405, 98, 781, 782] (by decide +kernel) (by decide +kernel)
set_option maxRecDepth 20000 in
theorem ggL_law_X10_digest_r2 : GoodIn wsL_law wsX10_digest_r2 := goodIn_r (big := wsL_law) _ [783, 784, 785, 478, 479, 480, 481, 482, 416, 417, 483, 423, 424, 713, 714, 715, 716, 692, 693, 694, 695, 696, 88, 95] (by decide +kernel) (by decide +kernel)
set_option maxRecDepth 20000 in
theorem ggL_law_X10_digest_r3 : GoodIn wsL_law wsX10_digest_r3 := goodIn_r (big := wsL_law) _ [96, 97, 460, 399, 400, 99, 697, 639, 640, 641, 103, 105, 401, 106, 398, 698, 91, 92, 93, 11, 12, 94, 100, 101] (by decide +kernel) (by decide +kernel)
set_option maxRecDepth 20000 in
theorem ggL_law_X10_digest_r4 : GoodIn wsL_law wsX10_digest_r4 := goodIn_r (big := wsL_law) _ [102, 107, 699, 700, 701, 717, 395, 396, 397, 402, 316, 282, 317, 403, 285, 286, 404, 406, 410, 411, 412, 413, 414, 281] (by decide +kernel) (by decide +kernel)
set_option maxRecDepth 20000 in
theorem ggL_law_X10_digest_r5 : GoodIn wsL_law wsX10_digest_r5 := goodIn_r (big := wsL_law) _ [283, 415, 418, 419, 420, 421, 422, 425, 426, 427, 428, 429, 430, 431, 432, 433, 434, 435, 436, 393, 437, 438, 439, 440] (by decide +kernel) (by decide +kernel)
set_option maxRecDepth 20000 in
theorem ggL_law_X10_digest_r6 : GoodIn wsL_law wsX10_digest_r6 := goodIn_r (big := wsL_law) _ [441, 442, 443, 444, 445, 446, 447, 448, 449, 450, 451, 452, 453, 454, 455, 456, 457, 458, 459, 729, 730, 731, 732, 389] (by decide +kernel) (by decide +kernel)
set_option maxRecDepth 20000 in
theorem ggL_law_X10_digest_r7 : GoodIn wsL_law wsX10_digest_r7 := goodIn_r (big := wsL_law) _ [390, 391, 392, 394, 548, 565, 566, 567, 568, 569, 570, 571, 572, 586, 587, 588, 589, 748, 749, 750, 751, 752, 753, 754] (by decide +kernel) (by decide +kernel)
set_option maxRecDepth 20000 in
theorem ggL_law_X10_digest_r8 : GoodIn wsL_law wsX10_digest_r8 := goodIn_r (big := wsL_law) _ [755] (by decide +kernel) (by decide +kernel)
set_option maxRecDepth 20000 in
theorem ggL_law_X10_digest_wsX100 : GoodIn wsL_law wsX100 := goodIn_r (big := wsL_law) _ [788, 789, 790] (by decide +kernel) (by decide +kernel)
set_option maxRecDepth 20000 in
theorem ggL_law_X10_digest_wsX90 : GoodIn wsL_law wsX90 := goodIn_r (big := wsL_law) _ [844, 845, 846, 847, 848, 849, 850, 851, 852, 853, 854, 855, 856, 857, 858, 859, 860, 861, 862, 863, 864, 865, 866, 867] (by decide +kernel) (by decide +kernel)
theorem ggL_law_X10_digest : GoodIn wsL_law wsX10_digest := by
  intro w h
  rcases List.mem_cons.mp h with h | h
  · exact ggL_law_X10_digest_c w (List.mem_cons.mpr (Or.inl h))
  rcases List.mem_append.mp h with h | h
  rotate_left
  · exact ggL_law_X10_digest_wsX90 w h
  rcases List.mem_append.mp h with h | h
  rotate_left
  · exact ggL_law_X10_digest_wsX100 w h
  rcases List.mem_append.mp h with h | h
  · exact ggL_law_X10_digest_r1 w h
  rcases List.mem_append.mp h with h | h
  · exact ggL_law_X10_digest_r2 w h
  rcases List.mem_append.mp h with h | h
  · exact ggL_law_X10_digest_r3 w h
  rcases List.mem_append.mp h with h | h
  · exact ggL_law_X10_digest_r4 w h
  rcases List.mem_append.mp h with h | h
  · exact ggL_law_X10_digest_r5 w h
  rcases List.mem_append.mp h with h | h
  · exact ggL_law_X10_digest_r6 w h
  rcases List.mem_append.mp h with h | h
  · exact ggL_law_X10_digest_r7 w h
  exact ggL_law_X10_digest_r8 w h
