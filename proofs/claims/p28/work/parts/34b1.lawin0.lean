set_option maxRecDepth 20000 in
theorem wsL_law0_i1 : ∀ w ∈ wsL_law0_r1, w ∈ lw_tbl := fun w h => (goodIn_r (big := lw_tbl) wsL_law0_r1 [401, 402, 11, 403, 404, 405, 12, 406, 407, 408, 409, 62, 63, 410, 171, 13, 719, 720, 411, 412, 413, 414, 415, 660] (by decide +kernel) (by decide +kernel) w h).1
set_option maxRecDepth 20000 in
theorem wsL_law0_i2 : ∀ w ∈ wsL_law0_r2, w ∈ lw_tbl := fun w h => (goodIn_r (big := lw_tbl) wsL_law0_r2 [417, 662, 419, 664, 421, 666, 423, 424, 14, 668, 456, 457, 15, 670, 493, 494, 16, 672, 549, 674, 676, 677, 526, 17] (by decide +kernel) (by decide +kernel) w h).1
set_option maxRecDepth 20000 in
theorem wsL_law0_i3 : ∀ w ∈ wsL_law0_r3, w ∈ lw_tbl := fun w h => (goodIn_r (big := lw_tbl) wsL_law0_r3 [550, 18, 576, 19, 622, 20, 426, 427, 428, 459, 460, 461, 462, 465, 496, 497, 498, 499, 501, 503, 506, 528, 529, 530] (by decide +kernel) (by decide +kernel) w h).1
set_option maxRecDepth 20000 in
theorem wsL_law0_i4 : ∀ w ∈ wsL_law0_r4, w ∈ lw_tbl := fun w h => (goodIn_r (big := lw_tbl) wsL_law0_r4 [531, 533, 552, 553, 554, 578, 579, 580, 624, 625, 626, 397, 398, 399, 400, 393, 394, 395, 396, 726, 727, 728, 729, 106] (by decide +kernel) (by decide +kernel) w h).1
set_option maxRecDepth 20000 in
theorem wsL_law0_i5 : ∀ w ∈ wsL_law0_r5, w ∈ lw_tbl := fun w h => (goodIn_r (big := lw_tbl) wsL_law0_r5 [107, 108, 109, 24, 730, 731, 732, 129, 25, 734, 200, 201, 202, 429, 434, 438, 442, 735, 736, 737, 738, 33, 34, 35] (by decide +kernel) (by decide +kernel) w h).1
set_option maxRecDepth 20000 in
theorem wsL_law0_i6 : ∀ w ∈ wsL_law0_r6, w ∈ lw_tbl := fun w h => (goodIn_r (big := lw_tbl) wsL_law0_r6 [36, 26, 740, 741, 742, 743, 29, 30, 31, 32, 744, 745, 746, 747, 287, 288, 289, 290, 291, 165, 166, 167, 292, 293] (by decide +kernel) (by decide +kernel) w h).1
set_option maxRecDepth 20000 in
theorem wsL_law0_i7 : ∀ w ∈ wsL_law0_r7, w ∈ lw_tbl := fun w h => (goodIn_r (big := lw_tbl) wsL_law0_r7 [294, 295, 686, 296, 297, 298, 299, 684, 278, 279, 280, 281, 282, 283, 284, 285, 679, 286, 271, 272, 273, 274, 275, 276] (by decide +kernel) (by decide +kernel) w h).1
set_option maxRecDepth 20000 in
theorem wsL_law0_i8 : ∀ w ∈ wsL_law0_r8, w ∈ lw_tbl := fun w h => (goodIn_r (big := lw_tbl) wsL_law0_r8 [277, 264, 265, 266, 267, 268, 174, 175, 176, 536, 269, 188, 189, 190, 270, 125, 126, 127, 128, 748, 749, 750, 751, 758] (by decide +kernel) (by decide +kernel) w h).1
set_option maxRecDepth 20000 in
theorem wsL_law0_i9 : ∀ w ∈ wsL_law0_r9, w ∈ lw_tbl := fun w h => (goodIn_r (big := lw_tbl) wsL_law0_r9 [185, 27, 186, 752, 367, 368, 369, 370, 257, 258, 259, 753, 754, 755, 756, 145, 146, 147, 148, 149, 150, 151, 152, 153] (by decide +kernel) (by decide +kernel) w h).1
set_option maxRecDepth 20000 in
theorem wsL_law0_i10 : ∀ w ∈ wsL_law0_r10, w ∈ lw_tbl := fun w h => (goodIn_r (big := lw_tbl) wsL_law0_r10 [154, 155, 156, 157, 158, 159, 160, 161, 162, 163, 680, 682, 164, 168, 170, 1, 172, 177, 178, 179, 204, 173, 180, 181] (by decide +kernel) (by decide +kernel) w h).1
