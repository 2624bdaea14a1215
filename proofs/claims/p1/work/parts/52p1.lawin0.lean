set_option maxRecDepth 20000 in
theorem wsL_law0_i1 : ∀ w ∈ wsL_law0_r1, w ∈ lw_tbl := fun w h => (goodIn_r (big := lw_tbl) wsL_law0_r1 [54, 55, 35, 849, 850, 44, 1221, 56, 57, 58, 59, 60, 61, 62, 63, 36, 372, 373, 64, 65, 66, 67, 68, 313] (by decide +kernel) (by decide +kernel) w h).1
set_option maxRecDepth 20000 in
theorem wsL_law0_i2 : ∀ w ∈ wsL_law0_r2, w ∈ lw_tbl := fun w h => (goodIn_r (big := lw_tbl) wsL_law0_r2 [70, 315, 72, 317, 74, 319, 76, 77, 37, 321, 109, 110, 38, 323, 146, 147, 39, 325, 202, 327, 329, 330, 179, 40] (by decide +kernel) (by decide +kernel) w h).1
set_option maxRecDepth 20000 in
theorem wsL_law0_i3 : ∀ w ∈ wsL_law0_r3, w ∈ lw_tbl := fun w h => (goodIn_r (big := lw_tbl) wsL_law0_r3 [203, 41, 229, 42, 275, 43, 79, 80, 81, 112, 113, 114, 115, 118, 149, 150, 151, 152, 154, 156, 159, 181, 182, 183] (by decide +kernel) (by decide +kernel) w h).1
set_option maxRecDepth 20000 in
theorem wsL_law0_i4 : ∀ w ∈ wsL_law0_r4, w ∈ lw_tbl := fun w h => (goodIn_r (big := lw_tbl) wsL_law0_r4 [184, 186, 205, 206, 207, 231, 232, 233, 277, 278, 279, 851, 852, 853, 854, 855, 856, 45, 960, 858, 859, 860, 861, 863] (by decide +kernel) (by decide +kernel) w h).1
set_option maxRecDepth 20000 in
theorem wsL_law0_i5 : ∀ w ∈ wsL_law0_r5, w ∈ lw_tbl := fun w h => (goodIn_r (big := lw_tbl) wsL_law0_r5 [865, 867, 869, 879, 881, 883, 885, 887, 889, 891, 895, 909, 705, 706, 34, 707, 708, 709, 710, 711, 712, 713, 413, 414] (by decide +kernel) (by decide +kernel) w h).1
set_option maxRecDepth 20000 in
theorem wsL_law0_i6 : ∀ w ∈ wsL_law0_r6, w ∈ lw_tbl := fun w h => (goodIn_r (big := lw_tbl) wsL_law0_r6 [415, 416, 49, 714, 715, 716, 717, 50, 733, 599, 600, 601, 82, 87, 91, 95, 973, 974, 975, 976, 959, 977, 978, 979] (by decide +kernel) (by decide +kernel) w h).1
set_option maxRecDepth 20000 in
theorem wsL_law0_i7 : ∀ w ∈ wsL_law0_r7, w ∈ lw_tbl := fun w h => (goodIn_r (big := lw_tbl) wsL_law0_r7 [980, 982, 11, 983, 969, 970, 971, 972, 734, 735, 736, 737, 738, 739, 740, 741, 500, 501, 502, 503, 51, 984, 985, 986] (by decide +kernel) (by decide +kernel) w h).1
set_option maxRecDepth 20000 in
theorem wsL_law0_i8 : ∀ w ∈ wsL_law0_r8, w ∈ lw_tbl := fun w h => (goodIn_r (big := lw_tbl) wsL_law0_r8 [987, 988, 990, 12, 991, 743, 744, 745, 746, 747, 748, 749, 992, 993, 994, 995, 750, 751, 752, 753, 754, 755, 756, 996] (by decide +kernel) (by decide +kernel) w h).1
set_option maxRecDepth 20000 in
theorem wsL_law0_i9 : ∀ w ∈ wsL_law0_r9, w ∈ lw_tbl := fun w h => (goodIn_r (big := lw_tbl) wsL_law0_r9 [997, 998, 999, 757, 758, 759, 760, 761, 762, 763, 1000, 1001, 1002, 1003, 1004, 1006, 13, 1007, 764, 765, 766, 767, 768, 769] (by decide +kernel) (by decide +kernel) w h).1
set_option maxRecDepth 20000 in
theorem wsL_law0_i10 : ∀ w ∈ wsL_law0_r10, w ∈ lw_tbl := fun w h => (goodIn_r (big := lw_tbl) wsL_law0_r10 [770, 1008, 1009, 1010, 1011, 772, 773, 774, 775, 776, 777, 778, 1012, 1013, 1014, 1015, 780, 781, 782, 783, 784, 785, 786, 1016] (by decide +kernel) (by decide +kernel) w h).1
set_option maxRecDepth 20000 in
theorem wsL_law0_i11 : ∀ w ∈ wsL_law0_r11, w ∈ lw_tbl := fun w h => (goodIn_r (big := lw_tbl) wsL_law0_r11 [1017, 1018, 1019, 787, 788, 789, 790, 791, 792, 793, 1020, 1021, 1022, 1023, 794, 795, 796, 797, 798, 799, 800, 675, 676, 677] (by decide +kernel) (by decide +kernel) w h).1
set_option maxRecDepth 20000 in
theorem wsL_law0_i12 : ∀ w ∈ wsL_law0_r12, w ∈ lw_tbl := fun w h => (goodIn_r (big := lw_tbl) wsL_law0_r12 [569, 570, 571, 572, 339, 333, 335, 337, 573, 485, 486, 487, 574, 576, 1, 577, 579, 580, 52, 581, 603, 587, 588, 578] (by decide +kernel) (by decide +kernel) w h).1
set_option maxRecDepth 20000 in
theorem wsL_law0_i13 : ∀ w ∈ wsL_law0_r13, w ∈ lw_tbl := fun w h => (goodIn_r (big := lw_tbl) wsL_law0_r13 [520, 521, 522, 189, 582, 583, 584, 585, 586, 589, 400, 401, 402, 590, 591, 592, 593, 594, 595, 596, 597, 598, 602, 604] (by decide +kernel) (by decide +kernel) w h).1
set_option maxRecDepth 20000 in
theorem wsL_law0_i14 : ∀ w ∈ wsL_law0_r14, w ∈ lw_tbl := fun w h => (goodIn_r (big := lw_tbl) wsL_law0_r14 [606, 2, 607, 608, 609, 610, 611, 612, 613, 614, 248, 250, 252, 254, 615, 616, 617, 618, 246, 243, 619, 620, 622, 3] (by decide +kernel) (by decide +kernel) w h).1
set_option maxRecDepth 20000 in
theorem wsL_law0_i15 : ∀ w ∈ wsL_law0_r15, w ∈ lw_tbl := fun w h => (goodIn_r (big := lw_tbl) wsL_law0_r15 [623, 624, 626, 4, 627, 628, 630, 5, 631, 632, 634, 6, 635, 636, 637, 638, 640, 7, 641, 642, 644, 8, 645, 646] (by decide +kernel) (by decide +kernel) w h).1
set_option maxRecDepth 20000 in
theorem wsL_law0_i16 : ∀ w ∈ wsL_law0_r16, w ∈ lw_tbl := fun w h => (goodIn_r (big := lw_tbl) wsL_law0_r16 [647, 648, 649, 288, 286, 650, 290, 293, 295, 651, 653, 9, 654, 655, 656, 657, 658, 332, 659, 661, 10, 662, 1024, 1025] (by decide +kernel) (by decide +kernel) w h).1
set_option maxRecDepth 20000 in
theorem wsL_law0_i17 : ∀ w ∈ wsL_law0_r17, w ∈ lw_tbl := fun w h => (goodIn_r (big := lw_tbl) wsL_law0_r17 [1026, 1027, 1028, 1029, 1030, 1031, 1032, 1033, 1034, 899, 1035, 1036, 1037, 1038, 897, 873, 875, 893, 1067, 1055, 903, 877, 1039, 1040] (by decide +kernel) (by decide +kernel) w h).1
