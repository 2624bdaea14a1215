set_option maxRecDepth 20000 in
theorem ggL_law_X8_init_c : GoodIn wsL_law [.code yX8_init cX8_init 1 none] := goodIn_r (big := wsL_law) _ [9] (by decide +kernel) (by decide +kernel)
set_option maxRecDepth 20000 in
theorem ggL_law_X8_init_r1 : GoodIn wsL_law wsX8_init_r1 := goodIn_r (big := wsL_law) _ [10, 11, 12, 13, 14, 15, 16, 17, 18, 19, 20, 21, 22, 23, 24, 25, 26, 27, 28, 29, 30, 31, 32, 33] (by decide +kernel) (by decide +kernel)
set_option maxRecDepth 20000 in
theorem ggL_law_X8_init_r2 : GoodIn wsL_law wsX8_init_r2 := goodIn_r (big := wsL_law) _ [34, 35, 36, 37, 38, 39, 40, 41, 42, 43, 44, 45, 46, 47, 48, 49, 50, 51, 52, 53, 54, 55, 56, 57] (by decide +kernel) (by decide +kernel)
set_option maxRecDepth 20000 in
theorem ggL_law_X8_init_r3 : GoodIn wsL_law wsX8_init_r3 := goodIn_r (big := wsL_law) _ [58, 59, 60, 61, 62, 63, 64, 65, 66, 67, 68, 69, 70, 71, 72, 73, 74, 75, 76, 77, 78, 79, 80, 81] (by decide +kernel) (by decide +kernel)
set_option maxRecDepth 20000 in
theorem ggL_law_X8_init_r4 : GoodIn wsL_law wsX8_init_r4 := goodIn_r (big := wsL_law) _ [82] (by decide +kernel) (by decide +kernel)
set_option maxRecDepth 20000 in
theorem ggL_law_X8_init_wsX30 : GoodIn wsL_law wsX30 := goodIn_r (big := wsL_law) _ [791, 792, 793, 794, 795, 796, 797, 798, 799, 800, 801, 802, 803, 804, 805] (by decide +kernel) (by decide +kernel)
set_option maxRecDepth 20000 in
theorem ggL_law_X8_init_wsX80 : GoodIn wsL_law wsX80 := goodIn_r (big := wsL_law) _ [786, 787] (by decide +kernel) (by decide +kernel)
set_option maxRecDepth 20000 in
theorem ggL_law_X8_init_wsX60 : GoodIn wsL_law wsX60 := goodIn_r (big := wsL_law) _ [806, 807, 808, 809] (by decide +kernel) (by decide +kernel)
set_option maxRecDepth 20000 in
theorem ggL_law_X8_init_wsX40 : GoodIn wsL_law wsX40 := goodIn_r (big := wsL_law) _ [810, 811, 812, 813, 814, 815] (by decide +kernel) (by decide +kernel)
set_option maxRecDepth 20000 in
theorem ggL_law_X8_init_wsX10 : GoodIn wsL_law wsX10 := goodIn_r (big := wsL_law) _ [816, 817, 818, 819, 820] (by decide +kernel) (by decide +kernel)
set_option maxRecDepth 20000 in
theorem ggL_law_X8_init_wsX00 : GoodIn wsL_law wsX00 := goodIn_r (big := wsL_law) _ [821, 822, 823] (by decide +kernel) (by decide +kernel)
set_option maxRecDepth 20000 in
theorem ggL_law_X8_init_wsX20 : GoodIn wsL_law wsX20 := goodIn_r (big := wsL_law) _ [824, 825, 826, 827] (by decide +kernel) (by decide +kernel)
set_option maxRecDepth 20000 in
theorem ggL_law_X8_init_wsX70 : GoodIn wsL_law wsX70 := goodIn_r (big := wsL_law) _ [828, 829, 830, 831, 832, 833, 834, 835, 836] (by decide +kernel) (by decide +kernel)
set_option maxRecDepth 20000 in
theorem ggL_law_X8_init_wsX50 : GoodIn wsL_law wsX50 := goodIn_r (big := wsL_law) _ [837, 838, 839, 840, 841, 842, 843] (by decide +kernel) (by decide +kernel)
theorem ggL_law_X8_init : GoodIn wsL_law wsX8_init := by
  intro w h
  rcases List.mem_cons.mp h with h | h
  · exact ggL_law_X8_init_c w (List.mem_cons.mpr (Or.inl h))
  rcases List.mem_append.mp h with h | h
  rotate_left
  · exact ggL_law_X8_init_wsX50 w h
  rcases List.mem_append.mp h with h | h
  rotate_left
  · exact ggL_law_X8_init_wsX70 w h
  rcases List.mem_append.mp h with h | h
  rotate_left
  · exact ggL_law_X8_init_wsX20 w h
  rcases List.mem_append.mp h with h | h
  rotate_left
  · exact ggL_law_X8_init_wsX00 w h
  rcases List.mem_append.mp h with h | h
  rotate_left
  · exact ggL_law_X8_init_wsX10 w h
  rcases List.mem_append.mp h with h | h
  rotate_left
  · exact ggL_law_X8_init_wsX40 w h
  rcases List.mem_append.mp h with h | h
  rotate_left
  · exact ggL_law_X8_init_wsX60 w h
  rcases List.mem_append.mp h with h | h
  rotate_left
  · exact ggL_law_X8_init_wsX80 w h
  rcases List.mem_append.mp h with h | h
  rotate_left
  · exact ggL_law_X8_init_wsX30 w h
  rcases List.mem_append.mp h with h | h
  · exact ggL_law_X8_init_r1 w h
  rcases List.mem_append.mp h with h | h
  · exact ggL_law_X8_init_r2 w h
  rcases List.mem_append.mp h with h | h
  · exact ggL_law_X8_init_r3 w h
  exact ggL_law_X8_init_r4 w h
set_option maxRecDepth 20000 in
theorem ggL_law_X10_init : GoodIn wsL_law wsX10_init := goodIn_r _ [85, 86, 11, 12, 87, 88, 89, 90, 91, 92, 93, 94, 42, 95, 96, 97, 98, 99, 100, 101, 102, 103, 104, 105, 106, 107, 844, 845, 846, 847, 848, 849, 850, 851, 852, 853, 854, 855, 856, 857, 858, 859, 860, 861, 862, 863, 864, 865, 866, 867, 788, 789, 790] (by decide +kernel) (by decide +kernel)
set_option maxRecDepth 20000 in
theorem ggL_law_L_block : GoodIn wsL_law wsL_block := goodIn_ca (goodIn_ca (goodIn_r _ [111, 112, 113, 114, 115, 116, 2, 117, 16, 118, 119, 120, 121, 122, 123, 124, 125, 126, 127, 128, 129, 130, 32, 131, 132, 133, 134, 135, 786, 787, 791, 792, 793, 794, 795, 796, 797, 798, 799, 800, 801, 802, 803, 804, 805, 821, 822, 823, 806, 807, 808, 809, 816, 817, 818, 819, 820] (by decide +kernel) (by decide +kernel)) (goodIn_sub (fun _ h => List.mem_append_left _ (List.mem_append_left _ (List.mem_append_right _ h))) (by decide +kernel))) (goodIn_sub (fun _ h => List.mem_append_left _ (List.mem_append_right _ h)) (by decide +kernel))
set_option maxRecDepth 20000 in
theorem ggL_law_X10_block : GoodIn wsL_law wsX10_block := goodIn_r _ [139, 140, 90, 141, 142, 5, 143, 144, 145, 146, 147, 788, 789, 790, 844, 845, 846, 847, 848, 849, 850, 851, 852, 853, 854, 855, 856, 857, 858, 859, 860, 861, 862, 863, 864, 865, 866, 867] (by decide +kernel) (by decide +kernel)
set_option maxRecDepth 20000 in
theorem ggL_law_X10_thrown : GoodIn wsL_law wsX10_thrown := goodIn_r _ [151, 140, 788, 789, 790] (by decide +kernel) (by decide +kernel)
set_option maxRecDepth 20000 in
theorem ggL_law_L_face : GoodIn wsL_law wsL_face := goodIn_ca (goodIn_ca (goodIn_ca (goodIn_r _ [154, 155, 112, 113, 156, 157, 158, 2, 159, 121, 122, 16, 160, 161, 162, 163, 164, 118, 119, 120, 123, 124, 125, 126, 127, 786, 787, 791, 792, 793, 794, 795, 796, 797, 798, 799, 800, 801, 802, 803, 804, 805, 824, 825, 826, 827] (by decide +kernel) (by decide +kernel)) (goodIn_sub (fun _ h => List.mem_append_left _ (List.mem_append_left _ (List.mem_append_right _ h))) (by decide +kernel))) (goodIn_sub (fun _ h => List.mem_append_right _ h) (by decide +kernel))) (goodIn_sub (fun _ h => List.mem_append_left _ (List.mem_append_right _ h)) (by decide +kernel))
set_option maxRecDepth 20000 in
theorem ggL_law_X10_face : GoodIn wsL_law wsX10_face := goodIn_r _ [168, 140, 90, 169, 170, 171, 5, 172, 141, 142, 143, 144, 145, 146, 147, 788, 789, 790, 844, 845, 846, 847, 848, 849, 850, 851, 852, 853, 854, 855, 856, 857, 858, 859, 860, 861, 862, 863, 864, 865, 866, 867] (by decide +kernel) (by decide +kernel)
set_option maxRecDepth 20000 in
theorem ggL_law_L_well : GoodIn wsL_law wsL_well := goodIn_ca (goodIn_ca (goodIn_r _ [175, 155, 113, 176, 177, 178, 2, 179, 16, 160, 161, 162, 163, 164, 123, 124, 125, 126, 127, 786, 787, 791, 792, 793, 794, 795, 796, 797, 798, 799, 800, 801, 802, 803, 804, 805, 828, 829, 830, 831, 832, 833, 834, 835, 836] (by decide +kernel) (by decide +kernel)) (goodIn_sub (fun _ h => List.mem_append_right _ h) (by decide +kernel))) (goodIn_sub (fun _ h => List.mem_append_left _ (List.mem_append_right _ h)) (by decide +kernel))
set_option maxRecDepth 20000 in
theorem ggL_law_X10_well : GoodIn wsL_law wsX10_well := goodIn_r _ [183, 140, 90, 169, 170, 171, 5, 172, 141, 142, 143, 144, 145, 146, 147, 788, 789, 790, 844, 845, 846, 847, 848, 849, 850, 851, 852, 853, 854, 855, 856, 857, 858, 859, 860, 861, 862, 863, 864, 865, 866, 867] (by decide +kernel) (by decide +kernel)
set_option maxRecDepth 20000 in
theorem ggL_law_L_spring : GoodIn wsL_law wsL_spring := goodIn_ca (goodIn_ca (goodIn_ca (goodIn_r _ [186, 155, 112, 113, 187, 188, 189, 2, 190, 16, 160, 161, 162, 163, 164, 118, 119, 120, 121, 122, 123, 124, 125, 126, 127, 786, 787, 791, 792, 793, 794, 795, 796, 797, 798, 799, 800, 801, 802, 803, 804, 805, 837, 838, 839, 840, 841, 842, 843] (by decide +kernel) (by decide +kernel)) (goodIn_sub (fun _ h => List.mem_append_right _ h) (by decide +kernel))) (goodIn_sub (fun _ h => List.mem_append_left _ (List.mem_append_left _ (List.mem_append_right _ h))) (by decide +kernel))) (goodIn_sub (fun _ h => List.mem_append_left _ (List.mem_append_right _ h)) (by decide +kernel))
set_option maxRecDepth 20000 in
theorem ggL_law_X10_spring : GoodIn wsL_law wsX10_spring := goodIn_r _ [194, 140, 90, 169, 170, 171, 5, 172, 141, 142, 143, 144, 145, 146, 147, 788, 789, 790, 844, 845, 846, 847, 848, 849, 850, 851, 852, 853, 854, 855, 856, 857, 858, 859, 860, 861, 862, 863, 864, 865, 866, 867] (by decide +kernel) (by decide +kernel)
set_option maxRecDepth 20000 in
theorem ggL_law_L_valve : GoodIn wsL_law wsL_valve := goodIn_ca (goodIn_ca (goodIn_r _ [197, 155, 112, 198, 199, 200, 2, 201, 16, 160, 161, 162, 163, 164, 118, 119, 120, 121, 122, 786, 787, 791, 792, 793, 794, 795, 796, 797, 798, 799, 800, 801, 802, 803, 804, 805, 828, 829, 830, 831, 832, 833, 834, 835, 836] (by decide +kernel) (by decide +kernel)) (goodIn_sub (fun _ h => List.mem_append_right _ h) (by decide +kernel))) (goodIn_sub (fun _ h => List.mem_append_left _ (List.mem_append_left _ (List.mem_append_right _ h))) (by decide +kernel))
set_option maxRecDepth 20000 in
theorem ggL_law_X10_valve : GoodIn wsL_law wsX10_valve := goodIn_r _ [205, 140, 90, 206, 207, 208, 5, 209, 141, 142, 143, 144, 145, 146, 147, 788, 789, 790, 844, 845, 846, 847, 848, 849, 850, 851, 852, 853, 854, 855, 856, 857, 858, 859, 860, 861, 862, 863, 864, 865, 866, 867] (by decide +kernel) (by decide +kernel)
set_option maxRecDepth 20000 in
theorem ggL_law_L_trace : GoodIn wsL_law wsL_trace := goodIn_ca (goodIn_ca (goodIn_ca (goodIn_r _ [212, 155, 112, 113, 213, 214, 215, 2, 216, 126, 127, 16, 160, 161, 162, 163, 164, 118, 119, 120, 121, 122, 786, 787, 791, 792, 793, 794, 795, 796, 797, 798, 799, 800, 801, 802, 803, 804, 805, 828, 829, 830, 831, 832, 833, 834, 835, 836, 821, 822, 823, 806, 807, 808, 809, 816, 817, 818, 819, 820] (by decide +kernel) (by decide +kernel)) (goodIn_sub (fun _ h => List.mem_append_left _ (List.mem_append_right _ h)) (by decide +kernel))) (goodIn_sub (fun _ h => List.mem_append_right _ h) (by decide +kernel))) (goodIn_sub (fun _ h => List.mem_append_left _ (List.mem_append_left _ (List.mem_append_right _ h))) (by decide +kernel))
