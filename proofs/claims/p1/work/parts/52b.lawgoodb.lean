set_option maxRecDepth 20000 in
theorem ggL_ofSpring_X8_ofSpring : GoodIn wsL_ofSpring wsX8_ofSpring := goodIn_ca (goodIn_ca (goodIn_r _ [7, 8, 9, 10, 6, 11, 12, 13, 14, 15, 16, 17, 18, 19, 20, 21, 22, 23, 24, 25, 26, 27, 28, 29, 30, 31, 32, 33, 34, 35, 36, 37, 38, 39, 40, 41, 42] (by decide +kernel) (by decide +kernel)) (goodIn_sub (fun _ h => List.mem_cons_of_mem _ (List.mem_append_left _ (List.mem_append_right _ h))) (by decide +kernel))) (goodIn_sub (fun _ h => List.mem_cons_of_mem _ (List.mem_append_right _ h)) (by decide +kernel))
set_option maxRecDepth 20000 in
theorem ggL_ofFace_X8_ofFace : GoodIn wsL_ofFace wsX8_ofFace := goodIn_ca (goodIn_r _ [6, 7, 8, 9, 5, 10, 11, 12, 13, 14, 15, 16, 17, 18, 19, 20, 21, 22, 23, 24, 25, 26, 27, 28, 29, 30, 31, 32, 33] (by decide +kernel) (by decide +kernel)) (goodIn_sub (fun _ h => List.mem_cons_of_mem _ (List.mem_append_right _ h)) (by decide +kernel))
set_option maxRecDepth 20000 in
theorem ggL_pond_X8_pond : GoodIn wsL_pond wsX8_pond := goodIn_ca (goodIn_r _ [6, 7, 8, 9, 5, 10, 11, 12, 13, 14, 15, 16, 17, 18, 19, 20, 21, 22, 23, 24, 25, 26, 27, 28, 29, 30, 31, 32, 33, 34, 35, 36, 37, 38, 39, 40, 41, 42] (by decide +kernel) (by decide +kernel)) (goodIn_sub (fun _ h => List.mem_cons_of_mem _ (List.mem_append_right _ h)) (by decide +kernel))
set_option maxRecDepth 20000 in
theorem ggL_ofOwner_X8_ofOwner : GoodIn wsL_ofOwner wsX8_ofOwner := goodIn_ca (goodIn_ca (goodIn_r _ [7, 8, 9, 10, 6, 11, 12, 13, 14, 15, 16, 17, 18, 19, 20, 21, 22, 23, 24, 25, 26, 27, 28, 29, 30, 31, 32, 33, 34, 35, 36, 37, 38, 39, 40, 41, 42, 43, 44, 45] (by decide +kernel) (by decide +kernel)) (goodIn_sub (fun _ h => List.mem_cons_of_mem _ (List.mem_append_left _ (List.mem_append_right _ h))) (by decide +kernel))) (goodIn_sub (fun _ h => List.mem_cons_of_mem _ (List.mem_append_right _ h)) (by decide +kernel))
set_option maxRecDepth 20000 in
theorem ggL_mass_X8_mass : GoodIn wsL_mass wsX8_mass := goodIn_ca (goodIn_r _ [6, 7, 8, 9, 5, 10, 11, 12, 13, 14, 15, 16, 17, 18, 19, 20, 21, 22, 23, 24, 25, 26, 27, 28, 29, 30, 31, 32, 33, 34, 35, 36, 37, 38, 39, 40, 41, 42, 43, 44, 45, 46, 47, 48, 49, 50, 51, 52, 53, 54, 55, 56, 57] (by decide +kernel) (by decide +kernel)) (goodIn_sub (fun _ h => List.mem_cons_of_mem _ (List.mem_append_right _ h)) (by decide +kernel))
set_option maxRecDepth 20000 in
theorem ggL_many_X8_many : GoodIn wsL_many wsX8_many := goodIn_ca (goodIn_r _ [6, 7, 8, 9, 5, 10, 11, 12, 13, 14, 15, 16, 17, 18, 19, 20, 21, 22, 23, 24, 25, 26, 27, 28, 29, 30, 31, 32, 33, 34, 35, 36, 37, 38, 39, 40, 41, 42, 43, 44, 45, 46, 47, 48, 49, 50, 51, 52, 53, 54, 55, 56, 57, 58, 59] (by decide +kernel) (by decide +kernel)) (goodIn_sub (fun _ h => List.mem_cons_of_mem _ (List.mem_append_right _ h)) (by decide +kernel))
set_option maxRecDepth 20000 in
theorem ggL_wouldGive_X8_wouldGive_c : GoodIn wsL_wouldGive [.code yX8_wouldGive cX8_wouldGive 2 (some .int)] := goodIn_r (big := wsL_wouldGive) _ [6] (by decide +kernel) (by decide +kernel)
set_option maxRecDepth 20000 in
theorem ggL_wouldGive_X8_wouldGive_r1 : GoodIn wsL_wouldGive wsX8_wouldGive_r1 := goodIn_r (big := wsL_wouldGive) _ [7, 8, 9, 10, 5, 11, 12, 13, 14, 15, 16, 17, 18, 19, 20, 21, 22, 23, 24, 25, 26, 27, 28, 29] (by decide +kernel) (by decide +kernel)
set_option maxRecDepth 20000 in
theorem ggL_wouldGive_X8_wouldGive_r2 : GoodIn wsL_wouldGive wsX8_wouldGive_r2 := goodIn_r (big := wsL_wouldGive) _ [30, 31, 32, 33, 34, 35, 36, 37, 38, 39, 40, 41, 42, 43, 44, 45, 46, 47, 48, 49, 50, 51, 52, 53] (by decide +kernel) (by decide +kernel)
set_option maxRecDepth 20000 in
theorem ggL_wouldGive_X8_wouldGive_r3 : GoodIn wsL_wouldGive wsX8_wouldGive_r3 := goodIn_r (big := wsL_wouldGive) _ [54, 55, 56, 57, 58, 59, 60, 61, 62, 63, 64, 65, 66, 67, 68, 69, 70, 71, 72, 73, 74, 75, 76, 77] (by decide +kernel) (by decide +kernel)
set_option maxRecDepth 20000 in
theorem ggL_wouldGive_X8_wouldGive_r4 : GoodIn wsL_wouldGive wsX8_wouldGive_r4 := goodIn_r (big := wsL_wouldGive) _ [78, 79, 80, 81, 82, 83, 84, 85, 86, 87, 88, 89, 90, 91, 92, 93, 94, 95, 96, 97, 98, 99, 100, 101] (by decide +kernel) (by decide +kernel)
set_option maxRecDepth 20000 in
theorem ggL_wouldGive_X8_wouldGive_r5 : GoodIn wsL_wouldGive wsX8_wouldGive_r5 := goodIn_r (big := wsL_wouldGive) _ [102, 103, 104, 105, 106, 107, 108, 109, 110, 111, 112, 113, 114, 115, 116, 117, 118, 119, 120, 121, 122, 123, 124, 125] (by decide +kernel) (by decide +kernel)
set_option maxRecDepth 20000 in
theorem ggL_wouldGive_X8_wouldGive_r6 : GoodIn wsL_wouldGive wsX8_wouldGive_r6 := goodIn_r (big := wsL_wouldGive) _ [126, 127, 128, 129, 130, 131, 132, 133, 134, 135, 136, 137, 138, 139, 140, 141, 142, 143, 144, 145, 146, 147, 148, 149] (by decide +kernel) (by decide +kernel)
set_option maxRecDepth 20000 in
theorem ggL_wouldGive_X8_wouldGive_r7 : GoodIn wsL_wouldGive wsX8_wouldGive_r7 := goodIn_r (big := wsL_wouldGive) _ [150, 151, 152, 153, 154, 155, 156, 157, 158, 159, 160, 161, 162, 163, 164, 165, 166, 167, 168, 169, 170, 171, 172, 173] (by decide +kernel) (by decide +kernel)
set_option maxRecDepth 20000 in
theorem ggL_wouldGive_X8_wouldGive_r8 : GoodIn wsL_wouldGive wsX8_wouldGive_r8 := goodIn_r (big := wsL_wouldGive) _ [174, 175, 176, 177, 178, 179, 180, 181, 182, 183, 184, 185, 186, 187, 188, 189, 190, 191, 192, 193, 194, 195, 196, 197] (by decide +kernel) (by decide +kernel)
set_option maxRecDepth 20000 in
theorem ggL_wouldGive_X8_wouldGive_r9 : GoodIn wsL_wouldGive wsX8_wouldGive_r9 := goodIn_r (big := wsL_wouldGive) _ [198, 199, 200, 201, 202, 203, 204, 205, 206, 207, 208, 209, 210, 211, 212, 213, 214, 215, 216, 217, 218, 219] (by decide +kernel) (by decide +kernel)
set_option maxRecDepth 20000 in
theorem ggL_wouldGive_X8_wouldGive_wsX80 : GoodIn wsL_wouldGive wsX80 := goodIn_r (big := wsL_wouldGive) _ [220, 221] (by decide +kernel) (by decide +kernel)
set_option maxRecDepth 20000 in
theorem ggL_wouldGive_X8_wouldGive_wsX30 : GoodIn wsL_wouldGive wsX30 := goodIn_r (big := wsL_wouldGive) _ [222, 223, 224, 225, 226, 227, 228, 229, 230, 231, 232, 233, 234, 235, 236] (by decide +kernel) (by decide +kernel)
set_option maxRecDepth 20000 in
theorem ggL_wouldGive_X8_wouldGive_wsX00 : GoodIn wsL_wouldGive wsX00 := goodIn_r (big := wsL_wouldGive) _ [237, 238, 239] (by decide +kernel) (by decide +kernel)
set_option maxRecDepth 20000 in
theorem ggL_wouldGive_X8_wouldGive_wsX60 : GoodIn wsL_wouldGive wsX60 := goodIn_r (big := wsL_wouldGive) _ [240, 241, 242, 243] (by decide +kernel) (by decide +kernel)
set_option maxRecDepth 20000 in
theorem ggL_wouldGive_X8_wouldGive_wsX20 : GoodIn wsL_wouldGive wsX20 := goodIn_r (big := wsL_wouldGive) _ [244, 245, 246, 247] (by decide +kernel) (by decide +kernel)
set_option maxRecDepth 20000 in
theorem ggL_wouldGive_X8_wouldGive_wsX70 : GoodIn wsL_wouldGive wsX70 := goodIn_r (big := wsL_wouldGive) _ [248, 249, 250, 251, 252, 253, 254, 255, 256] (by decide +kernel) (by decide +kernel)
set_option maxRecDepth 20000 in
theorem ggL_wouldGive_X8_wouldGive_wsX50 : GoodIn wsL_wouldGive wsX50 := goodIn_r (big := wsL_wouldGive) _ [257, 258, 259, 260, 261, 262, 263] (by decide +kernel) (by decide +kernel)
set_option maxRecDepth 20000 in
theorem ggL_wouldGive_X8_wouldGive_wsX40 : GoodIn wsL_wouldGive wsX40 := goodIn_r (big := wsL_wouldGive) _ [264, 265, 266, 267, 268, 269] (by decide +kernel) (by decide +kernel)
set_option maxRecDepth 20000 in
theorem ggL_wouldGive_X8_wouldGive_wsX10 : GoodIn wsL_wouldGive wsX10 := goodIn_r (big := wsL_wouldGive) _ [270, 271, 272, 273, 274] (by decide +kernel) (by decide +kernel)
theorem ggL_wouldGive_X8_wouldGive : GoodIn wsL_wouldGive wsX8_wouldGive := by
  intro w h
  rcases List.mem_cons.mp h with h | h
  · exact ggL_wouldGive_X8_wouldGive_c w (List.mem_cons.mpr (Or.inl h))
  rcases List.mem_append.mp h with h | h
  rotate_left
  · exact goodIn_sub (big := wsL_wouldGive) (ws := (vx_atS RX8 78 "java/lang/IllegalArgumentException" ["java/lang/RuntimeException", "java/lang/Exception"]).filter goodWord) (fun _ h => List.mem_cons_of_mem _ (List.mem_append_right _ h)) (by decide +kernel) w h
  rcases List.mem_append.mp h with h | h
  rotate_left
  · exact ggL_wouldGive_X8_wouldGive_wsX10 w h
  rcases List.mem_append.mp h with h | h
  rotate_left
  · exact ggL_wouldGive_X8_wouldGive_wsX40 w h
  rcases List.mem_append.mp h with h | h
  rotate_left
  · exact ggL_wouldGive_X8_wouldGive_wsX50 w h
  rcases List.mem_append.mp h with h | h
  rotate_left
  · exact ggL_wouldGive_X8_wouldGive_wsX70 w h
  rcases List.mem_append.mp h with h | h
  rotate_left
  · exact ggL_wouldGive_X8_wouldGive_wsX20 w h
  rcases List.mem_append.mp h with h | h
  rotate_left
  · exact ggL_wouldGive_X8_wouldGive_wsX60 w h
  rcases List.mem_append.mp h with h | h
  rotate_left
  · exact ggL_wouldGive_X8_wouldGive_wsX00 w h
  rcases List.mem_append.mp h with h | h
  rotate_left
  · exact ggL_wouldGive_X8_wouldGive_wsX30 w h
  rcases List.mem_append.mp h with h | h
  rotate_left
  · exact ggL_wouldGive_X8_wouldGive_wsX80 w h
  rcases List.mem_append.mp h with h | h
  · exact ggL_wouldGive_X8_wouldGive_r1 w h
  rcases List.mem_append.mp h with h | h
  · exact ggL_wouldGive_X8_wouldGive_r2 w h
  rcases List.mem_append.mp h with h | h
  · exact ggL_wouldGive_X8_wouldGive_r3 w h
  rcases List.mem_append.mp h with h | h
  · exact ggL_wouldGive_X8_wouldGive_r4 w h
  rcases List.mem_append.mp h with h | h
  · exact ggL_wouldGive_X8_wouldGive_r5 w h
  rcases List.mem_append.mp h with h | h
  · exact ggL_wouldGive_X8_wouldGive_r6 w h
  rcases List.mem_append.mp h with h | h
  · exact ggL_wouldGive_X8_wouldGive_r7 w h
  rcases List.mem_append.mp h with h | h
  · exact ggL_wouldGive_X8_wouldGive_r8 w h
  exact ggL_wouldGive_X8_wouldGive_r9 w h
set_option maxRecDepth 20000 in
theorem ggL_coldIn_X8_coldIn_c : GoodIn wsL_coldIn [.code yX8_coldIn cX8_coldIn 5 (some .int)] := goodIn_r (big := wsL_coldIn) _ [7] (by decide +kernel) (by decide +kernel)
set_option maxRecDepth 20000 in
theorem ggL_coldIn_X8_coldIn_r1 : GoodIn wsL_coldIn wsX8_coldIn_r1 := goodIn_r (big := wsL_coldIn) _ [8, 9, 10, 11, 6, 12, 13, 14, 15, 16, 17, 18, 19, 20, 21, 22, 23, 24, 25, 26, 27, 28, 29, 30] (by decide +kernel) (by decide +kernel)
set_option maxRecDepth 20000 in
theorem ggL_coldIn_X8_coldIn_r2 : GoodIn wsL_coldIn wsX8_coldIn_r2 := goodIn_r (big := wsL_coldIn) _ [31, 32, 33, 34, 35, 36, 37, 38, 39, 40, 41, 42, 43, 44, 45, 46, 47, 48, 49, 50, 51, 52, 53, 54] (by decide +kernel) (by decide +kernel)
set_option maxRecDepth 20000 in
theorem ggL_coldIn_X8_coldIn_r3 : GoodIn wsL_coldIn wsX8_coldIn_r3 := goodIn_r (big := wsL_coldIn) _ [55, 56, 57, 58, 59, 60, 61, 62, 63, 64, 65, 66, 67, 68, 69, 70, 71, 72, 73, 74, 75, 76, 77, 78] (by decide +kernel) (by decide +kernel)
set_option maxRecDepth 20000 in
theorem ggL_coldIn_X8_coldIn_r4 : GoodIn wsL_coldIn wsX8_coldIn_r4 := goodIn_r (big := wsL_coldIn) _ [79, 80, 81, 82, 83, 84, 85, 86, 87, 88, 89, 90, 91, 92, 93, 94, 95, 96, 97, 98, 99, 100, 101, 102] (by decide +kernel) (by decide +kernel)
set_option maxRecDepth 20000 in
theorem ggL_coldIn_X8_coldIn_r5 : GoodIn wsL_coldIn wsX8_coldIn_r5 := goodIn_r (big := wsL_coldIn) _ [103, 104, 105, 106, 107, 108, 109, 110, 111, 112, 113, 114, 115, 116, 117, 118, 119, 120, 121, 122, 123, 124, 125, 126] (by decide +kernel) (by decide +kernel)
set_option maxRecDepth 20000 in
theorem ggL_coldIn_X8_coldIn_r6 : GoodIn wsL_coldIn wsX8_coldIn_r6 := goodIn_r (big := wsL_coldIn) _ [127, 128, 129, 130, 131, 132, 133, 134, 135, 136, 137, 138, 139, 140, 141, 142, 143, 144, 145, 146, 147, 148, 149, 150] (by decide +kernel) (by decide +kernel)
set_option maxRecDepth 20000 in
theorem ggL_coldIn_X8_coldIn_r7 : GoodIn wsL_coldIn wsX8_coldIn_r7 := goodIn_r (big := wsL_coldIn) _ [151, 152, 153, 154, 155, 156, 157, 158, 159, 160, 161, 162, 163, 164, 165, 166, 167, 168, 169, 170, 171, 172, 173, 174] (by decide +kernel) (by decide +kernel)
set_option maxRecDepth 20000 in
theorem ggL_coldIn_X8_coldIn_r8 : GoodIn wsL_coldIn wsX8_coldIn_r8 := goodIn_r (big := wsL_coldIn) _ [175, 176, 177, 178, 179, 180, 181, 182, 183, 184, 185, 186, 187, 188, 189, 190, 191, 192, 193, 194, 195, 196, 197, 198] (by decide +kernel) (by decide +kernel)
set_option maxRecDepth 20000 in
theorem ggL_coldIn_X8_coldIn_r9 : GoodIn wsL_coldIn wsX8_coldIn_r9 := goodIn_r (big := wsL_coldIn) _ [199, 200, 201, 202, 203, 204, 205, 206, 207, 208, 209, 210, 211, 212, 213, 214, 215, 216, 217, 218, 219, 220, 221, 222] (by decide +kernel) (by decide +kernel)
set_option maxRecDepth 20000 in
theorem ggL_coldIn_X8_coldIn_r10 : GoodIn wsL_coldIn wsX8_coldIn_r10 := goodIn_r (big := wsL_coldIn) _ [223] (by decide +kernel) (by decide +kernel)
set_option maxRecDepth 20000 in
theorem ggL_coldIn_X8_coldIn_wsX80 : GoodIn wsL_coldIn wsX80 := goodIn_r (big := wsL_coldIn) _ [224, 225] (by decide +kernel) (by decide +kernel)
set_option maxRecDepth 20000 in
theorem ggL_coldIn_X8_coldIn_wsX30 : GoodIn wsL_coldIn wsX30 := goodIn_r (big := wsL_coldIn) _ [226, 227, 228, 229, 230, 231, 232, 233, 234, 235, 236, 237, 238, 239, 240] (by decide +kernel) (by decide +kernel)
