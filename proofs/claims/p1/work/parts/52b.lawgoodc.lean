set_option maxRecDepth 20000 in
theorem ggL_coldIn_X8_coldIn_wsX70 : GoodIn wsL_coldIn wsX70 := goodIn_r (big := wsL_coldIn) _ [241, 242, 243, 244, 245, 246, 247, 248, 249] (by decide +kernel) (by decide +kernel)
set_option maxRecDepth 20000 in
theorem ggL_coldIn_X8_coldIn_wsX00 : GoodIn wsL_coldIn wsX00 := goodIn_r (big := wsL_coldIn) _ [250, 251, 252] (by decide +kernel) (by decide +kernel)
set_option maxRecDepth 20000 in
theorem ggL_coldIn_X8_coldIn_wsX60 : GoodIn wsL_coldIn wsX60 := goodIn_r (big := wsL_coldIn) _ [253, 254, 255, 256] (by decide +kernel) (by decide +kernel)
set_option maxRecDepth 20000 in
theorem ggL_coldIn_X8_coldIn_wsX20 : GoodIn wsL_coldIn wsX20 := goodIn_r (big := wsL_coldIn) _ [257, 258, 259, 260] (by decide +kernel) (by decide +kernel)
set_option maxRecDepth 20000 in
theorem ggL_coldIn_X8_coldIn_wsX50 : GoodIn wsL_coldIn wsX50 := goodIn_r (big := wsL_coldIn) _ [261, 262, 263, 264, 265, 266, 267] (by decide +kernel) (by decide +kernel)
set_option maxRecDepth 20000 in
theorem ggL_coldIn_X8_coldIn_wsX40 : GoodIn wsL_coldIn wsX40 := goodIn_r (big := wsL_coldIn) _ [268, 269, 270, 271, 272, 273] (by decide +kernel) (by decide +kernel)
set_option maxRecDepth 20000 in
theorem ggL_coldIn_X8_coldIn_wsX10 : GoodIn wsL_coldIn wsX10 := goodIn_r (big := wsL_coldIn) _ [274, 275, 276, 277, 278] (by decide +kernel) (by decide +kernel)
theorem ggL_coldIn_X8_coldIn : GoodIn wsL_coldIn wsX8_coldIn := by
  intro w h
  rcases List.mem_cons.mp h with h | h
  · exact ggL_coldIn_X8_coldIn_c w (List.mem_cons.mpr (Or.inl h))
  rcases List.mem_append.mp h with h | h
  rotate_left
  · exact goodIn_sub (big := wsL_coldIn) (ws := (vx_atS RX8 78 "java/lang/IllegalArgumentException" ["java/lang/RuntimeException", "java/lang/Exception"]).filter goodWord) (fun _ h => List.mem_cons_of_mem _ (List.mem_append_right _ h)) (by decide +kernel) w h
  rcases List.mem_append.mp h with h | h
  rotate_left
  · exact goodIn_sub (big := wsL_coldIn) (ws := (vx_atS RX8 308 "java/lang/IndexOutOfBoundsException" ["java/lang/RuntimeException", "java/lang/Exception"]).filter goodWord) (fun _ h => List.mem_cons_of_mem _ (List.mem_append_left _ (List.mem_append_right _ h))) (by decide +kernel) w h
  rcases List.mem_append.mp h with h | h
  rotate_left
  · exact ggL_coldIn_X8_coldIn_wsX10 w h
  rcases List.mem_append.mp h with h | h
  rotate_left
  · exact ggL_coldIn_X8_coldIn_wsX40 w h
  rcases List.mem_append.mp h with h | h
  rotate_left
  · exact ggL_coldIn_X8_coldIn_wsX50 w h
  rcases List.mem_append.mp h with h | h
  rotate_left
  · exact ggL_coldIn_X8_coldIn_wsX20 w h
  rcases List.mem_append.mp h with h | h
  rotate_left
  · exact ggL_coldIn_X8_coldIn_wsX60 w h
  rcases List.mem_append.mp h with h | h
  rotate_left
  · exact ggL_coldIn_X8_coldIn_wsX00 w h
  rcases List.mem_append.mp h with h | h
  rotate_left
  · exact ggL_coldIn_X8_coldIn_wsX70 w h
  rcases List.mem_append.mp h with h | h
  rotate_left
  · exact ggL_coldIn_X8_coldIn_wsX30 w h
  rcases List.mem_append.mp h with h | h
  rotate_left
  · exact ggL_coldIn_X8_coldIn_wsX80 w h
  rcases List.mem_append.mp h with h | h
  · exact ggL_coldIn_X8_coldIn_r1 w h
  rcases List.mem_append.mp h with h | h
  · exact ggL_coldIn_X8_coldIn_r2 w h
  rcases List.mem_append.mp h with h | h
  · exact ggL_coldIn_X8_coldIn_r3 w h
  rcases List.mem_append.mp h with h | h
  · exact ggL_coldIn_X8_coldIn_r4 w h
  rcases List.mem_append.mp h with h | h
  · exact ggL_coldIn_X8_coldIn_r5 w h
  rcases List.mem_append.mp h with h | h
  · exact ggL_coldIn_X8_coldIn_r6 w h
  rcases List.mem_append.mp h with h | h
  · exact ggL_coldIn_X8_coldIn_r7 w h
  rcases List.mem_append.mp h with h | h
  · exact ggL_coldIn_X8_coldIn_r8 w h
  rcases List.mem_append.mp h with h | h
  · exact ggL_coldIn_X8_coldIn_r9 w h
  exact ggL_coldIn_X8_coldIn_r10 w h
set_option maxRecDepth 20000 in
theorem ggL_causedBy_X8_causedBy_c : GoodIn wsL_causedBy [.code yX8_causedBy cX8_causedBy 5 (some .int)] := goodIn_r (big := wsL_causedBy) _ [7] (by decide +kernel) (by decide +kernel)
set_option maxRecDepth 20000 in
theorem ggL_causedBy_X8_causedBy_r1 : GoodIn wsL_causedBy wsX8_causedBy_r1 := goodIn_r (big := wsL_causedBy) _ [8, 9, 10, 11, 6, 12, 13, 14, 15, 16, 17, 18, 19, 20, 21, 22, 23, 24, 25, 26, 27, 28, 29, 30] (by decide +kernel) (by decide +kernel)
set_option maxRecDepth 20000 in
theorem ggL_causedBy_X8_causedBy_r2 : GoodIn wsL_causedBy wsX8_causedBy_r2 := goodIn_r (big := wsL_causedBy) _ [31, 32, 33, 34, 35, 36, 37, 38, 39, 40, 41, 42, 43, 44, 45, 46, 47, 48, 49, 50, 51, 52, 53, 54] (by decide +kernel) (by decide +kernel)
set_option maxRecDepth 20000 in
theorem ggL_causedBy_X8_causedBy_r3 : GoodIn wsL_causedBy wsX8_causedBy_r3 := goodIn_r (big := wsL_causedBy) _ [55, 56, 57, 58, 59, 60, 61, 62, 63, 64, 65, 66, 67, 68, 69, 70, 71, 72, 73, 74, 75, 76, 77, 78] (by decide +kernel) (by decide +kernel)
set_option maxRecDepth 20000 in
theorem ggL_causedBy_X8_causedBy_r4 : GoodIn wsL_causedBy wsX8_causedBy_r4 := goodIn_r (big := wsL_causedBy) _ [79, 80, 81, 82, 83, 84, 85, 86, 87, 88, 89, 90, 91, 92, 93, 94, 95, 96, 97, 98, 99, 100, 101, 102] (by decide +kernel) (by decide +kernel)
set_option maxRecDepth 20000 in
theorem ggL_causedBy_X8_causedBy_r5 : GoodIn wsL_causedBy wsX8_causedBy_r5 := goodIn_r (big := wsL_causedBy) _ [103, 104, 105, 106, 107, 108, 109, 110, 111, 112, 113, 114, 115, 116, 117, 118, 119, 120, 121, 122, 123, 124, 125, 126] (by decide +kernel) (by decide +kernel)
set_option maxRecDepth 20000 in
theorem ggL_causedBy_X8_causedBy_r6 : GoodIn wsL_causedBy wsX8_causedBy_r6 := goodIn_r (big := wsL_causedBy) _ [127, 128, 129, 130, 131, 132, 133, 134, 135, 136, 137, 138, 139, 140, 141, 142, 143, 144, 145, 146, 147, 148, 149, 150] (by decide +kernel) (by decide +kernel)
set_option maxRecDepth 20000 in
theorem ggL_causedBy_X8_causedBy_r7 : GoodIn wsL_causedBy wsX8_causedBy_r7 := goodIn_r (big := wsL_causedBy) _ [151, 152, 153, 154, 155, 156, 157, 158, 159, 160, 161, 162, 163, 164, 165, 166, 167, 168, 169, 170, 171, 172, 173, 174] (by decide +kernel) (by decide +kernel)
set_option maxRecDepth 20000 in
theorem ggL_causedBy_X8_causedBy_r8 : GoodIn wsL_causedBy wsX8_causedBy_r8 := goodIn_r (big := wsL_causedBy) _ [175, 176, 177, 178, 179, 180, 181, 182, 183, 184, 185, 186, 187, 188, 189, 190, 191, 192, 193, 194, 195, 196, 197, 198] (by decide +kernel) (by decide +kernel)
set_option maxRecDepth 20000 in
theorem ggL_causedBy_X8_causedBy_r9 : GoodIn wsL_causedBy wsX8_causedBy_r9 := goodIn_r (big := wsL_causedBy) _ [199, 200, 201, 202, 203, 204, 205, 206, 207, 208, 209, 210, 211, 212, 213, 214, 215, 216, 217, 218, 219, 220, 221, 222] (by decide +kernel) (by decide +kernel)
set_option maxRecDepth 20000 in
theorem ggL_causedBy_X8_causedBy_r10 : GoodIn wsL_causedBy wsX8_causedBy_r10 := goodIn_r (big := wsL_causedBy) _ [223, 224, 225] (by decide +kernel) (by decide +kernel)
set_option maxRecDepth 20000 in
theorem ggL_causedBy_X8_causedBy_wsX80 : GoodIn wsL_causedBy wsX80 := goodIn_r (big := wsL_causedBy) _ [226, 227] (by decide +kernel) (by decide +kernel)
set_option maxRecDepth 20000 in
theorem ggL_causedBy_X8_causedBy_wsX30 : GoodIn wsL_causedBy wsX30 := goodIn_r (big := wsL_causedBy) _ [228, 229, 230, 231, 232, 233, 234, 235, 236, 237, 238, 239, 240, 241, 242] (by decide +kernel) (by decide +kernel)
set_option maxRecDepth 20000 in
theorem ggL_causedBy_X8_causedBy_wsX50 : GoodIn wsL_causedBy wsX50 := goodIn_r (big := wsL_causedBy) _ [243, 244, 245, 246, 247, 248, 249] (by decide +kernel) (by decide +kernel)
set_option maxRecDepth 20000 in
theorem ggL_causedBy_X8_causedBy_wsX70 : GoodIn wsL_causedBy wsX70 := goodIn_r (big := wsL_causedBy) _ [250, 251, 252, 253, 254, 255, 256, 257, 258] (by decide +kernel) (by decide +kernel)
set_option maxRecDepth 20000 in
theorem ggL_causedBy_X8_causedBy_wsX00 : GoodIn wsL_causedBy wsX00 := goodIn_r (big := wsL_causedBy) _ [259, 260, 261] (by decide +kernel) (by decide +kernel)
set_option maxRecDepth 20000 in
theorem ggL_causedBy_X8_causedBy_wsX60 : GoodIn wsL_causedBy wsX60 := goodIn_r (big := wsL_causedBy) _ [262, 263, 264, 265] (by decide +kernel) (by decide +kernel)
set_option maxRecDepth 20000 in
theorem ggL_causedBy_X8_causedBy_wsX20 : GoodIn wsL_causedBy wsX20 := goodIn_r (big := wsL_causedBy) _ [266, 267, 268, 269] (by decide +kernel) (by decide +kernel)
set_option maxRecDepth 20000 in
theorem ggL_causedBy_X8_causedBy_wsX40 : GoodIn wsL_causedBy wsX40 := goodIn_r (big := wsL_causedBy) _ [270, 271, 272, 273, 274, 275] (by decide +kernel) (by decide +kernel)
set_option maxRecDepth 20000 in
theorem ggL_causedBy_X8_causedBy_wsX10 : GoodIn wsL_causedBy wsX10 := goodIn_r (big := wsL_causedBy) _ [276, 277, 278, 279, 280] (by decide +kernel) (by decide +kernel)
theorem ggL_causedBy_X8_causedBy : GoodIn wsL_causedBy wsX8_causedBy := by
  intro w h
  rcases List.mem_cons.mp h with h | h
  · exact ggL_causedBy_X8_causedBy_c w (List.mem_cons.mpr (Or.inl h))
  rcases List.mem_append.mp h with h | h
  rotate_left
  · exact goodIn_sub (big := wsL_causedBy) (ws := (vx_atS RX8 78 "java/lang/IllegalArgumentException" ["java/lang/RuntimeException", "java/lang/Exception"]).filter goodWord) (fun _ h => List.mem_cons_of_mem _ (List.mem_append_right _ h)) (by decide +kernel) w h
  rcases List.mem_append.mp h with h | h
  rotate_left
  · exact goodIn_sub (big := wsL_causedBy) (ws := (vx_atS RX8 308 "java/lang/IndexOutOfBoundsException" ["java/lang/RuntimeException", "java/lang/Exception"]).filter goodWord) (fun _ h => List.mem_cons_of_mem _ (List.mem_append_left _ (List.mem_append_right _ h))) (by decide +kernel) w h
  rcases List.mem_append.mp h with h | h
  rotate_left
  · exact ggL_causedBy_X8_causedBy_wsX10 w h
  rcases List.mem_append.mp h with h | h
  rotate_left
  · exact ggL_causedBy_X8_causedBy_wsX40 w h
  rcases List.mem_append.mp h with h | h
  rotate_left
  · exact ggL_causedBy_X8_causedBy_wsX20 w h
  rcases List.mem_append.mp h with h | h
  rotate_left
  · exact ggL_causedBy_X8_causedBy_wsX60 w h
  rcases List.mem_append.mp h with h | h
  rotate_left
  · exact ggL_causedBy_X8_causedBy_wsX00 w h
  rcases List.mem_append.mp h with h | h
  rotate_left
  · exact ggL_causedBy_X8_causedBy_wsX70 w h
  rcases List.mem_append.mp h with h | h
  rotate_left
  · exact ggL_causedBy_X8_causedBy_wsX50 w h
  rcases List.mem_append.mp h with h | h
  rotate_left
  · exact ggL_causedBy_X8_causedBy_wsX30 w h
  rcases List.mem_append.mp h with h | h
  rotate_left
  · exact ggL_causedBy_X8_causedBy_wsX80 w h
  rcases List.mem_append.mp h with h | h
  · exact ggL_causedBy_X8_causedBy_r1 w h
  rcases List.mem_append.mp h with h | h
  · exact ggL_causedBy_X8_causedBy_r2 w h
  rcases List.mem_append.mp h with h | h
  · exact ggL_causedBy_X8_causedBy_r3 w h
  rcases List.mem_append.mp h with h | h
  · exact ggL_causedBy_X8_causedBy_r4 w h
  rcases List.mem_append.mp h with h | h
  · exact ggL_causedBy_X8_causedBy_r5 w h
  rcases List.mem_append.mp h with h | h
  · exact ggL_causedBy_X8_causedBy_r6 w h
  rcases List.mem_append.mp h with h | h
  · exact ggL_causedBy_X8_causedBy_r7 w h
  rcases List.mem_append.mp h with h | h
  · exact ggL_causedBy_X8_causedBy_r8 w h
  rcases List.mem_append.mp h with h | h
  · exact ggL_causedBy_X8_causedBy_r9 w h
  exact ggL_causedBy_X8_causedBy_r10 w h
set_option maxRecDepth 20000 in
theorem ggL_bestValves_X8_bestValves_c : GoodIn wsL_bestValves [.code yX8_bestValves cX8_bestValves 9 (some .int)] := goodIn_r (big := wsL_bestValves) _ [6] (by decide +kernel) (by decide +kernel)
set_option maxRecDepth 20000 in
theorem ggL_bestValves_X8_bestValves_r1 : GoodIn wsL_bestValves wsX8_bestValves_r1 := goodIn_r (big := wsL_bestValves) _ [7, 8, 9, 10, 5, 11, 12, 13, 14, 15, 16, 17, 18, 19, 20, 21, 22, 23, 24, 25, 26, 27, 28, 29] (by decide +kernel) (by decide +kernel)
set_option maxRecDepth 20000 in
theorem ggL_bestValves_X8_bestValves_r2 : GoodIn wsL_bestValves wsX8_bestValves_r2 := goodIn_r (big := wsL_bestValves) _ [30, 31, 32, 33, 34, 35, 36, 37, 38, 39, 40, 41, 42, 43, 44, 45, 46, 47, 48, 49, 50, 51, 52, 53] (by decide +kernel) (by decide +kernel)
set_option maxRecDepth 20000 in
theorem ggL_bestValves_X8_bestValves_r3 : GoodIn wsL_bestValves wsX8_bestValves_r3 := goodIn_r (big := wsL_bestValves) _ [54, 55, 56, 57, 58, 59, 60, 61, 62, 63, 64, 65, 66, 67, 68, 69, 70, 71, 72, 73, 74, 75, 76, 77] (by decide +kernel) (by decide +kernel)
set_option maxRecDepth 20000 in
theorem ggL_bestValves_X8_bestValves_r4 : GoodIn wsL_bestValves wsX8_bestValves_r4 := goodIn_r (big := wsL_bestValves) _ [78, 79, 80, 81, 82, 83, 84, 85, 86, 87, 88, 89, 90, 91, 92, 93, 94, 95, 96, 97, 98, 99, 100, 101] (by decide +kernel) (by decide +kernel)
set_option maxRecDepth 20000 in
theorem ggL_bestValves_X8_bestValves_r5 : GoodIn wsL_bestValves wsX8_bestValves_r5 := goodIn_r (big := wsL_bestValves) _ [102, 103, 104, 105, 106, 107, 108, 109, 110, 111, 112, 113, 114, 115, 116, 117, 118, 119, 120, 121, 122, 123, 124, 125] (by decide +kernel) (by decide +kernel)
set_option maxRecDepth 20000 in
theorem ggL_bestValves_X8_bestValves_r6 : GoodIn wsL_bestValves wsX8_bestValves_r6 := goodIn_r (big := wsL_bestValves) _ [126, 127, 128, 129, 130, 131, 132, 133, 134, 135, 136, 137, 138, 139, 140, 141, 142, 143, 144, 145, 146, 147, 148, 149] (by decide +kernel) (by decide +kernel)
set_option maxRecDepth 20000 in
theorem ggL_bestValves_X8_bestValves_r7 : GoodIn wsL_bestValves wsX8_bestValves_r7 := goodIn_r (big := wsL_bestValves) _ [150, 151, 152, 153, 154, 155, 156, 157, 158, 159, 160, 161, 162, 163, 164, 165, 166, 167, 168, 169, 170, 171, 172, 173] (by decide +kernel) (by decide +kernel)
set_option maxRecDepth 20000 in
theorem ggL_bestValves_X8_bestValves_r8 : GoodIn wsL_bestValves wsX8_bestValves_r8 := goodIn_r (big := wsL_bestValves) _ [174, 175, 176, 177, 178, 179, 180, 181, 182, 183, 184, 185, 186, 187, 188, 189, 190, 191, 192, 193, 194, 195, 196, 197] (by decide +kernel) (by decide +kernel)
set_option maxRecDepth 20000 in
theorem ggL_bestValves_X8_bestValves_r9 : GoodIn wsL_bestValves wsX8_bestValves_r9 := goodIn_r (big := wsL_bestValves) _ [198, 199, 200, 201, 202, 203, 204, 205, 206, 207, 208, 209, 210, 211, 212, 213, 214, 215, 216, 217, 218, 219, 220, 221] (by decide +kernel) (by decide +kernel)
set_option maxRecDepth 20000 in
theorem ggL_bestValves_X8_bestValves_r10 : GoodIn wsL_bestValves wsX8_bestValves_r10 := goodIn_r (big := wsL_bestValves) _ [222, 223, 224, 225, 226, 227] (by decide +kernel) (by decide +kernel)
set_option maxRecDepth 20000 in
theorem ggL_bestValves_X8_bestValves_wsX80 : GoodIn wsL_bestValves wsX80 := goodIn_r (big := wsL_bestValves) _ [228, 229] (by decide +kernel) (by decide +kernel)
set_option maxRecDepth 20000 in
theorem ggL_bestValves_X8_bestValves_wsX30 : GoodIn wsL_bestValves wsX30 := goodIn_r (big := wsL_bestValves) _ [230, 231, 232, 233, 234, 235, 236, 237, 238, 239, 240, 241, 242, 243, 244] (by decide +kernel) (by decide +kernel)
set_option maxRecDepth 20000 in
theorem ggL_bestValves_X8_bestValves_wsX50 : GoodIn wsL_bestValves wsX50 := goodIn_r (big := wsL_bestValves) _ [245, 246, 247, 248, 249, 250, 251] (by decide +kernel) (by decide +kernel)
set_option maxRecDepth 20000 in
theorem ggL_bestValves_X8_bestValves_wsX00 : GoodIn wsL_bestValves wsX00 := goodIn_r (big := wsL_bestValves) _ [252, 253, 254] (by decide +kernel) (by decide +kernel)
set_option maxRecDepth 20000 in
theorem ggL_bestValves_X8_bestValves_wsX60 : GoodIn wsL_bestValves wsX60 := goodIn_r (big := wsL_bestValves) _ [255, 256, 257, 258] (by decide +kernel) (by decide +kernel)
set_option maxRecDepth 20000 in
theorem ggL_bestValves_X8_bestValves_wsX20 : GoodIn wsL_bestValves wsX20 := goodIn_r (big := wsL_bestValves) _ [259, 260, 261, 262] (by decide +kernel) (by decide +kernel)
set_option maxRecDepth 20000 in
theorem ggL_bestValves_X8_bestValves_wsX70 : GoodIn wsL_bestValves wsX70 := goodIn_r (big := wsL_bestValves) _ [263, 264, 265, 266, 267, 268, 269, 270, 271] (by decide +kernel) (by decide +kernel)
set_option maxRecDepth 20000 in
theorem ggL_bestValves_X8_bestValves_wsX40 : GoodIn wsL_bestValves wsX40 := goodIn_r (big := wsL_bestValves) _ [272, 273, 274, 275, 276, 277] (by decide +kernel) (by decide +kernel)
set_option maxRecDepth 20000 in
theorem ggL_bestValves_X8_bestValves_wsX10 : GoodIn wsL_bestValves wsX10 := goodIn_r (big := wsL_bestValves) _ [278, 279, 280, 281, 282] (by decide +kernel) (by decide +kernel)
theorem ggL_bestValves_X8_bestValves : GoodIn wsL_bestValves wsX8_bestValves := by
  intro w h
  rcases List.mem_cons.mp h with h | h
  · exact ggL_bestValves_X8_bestValves_c w (List.mem_cons.mpr (Or.inl h))
  rcases List.mem_append.mp h with h | h
  rotate_left
  · exact goodIn_sub (big := wsL_bestValves) (ws := (vx_atS RX8 78 "java/lang/IllegalArgumentException" ["java/lang/RuntimeException", "java/lang/Exception"]).filter goodWord) (fun _ h => List.mem_cons_of_mem _ (List.mem_append_right _ h)) (by decide +kernel) w h
  rcases List.mem_append.mp h with h | h
  rotate_left
  · exact ggL_bestValves_X8_bestValves_wsX10 w h
  rcases List.mem_append.mp h with h | h
  rotate_left
  · exact ggL_bestValves_X8_bestValves_wsX40 w h
  rcases List.mem_append.mp h with h | h
  rotate_left
  · exact ggL_bestValves_X8_bestValves_wsX70 w h
  rcases List.mem_append.mp h with h | h
  rotate_left
  · exact ggL_bestValves_X8_bestValves_wsX20 w h
  rcases List.mem_append.mp h with h | h
  rotate_left
  · exact ggL_bestValves_X8_bestValves_wsX60 w h
  rcases List.mem_append.mp h with h | h
  rotate_left
  · exact ggL_bestValves_X8_bestValves_wsX00 w h
  rcases List.mem_append.mp h with h | h
  rotate_left
  · exact ggL_bestValves_X8_bestValves_wsX50 w h
  rcases List.mem_append.mp h with h | h
  rotate_left
  · exact ggL_bestValves_X8_bestValves_wsX30 w h
  rcases List.mem_append.mp h with h | h
  rotate_left
  · exact ggL_bestValves_X8_bestValves_wsX80 w h
  rcases List.mem_append.mp h with h | h
  · exact ggL_bestValves_X8_bestValves_r1 w h
  rcases List.mem_append.mp h with h | h
  · exact ggL_bestValves_X8_bestValves_r2 w h
  rcases List.mem_append.mp h with h | h
  · exact ggL_bestValves_X8_bestValves_r3 w h
  rcases List.mem_append.mp h with h | h
  · exact ggL_bestValves_X8_bestValves_r4 w h
  rcases List.mem_append.mp h with h | h
  · exact ggL_bestValves_X8_bestValves_r5 w h
  rcases List.mem_append.mp h with h | h
  · exact ggL_bestValves_X8_bestValves_r6 w h
  rcases List.mem_append.mp h with h | h
  · exact ggL_bestValves_X8_bestValves_r7 w h
  rcases List.mem_append.mp h with h | h
  · exact ggL_bestValves_X8_bestValves_r8 w h
  rcases List.mem_append.mp h with h | h
  · exact ggL_bestValves_X8_bestValves_r9 w h
  exact ggL_bestValves_X8_bestValves_r10 w h
