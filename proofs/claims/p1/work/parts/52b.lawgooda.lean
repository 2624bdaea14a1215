set_option maxRecDepth 20000 in
theorem ggL_block_X8_block : GoodIn wsL_block wsX8_block := goodIn_ca (goodIn_ca (goodIn_r _ [7, 8, 9, 10, 6, 11, 12, 13, 14, 15, 16, 17, 18, 19, 20, 21, 22, 23, 24, 25, 26, 27, 28, 29, 30, 31, 32, 33, 34, 35, 36, 37, 38, 39, 40, 41, 42, 43, 44, 45, 46, 47, 48, 49, 50, 51, 52, 53, 54, 55, 56] (by decide +kernel) (by decide +kernel)) (goodIn_sub (fun _ h => List.mem_cons_of_mem _ (List.mem_append_left _ (List.mem_append_right _ h))) (by decide +kernel))) (goodIn_sub (fun _ h => List.mem_cons_of_mem _ (List.mem_append_right _ h)) (by decide +kernel))
set_option maxRecDepth 20000 in
theorem ggL_face_X8_face : GoodIn wsL_face wsX8_face := goodIn_ca (goodIn_ca (goodIn_ca (goodIn_r _ [8, 9, 10, 11, 12, 13, 7, 14, 15, 16, 17, 18, 19, 20, 21, 22, 23, 24, 25, 26, 27, 28, 29, 30, 31, 32, 33, 34, 35, 36, 37, 38, 39, 40, 41, 42, 43, 44, 45] (by decide +kernel) (by decide +kernel)) (goodIn_sub (fun _ h => List.mem_cons_of_mem _ (List.mem_append_left _ (List.mem_append_left _ (List.mem_append_right _ h)))) (by decide +kernel))) (goodIn_sub (fun _ h => List.mem_cons_of_mem _ (List.mem_append_left _ (List.mem_append_right _ h))) (by decide +kernel))) (goodIn_sub (fun _ h => List.mem_cons_of_mem _ (List.mem_append_right _ h)) (by decide +kernel))
set_option maxRecDepth 20000 in
theorem ggL_well_X8_well : GoodIn wsL_well wsX8_well := goodIn_ca (goodIn_ca (goodIn_r _ [7, 8, 9, 10, 6, 11, 12, 13, 14, 15, 16, 17, 18, 19, 20, 21, 22, 23, 24, 25, 26, 27, 28, 29, 30, 31, 32, 33, 34, 35, 36, 37, 38, 39, 40, 41, 42, 43, 44] (by decide +kernel) (by decide +kernel)) (goodIn_sub (fun _ h => List.mem_cons_of_mem _ (List.mem_append_left _ (List.mem_append_right _ h))) (by decide +kernel))) (goodIn_sub (fun _ h => List.mem_cons_of_mem _ (List.mem_append_right _ h)) (by decide +kernel))
set_option maxRecDepth 20000 in
theorem ggL_spring_X8_spring : GoodIn wsL_spring wsX8_spring := goodIn_ca (goodIn_ca (goodIn_ca (goodIn_r _ [8, 9, 10, 11, 7, 12, 13, 14, 15, 16, 17, 18, 19, 20, 21, 22, 23, 24, 25, 26, 27, 28, 29, 30, 31, 32, 33, 34, 35, 36, 37, 38, 39, 40, 41, 42, 43, 44, 45, 46, 47, 48] (by decide +kernel) (by decide +kernel)) (goodIn_sub (fun _ h => List.mem_cons_of_mem _ (List.mem_append_left _ (List.mem_append_left _ (List.mem_append_right _ h)))) (by decide +kernel))) (goodIn_sub (fun _ h => List.mem_cons_of_mem _ (List.mem_append_left _ (List.mem_append_right _ h))) (by decide +kernel))) (goodIn_sub (fun _ h => List.mem_cons_of_mem _ (List.mem_append_right _ h)) (by decide +kernel))
set_option maxRecDepth 20000 in
theorem ggL_valve_X8_valve : GoodIn wsL_valve wsX8_valve := goodIn_ca (goodIn_ca (goodIn_r _ [7, 8, 9, 10, 6, 11, 12, 13, 14, 15, 16, 17, 18, 19, 20, 21, 22, 23, 24, 25, 26, 27, 28, 29, 30, 31, 32, 33, 34, 35, 36, 37, 38, 39, 40, 41, 42, 43, 44] (by decide +kernel) (by decide +kernel)) (goodIn_sub (fun _ h => List.mem_cons_of_mem _ (List.mem_append_left _ (List.mem_append_right _ h))) (by decide +kernel))) (goodIn_sub (fun _ h => List.mem_cons_of_mem _ (List.mem_append_right _ h)) (by decide +kernel))
set_option maxRecDepth 20000 in
theorem ggL_trace_X8_trace : GoodIn wsL_trace wsX8_trace := goodIn_ca (goodIn_ca (goodIn_ca (goodIn_r _ [8, 9, 10, 11, 12, 13, 7, 14, 15, 16, 17, 18, 19, 20, 21, 22, 23, 24, 25, 26, 27, 28, 29, 30, 31, 32, 33, 34, 35, 36, 37, 38, 39, 40, 41, 42, 43, 44, 45, 46, 47, 48, 49, 50, 51, 52, 53, 54, 55, 56, 57, 58, 59] (by decide +kernel) (by decide +kernel)) (goodIn_sub (fun _ h => List.mem_cons_of_mem _ (List.mem_append_left _ (List.mem_append_left _ (List.mem_append_right _ h)))) (by decide +kernel))) (goodIn_sub (fun _ h => List.mem_cons_of_mem _ (List.mem_append_left _ (List.mem_append_right _ h))) (by decide +kernel))) (goodIn_sub (fun _ h => List.mem_cons_of_mem _ (List.mem_append_right _ h)) (by decide +kernel))
set_option maxRecDepth 20000 in
theorem ggL_clean_X8_clean : GoodIn wsL_clean wsX8_clean := goodIn_ca (goodIn_ca (goodIn_r _ [7, 8, 9, 10, 11, 12, 6, 13, 14, 15, 16, 17, 18, 19, 20, 21, 22, 23, 24, 25, 26, 27, 28, 29, 30, 31, 32, 33, 34, 35, 36, 37, 38, 39, 40, 41, 42, 43, 44] (by decide +kernel) (by decide +kernel)) (goodIn_sub (fun _ h => List.mem_cons_of_mem _ (List.mem_append_left _ (List.mem_append_right _ h))) (by decide +kernel))) (goodIn_sub (fun _ h => List.mem_cons_of_mem _ (List.mem_append_right _ h)) (by decide +kernel))
set_option maxRecDepth 20000 in
theorem ggL_turbine_X8_turbine : GoodIn wsL_turbine wsX8_turbine := goodIn_ca (goodIn_r _ [6, 7, 8, 9, 5, 10, 11, 12, 13, 14, 15, 16, 17, 18, 19, 20, 21, 22, 23, 24, 25, 26, 27, 28, 29, 30, 31, 32, 33, 34, 35] (by decide +kernel) (by decide +kernel)) (goodIn_sub (fun _ h => List.mem_cons_of_mem _ (List.mem_append_right _ h)) (by decide +kernel))
set_option maxRecDepth 20000 in
theorem ggL_town_X8_town : GoodIn wsL_town wsX8_town := goodIn_ca (goodIn_r _ [6, 7, 8, 9, 5, 10, 11, 12, 13, 14, 15, 16, 17, 18, 19, 20, 21, 22, 23, 24, 25, 26, 27, 28, 29, 30, 31, 32, 33, 34, 35] (by decide +kernel) (by decide +kernel)) (goodIn_sub (fun _ h => List.mem_cons_of_mem _ (List.mem_append_right _ h)) (by decide +kernel))
set_option maxRecDepth 20000 in
theorem ggL_run_X8_run_c : GoodIn wsL_run [.code yX8_run cX8_run 2 (some .int)] := goodIn_r (big := wsL_run) _ [6] (by decide +kernel) (by decide +kernel)
set_option maxRecDepth 20000 in
theorem ggL_run_X8_run_r1 : GoodIn wsL_run wsX8_run_r1 := goodIn_r (big := wsL_run) _ [7, 8, 9, 5, 10, 11, 12, 13, 14, 15, 16, 17, 18, 19, 20, 21, 22, 23, 24, 25, 26, 27, 28, 29] (by decide +kernel) (by decide +kernel)
set_option maxRecDepth 20000 in
theorem ggL_run_X8_run_r2 : GoodIn wsL_run wsX8_run_r2 := goodIn_r (big := wsL_run) _ [30, 31, 32, 33, 34, 35, 36, 37, 38, 39, 40, 41, 42, 43, 44, 45, 46, 47, 48, 49, 50, 51, 52, 53] (by decide +kernel) (by decide +kernel)
set_option maxRecDepth 20000 in
theorem ggL_run_X8_run_r3 : GoodIn wsL_run wsX8_run_r3 := goodIn_r (big := wsL_run) _ [54, 55, 56, 57, 58, 59, 60, 61, 62, 63, 64, 65, 66, 67, 68, 69, 70, 71, 72, 73, 74, 75, 76, 77] (by decide +kernel) (by decide +kernel)
set_option maxRecDepth 20000 in
theorem ggL_run_X8_run_r4 : GoodIn wsL_run wsX8_run_r4 := goodIn_r (big := wsL_run) _ [78, 79, 80, 81, 82, 83, 84, 85, 86, 87, 88, 89, 90, 91, 92, 93, 94, 95, 96, 97, 98, 99, 100, 101] (by decide +kernel) (by decide +kernel)
set_option maxRecDepth 20000 in
theorem ggL_run_X8_run_r5 : GoodIn wsL_run wsX8_run_r5 := goodIn_r (big := wsL_run) _ [102, 103, 104, 105, 106, 107, 108, 109, 110, 111, 112, 113, 114, 115, 116, 117, 118, 119, 120, 121, 122, 123, 124, 125] (by decide +kernel) (by decide +kernel)
set_option maxRecDepth 20000 in
theorem ggL_run_X8_run_r6 : GoodIn wsL_run wsX8_run_r6 := goodIn_r (big := wsL_run) _ [126, 127, 128, 129, 130, 131, 132, 133, 134, 135, 136, 137, 138, 139, 140, 141, 142, 143, 144, 145, 146, 147, 148, 149] (by decide +kernel) (by decide +kernel)
set_option maxRecDepth 20000 in
theorem ggL_run_X8_run_r7 : GoodIn wsL_run wsX8_run_r7 := goodIn_r (big := wsL_run) _ [150, 151, 152, 153, 154, 155, 156] (by decide +kernel) (by decide +kernel)
set_option maxRecDepth 20000 in
theorem ggL_run_X8_run_wsX80 : GoodIn wsL_run wsX80 := goodIn_r (big := wsL_run) _ [157, 158] (by decide +kernel) (by decide +kernel)
set_option maxRecDepth 20000 in
theorem ggL_run_X8_run_wsX30 : GoodIn wsL_run wsX30 := goodIn_r (big := wsL_run) _ [159, 160, 161, 162, 163, 164, 165, 166, 167, 168, 169, 170, 171, 172, 173] (by decide +kernel) (by decide +kernel)
set_option maxRecDepth 20000 in
theorem ggL_run_X8_run_wsX40 : GoodIn wsL_run wsX40 := goodIn_r (big := wsL_run) _ [174, 175, 176, 177, 178, 179] (by decide +kernel) (by decide +kernel)
set_option maxRecDepth 20000 in
theorem ggL_run_X8_run_wsX70 : GoodIn wsL_run wsX70 := goodIn_r (big := wsL_run) _ [180, 181, 182, 183, 184, 185, 186, 187, 188] (by decide +kernel) (by decide +kernel)
set_option maxRecDepth 20000 in
theorem ggL_run_X8_run_wsX20 : GoodIn wsL_run wsX20 := goodIn_r (big := wsL_run) _ [189, 190, 191, 192] (by decide +kernel) (by decide +kernel)
set_option maxRecDepth 20000 in
theorem ggL_run_X8_run_wsX00 : GoodIn wsL_run wsX00 := goodIn_r (big := wsL_run) _ [193, 194, 195] (by decide +kernel) (by decide +kernel)
set_option maxRecDepth 20000 in
theorem ggL_run_X8_run_wsX60 : GoodIn wsL_run wsX60 := goodIn_r (big := wsL_run) _ [196, 197, 198, 199] (by decide +kernel) (by decide +kernel)
set_option maxRecDepth 20000 in
theorem ggL_run_X8_run_wsX10 : GoodIn wsL_run wsX10 := goodIn_r (big := wsL_run) _ [200, 201, 202, 203, 204] (by decide +kernel) (by decide +kernel)
set_option maxRecDepth 20000 in
theorem ggL_run_X8_run_wsX50 : GoodIn wsL_run wsX50 := goodIn_r (big := wsL_run) _ [205, 206, 207, 208, 209, 210, 211] (by decide +kernel) (by decide +kernel)
theorem ggL_run_X8_run : GoodIn wsL_run wsX8_run := by
  intro w h
  rcases List.mem_cons.mp h with h | h
  · exact ggL_run_X8_run_c w (List.mem_cons.mpr (Or.inl h))
  rcases List.mem_append.mp h with h | h
  rotate_left
  · exact goodIn_sub (big := wsL_run) (ws := (vx_atS RX8 78 "java/lang/IllegalArgumentException" ["java/lang/RuntimeException", "java/lang/Exception"]).filter goodWord) (fun _ h => List.mem_cons_of_mem _ (List.mem_append_right _ h)) (by decide +kernel) w h
  rcases List.mem_append.mp h with h | h
  rotate_left
  · exact ggL_run_X8_run_wsX50 w h
  rcases List.mem_append.mp h with h | h
  rotate_left
  · exact ggL_run_X8_run_wsX10 w h
  rcases List.mem_append.mp h with h | h
  rotate_left
  · exact ggL_run_X8_run_wsX60 w h
  rcases List.mem_append.mp h with h | h
  rotate_left
  · exact ggL_run_X8_run_wsX00 w h
  rcases List.mem_append.mp h with h | h
  rotate_left
  · exact ggL_run_X8_run_wsX20 w h
  rcases List.mem_append.mp h with h | h
  rotate_left
  · exact ggL_run_X8_run_wsX70 w h
  rcases List.mem_append.mp h with h | h
  rotate_left
  · exact ggL_run_X8_run_wsX40 w h
  rcases List.mem_append.mp h with h | h
  rotate_left
  · exact ggL_run_X8_run_wsX30 w h
  rcases List.mem_append.mp h with h | h
  rotate_left
  · exact ggL_run_X8_run_wsX80 w h
  rcases List.mem_append.mp h with h | h
  · exact ggL_run_X8_run_r1 w h
  rcases List.mem_append.mp h with h | h
  · exact ggL_run_X8_run_r2 w h
  rcases List.mem_append.mp h with h | h
  · exact ggL_run_X8_run_r3 w h
  rcases List.mem_append.mp h with h | h
  · exact ggL_run_X8_run_r4 w h
  rcases List.mem_append.mp h with h | h
  · exact ggL_run_X8_run_r5 w h
  rcases List.mem_append.mp h with h | h
  · exact ggL_run_X8_run_r6 w h
  exact ggL_run_X8_run_r7 w h
set_option maxRecDepth 20000 in
theorem ggL_ofBlock_X8_ofBlock : GoodIn wsL_ofBlock wsX8_ofBlock := goodIn_ca (goodIn_ca (goodIn_r _ [7, 8, 9, 10, 6, 11, 12, 13, 14, 15, 16, 17, 18, 19, 20, 21, 22, 23, 24, 25, 26, 27, 28, 29, 30, 31, 32, 33, 34, 35, 36, 37, 38, 39, 40, 41, 42, 43, 44, 45, 46, 47, 48, 49, 50, 51, 52, 53, 54, 55, 56, 57, 58, 59, 60, 61, 62] (by decide +kernel) (by decide +kernel)) (goodIn_sub (fun _ h => List.mem_cons_of_mem _ (List.mem_append_left _ (List.mem_append_right _ h))) (by decide +kernel))) (goodIn_sub (fun _ h => List.mem_cons_of_mem _ (List.mem_append_right _ h)) (by decide +kernel))
set_option maxRecDepth 20000 in
theorem ggL_ofWell_X8_ofWell : GoodIn wsL_ofWell wsX8_ofWell := goodIn_ca (goodIn_ca (goodIn_r _ [7, 8, 9, 10, 6, 11, 12, 13, 14, 15, 16, 17, 18, 19, 20, 21, 22, 23, 24, 25, 26, 27, 28, 29, 30, 31, 32, 33, 34, 35, 36, 37, 38, 39, 40, 41, 42, 43, 44] (by decide +kernel) (by decide +kernel)) (goodIn_sub (fun _ h => List.mem_cons_of_mem _ (List.mem_append_left _ (List.mem_append_right _ h))) (by decide +kernel))) (goodIn_sub (fun _ h => List.mem_cons_of_mem _ (List.mem_append_right _ h)) (by decide +kernel))
