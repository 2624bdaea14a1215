set_option maxRecDepth 20000 in
theorem ggL_law_L_isSo_wsX00 : GoodIn wsL_law wsX00 := goodIn_r (big := wsL_law) _ [472, 473, 474] (by decide +kernel) (by decide +kernel)
set_option maxRecDepth 20000 in
theorem ggL_law_L_isSo_wsX60 : GoodIn wsL_law wsX60 := goodIn_r (big := wsL_law) _ [457, 458, 459, 460] (by decide +kernel) (by decide +kernel)
set_option maxRecDepth 20000 in
theorem ggL_law_L_isSo_wsX70 : GoodIn wsL_law wsX70 := goodIn_r (big := wsL_law) _ [479, 480, 481, 482, 483, 484, 485, 486, 487] (by decide +kernel) (by decide +kernel)
set_option maxRecDepth 20000 in
theorem ggL_law_L_isSo_wsX50 : GoodIn wsL_law wsX50 := goodIn_r (big := wsL_law) _ [488, 489, 490, 491, 492, 493, 494] (by decide +kernel) (by decide +kernel)
set_option maxRecDepth 20000 in
theorem ggL_law_L_isSo_wsX40 : GoodIn wsL_law wsX40 := goodIn_r (big := wsL_law) _ [461, 462, 463, 464, 465, 466] (by decide +kernel) (by decide +kernel)
set_option maxRecDepth 20000 in
theorem ggL_law_L_isSo_wsX20 : GoodIn wsL_law wsX20 := goodIn_r (big := wsL_law) _ [475, 476, 477, 478] (by decide +kernel) (by decide +kernel)
set_option maxRecDepth 20000 in
theorem ggL_law_L_isSo_wsX10 : GoodIn wsL_law wsX10 := goodIn_r (big := wsL_law) _ [467, 468, 469, 470, 471] (by decide +kernel) (by decide +kernel)
theorem ggL_law_L_isSo : GoodIn wsL_law wsL_isSo := by
  intro w h
  rcases List.mem_cons.mp h with h | h
  · exact ggL_law_L_isSo_c w (List.mem_cons.mpr (Or.inl h))
  rcases List.mem_append.mp h with h | h
  rotate_left
  · exact goodIn_sub (big := wsL_law) (ws := (vx_atS RX8 78 "java/lang/IllegalArgumentException" ["java/lang/RuntimeException", "java/lang/Exception"]).filter goodWord) (fun _ h => List.mem_append_left _ (List.mem_append_left _ (List.mem_append_right _ h))) (by decide +kernel) w h
  rcases List.mem_append.mp h with h | h
  rotate_left
  · exact goodIn_sub (big := wsL_law) (ws := (vx_atS RX8 308 "java/lang/IndexOutOfBoundsException" ["java/lang/RuntimeException", "java/lang/Exception"]).filter goodWord) (fun _ h => List.mem_append_right _ h) (by decide +kernel) w h
  rcases List.mem_append.mp h with h | h
  rotate_left
  · exact ggL_law_L_isSo_wsX10 w h
  rcases List.mem_append.mp h with h | h
  rotate_left
  · exact ggL_law_L_isSo_wsX20 w h
  rcases List.mem_append.mp h with h | h
  rotate_left
  · exact ggL_law_L_isSo_wsX40 w h
  rcases List.mem_append.mp h with h | h
  rotate_left
  · exact ggL_law_L_isSo_wsX50 w h
  rcases List.mem_append.mp h with h | h
  rotate_left
  · exact ggL_law_L_isSo_wsX70 w h
  rcases List.mem_append.mp h with h | h
  rotate_left
  · exact ggL_law_L_isSo_wsX60 w h
  rcases List.mem_append.mp h with h | h
  rotate_left
  · exact ggL_law_L_isSo_wsX00 w h
  rcases List.mem_append.mp h with h | h
  rotate_left
  · exact ggL_law_L_isSo_wsX30 w h
  rcases List.mem_append.mp h with h | h
  rotate_left
  · exact ggL_law_L_isSo_wsX80 w h
  rcases List.mem_append.mp h with h | h
  · exact ggL_law_L_isSo_r1 w h
  rcases List.mem_append.mp h with h | h
  · exact ggL_law_L_isSo_r2 w h
  rcases List.mem_append.mp h with h | h
  · exact ggL_law_L_isSo_r3 w h
  rcases List.mem_append.mp h with h | h
  · exact ggL_law_L_isSo_r4 w h
  exact ggL_law_L_isSo_r5 w h
set_option maxRecDepth 20000 in
theorem gL_law_L_isSo : GoodIn wsL_law (va_wsS RL 73 yL_isSo wsL_isSo) := goodIn_app (goodIn_of _ (by decide +kernel)) ggL_law_L_isSo
