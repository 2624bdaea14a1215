set_option maxRecDepth 20000 in
theorem ggL_law_X8_digest_r12 : GoodIn wsL_law wsX8_digest_r12 := goodIn_r (big := wsL_law) _ [424, 327, 328, 329, 425, 196, 197, 198, 199, 426, 153, 154, 155, 156, 157, 158, 159, 161, 427, 343, 344, 345, 346, 347] (by decide +kernel) (by decide +kernel)
set_option maxRecDepth 20000 in
theorem ggL_law_X8_digest_r13 : GoodIn wsL_law wsX8_digest_r13 := goodIn_r (big := wsL_law) _ [348, 349, 350, 428, 429, 430, 431, 432, 433, 434, 435, 436, 437, 438, 439] (by decide +kernel) (by decide +kernel)
set_option maxRecDepth 20000 in
theorem ggL_law_X8_digest_wsX80 : GoodIn wsL_law wsX80 := goodIn_r (big := wsL_law) _ [440, 441] (by decide +kernel) (by decide +kernel)
set_option maxRecDepth 20000 in
theorem ggL_law_X8_digest_wsX30 : GoodIn wsL_law wsX30 := goodIn_r (big := wsL_law) _ [442, 443, 444, 445, 446, 447, 448, 449, 450, 451, 452, 453, 454, 455, 456] (by decide +kernel) (by decide +kernel)
set_option maxRecDepth 20000 in
theorem ggL_law_X8_digest_wsX40 : GoodIn wsL_law wsX40 := goodIn_r (big := wsL_law) _ [461, 462, 463, 464, 465, 466] (by decide +kernel) (by decide +kernel)
set_option maxRecDepth 20000 in
theorem ggL_law_X8_digest_wsX50 : GoodIn wsL_law wsX50 := goodIn_r (big := wsL_law) _ [488, 489, 490, 491, 492, 493, 494] (by decide +kernel) (by decide +kernel)
set_option maxRecDepth 20000 in
theorem ggL_law_X8_digest_wsX00 : GoodIn wsL_law wsX00 := goodIn_r (big := wsL_law) _ [472, 473, 474] (by decide +kernel) (by decide +kernel)
set_option maxRecDepth 20000 in
theorem ggL_law_X8_digest_wsX60 : GoodIn wsL_law wsX60 := goodIn_r (big := wsL_law) _ [457, 458, 459, 460] (by decide +kernel) (by decide +kernel)
set_option maxRecDepth 20000 in
theorem ggL_law_X8_digest_wsX70 : GoodIn wsL_law wsX70 := goodIn_r (big := wsL_law) _ [479, 480, 481, 482, 483, 484, 485, 486, 487] (by decide +kernel) (by decide +kernel)
set_option maxRecDepth 20000 in
theorem ggL_law_X8_digest_wsX20 : GoodIn wsL_law wsX20 := goodIn_r (big := wsL_law) _ [475, 476, 477, 478] (by decide +kernel) (by decide +kernel)
set_option maxRecDepth 20000 in
theorem ggL_law_X8_digest_wsX10 : GoodIn wsL_law wsX10 := goodIn_r (big := wsL_law) _ [467, 468, 469, 470, 471] (by decide +kernel) (by decide +kernel)
theorem ggL_law_X8_digest : GoodIn wsL_law wsX8_digest := by
  intro w h
  rcases List.mem_cons.mp h with h | h
  · exact ggL_law_X8_digest_c w (List.mem_cons.mpr (Or.inl h))
  rcases List.mem_append.mp h with h | h
  rotate_left
  · exact goodIn_sub (big := wsL_law) (ws := (vx_atS RX8 308 "java/lang/IndexOutOfBoundsException" ["java/lang/RuntimeException", "java/lang/Exception"]).filter goodWord) (fun _ h => List.mem_append_right _ h) (by decide +kernel) w h
  rcases List.mem_append.mp h with h | h
  rotate_left
  · exact goodIn_sub (big := wsL_law) (ws := (vx_atS RX8 78 "java/lang/IllegalArgumentException" ["java/lang/RuntimeException", "java/lang/Exception"]).filter goodWord) (fun _ h => List.mem_append_left _ (List.mem_append_left _ (List.mem_append_right _ h))) (by decide +kernel) w h
  rcases List.mem_append.mp h with h | h
  rotate_left
  · exact ggL_law_X8_digest_wsX10 w h
  rcases List.mem_append.mp h with h | h
  rotate_left
  · exact ggL_law_X8_digest_wsX20 w h
  rcases List.mem_append.mp h with h | h
  rotate_left
  · exact ggL_law_X8_digest_wsX70 w h
  rcases List.mem_append.mp h with h | h
  rotate_left
  · exact ggL_law_X8_digest_wsX60 w h
  rcases List.mem_append.mp h with h | h
  rotate_left
  · exact ggL_law_X8_digest_wsX00 w h
  rcases List.mem_append.mp h with h | h
  rotate_left
  · exact ggL_law_X8_digest_wsX50 w h
  rcases List.mem_append.mp h with h | h
  rotate_left
  · exact ggL_law_X8_digest_wsX40 w h
  rcases List.mem_append.mp h with h | h
  rotate_left
  · exact ggL_law_X8_digest_wsX30 w h
  rcases List.mem_append.mp h with h | h
  rotate_left
  · exact ggL_law_X8_digest_wsX80 w h
  rcases List.mem_append.mp h with h | h
  · exact ggL_law_X8_digest_r1 w h
  rcases List.mem_append.mp h with h | h
  · exact ggL_law_X8_digest_r2 w h
  rcases List.mem_append.mp h with h | h
  · exact ggL_law_X8_digest_r3 w h
  rcases List.mem_append.mp h with h | h
  · exact ggL_law_X8_digest_r4 w h
  rcases List.mem_append.mp h with h | h
  · exact ggL_law_X8_digest_r5 w h
  rcases List.mem_append.mp h with h | h
  · exact ggL_law_X8_digest_r6 w h
  rcases List.mem_append.mp h with h | h
  · exact ggL_law_X8_digest_r7 w h
  rcases List.mem_append.mp h with h | h
  · exact ggL_law_X8_digest_r8 w h
  rcases List.mem_append.mp h with h | h
  · exact ggL_law_X8_digest_r9 w h
  rcases List.mem_append.mp h with h | h
  · exact ggL_law_X8_digest_r10 w h
  rcases List.mem_append.mp h with h | h
  · exact ggL_law_X8_digest_r11 w h
  rcases List.mem_append.mp h with h | h
  · exact ggL_law_X8_digest_r12 w h
  exact ggL_law_X8_digest_r13 w h
set_option maxRecDepth 20000 in
theorem gL_law_X8_digest : GoodIn wsL_law (wsV RL 77 RX8 yX8_digest wsX8_digest) := goodIn_app (goodIn_of _ (by decide +kernel)) ggL_law_X8_digest
