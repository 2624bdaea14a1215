set_option maxRecDepth 20000 in
theorem ggL_law_X8_many : GoodIn wsL_law wsX8_many := goodIn_ca (goodIn_r _ [137, 16, 95, 96, 6, 97, 98, 99, 138, 139, 140, 15, 141, 44, 142, 143, 144, 145, 146, 147, 148, 149, 150, 151, 29, 440, 441, 442, 443, 444, 445, 446, 447, 448, 449, 450, 451, 452, 453, 454, 455, 456, 461, 462, 463, 464, 465, 466, 488, 489, 490, 491, 492, 493, 494] (by decide +kernel) (by decide +kernel)) (goodIn_sub (fun _ h => List.mem_append_left _ (List.mem_append_left _ (List.mem_append_right _ h))) (by decide +kernel))
set_option maxRecDepth 20000 in
theorem gL_law_X8_many : GoodIn wsL_law (wsV RL 44 RX8 yX8_many wsX8_many) := goodIn_app (goodIn_of _ (by decide +kernel)) ggL_law_X8_many
set_option maxRecDepth 20000 in
theorem ggL_law_X8_mass : GoodIn wsL_law wsX8_mass := goodIn_ca (goodIn_r _ [155, 16, 95, 96, 6, 97, 98, 99, 156, 157, 158, 15, 159, 160, 23, 161, 162, 163, 32, 164, 109, 110, 111, 112, 440, 441, 442, 443, 444, 445, 446, 447, 448, 449, 450, 451, 452, 453, 454, 455, 456, 467, 468, 469, 470, 471, 457, 458, 459, 460, 472, 473, 474] (by decide +kernel) (by decide +kernel)) (goodIn_sub (fun _ h => List.mem_append_left _ (List.mem_append_left _ (List.mem_append_right _ h))) (by decide +kernel))
set_option maxRecDepth 20000 in
theorem gL_law_X8_mass : GoodIn wsL_law (wsV RL 48 RX8 yX8_mass wsX8_mass) := goodIn_app (goodIn_of _ (by decide +kernel)) ggL_law_X8_mass
set_option maxRecDepth 20000 in
theorem ggL_law_L_cell : GoodIn wsL_law wsL_cell := goodIn_r _ [85, 86] (by decide +kernel) (by decide +kernel)
set_option maxRecDepth 20000 in
theorem gL_law_L_cell : GoodIn wsL_law (va_wsS RL 12 yL_cell wsL_cell) := goodIn_app (goodIn_of _ (by decide +kernel)) ggL_law_L_cell
set_option maxRecDepth 20000 in
theorem ggL_law_L_below : GoodIn wsL_law wsL_below := goodIn_r _ [89, 90] (by decide +kernel) (by decide +kernel)
set_option maxRecDepth 20000 in
theorem gL_law_L_below : GoodIn wsL_law (va_wsS RL 18 yL_below wsL_below) := goodIn_app (goodIn_of _ (by decide +kernel)) ggL_law_L_below
set_option maxRecDepth 20000 in
theorem ggL_law_X8_valve : GoodIn wsL_law wsX8_valve := goodIn_ca (goodIn_ca (goodIn_r _ [129, 16, 117, 118, 6, 119, 120, 121, 95, 96, 97, 98, 99, 440, 441, 442, 443, 444, 445, 446, 447, 448, 449, 450, 451, 452, 453, 454, 455, 456, 479, 480, 481, 482, 483, 484, 485, 486, 487] (by decide +kernel) (by decide +kernel)) (goodIn_sub (fun _ h => List.mem_append_right _ h) (by decide +kernel))) (goodIn_sub (fun _ h => List.mem_append_left _ (List.mem_append_left _ (List.mem_append_right _ h))) (by decide +kernel))
set_option maxRecDepth 20000 in
theorem gL_law_X8_valve : GoodIn wsL_law (wsV RL 34 RX8 yX8_valve wsX8_valve) := goodIn_app (goodIn_of _ (by decide +kernel)) ggL_law_X8_valve
set_option maxRecDepth 20000 in
theorem ggL_law_X8_ofWell : GoodIn wsL_law wsX8_ofWell := goodIn_ca (goodIn_ca (goodIn_r _ [168, 16, 117, 118, 6, 119, 120, 121, 95, 96, 97, 98, 99, 440, 441, 442, 443, 444, 445, 446, 447, 448, 449, 450, 451, 452, 453, 454, 455, 456, 479, 480, 481, 482, 483, 484, 485, 486, 487] (by decide +kernel) (by decide +kernel)) (goodIn_sub (fun _ h => List.mem_append_right _ h) (by decide +kernel))) (goodIn_sub (fun _ h => List.mem_append_left _ (List.mem_append_left _ (List.mem_append_right _ h))) (by decide +kernel))
set_option maxRecDepth 20000 in
theorem gL_law_X8_ofWell : GoodIn wsL_law (wsV RL 51 RX8 yX8_ofWell wsX8_ofWell) := goodIn_app (goodIn_of _ (by decide +kernel)) ggL_law_X8_ofWell
set_option maxRecDepth 20000 in
theorem ggL_law_X8_ofBlock : GoodIn wsL_law wsX8_ofBlock := goodIn_ca (goodIn_ca (goodIn_r _ [172, 16, 117, 118, 6, 119, 120, 121, 95, 96, 97, 98, 99, 173, 174, 175, 47, 176, 177, 73, 178, 179, 180, 181, 182, 162, 163, 32, 164, 109, 110, 111, 112, 440, 441, 442, 443, 444, 445, 446, 447, 448, 449, 450, 451, 452, 453, 454, 455, 456, 472, 473, 474, 457, 458, 459, 460] (by decide +kernel) (by decide +kernel)) (goodIn_sub (fun _ h => List.mem_append_right _ h) (by decide +kernel))) (goodIn_sub (fun _ h => List.mem_append_left _ (List.mem_append_left _ (List.mem_append_right _ h))) (by decide +kernel))
set_option maxRecDepth 20000 in
theorem gL_law_X8_ofBlock : GoodIn wsL_law (wsV RL 54 RX8 yX8_ofBlock wsX8_ofBlock) := goodIn_app (goodIn_of _ (by decide +kernel)) ggL_law_X8_ofBlock
set_option maxRecDepth 20000 in
theorem ggL_law_X8_trace : GoodIn wsL_law wsX8_trace := goodIn_ca (goodIn_ca (goodIn_ca (goodIn_r _ [186, 103, 104, 16, 117, 118, 6, 119, 120, 121, 95, 96, 97, 98, 99, 440, 441, 442, 443, 444, 445, 446, 447, 448, 449, 450, 451, 452, 453, 454, 455, 456, 479, 480, 481, 482, 483, 484, 485, 486, 487, 472, 473, 474, 457, 458, 459, 460, 467, 468, 469, 470, 471] (by decide +kernel) (by decide +kernel)) (goodIn_sub (fun _ h => List.mem_append_left _ (List.mem_append_right _ h)) (by decide +kernel))) (goodIn_sub (fun _ h => List.mem_append_right _ h) (by decide +kernel))) (goodIn_sub (fun _ h => List.mem_append_left _ (List.mem_append_left _ (List.mem_append_right _ h))) (by decide +kernel))
set_option maxRecDepth 20000 in
theorem gL_law_X8_trace : GoodIn wsL_law (wsV RL 57 RX8 yX8_trace wsX8_trace) := goodIn_app (goodIn_of _ (by decide +kernel)) ggL_law_X8_trace
set_option maxRecDepth 20000 in
theorem ggL_law_L_isCleaned : GoodIn wsL_law wsL_isCleaned := goodIn_ca (goodIn_ca (goodIn_ca (goodIn_r _ [189, 190, 191, 192, 193, 194, 195, 196, 197, 6, 198, 16, 117, 118, 119, 120, 121, 95, 96, 97, 98, 99, 199, 200, 201, 15, 202, 160, 23, 165, 166, 167, 168, 203, 204, 205, 206, 103, 104, 440, 441, 442, 443, 444, 445, 446, 447, 448, 449, 450, 451, 452, 453, 454, 455, 456, 472, 473, 474, 479, 480, 481, 482, 483, 484, 485, 486, 487] (by decide +kernel) (by decide +kernel)) (goodIn_sub (fun _ h => List.mem_append_right _ h) (by decide +kernel))) (goodIn_sub (fun _ h => List.mem_append_left _ (List.mem_append_left _ (List.mem_append_right _ h))) (by decide +kernel))) (goodIn_sub (fun _ h => List.mem_append_left _ (List.mem_append_right _ h)) (by decide +kernel))
set_option maxRecDepth 20000 in
theorem gL_law_L_isCleaned : GoodIn wsL_law (va_wsS RL 60 yL_isCleaned wsL_isCleaned) := goodIn_app (goodIn_of _ (by decide +kernel)) ggL_law_L_isCleaned
set_option maxRecDepth 20000 in
theorem ggL_law_X8_turbine : GoodIn wsL_law wsX8_turbine := goodIn_ca (goodIn_r _ [210, 16, 95, 96, 6, 97, 98, 99, 440, 441, 442, 443, 444, 445, 446, 447, 448, 449, 450, 451, 452, 453, 454, 455, 456, 461, 462, 463, 464, 465, 466] (by decide +kernel) (by decide +kernel)) (goodIn_sub (fun _ h => List.mem_append_left _ (List.mem_append_left _ (List.mem_append_right _ h))) (by decide +kernel))
set_option maxRecDepth 20000 in
theorem gL_law_X8_turbine : GoodIn wsL_law (wsV RL 64 RX8 yX8_turbine wsX8_turbine) := goodIn_app (goodIn_of _ (by decide +kernel)) ggL_law_X8_turbine
set_option maxRecDepth 20000 in
theorem ggL_law_X8_town : GoodIn wsL_law wsX8_town := goodIn_ca (goodIn_r _ [214, 16, 95, 96, 6, 97, 98, 99, 440, 441, 442, 443, 444, 445, 446, 447, 448, 449, 450, 451, 452, 453, 454, 455, 456, 461, 462, 463, 464, 465, 466] (by decide +kernel) (by decide +kernel)) (goodIn_sub (fun _ h => List.mem_append_left _ (List.mem_append_left _ (List.mem_append_right _ h))) (by decide +kernel))
set_option maxRecDepth 20000 in
theorem gL_law_X8_town : GoodIn wsL_law (wsV RL 67 RX8 yX8_town wsX8_town) := goodIn_app (goodIn_of _ (by decide +kernel)) ggL_law_X8_town
set_option maxRecDepth 20000 in
theorem ggL_law_X8_run : GoodIn wsL_law wsX8_run := goodIn_ca (goodIn_r _ [218, 16, 95, 96, 6, 97, 98, 99, 219, 220, 221, 222, 223, 224, 15, 225, 146, 226, 25, 227, 27, 44, 151, 29, 228, 139, 140, 141, 229, 230, 231, 232, 23, 233, 234, 193, 235, 45, 236, 192, 194, 237, 174, 175, 47, 176, 177, 73, 238, 239, 240, 241, 242, 243, 179, 180, 181, 244, 245, 246, 32, 247, 109, 248, 249, 250, 251, 110, 111, 112, 252, 106, 107, 108, 253, 254, 255, 256, 257, 258, 259, 260, 33, 261, 262, 263, 51, 264, 265, 266, 267, 268, 269, 270, 271, 272, 273, 274, 275, 276, 277, 278, 279, 37, 41, 280, 281, 282, 283, 284, 285, 286, 287, 288, 289, 290, 291, 292, 293, 294, 295, 296, 297, 298, 299, 300, 301, 302, 303, 304, 53, 305, 306, 307, 308, 309, 310, 311, 312, 313, 314, 315, 43, 316, 200, 201, 202, 160, 317, 318, 319, 320, 440, 441, 442, 443, 444, 445, 446, 447, 448, 449, 450, 451, 452, 453, 454, 455, 456, 461, 462, 463, 464, 465, 466, 479, 480, 481, 482, 483, 484, 485, 486, 487, 475, 476, 477, 478, 472, 473, 474, 457, 458, 459, 460, 467, 468, 469, 470, 471, 488, 489, 490, 491, 492, 493, 494] (by decide +kernel) (by decide +kernel)) (goodIn_sub (fun _ h => List.mem_append_left _ (List.mem_append_left _ (List.mem_append_right _ h))) (by decide +kernel))
set_option maxRecDepth 20000 in
theorem gL_law_X8_run : GoodIn wsL_law (wsV RL 70 RX8 yX8_run wsX8_run) := goodIn_app (goodIn_of _ (by decide +kernel)) ggL_law_X8_run
