set_option maxRecDepth 20000 in
theorem ggL_of_X8_init : GoodIn wsL_of wsX8_init := goodIn_r _ [6, 7, 8, 9, 10, 11, 12, 13, 14, 15, 16, 17, 18, 19, 20, 21, 22, 23, 24, 25, 26, 27, 28, 29, 30, 31, 32, 33, 34, 35, 36, 37, 38, 39, 40, 41, 42, 43, 44, 45, 46, 47, 48, 49, 50, 51, 52, 53, 54, 55, 56, 57, 58, 59, 60, 61, 62, 63, 64, 65, 66, 67, 68, 69, 70, 71, 72, 73, 74, 75, 76, 77, 78, 79, 134, 135, 136, 137, 138, 139, 140, 141, 142, 143, 144, 145, 146, 147, 148, 132, 133, 149, 150, 151, 152, 153, 154, 155, 156, 157, 158, 159, 160, 161, 162, 163, 164, 165, 166, 167, 168, 169, 170, 171, 172, 173, 174, 175, 176, 177, 178, 179, 180, 181, 182, 183, 184, 185, 186] (by decide +kernel) (by decide +kernel)
set_option maxRecDepth 20000 in
theorem gL_of_X8_init : GoodIn wsL_of (wsX8_init) := ggL_of_X8_init
set_option maxRecDepth 20000 in
theorem ggL_of_L_cell : GoodIn wsL_of wsL_cell := goodIn_r _ [83, 84] (by decide +kernel) (by decide +kernel)
set_option maxRecDepth 20000 in
theorem gL_of_L_cell : GoodIn wsL_of (va_wsS RL 12 yL_cell wsL_cell) := goodIn_app (goodIn_of _ (by decide +kernel)) ggL_of_L_cell
set_option maxRecDepth 20000 in
theorem ggL_of_L_below : GoodIn wsL_of wsL_below := goodIn_r _ [87, 88] (by decide +kernel) (by decide +kernel)
set_option maxRecDepth 20000 in
theorem gL_of_L_below : GoodIn wsL_of (va_wsS RL 18 yL_below wsL_below) := goodIn_app (goodIn_of _ (by decide +kernel)) ggL_of_L_below
set_option maxRecDepth 20000 in
theorem ggL_of_X8_block : GoodIn wsL_of wsX8_block := goodIn_ca (goodIn_ca (goodIn_r _ [92, 13, 93, 94, 3, 95, 96, 97, 98, 99, 100, 101, 102, 103, 104, 105, 29, 106, 107, 108, 109, 110, 132, 133, 134, 135, 136, 137, 138, 139, 140, 141, 142, 143, 144, 145, 146, 147, 148, 164, 165, 166, 149, 150, 151, 152, 159, 160, 161, 162, 163] (by decide +kernel) (by decide +kernel)) (goodIn_sub (fun _ h => List.mem_cons_of_mem _ (List.mem_append_left _ (List.mem_append_left _ (List.mem_append_right _ h)))) (by decide +kernel))) (goodIn_sub (fun _ h => List.mem_cons_of_mem _ (List.mem_append_left _ (List.mem_append_right _ h))) (by decide +kernel))
set_option maxRecDepth 20000 in
theorem gL_of_X8_block : GoodIn wsL_of (wsV RL 22 RX8 yX8_block wsX8_block) := goodIn_app (goodIn_of _ (by decide +kernel)) ggL_of_X8_block
set_option maxRecDepth 20000 in
theorem ggL_of_X8_face : GoodIn wsL_of wsX8_face := goodIn_ca (goodIn_ca (goodIn_ca (goodIn_r _ [114, 96, 97, 13, 115, 116, 3, 117, 118, 119, 93, 94, 95, 98, 99, 100, 101, 102, 132, 133, 134, 135, 136, 137, 138, 139, 140, 141, 142, 143, 144, 145, 146, 147, 148, 167, 168, 169, 170] (by decide +kernel) (by decide +kernel)) (goodIn_sub (fun _ h => List.mem_cons_of_mem _ (List.mem_append_left _ (List.mem_append_left _ (List.mem_append_right _ h)))) (by decide +kernel))) (goodIn_sub (fun _ h => List.mem_cons_of_mem _ (List.mem_append_right _ h)) (by decide +kernel))) (goodIn_sub (fun _ h => List.mem_cons_of_mem _ (List.mem_append_left _ (List.mem_append_right _ h))) (by decide +kernel))
set_option maxRecDepth 20000 in
theorem gL_of_X8_face : GoodIn wsL_of (wsV RL 26 RX8 yX8_face wsX8_face) := goodIn_app (goodIn_of _ (by decide +kernel)) ggL_of_X8_face
set_option maxRecDepth 20000 in
theorem ggL_of_X8_well : GoodIn wsL_of wsX8_well := goodIn_ca (goodIn_ca (goodIn_r _ [123, 13, 115, 116, 3, 117, 118, 119, 98, 99, 100, 101, 102, 132, 133, 134, 135, 136, 137, 138, 139, 140, 141, 142, 143, 144, 145, 146, 147, 148, 171, 172, 173, 174, 175, 176, 177, 178, 179] (by decide +kernel) (by decide +kernel)) (goodIn_sub (fun _ h => List.mem_cons_of_mem _ (List.mem_append_right _ h)) (by decide +kernel))) (goodIn_sub (fun _ h => List.mem_cons_of_mem _ (List.mem_append_left _ (List.mem_append_right _ h))) (by decide +kernel))
set_option maxRecDepth 20000 in
theorem gL_of_X8_well : GoodIn wsL_of (wsV RL 30 RX8 yX8_well wsX8_well) := goodIn_app (goodIn_of _ (by decide +kernel)) ggL_of_X8_well
set_option maxRecDepth 20000 in
theorem ggL_of_X8_valve : GoodIn wsL_of wsX8_valve := goodIn_ca (goodIn_ca (goodIn_r _ [127, 13, 115, 116, 3, 117, 118, 119, 93, 94, 95, 96, 97, 132, 133, 134, 135, 136, 137, 138, 139, 140, 141, 142, 143, 144, 145, 146, 147, 148, 171, 172, 173, 174, 175, 176, 177, 178, 179] (by decide +kernel) (by decide +kernel)) (goodIn_sub (fun _ h => List.mem_cons_of_mem _ (List.mem_append_right _ h)) (by decide +kernel))) (goodIn_sub (fun _ h => List.mem_cons_of_mem _ (List.mem_append_left _ (List.mem_append_left _ (List.mem_append_right _ h)))) (by decide +kernel))
set_option maxRecDepth 20000 in
theorem gL_of_X8_valve : GoodIn wsL_of (wsV RL 34 RX8 yX8_valve wsX8_valve) := goodIn_app (goodIn_of _ (by decide +kernel)) ggL_of_X8_valve
set_option maxRecDepth 20000 in
theorem ggL_of_X8_spring : GoodIn wsL_of wsX8_spring := goodIn_ca (goodIn_ca (goodIn_ca (goodIn_r _ [131, 13, 115, 116, 3, 117, 118, 119, 93, 94, 95, 96, 97, 98, 99, 100, 101, 102, 132, 133, 134, 135, 136, 137, 138, 139, 140, 141, 142, 143, 144, 145, 146, 147, 148, 180, 181, 182, 183, 184, 185, 186] (by decide +kernel) (by decide +kernel)) (goodIn_sub (fun _ h => List.mem_cons_of_mem _ (List.mem_append_right _ h)) (by decide +kernel))) (goodIn_sub (fun _ h => List.mem_cons_of_mem _ (List.mem_append_left _ (List.mem_append_left _ (List.mem_append_right _ h)))) (by decide +kernel))) (goodIn_sub (fun _ h => List.mem_cons_of_mem _ (List.mem_append_left _ (List.mem_append_right _ h))) (by decide +kernel))
set_option maxRecDepth 20000 in
theorem gL_of_X8_spring : GoodIn wsL_of (wsV RL 37 RX8 yX8_spring wsX8_spring) := goodIn_app (goodIn_of _ (by decide +kernel)) ggL_of_X8_spring
set_option maxRecDepth 20000 in
theorem ggL_isCleaned_X8_ofOwner : GoodIn wsL_isCleaned wsX8_ofOwner := goodIn_ca (goodIn_ca (goodIn_r _ [10, 11, 12, 13, 9, 14, 15, 16, 17, 18, 19, 20, 21, 22, 23, 24, 25, 26, 27, 28, 39, 40, 41, 42, 43, 44, 45, 46, 47, 48, 49, 50, 51, 52, 53, 54, 55, 56, 57, 58] (by decide +kernel) (by decide +kernel)) (goodIn_sub (fun _ h => List.mem_cons_of_mem _ (List.mem_append_left _ (List.mem_append_left _ (List.mem_append_right _ h)))) (by decide +kernel))) (goodIn_sub (fun _ h => List.mem_cons_of_mem _ (List.mem_append_left _ (List.mem_append_right _ h))) (by decide +kernel))
set_option maxRecDepth 20000 in
theorem gL_isCleaned_X8_ofOwner : GoodIn wsL_isCleaned (wsV RL 81 RX8 yX8_ofOwner wsX8_ofOwner) := goodIn_app (goodIn_of _ (by decide +kernel)) ggL_isCleaned_X8_ofOwner
set_option maxRecDepth 20000 in
theorem ggL_isCleaned_X8_ofWell : GoodIn wsL_isCleaned wsX8_ofWell := goodIn_ca (goodIn_ca (goodIn_r _ [32, 11, 12, 13, 9, 14, 15, 16, 17, 18, 19, 20, 21, 39, 40, 41, 42, 43, 44, 45, 46, 47, 48, 49, 50, 51, 52, 53, 54, 55, 59, 60, 61, 62, 63, 64, 65, 66, 67] (by decide +kernel) (by decide +kernel)) (goodIn_sub (fun _ h => List.mem_cons_of_mem _ (List.mem_append_left _ (List.mem_append_left _ (List.mem_append_right _ h)))) (by decide +kernel))) (goodIn_sub (fun _ h => List.mem_cons_of_mem _ (List.mem_append_left _ (List.mem_append_right _ h))) (by decide +kernel))
set_option maxRecDepth 20000 in
theorem gL_isCleaned_X8_ofWell : GoodIn wsL_isCleaned (wsV RL 51 RX8 yX8_ofWell wsX8_ofWell) := goodIn_app (goodIn_of _ (by decide +kernel)) ggL_isCleaned_X8_ofWell
set_option maxRecDepth 20000 in
theorem ggL_isCleaned_X8_clean : GoodIn wsL_isCleaned wsX8_clean := goodIn_ca (goodIn_ca (goodIn_r _ [36, 37, 38, 11, 12, 13, 9, 14, 15, 16, 39, 40, 41, 42, 43, 44, 45, 46, 47, 48, 49, 50, 51, 52, 53, 54, 55, 59, 60, 61, 62, 63, 64, 65, 66, 67, 56, 57, 58] (by decide +kernel) (by decide +kernel)) (goodIn_sub (fun _ h => List.mem_cons_of_mem _ (List.mem_append_right _ h)) (by decide +kernel))) (goodIn_sub (fun _ h => List.mem_cons_of_mem _ (List.mem_append_left _ (List.mem_append_left _ (List.mem_append_right _ h)))) (by decide +kernel))
set_option maxRecDepth 20000 in
theorem gL_isCleaned_X8_clean : GoodIn wsL_isCleaned (wsV RL 84 RX8 yX8_clean wsX8_clean) := goodIn_app (goodIn_of _ (by decide +kernel)) ggL_isCleaned_X8_clean
set_option maxRecDepth 20000 in
theorem ggL_isSo_X8_ofBlock : GoodIn wsL_isSo wsX8_ofBlock := goodIn_ca (goodIn_ca (goodIn_r _ [13, 14, 15, 16, 12, 17, 18, 19, 20, 21, 22, 23, 24, 25, 26, 27, 28, 29, 30, 31, 32, 33, 34, 35, 36, 37, 38, 39, 40, 41, 42, 43, 44, 108, 109, 110, 111, 112, 113, 114, 115, 116, 117, 118, 119, 120, 121, 122, 123, 124, 125, 126, 127, 128, 129, 130, 131] (by decide +kernel) (by decide +kernel)) (goodIn_sub (fun _ h => List.mem_cons_of_mem _ (List.mem_append_left _ (List.mem_append_right _ h))) (by decide +kernel))) (goodIn_sub (fun _ h => List.mem_cons_of_mem _ (List.mem_append_right _ h)) (by decide +kernel))
set_option maxRecDepth 20000 in
theorem gL_isSo_X8_ofBlock : GoodIn wsL_isSo (wsV RL 54 RX8 yX8_ofBlock wsX8_ofBlock) := goodIn_app (goodIn_of _ (by decide +kernel)) ggL_isSo_X8_ofBlock
set_option maxRecDepth 20000 in
theorem ggL_isSo_X8_pond : GoodIn wsL_isSo wsX8_pond := goodIn_ca (goodIn_r _ [48, 14, 20, 21, 12, 22, 23, 24, 36, 37, 38, 39, 40, 41, 42, 43, 44, 108, 109, 110, 111, 112, 113, 114, 115, 116, 117, 118, 119, 120, 121, 122, 123, 124, 128, 129, 130, 131] (by decide +kernel) (by decide +kernel)) (goodIn_sub (fun _ h => List.mem_cons_of_mem _ (List.mem_append_right _ h)) (by decide +kernel))
set_option maxRecDepth 20000 in
theorem gL_isSo_X8_pond : GoodIn wsL_isSo (wsV RL 97 RX8 yX8_pond wsX8_pond) := goodIn_app (goodIn_of _ (by decide +kernel)) ggL_isSo_X8_pond
set_option maxRecDepth 20000 in
theorem ggL_isSo_X8_ofWell : GoodIn wsL_isSo wsX8_ofWell := goodIn_ca (goodIn_ca (goodIn_r _ [52, 14, 15, 16, 12, 17, 18, 19, 20, 21, 22, 23, 24, 108, 109, 110, 111, 112, 113, 114, 115, 116, 117, 118, 119, 120, 121, 122, 123, 124, 132, 133, 134, 135, 136, 137, 138, 139, 140] (by decide +kernel) (by decide +kernel)) (goodIn_sub (fun _ h => List.mem_cons_of_mem _ (List.mem_append_left _ (List.mem_append_right _ h))) (by decide +kernel))) (goodIn_sub (fun _ h => List.mem_cons_of_mem _ (List.mem_append_right _ h)) (by decide +kernel))
set_option maxRecDepth 20000 in
theorem gL_isSo_X8_ofWell : GoodIn wsL_isSo (wsV RL 51 RX8 yX8_ofWell wsX8_ofWell) := goodIn_app (goodIn_of _ (by decide +kernel)) ggL_isSo_X8_ofWell
set_option maxRecDepth 20000 in
theorem ggL_isSo_X8_ofSpring : GoodIn wsL_isSo wsX8_ofSpring := goodIn_ca (goodIn_ca (goodIn_r _ [56, 14, 15, 16, 12, 17, 18, 19, 20, 21, 22, 23, 24, 108, 109, 110, 111, 112, 113, 114, 115, 116, 117, 118, 119, 120, 121, 122, 123, 124, 141, 142, 143, 144, 145, 146, 147] (by decide +kernel) (by decide +kernel)) (goodIn_sub (fun _ h => List.mem_cons_of_mem _ (List.mem_append_left _ (List.mem_append_right _ h))) (by decide +kernel))) (goodIn_sub (fun _ h => List.mem_cons_of_mem _ (List.mem_append_right _ h)) (by decide +kernel))
set_option maxRecDepth 20000 in
theorem gL_isSo_X8_ofSpring : GoodIn wsL_isSo (wsV RL 100 RX8 yX8_ofSpring wsX8_ofSpring) := goodIn_app (goodIn_of _ (by decide +kernel)) ggL_isSo_X8_ofSpring
set_option maxRecDepth 20000 in
theorem ggL_isSo_X8_many : GoodIn wsL_isSo wsX8_many := goodIn_ca (goodIn_r _ [60, 14, 20, 21, 12, 22, 23, 24, 61, 62, 63, 64, 65, 66, 67, 68, 69, 70, 71, 72, 73, 74, 75, 76, 77, 108, 109, 110, 111, 112, 113, 114, 115, 116, 117, 118, 119, 120, 121, 122, 123, 124, 148, 149, 150, 151, 152, 153, 141, 142, 143, 144, 145, 146, 147] (by decide +kernel) (by decide +kernel)) (goodIn_sub (fun _ h => List.mem_cons_of_mem _ (List.mem_append_right _ h)) (by decide +kernel))
set_option maxRecDepth 20000 in
theorem gL_isSo_X8_many : GoodIn wsL_isSo (wsV RL 44 RX8 yX8_many wsX8_many) := goodIn_app (goodIn_of _ (by decide +kernel)) ggL_isSo_X8_many
set_option maxRecDepth 20000 in
theorem ggL_isSo_X8_ofFace : GoodIn wsL_isSo wsX8_ofFace := goodIn_ca (goodIn_r _ [81, 14, 15, 16, 12, 17, 18, 19, 108, 109, 110, 111, 112, 113, 114, 115, 116, 117, 118, 119, 120, 121, 122, 123, 124, 154, 155, 156, 157] (by decide +kernel) (by decide +kernel)) (goodIn_sub (fun _ h => List.mem_cons_of_mem _ (List.mem_append_left _ (List.mem_append_right _ h))) (by decide +kernel))
set_option maxRecDepth 20000 in
theorem gL_isSo_X8_ofFace : GoodIn wsL_isSo (wsV RL 103 RX8 yX8_ofFace wsX8_ofFace) := goodIn_app (goodIn_of _ (by decide +kernel)) ggL_isSo_X8_ofFace
set_option maxRecDepth 20000 in
theorem ggL_isSo_X8_meanWarmth : GoodIn wsL_isSo wsX8_meanWarmth := goodIn_r _ [85, 14, 32, 33, 34, 28, 35, 30, 31, 108, 109, 110, 111, 112, 113, 114, 115, 116, 117, 118, 119, 120, 121, 122, 123, 124, 125, 126, 127, 128, 129, 130, 131] (by decide +kernel) (by decide +kernel)
set_option maxRecDepth 20000 in
theorem gL_isSo_X8_meanWarmth : GoodIn wsL_isSo (wsV RL 106 RX8 yX8_meanWarmth wsX8_meanWarmth) := goodIn_app (goodIn_of _ (by decide +kernel)) ggL_isSo_X8_meanWarmth
set_option maxRecDepth 20000 in
theorem ggL_isSo_X8_isClosed : GoodIn wsL_isSo wsX8_isClosed := goodIn_r _ [89, 14, 90, 91, 92, 64, 93, 94, 95, 96, 97, 98, 99, 100, 101, 102, 37, 38, 39, 40, 41, 42, 43, 44, 108, 109, 110, 111, 112, 113, 114, 115, 116, 117, 118, 119, 120, 121, 122, 123, 124, 158, 159, 160, 161, 162, 128, 129, 130, 131, 125, 126, 127] (by decide +kernel) (by decide +kernel)
set_option maxRecDepth 20000 in
theorem gL_isSo_X8_isClosed : GoodIn wsL_isSo (wsV RL 110 RX8 yX8_isClosed wsX8_isClosed) := goodIn_app (goodIn_of _ (by decide +kernel)) ggL_isSo_X8_isClosed
set_option maxRecDepth 20000 in
theorem ggL_isSo_X8_mass : GoodIn wsL_isSo wsX8_mass := goodIn_ca (goodIn_r _ [106, 14, 20, 21, 12, 22, 23, 24, 107, 97, 98, 64, 99, 100, 101, 102, 37, 38, 39, 40, 41, 42, 43, 44, 108, 109, 110, 111, 112, 113, 114, 115, 116, 117, 118, 119, 120, 121, 122, 123, 124, 158, 159, 160, 161, 162, 128, 129, 130, 131, 125, 126, 127] (by decide +kernel) (by decide +kernel)) (goodIn_sub (fun _ h => List.mem_cons_of_mem _ (List.mem_append_right _ h)) (by decide +kernel))
set_option maxRecDepth 20000 in
theorem gL_isSo_X8_mass : GoodIn wsL_isSo (wsV RL 48 RX8 yX8_mass wsX8_mass) := goodIn_app (goodIn_of _ (by decide +kernel)) ggL_isSo_X8_mass
