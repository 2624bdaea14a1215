set_option maxRecDepth 20000 in
theorem ggL_law_L_isSo_c : GoodIn wsL_law [.code yL_isSo cL_isSo 12 (some .boolean)] := goodIn_r (big := wsL_law) _ [323] (by decide +kernel) (by decide +kernel)
set_option maxRecDepth 20000 in
theorem ggL_law_L_isSo_r1 : GoodIn wsL_law wsL_isSo_r1 := goodIn_r (big := wsL_law) _ [191, 192, 193, 194, 324, 259, 260, 325, 169, 170, 171, 6, 172, 16, 117, 118, 119, 120, 121, 95, 96, 97, 98, 99] (by decide +kernel) (by decide +kernel)
set_option maxRecDepth 20000 in
theorem ggL_law_L_isSo_r2 : GoodIn wsL_law wsL_isSo_r2 := goodIn_r (big := wsL_law) _ [173, 174, 175, 47, 176, 177, 73, 178, 179, 180, 181, 182, 162, 163, 32, 164, 109, 110, 111, 112, 326, 327, 328, 329] (by decide +kernel) (by decide +kernel)
set_option maxRecDepth 20000 in
theorem ggL_law_L_isSo_r3 : GoodIn wsL_law wsL_isSo_r3 := goodIn_r (big := wsL_law) _ [165, 166, 167, 168, 330, 331, 332, 333, 134, 135, 136, 137, 138, 139, 140, 15, 141, 44, 142, 143, 144, 145, 146, 147] (by decide +kernel) (by decide +kernel)
set_option maxRecDepth 20000 in
theorem ggL_law_L_isSo_r4 : GoodIn wsL_law wsL_isSo_r4 := goodIn_r (big := wsL_law) _ [148, 149, 150, 151, 29, 334, 335, 336, 337, 338, 339, 340, 341, 342, 343, 344, 345, 346, 347, 348, 349, 33, 41, 350] (by decide +kernel) (by decide +kernel)
set_option maxRecDepth 20000 in
theorem ggL_law_L_isSo_r5 : GoodIn wsL_law wsL_isSo_r5 := goodIn_r (big := wsL_law) _ [157, 158, 159, 160, 23, 161, 152, 153, 154, 155, 156] (by decide +kernel) (by decide +kernel)
set_option maxRecDepth 20000 in
theorem ggL_law_L_isSo_wsX80 : GoodIn wsL_law wsX80 := goodIn_r (big := wsL_law) _ [440, 441] (by decide +kernel) (by decide +kernel)
set_option maxRecDepth 20000 in
theorem ggL_law_L_isSo_wsX30 : GoodIn wsL_law wsX30 := goodIn_r (big := wsL_law) _ [442, 443, 444, 445, 446, 447, 448, 449, 450, 451, 452, 453, 454, 455, 456] (by decide +kernel) (by decide +kernel)
