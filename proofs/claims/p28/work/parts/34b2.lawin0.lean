set_option maxRecDepth 20000 in
theorem wsL_law0_i11 : ∀ w ∈ wsL_law0_r11, w ∈ lw_tbl := fun w h => (goodIn_r (big := lw_tbl) wsL_law0_r11 [182, 183, 184, 187, 191, 192, 193, 194, 195, 196, 197, 198, 199, 203, 205, 207, 2, 208, 209, 210, 211, 212, 213, 214] (by decide +kernel) (by decide +kernel) w h).1
set_option maxRecDepth 20000 in
theorem wsL_law0_i12 : ∀ w ∈ wsL_law0_r12, w ∈ lw_tbl := fun w h => (goodIn_r (big := lw_tbl) wsL_law0_r12 [215, 595, 597, 599, 601, 216, 217, 218, 219, 593, 590, 220, 221, 223, 3, 224, 225, 227, 4, 228, 229, 231, 5, 232] (by decide +kernel) (by decide +kernel) w h).1
set_option maxRecDepth 20000 in
theorem wsL_law0_i13 : ∀ w ∈ wsL_law0_r13, w ∈ lw_tbl := fun w h => (goodIn_r (big := lw_tbl) wsL_law0_r13 [233, 235, 6, 236, 237, 238, 239, 241, 7, 242, 243, 245, 8, 246, 247, 248, 249, 250, 635, 633, 251, 637, 640, 642] (by decide +kernel) (by decide +kernel) w h).1
set_option maxRecDepth 20000 in
theorem wsL_law0_i14 : ∀ w ∈ wsL_law0_r14, w ∈ lw_tbl := fun w h => (goodIn_r (big := lw_tbl) wsL_law0_r14 [252, 254, 9, 255, 256, 260, 262, 10, 263, 759, 760, 761, 762, 771, 763, 363, 364, 365, 764, 355, 356, 357, 765, 351] (by decide +kernel) (by decide +kernel) w h).1
set_option maxRecDepth 20000 in
theorem wsL_law0_i15 : ∀ w ∈ wsL_law0_r15, w ∈ lw_tbl := fun w h => (goodIn_r (big := lw_tbl) wsL_law0_r15 [352, 353, 766, 767, 768, 769, 770, 373, 374, 375, 376, 377, 378, 379, 380, 300, 301, 302, 303, 304, 305, 306, 307, 308] (by decide +kernel) (by decide +kernel) w h).1
set_option maxRecDepth 20000 in
theorem wsL_law0_i16 : ∀ w ∈ wsL_law0_r16, w ∈ lw_tbl := fun w h => (goodIn_r (big := lw_tbl) wsL_law0_r16 [309, 310, 311, 312, 313, 314, 315, 316, 347, 349, 348, 28, 317, 318, 319, 320, 539, 321, 322, 323, 324, 325, 326, 327] (by decide +kernel) (by decide +kernel) w h).1
set_option maxRecDepth 20000 in
theorem wsL_law0_i17 : ∀ w ∈ wsL_law0_r17, w ∈ lw_tbl := fun w h => (goodIn_r (big := lw_tbl) wsL_law0_r17 [328, 555, 558, 561, 564, 329, 330, 331, 332, 581, 584, 587, 333, 334, 335, 336, 627, 630, 337, 338, 339, 340, 341, 468] (by decide +kernel) (by decide +kernel) w h).1
set_option maxRecDepth 20000 in
theorem wsL_law0_i18 : ∀ w ∈ wsL_law0_r18, w ∈ lw_tbl := fun w h => (goodIn_r (big := lw_tbl) wsL_law0_r18 [471, 474, 477, 342, 343, 344, 345, 509, 512, 346, 350, 354, 358, 359, 360, 361, 362, 366, 371, 372, 381, 382, 383, 384] (by decide +kernel) (by decide +kernel) w h).1
set_option maxRecDepth 20000 in
theorem wsL_law0_i19 : ∀ w ∈ wsL_law0_r19, w ∈ lw_tbl := fun w h => (goodIn_r (big := lw_tbl) wsL_law0_r19 [385, 386, 387, 388, 389, 390, 391, 392] (by decide +kernel) (by decide +kernel) w h).1
