set_option maxRecDepth 20000 in
theorem ggL_law_X8_digest_c : GoodIn wsL_law [.code yX8_digest cX8_digest 5 (some .long)] := goodIn_r (big := wsL_law) _ [354] (by decide +kernel) (by decide +kernel)
set_option maxRecDepth 20000 in
theorem ggL_law_X8_digest_r1 : GoodIn wsL_law wsX8_digest_r1 := goodIn_r (big := wsL_law) _ [355, 356, 16, 357, 135, 136, 6, 137, 95, 96, 97, 98, 99, 138, 139, 140, 15, 141, 44, 142, 143, 144, 145, 146] (by decide +kernel) (by decide +kernel)
set_option maxRecDepth 20000 in
theorem ggL_law_X8_digest_r2 : GoodIn wsL_law wsX8_digest_r2 := goodIn_r (big := wsL_law) _ [147, 148, 149, 150, 151, 29, 358, 170, 171, 172, 117, 118, 119, 120, 121, 173, 174, 175, 47, 176, 177, 73, 178, 179] (by decide +kernel) (by decide +kernel)
set_option maxRecDepth 20000 in
theorem ggL_law_X8_digest_r3 : GoodIn wsL_law wsX8_digest_r3 := goodIn_r (big := wsL_law) _ [180, 181, 182, 162, 163, 32, 164, 109, 110, 111, 112, 359, 166, 167, 168, 360, 361, 362, 363, 17, 364, 365, 366, 367] (by decide +kernel) (by decide +kernel)
set_option maxRecDepth 20000 in
theorem ggL_law_X8_digest_r4 : GoodIn wsL_law wsX8_digest_r4 := goodIn_r (big := wsL_law) _ [23, 25, 27, 33, 37, 41, 43, 368, 369, 370, 371, 160, 226, 227, 372, 373, 374, 375, 376, 377, 378, 379, 380, 381] (by decide +kernel) (by decide +kernel)
set_option maxRecDepth 20000 in
theorem ggL_law_X8_digest_r5 : GoodIn wsL_law wsX8_digest_r5 := goodIn_r (big := wsL_law) _ [382, 383, 49, 384, 385, 386, 387, 388, 389, 390, 391, 51, 392, 393, 394, 395, 274, 273, 265, 266, 267, 268, 396, 397] (by decide +kernel) (by decide +kernel)
set_option maxRecDepth 20000 in
theorem ggL_law_X8_digest_r6 : GoodIn wsL_law wsX8_digest_r6 := goodIn_r (big := wsL_law) _ [398, 53, 399, 400, 401, 307, 306, 309, 310, 311, 402, 403, 404, 405, 36, 406, 60, 61, 407, 408, 409, 410, 411, 412] (by decide +kernel) (by decide +kernel)
set_option maxRecDepth 20000 in
theorem ggL_law_X8_digest_r7 : GoodIn wsL_law wsX8_digest_r7 := goodIn_r (big := wsL_law) _ [413, 40, 414, 66, 67, 68, 415, 416, 417, 222, 223, 224, 225, 228, 229, 230, 231, 232, 233, 234, 193, 235, 45, 236] (by decide +kernel) (by decide +kernel)
set_option maxRecDepth 20000 in
theorem ggL_law_X8_digest_r8 : GoodIn wsL_law wsX8_digest_r8 := goodIn_r (big := wsL_law) _ [192, 194, 237, 238, 239, 240, 241, 242, 243, 244, 245, 246, 247, 248, 249, 250, 251, 252, 106, 107, 108, 253, 254, 255] (by decide +kernel) (by decide +kernel)
set_option maxRecDepth 20000 in
theorem ggL_law_X8_digest_r9 : GoodIn wsL_law wsX8_digest_r9 := goodIn_r (big := wsL_law) _ [256, 257, 258, 259, 260, 261, 262, 263, 264, 269, 270, 271, 272, 275, 276, 277, 278, 279, 280, 281, 282, 283, 284, 285] (by decide +kernel) (by decide +kernel)
set_option maxRecDepth 20000 in
theorem ggL_law_X8_digest_r10 : GoodIn wsL_law wsX8_digest_r10 := goodIn_r (big := wsL_law) _ [286, 287, 288, 289, 290, 291, 292, 293, 294, 295, 296, 297, 298, 299, 300, 301, 302, 303, 304, 305, 308, 312, 313, 314] (by decide +kernel) (by decide +kernel)
set_option maxRecDepth 20000 in
theorem ggL_law_X8_digest_r11 : GoodIn wsL_law wsX8_digest_r11 := goodIn_r (big := wsL_law) _ [315, 316, 200, 201, 202, 317, 318, 319, 320, 418, 335, 336, 337, 419, 331, 332, 333, 420, 421, 422, 423, 219, 220, 221] (by decide +kernel) (by decide +kernel)
