set_option maxRecDepth 20000 in
theorem gW_X6_tick_r3 : GoodIn wsL_law wsX6_tick_r3 := goodIn_r _ [43, 694, 446, 447, 448, 84, 237, 238, 239, 240, 86, 44, 727, 728, 729, 730, 731, 732, 733, 734, 735, 50, 51, 52] (by decide +kernel) (by decide +kernel)
set_option maxRecDepth 20000 in
theorem gW_X6_tick_r4 : GoodIn wsL_law wsX6_tick_r4 := goodIn_r _ [509, 510, 511, 27, 512, 120, 736, 737, 738, 739, 245, 246, 247, 248, 119, 740, 741, 742, 743, 121, 744, 745, 746, 747] (by decide +kernel) (by decide +kernel)
set_option maxRecDepth 20000 in
theorem gW_X6_tick_r5 : GoodIn wsL_law wsX6_tick_r5 := goodIn_r _ [85, 233, 234, 235, 236, 80, 81, 82, 83, 87] (by decide +kernel) (by decide +kernel)
set_option maxRecDepth 20000 in
theorem ggL_law_X6_tick : GoodIn wsL_law wsX6_tick := goodIn_app (a := [.code yX6_tick cX6_tick 3 (some .int)]) (goodIn_r _ [706] (by decide +kernel) (by decide +kernel)) (goodIn_app (goodIn_app (goodIn_app (goodIn_app (goodIn_app (goodIn_app gW_X6_tick_r1 (goodIn_app gW_X6_tick_r2 (goodIn_app gW_X6_tick_r3 (goodIn_app gW_X6_tick_r4 (gW_X6_tick_r5))))) gW_X60) gW_X40) gW_X20) gW_X30) gW_X00)
set_option maxRecDepth 20000 in
theorem gL_law_X6_tick : GoodIn wsL_law (wsV RL 62 RX6 yX6_tick wsX6_tick) := goodIn_app (goodIn_of _ (by decide +kernel)) ggL_law_X6_tick
set_option maxRecDepth 20000 in
theorem gW_X7_tick_r1 : GoodIn wsL_law wsX7_tick_r1 := goodIn_r _ [752, 163, 169, 170, 5, 171, 753, 754, 755, 756, 168, 176, 183, 184, 185, 261, 757, 758, 759, 760, 149, 178, 147, 143] (by decide +kernel) (by decide +kernel)
set_option maxRecDepth 20000 in
theorem gW_X7_tick_r2 : GoodIn wsL_law wsX7_tick_r2 := goodIn_r _ [148, 144, 166, 146, 164, 266, 267, 268, 269, 270, 271, 272, 273, 160, 159, 262, 263, 264, 265, 167] (by decide +kernel) (by decide +kernel)
set_option maxRecDepth 20000 in
theorem ggL_law_X7_tick : GoodIn wsL_law wsX7_tick := goodIn_app (a := [.code yX7_tick cX7_tick 3 (some .int)]) (goodIn_r _ [751] (by decide +kernel) (by decide +kernel)) (goodIn_app (goodIn_app gW_X7_tick_r1 (gW_X7_tick_r2)) gW_X70)
set_option maxRecDepth 20000 in
theorem gL_law_X7_tick : GoodIn wsL_law (wsV RL 65 RX7 yX7_tick wsX7_tick) := goodIn_app (goodIn_of _ (by decide +kernel)) ggL_law_X7_tick
set_option maxRecDepth 20000 in
theorem gW_X6_tune_r1 : GoodIn wsL_law wsX6_tune_r1 := goodIn_r _ [315, 316, 2, 317, 318, 319, 320, 321, 346, 347, 348, 349, 28, 205, 206, 207, 208, 97, 350, 351, 352, 353, 99, 354] (by decide +kernel) (by decide +kernel)
set_option maxRecDepth 20000 in
theorem gW_X6_tune_r2 : GoodIn wsL_law wsX6_tune_r2 := goodIn_r _ [355, 356, 357, 101, 358, 359, 360, 361, 362, 363, 364, 365, 366, 27, 367, 126, 368, 123, 124, 125, 127, 128, 369, 370] (by decide +kernel) (by decide +kernel)
set_option maxRecDepth 20000 in
theorem gW_X6_tune_r3 : GoodIn wsL_law wsX6_tune_r3 := goodIn_r _ [371, 372, 74, 373, 374, 375, 376, 217, 218, 219, 220, 24, 15, 221, 222, 223, 23, 224, 113, 114, 225, 226, 227, 228] (by decide +kernel) (by decide +kernel)
set_option maxRecDepth 20000 in
theorem gW_X6_tune_r4 : GoodIn wsL_law wsX6_tune_r4 := goodIn_r _ [57, 58, 229, 230, 231, 14, 232, 233, 234, 235, 236, 84, 80, 81, 51, 82, 83, 50, 52, 41, 87, 43, 237, 238] (by decide +kernel) (by decide +kernel)
set_option maxRecDepth 20000 in
theorem gW_X6_tune_r5 : GoodIn wsL_law wsX6_tune_r5 := goodIn_r _ [239, 240, 86, 44, 241, 242, 243, 244, 120, 121, 245, 246, 247, 248, 119, 249, 250, 251, 252, 85, 209, 210, 211, 212] (by decide +kernel) (by decide +kernel)
set_option maxRecDepth 20000 in
theorem gW_X6_tune_r6 : GoodIn wsL_law wsX6_tune_r6 := goodIn_r _ [20, 93, 94, 95, 96, 98, 100, 36, 32, 102, 103, 104, 35, 105, 106, 107, 108, 109, 110, 111, 112, 115, 116, 117] (by decide +kernel) (by decide +kernel)
set_option maxRecDepth 20000 in
theorem gW_X6_tune_r7 : GoodIn wsL_law wsX6_tune_r7 := goodIn_r _ [118, 122, 129, 130, 131, 31, 132, 133, 134, 135, 136, 137, 213, 214, 215, 18, 216, 92, 377, 378, 379, 380, 72, 381] (by decide +kernel) (by decide +kernel)
set_option maxRecDepth 20000 in
theorem gW_X6_tune_r8 : GoodIn wsL_law wsX6_tune_r8 := goodIn_r _ [382, 383, 384, 73, 385, 386, 387, 388, 389, 390, 391, 392, 393, 394, 395, 396, 397, 398, 399, 400, 401, 402, 403, 404] (by decide +kernel) (by decide +kernel)
set_option maxRecDepth 20000 in
theorem gW_X6_tune_r9 : GoodIn wsL_law wsX6_tune_r9 := goodIn_r _ [405, 406, 407, 408, 409, 410, 411, 412, 413, 414, 415, 416, 417, 418, 419, 278, 420, 421, 422, 423, 424, 425, 426, 427] (by decide +kernel) (by decide +kernel)
set_option maxRecDepth 20000 in
theorem gW_X6_tune_r10 : GoodIn wsL_law wsX6_tune_r10 := goodIn_r _ [428, 429, 430, 51, 432, 433, 434, 435, 436, 437, 438, 439, 440, 441, 442, 443, 444, 445, 446, 447, 448, 449, 450, 451] (by decide +kernel) (by decide +kernel)
set_option maxRecDepth 20000 in
theorem gW_X6_tune_r11 : GoodIn wsL_law wsX6_tune_r11 := goodIn_r _ [452, 453, 454, 455, 456, 457, 458, 459, 460, 461, 462, 463, 464, 465, 466, 467, 468, 469, 470, 471, 472, 473, 474, 475] (by decide +kernel) (by decide +kernel)
set_option maxRecDepth 20000 in
theorem gW_X6_tune_r12 : GoodIn wsL_law wsX6_tune_r12 := goodIn_r _ [476, 477, 478, 479, 480, 481, 482, 483, 484, 485, 486, 487, 488, 489, 490, 491, 492, 493, 494, 495, 496, 497, 498, 499] (by decide +kernel) (by decide +kernel)
