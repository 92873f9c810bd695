set_option maxRecDepth 20000 in
theorem gW_X7_send_r6 : GoodIn wsL_law wsX7_send_r6 := goodIn_r _ [618, 619, 620, 621, 622, 623, 624, 625, 626, 627, 628, 629, 630, 631, 299, 142, 145, 632, 633, 634, 635, 636, 637, 638] (by decide +kernel) (by decide +kernel)
set_option maxRecDepth 20000 in
theorem gW_X7_send_r7 : GoodIn wsL_law wsX7_send_r7 := goodIn_r _ [639] (by decide +kernel) (by decide +kernel)
set_option maxRecDepth 20000 in
theorem ggL_law_X7_send : GoodIn wsL_law wsX7_send := goodIn_app (a := [.code yX7_send cX7_send 4 (some .int)]) (goodIn_r _ [562] (by decide +kernel) (by decide +kernel)) (goodIn_app (goodIn_app gW_X7_send_r1 (goodIn_app gW_X7_send_r2 (goodIn_app gW_X7_send_r3 (goodIn_app gW_X7_send_r4 (goodIn_app gW_X7_send_r5 (goodIn_app gW_X7_send_r6 (gW_X7_send_r7))))))) gW_X70)
set_option maxRecDepth 20000 in
theorem gL_law_X7_send : GoodIn wsL_law (wsV RL 49 RX7 yX7_send wsX7_send) := goodIn_app (goodIn_of _ (by decide +kernel)) ggL_law_X7_send
set_option maxRecDepth 20000 in
theorem gW_X6_tell_r1 : GoodIn wsL_law wsX6_tell_r1 := goodIn_r _ [312, 313, 2, 314, 196, 197, 198, 199, 315, 316, 317, 318, 319, 320, 321, 346, 347, 348, 349, 28, 205, 206, 207, 208] (by decide +kernel) (by decide +kernel)
set_option maxRecDepth 20000 in
theorem gW_X6_tell_r2 : GoodIn wsL_law wsX6_tell_r2 := goodIn_r _ [97, 350, 351, 352, 353, 99, 354, 355, 356, 357, 101, 358, 359, 360, 361, 362, 363, 364, 365, 366, 27, 367, 126, 368] (by decide +kernel) (by decide +kernel)
set_option maxRecDepth 20000 in
theorem gW_X6_tell_r3 : GoodIn wsL_law wsX6_tell_r3 := goodIn_r _ [123, 124, 125, 127, 128, 369, 370, 371, 372, 74, 373, 374, 375, 376, 217, 218, 219, 220, 24, 15, 221, 222, 223, 23] (by decide +kernel) (by decide +kernel)
set_option maxRecDepth 20000 in
theorem gW_X6_tell_r4 : GoodIn wsL_law wsX6_tell_r4 := goodIn_r _ [224, 113, 114, 225, 226, 227, 228, 57, 58, 229, 230, 231, 14, 232, 233, 234, 235, 236, 84, 80, 81, 51, 82, 83] (by decide +kernel) (by decide +kernel)
set_option maxRecDepth 20000 in
theorem gW_X6_tell_r5 : GoodIn wsL_law wsX6_tell_r5 := goodIn_r _ [50, 52, 41, 87, 43, 237, 238, 239, 240, 86, 44, 241, 242, 243, 244, 120, 121, 245, 246, 247, 248, 119, 249, 250] (by decide +kernel) (by decide +kernel)
set_option maxRecDepth 20000 in
theorem gW_X6_tell_r6 : GoodIn wsL_law wsX6_tell_r6 := goodIn_r _ [251, 252, 85, 209, 210, 211, 212, 20, 93, 94, 95, 96, 98, 100, 36, 32, 102, 103, 104, 35, 105, 106, 107, 108] (by decide +kernel) (by decide +kernel)
set_option maxRecDepth 20000 in
theorem gW_X6_tell_r7 : GoodIn wsL_law wsX6_tell_r7 := goodIn_r _ [109, 110, 111, 112, 115, 116, 117, 118, 122, 129, 130, 131, 31, 132, 133, 134, 135, 136, 137, 213, 214, 215, 18, 216] (by decide +kernel) (by decide +kernel)
set_option maxRecDepth 20000 in
theorem gW_X6_tell_r8 : GoodIn wsL_law wsX6_tell_r8 := goodIn_r _ [92, 377, 378, 379, 380, 72, 381, 382, 383, 384, 73, 385, 386, 387, 388, 389, 390, 391, 392, 393, 394, 395, 396, 397] (by decide +kernel) (by decide +kernel)
set_option maxRecDepth 20000 in
theorem gW_X6_tell_r9 : GoodIn wsL_law wsX6_tell_r9 := goodIn_r _ [398, 399, 400, 401, 402, 403, 404, 405, 406, 407, 408, 409, 410, 411, 412, 413, 414, 415, 416, 417, 418, 419, 278, 420] (by decide +kernel) (by decide +kernel)
set_option maxRecDepth 20000 in
theorem gW_X6_tell_r10 : GoodIn wsL_law wsX6_tell_r10 := goodIn_r _ [421, 422, 423, 424, 425, 426, 427, 428, 429, 430, 51, 432, 433, 434, 435, 436, 437, 438, 439, 440, 441, 442, 443, 444] (by decide +kernel) (by decide +kernel)
set_option maxRecDepth 20000 in
theorem gW_X6_tell_r11 : GoodIn wsL_law wsX6_tell_r11 := goodIn_r _ [445, 446, 447, 448, 449, 450, 451, 452, 453, 454, 455, 456, 457, 458, 459, 460, 461, 462, 463, 464, 465, 466, 467, 468] (by decide +kernel) (by decide +kernel)
set_option maxRecDepth 20000 in
theorem gW_X6_tell_r12 : GoodIn wsL_law wsX6_tell_r12 := goodIn_r _ [469, 470, 471, 472, 473, 474, 475, 476, 477, 478, 479, 480, 481, 482, 483, 484, 485, 486, 487, 488, 489, 490, 491, 492] (by decide +kernel) (by decide +kernel)
set_option maxRecDepth 20000 in
theorem gW_X6_tell_r13 : GoodIn wsL_law wsX6_tell_r13 := goodIn_r _ [493, 494, 495, 496, 497, 498, 499, 500, 501, 502, 503, 504, 505, 506, 507, 508, 509, 510, 511, 512, 513, 514, 515, 516] (by decide +kernel) (by decide +kernel)
set_option maxRecDepth 20000 in
theorem gW_X6_tell_r14 : GoodIn wsL_law wsX6_tell_r14 := goodIn_r _ [517, 518, 519, 520, 521, 522, 523, 524, 19, 525, 526, 527, 528, 529, 530, 531, 532, 53, 533, 534, 535, 536, 537, 538] (by decide +kernel) (by decide +kernel)
set_option maxRecDepth 20000 in
theorem gW_X6_tell_r15 : GoodIn wsL_law wsX6_tell_r15 := goodIn_r _ [539, 540, 541, 89, 90, 91, 542, 290, 291, 292, 543, 544, 545, 546, 88, 547, 548, 549, 550, 551, 552, 553, 554, 555] (by decide +kernel) (by decide +kernel)
set_option maxRecDepth 20000 in
theorem gW_X6_tell_r16 : GoodIn wsL_law wsX6_tell_r16 := goodIn_r _ [556, 557, 558] (by decide +kernel) (by decide +kernel)
set_option maxRecDepth 20000 in
theorem ggL_law_X6_tell : GoodIn wsL_law wsX6_tell := goodIn_app (a := [.code yX6_tell cX6_tell 3 (some .int)]) (goodIn_r _ [643] (by decide +kernel) (by decide +kernel)) (goodIn_app (goodIn_app (goodIn_app (goodIn_app (goodIn_app (goodIn_app (goodIn_app (goodIn_app gW_X6_tell_r1 (goodIn_app gW_X6_tell_r2 (goodIn_app gW_X6_tell_r3 (goodIn_app gW_X6_tell_r4 (goodIn_app gW_X6_tell_r5 (goodIn_app gW_X6_tell_r6 (goodIn_app gW_X6_tell_r7 (goodIn_app gW_X6_tell_r8 (goodIn_app gW_X6_tell_r9 (goodIn_app gW_X6_tell_r10 (goodIn_app gW_X6_tell_r11 (goodIn_app gW_X6_tell_r12 (goodIn_app gW_X6_tell_r13 (goodIn_app gW_X6_tell_r14 (goodIn_app gW_X6_tell_r15 (gW_X6_tell_r16)))))))))))))))) gW_X60) gW_X00) gW_X40) gW_X30) gW_X20) gW_X50) gW_X10)
set_option maxRecDepth 20000 in
theorem gL_law_X6_tell : GoodIn wsL_law (wsV RL 50 RX6 yX6_tell wsX6_tell) := goodIn_app (goodIn_of _ (by decide +kernel)) ggL_law_X6_tell
