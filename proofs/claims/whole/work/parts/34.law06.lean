set_option maxRecDepth 20000 in
theorem gW_X6_tune_r13 : GoodIn wsL_law wsX6_tune_r13 := goodIn_r _ [500, 501, 502, 503, 504, 505, 506, 507, 508, 509, 510, 511, 512, 513, 514, 515, 516, 517, 518, 519, 520, 521, 522, 523] (by decide +kernel) (by decide +kernel)
set_option maxRecDepth 20000 in
theorem gW_X6_tune_r14 : GoodIn wsL_law wsX6_tune_r14 := goodIn_r _ [524, 19, 525, 526, 527, 528, 529, 530, 531, 532, 53, 533, 534, 535, 536, 197, 198, 199, 537, 538, 539, 540, 541, 89] (by decide +kernel) (by decide +kernel)
set_option maxRecDepth 20000 in
theorem gW_X6_tune_r15 : GoodIn wsL_law wsX6_tune_r15 := goodIn_r _ [90, 91, 542, 290, 291, 292, 543, 544, 545, 546, 88, 547, 548, 549, 550, 551, 552, 553, 554, 555, 556, 557, 558, 765] (by decide +kernel) (by decide +kernel)
set_option maxRecDepth 20000 in
theorem gW_X6_tune_r16 : GoodIn wsL_law wsX6_tune_r16 := goodIn_r _ [766, 767, 768, 769, 770] (by decide +kernel) (by decide +kernel)
set_option maxRecDepth 20000 in
theorem ggL_law_X6_tune : GoodIn wsL_law wsX6_tune := goodIn_app (a := [.code yX6_tune cX6_tune 3 (some .int)]) (goodIn_r _ [764] (by decide +kernel) (by decide +kernel)) (goodIn_app (goodIn_app (goodIn_app (goodIn_app (goodIn_app (goodIn_app (goodIn_app (goodIn_app gW_X6_tune_r1 (goodIn_app gW_X6_tune_r2 (goodIn_app gW_X6_tune_r3 (goodIn_app gW_X6_tune_r4 (goodIn_app gW_X6_tune_r5 (goodIn_app gW_X6_tune_r6 (goodIn_app gW_X6_tune_r7 (goodIn_app gW_X6_tune_r8 (goodIn_app gW_X6_tune_r9 (goodIn_app gW_X6_tune_r10 (goodIn_app gW_X6_tune_r11 (goodIn_app gW_X6_tune_r12 (goodIn_app gW_X6_tune_r13 (goodIn_app gW_X6_tune_r14 (goodIn_app gW_X6_tune_r15 (gW_X6_tune_r16)))))))))))))))) gW_X60) gW_X00) gW_X40) gW_X30) gW_X20) gW_X50) gW_X10)
set_option maxRecDepth 20000 in
theorem gL_law_X6_tune : GoodIn wsL_law (wsV RL 66 RX6 yX6_tune wsX6_tune) := goodIn_app (goodIn_of _ (by decide +kernel)) ggL_law_X6_tune
set_option maxRecDepth 20000 in
theorem gW_X7_tune_r1 : GoodIn wsL_law wsX7_tune_r1 := goodIn_r _ [775, 645, 646, 5, 647, 326, 158, 169, 170, 171, 564, 323, 324, 325, 327, 328, 329, 330, 648, 560, 561, 562, 563, 168] (by decide +kernel) (by decide +kernel)
set_option maxRecDepth 20000 in
theorem gW_X7_tune_r2 : GoodIn wsL_law wsX7_tune_r2 := goodIn_r _ [182, 181, 188, 565, 566, 567, 568, 176, 569, 570, 571, 572, 573, 574, 575, 576, 577, 187, 161, 162, 177, 179, 178, 257] (by decide +kernel) (by decide +kernel)
set_option maxRecDepth 20000 in
theorem gW_X7_tune_r3 : GoodIn wsL_law wsX7_tune_r3 := goodIn_r _ [258, 259, 260, 183, 149, 147, 184, 185, 261, 262, 263, 264, 265, 143, 167, 144, 266, 267, 268, 269, 166, 146, 270, 271] (by decide +kernel) (by decide +kernel)
set_option maxRecDepth 20000 in
theorem gW_X7_tune_r4 : GoodIn wsL_law wsX7_tune_r4 := goodIn_r _ [272, 273, 160, 159, 172, 173, 174, 175, 180, 165, 186, 189, 190, 191, 578, 579, 580, 581, 582, 583, 584, 585, 586, 587] (by decide +kernel) (by decide +kernel)
set_option maxRecDepth 20000 in
theorem gW_X7_tune_r5 : GoodIn wsL_law wsX7_tune_r5 := goodIn_r _ [588, 589, 590, 591, 592, 593, 594, 595, 596, 597, 164, 598, 599, 600, 601, 284, 602, 603, 604, 605, 606, 607, 608, 609] (by decide +kernel) (by decide +kernel)
set_option maxRecDepth 20000 in
theorem gW_X7_tune_r6 : GoodIn wsL_law wsX7_tune_r6 := goodIn_r _ [610, 611, 612, 613, 614, 615, 616, 617, 618, 619, 620, 621, 622, 623, 624, 625, 626, 627, 628, 629, 630, 631, 299, 142] (by decide +kernel) (by decide +kernel)
set_option maxRecDepth 20000 in
theorem gW_X7_tune_r7 : GoodIn wsL_law wsX7_tune_r7 := goodIn_r _ [145, 632, 633, 634, 635, 636, 637, 638, 639] (by decide +kernel) (by decide +kernel)
set_option maxRecDepth 20000 in
theorem ggL_law_X7_tune : GoodIn wsL_law wsX7_tune := goodIn_app (a := [.code yX7_tune cX7_tune 6 (some .int)]) (goodIn_r _ [774] (by decide +kernel) (by decide +kernel)) (goodIn_app (goodIn_app gW_X7_tune_r1 (goodIn_app gW_X7_tune_r2 (goodIn_app gW_X7_tune_r3 (goodIn_app gW_X7_tune_r4 (goodIn_app gW_X7_tune_r5 (goodIn_app gW_X7_tune_r6 (gW_X7_tune_r7))))))) gW_X70)
set_option maxRecDepth 20000 in
theorem gL_law_X7_tune : GoodIn wsL_law (wsV RL 69 RX7 yX7_tune wsX7_tune) := goodIn_app (goodIn_of _ (by decide +kernel)) ggL_law_X7_tune
set_option maxRecDepth 20000 in
theorem gW_X6_block_r1 : GoodIn wsL_law wsX6_block_r1 := goodIn_r _ [15, 445, 446, 447, 14, 448, 84, 197, 198, 2, 199, 695, 696, 697, 698, 41, 87, 694, 690, 691, 692, 693, 43, 397] (by decide +kernel) (by decide +kernel)
set_option maxRecDepth 20000 in
theorem gW_X6_block_r2 : GoodIn wsL_law wsX6_block_r2 := goodIn_r _ [398, 399, 493, 494, 495, 496, 85] (by decide +kernel) (by decide +kernel)
set_option maxRecDepth 20000 in
theorem ggL_law_X6_block : GoodIn wsL_law wsX6_block := goodIn_app (a := [.code yX6_block cX6_block 3 (some .int)]) (goodIn_r _ [779] (by decide +kernel) (by decide +kernel)) (goodIn_app (goodIn_app (goodIn_app gW_X6_block_r1 (gW_X6_block_r2)) gW_X60) gW_X30)
set_option maxRecDepth 20000 in
theorem gL_law_X6_block : GoodIn wsL_law (wsV RL 70 RX6 yX6_block wsX6_block) := goodIn_app (goodIn_of _ (by decide +kernel)) ggL_law_X6_block
set_option maxRecDepth 20000 in
theorem gW_X7_block_l : GoodIn wsL_law ([.fieldLink RX7 52 "BlockCardModel" "blocks" "I", .constantLong RX7 261 (2), .fieldLink RX7 13 "BlockCardModel" "content" "[I", .fieldLink RX7 16 "BlockCardModel" "torn" "[I", .fieldLink RX7 56 "BlockCardModel" "size" "I", .methodLink RX7 42 yX7_in, .static yX7_in, .initialized RX7, .code yX7_in cX7_in 6 (some .boolean)] : List Cond) := goodIn_r _ [159, 784, 143, 144, 160, 169, 170, 5, 171] (by decide +kernel) (by decide +kernel)
set_option maxRecDepth 20000 in
theorem ggL_law_X7_block : GoodIn wsL_law wsX7_block := goodIn_app (a := [.code yX7_block cX7_block 3 (some .int)]) (goodIn_r _ [783] (by decide +kernel) (by decide +kernel)) (goodIn_app (gW_X7_block_l) gW_X70)
set_option maxRecDepth 20000 in
theorem gL_law_X7_block : GoodIn wsL_law (wsV RL 73 RX7 yX7_block wsX7_block) := goodIn_app (goodIn_of _ (by decide +kernel)) ggL_law_X7_block
set_option maxRecDepth 20000 in
theorem gW_X6_latest_l : GoodIn wsL_law ([.fieldLink RX6 10 "BlockCard" "memory" "LBlockCard$Memory;", .methodLink RX6 169 yX3_writtenAt, .instanceMethod yX3_writtenAt, .selects RX3 yX3_writtenAt yX3_writtenAt, .initialized RX3, .code yX3_writtenAt cX3_writtenAt 2 (some .int), .fieldLink RX3 38 "BlockCard$Memory" "writtenCount" "I", .fieldLink RX3 19 "BlockCard$Memory" "written" "[I"] : List Cond) := goodIn_r _ [15, 789, 790, 791, 14, 792, 86, 44] (by decide +kernel) (by decide +kernel)
set_option maxRecDepth 20000 in
theorem ggL_law_X6_latest : GoodIn wsL_law wsX6_latest := goodIn_app (a := [.code yX6_latest cX6_latest 2 (some .int)]) (goodIn_r _ [788] (by decide +kernel) (by decide +kernel)) (goodIn_app (goodIn_app (gW_X6_latest_l) gW_X60) gW_X30)
set_option maxRecDepth 20000 in
theorem gL_law_X6_latest : GoodIn wsL_law (wsV RL 74 RX6 yX6_latest wsX6_latest) := goodIn_app (goodIn_of _ (by decide +kernel)) ggL_law_X6_latest
set_option maxRecDepth 20000 in
theorem gW_X7_latest_l : GoodIn wsL_law ([.fieldLink RX7 74 "BlockCardModel" "latestMany" "I", .fieldLink RX7 22 "BlockCardModel" "latest" "[I"] : List Cond) := goodIn_r _ [166, 146] (by decide +kernel) (by decide +kernel)
set_option maxRecDepth 20000 in
theorem ggL_law_X7_latest : GoodIn wsL_law wsX7_latest := goodIn_app (a := [.code yX7_latest cX7_latest 2 (some .int)]) (goodIn_r _ [796] (by decide +kernel) (by decide +kernel)) (goodIn_app (gW_X7_latest_l) gW_X70)
set_option maxRecDepth 20000 in
theorem gL_law_X7_latest : GoodIn wsL_law (wsV RL 77 RX7 yX7_latest wsX7_latest) := goodIn_app (goodIn_of _ (by decide +kernel)) ggL_law_X7_latest
set_option maxRecDepth 20000 in
theorem gW_X6_word_l : GoodIn wsL_law ([.fieldLink RX6 25 "BlockCard" "secret" "LBlockCard$Letters;", .methodLink RX6 86 yX1_length, .instanceMethod yX1_length, .selects RX1 yX1_length yX1_length, .initialized RX1, .code yX1_length cX1_length 1 (some .int), .fieldLink RX1 21 "BlockCard$Letters" "length" "I", .methodLink RX6 172 yX1_at, .instanceMethod yX1_at, .selects RX1 yX1_at yX1_at, .code yX1_at cX1_at 2 (some .int), .fieldLink RX1 15 "BlockCard$Letters" "signs" "[I"] : List Cond) := goodIn_r _ [20, 213, 214, 215, 18, 216, 92, 801, 530, 531, 532, 53] (by decide +kernel) (by decide +kernel)
set_option maxRecDepth 20000 in
theorem ggL_law_X6_word : GoodIn wsL_law wsX6_word := goodIn_app (a := [.code yX6_word cX6_word 2 (some .int)]) (goodIn_r _ [800] (by decide +kernel) (by decide +kernel)) (goodIn_app (goodIn_app (gW_X6_word_l) gW_X60) gW_X10)
set_option maxRecDepth 20000 in
theorem gL_law_X6_word : GoodIn wsL_law (wsV RL 78 RX6 yX6_word wsX6_word) := goodIn_app (goodIn_of _ (by decide +kernel)) ggL_law_X6_word
set_option maxRecDepth 20000 in
theorem gW_X7_word_l : GoodIn wsL_law ([.fieldLink RX7 71 "BlockCardModel" "wordLong" "I", .fieldLink RX7 19 "BlockCardModel" "word" "[I"] : List Cond) := goodIn_r _ [165, 145] (by decide +kernel) (by decide +kernel)
set_option maxRecDepth 20000 in
theorem ggL_law_X7_word : GoodIn wsL_law wsX7_word := goodIn_app (a := [.code yX7_word cX7_word 2 (some .int)]) (goodIn_r _ [805] (by decide +kernel) (by decide +kernel)) (goodIn_app (gW_X7_word_l) gW_X70)
set_option maxRecDepth 20000 in
theorem gL_law_X7_word : GoodIn wsL_law (wsV RL 81 RX7 yX7_word wsX7_word) := goodIn_app (goodIn_of _ (by decide +kernel)) ggL_law_X7_word
set_option maxRecDepth 20000 in
theorem gW_X6_later_l : GoodIn wsL_law ([.fieldLink RX6 31 "BlockCard" "queue" "LBlockCard$Queue;", .methodLink RX6 60 yX6_isOutside, .static yX6_isOutside, .initialized RX6, .code yX6_isOutside cX6_isOutside 3 (some .boolean), .methodLink RX6 175 yX4_size, .instanceMethod yX4_size, .selects RX4 yX4_size yX4_size, .initialized RX4, .code yX4_size cX4_size 1 (some .int), .fieldLink RX4 18 "BlockCard$Queue" "size" "I", .methodLink RX6 178 yX4_tellOf, .instanceMethod yX4_tellOf, .selects RX4 yX4_tellOf yX4_tellOf, .code yX4_tellOf cX4_tellOf 3 (some .int), .fieldLink RX4 9 "BlockCard$Queue" "places" "[I", .fieldLink RX4 15 "BlockCard$Queue" "contents" "[I", .fieldLink RX4 22 "BlockCard$Queue" "ticksOfFirst" "I"] : List Cond) := goodIn_r _ [24, 197, 198, 2, 199, 461, 462, 463, 23, 464, 113, 225, 226, 227, 228, 57, 58, 114] (by decide +kernel) (by decide +kernel)
set_option maxRecDepth 20000 in
theorem ggL_law_X6_later : GoodIn wsL_law wsX6_later := goodIn_app (a := [.code yX6_later cX6_later 3 (some .int)]) (goodIn_r _ [809] (by decide +kernel) (by decide +kernel)) (goodIn_app (goodIn_app (gW_X6_later_l) gW_X60) gW_X40)
set_option maxRecDepth 20000 in
theorem gL_law_X6_later : GoodIn wsL_law (wsV RL 82 RX6 yX6_later wsX6_later) := goodIn_app (goodIn_of _ (by decide +kernel)) ggL_law_X6_later
set_option maxRecDepth 20000 in
theorem gW_X7_later_l : GoodIn wsL_law ([.constantLong RX7 261 (2), .fieldLink RX7 106 "BlockCardModel" "laterMany" "I", .fieldLink RX7 25 "BlockCardModel" "laterBlock" "[I", .fieldLink RX7 28 "BlockCardModel" "laterContent" "[I", .fieldLink RX7 31 "BlockCardModel" "laterTicks" "[I", .methodLink RX7 42 yX7_in, .static yX7_in, .initialized RX7, .code yX7_in cX7_in 6 (some .boolean)] : List Cond) := goodIn_r _ [784, 183, 147, 148, 149, 169, 170, 5, 171] (by decide +kernel) (by decide +kernel)
set_option maxRecDepth 20000 in
theorem ggL_law_X7_later : GoodIn wsL_law wsX7_later := goodIn_app (a := [.code yX7_later cX7_later 3 (some .int)]) (goodIn_r _ [813] (by decide +kernel) (by decide +kernel)) (goodIn_app (gW_X7_later_l) gW_X70)
set_option maxRecDepth 20000 in
theorem gL_law_X7_later : GoodIn wsL_law (wsV RL 85 RX7 yX7_later wsX7_later) := goodIn_app (goodIn_of _ (by decide +kernel)) ggL_law_X7_later
set_option maxRecDepth 20000 in
theorem gW_X6_count_r1 : GoodIn wsL_law wsX6_count_r1 := goodIn_r _ [15, 97, 98, 36, 101, 99, 74, 28, 75, 278, 19, 32, 555, 556, 557, 14, 558, 84, 818, 819, 820, 821, 85, 205] (by decide +kernel) (by decide +kernel)
set_option maxRecDepth 20000 in
theorem gW_X6_count_r2 : GoodIn wsL_law wsX6_count_r2 := goodIn_r _ [206, 207, 2, 208, 412, 413, 414, 35, 415, 106, 408, 409, 410, 411, 107, 822, 823, 824, 825, 108, 397, 398, 399, 509] (by decide +kernel) (by decide +kernel)
