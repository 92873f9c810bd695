set_option maxRecDepth 20000 in
theorem gW_X7_tell_r1 : GoodIn wsL_law wsX7_tell_r1 := goodIn_r _ [326, 158, 169, 170, 5, 171, 564, 323, 324, 325, 327, 328, 329, 330, 648, 560, 561, 562, 563, 168, 182, 181, 188, 565] (by decide +kernel) (by decide +kernel)
set_option maxRecDepth 20000 in
theorem gW_X7_tell_r2 : GoodIn wsL_law wsX7_tell_r2 := goodIn_r _ [566, 567, 568, 176, 569, 570, 571, 572, 573, 574, 575, 576, 577, 187, 161, 162, 177, 179, 178, 257, 258, 259, 260, 183] (by decide +kernel) (by decide +kernel)
set_option maxRecDepth 20000 in
theorem gW_X7_tell_r3 : GoodIn wsL_law wsX7_tell_r3 := goodIn_r _ [149, 147, 184, 185, 261, 262, 263, 264, 265, 143, 167, 144, 266, 267, 268, 269, 166, 146, 270, 271, 272, 273, 160, 159] (by decide +kernel) (by decide +kernel)
set_option maxRecDepth 20000 in
theorem gW_X7_tell_r4 : GoodIn wsL_law wsX7_tell_r4 := goodIn_r _ [172, 173, 174, 175, 180, 165, 186, 189, 190, 191, 578, 579, 580, 581, 582, 583, 584, 585, 586, 587, 588, 589, 590, 591] (by decide +kernel) (by decide +kernel)
set_option maxRecDepth 20000 in
theorem gW_X7_tell_r5 : GoodIn wsL_law wsX7_tell_r5 := goodIn_r _ [592, 593, 594, 595, 596, 597, 164, 598, 599, 600, 601, 284, 602, 603, 604, 605, 606, 607, 608, 609, 610, 611, 612, 613] (by decide +kernel) (by decide +kernel)
set_option maxRecDepth 20000 in
theorem gW_X7_tell_r6 : GoodIn wsL_law wsX7_tell_r6 := goodIn_r _ [614, 615, 616, 617, 618, 619, 620, 621, 622, 623, 624, 625, 626, 627, 628, 629, 630, 631, 299, 142, 145, 632, 633, 634] (by decide +kernel) (by decide +kernel)
set_option maxRecDepth 20000 in
theorem gW_X7_tell_r7 : GoodIn wsL_law wsX7_tell_r7 := goodIn_r _ [635, 636, 637, 638, 639] (by decide +kernel) (by decide +kernel)
set_option maxRecDepth 20000 in
theorem ggL_law_X7_tell : GoodIn wsL_law wsX7_tell := goodIn_app (a := [.code yX7_tell cX7_tell 3 (some .int)]) (goodIn_r _ [647] (by decide +kernel) (by decide +kernel)) (goodIn_app (goodIn_app gW_X7_tell_r1 (goodIn_app gW_X7_tell_r2 (goodIn_app gW_X7_tell_r3 (goodIn_app gW_X7_tell_r4 (goodIn_app gW_X7_tell_r5 (goodIn_app gW_X7_tell_r6 (gW_X7_tell_r7))))))) gW_X70)
set_option maxRecDepth 20000 in
theorem gL_law_X7_tell : GoodIn wsL_law (wsV RL 53 RX7 yX7_tell wsX7_tell) := goodIn_app (goodIn_of _ (by decide +kernel)) ggL_law_X7_tell
set_option maxRecDepth 20000 in
theorem gW_X6_give_r1 : GoodIn wsL_law wsX6_give_r1 := goodIn_r _ [196, 97, 32, 15, 24, 36, 278, 197, 198, 2, 199, 653, 654, 655, 31, 656, 137, 657, 658, 659, 660, 136, 135, 661] (by decide +kernel) (by decide +kernel)
set_option maxRecDepth 20000 in
theorem gW_X6_give_r2 : GoodIn wsL_law wsX6_give_r2 := goodIn_r _ [662, 663, 664, 134, 445, 446, 447, 14, 448, 84, 449, 450, 451, 452, 350, 351, 352, 353, 99, 665, 666, 667, 23, 668] (by decide +kernel) (by decide +kernel)
set_option maxRecDepth 20000 in
theorem gW_X6_give_r3 : GoodIn wsL_law wsX6_give_r3 := goodIn_r _ [113, 424, 425, 426, 35, 427, 107, 108, 428, 81, 51, 82, 429, 430, 51, 432, 335, 336, 337, 319, 320, 321, 669, 670] (by decide +kernel) (by decide +kernel)
set_option maxRecDepth 20000 in
theorem gW_X6_give_r4 : GoodIn wsL_law wsX6_give_r4 := goodIn_r _ [671, 672, 673, 674, 675, 676, 57, 58, 677, 678, 679, 680] (by decide +kernel) (by decide +kernel)
set_option maxRecDepth 20000 in
theorem ggL_law_X6_give : GoodIn wsL_law wsX6_give := goodIn_app (a := [.code yX6_give cX6_give 3 (some .int)]) (goodIn_r _ [652] (by decide +kernel) (by decide +kernel)) (goodIn_app (goodIn_app (goodIn_app (goodIn_app (goodIn_app (goodIn_app gW_X6_give_r1 (goodIn_app gW_X6_give_r2 (goodIn_app gW_X6_give_r3 (gW_X6_give_r4)))) gW_X60) gW_X50) gW_X30) gW_X40) gW_X20)
set_option maxRecDepth 20000 in
theorem gL_law_X6_give : GoodIn wsL_law (wsV RL 54 RX6 yX6_give wsX6_give) := goodIn_app (goodIn_of _ (by decide +kernel)) ggL_law_X6_give
set_option maxRecDepth 20000 in
theorem gW_X7_give_r1 : GoodIn wsL_law wsX7_give_r1 := goodIn_r _ [158, 563, 168, 176, 191, 190, 189, 159, 183, 182, 147, 148, 149, 169, 170, 5, 171, 606, 607, 608, 609, 598, 599, 600] (by decide +kernel) (by decide +kernel)
set_option maxRecDepth 20000 in
theorem gW_X7_give_r2 : GoodIn wsL_law wsX7_give_r2 := goodIn_r _ [601, 180, 179, 284, 685, 339, 340, 341, 328, 329, 330] (by decide +kernel) (by decide +kernel)
set_option maxRecDepth 20000 in
theorem ggL_law_X7_give : GoodIn wsL_law wsX7_give := goodIn_app (a := [.code yX7_give cX7_give 3 (some .int)]) (goodIn_r _ [684] (by decide +kernel) (by decide +kernel)) (goodIn_app (goodIn_app gW_X7_give_r1 (gW_X7_give_r2)) gW_X70)
set_option maxRecDepth 20000 in
theorem gL_law_X7_give : GoodIn wsL_law (wsV RL 57 RX7 yX7_give wsX7_give) := goodIn_app (goodIn_of _ (by decide +kernel)) ggL_law_X7_give
set_option maxRecDepth 20000 in
theorem gW_X6_get_r1 : GoodIn wsL_law wsX6_get_r1 := goodIn_r _ [97, 32, 36, 278, 15, 661, 662, 663, 31, 664, 134, 424, 425, 426, 35, 427, 107, 108, 428, 81, 51, 82, 429, 430] (by decide +kernel) (by decide +kernel)
set_option maxRecDepth 20000 in
theorem gW_X6_get_r2 : GoodIn wsL_law wsX6_get_r2 := goodIn_r _ [51, 432, 690, 691, 692, 14, 693, 43, 694, 446, 447, 448, 84, 677, 678, 679, 680, 135, 657, 658, 659, 660, 136, 445] (by decide +kernel) (by decide +kernel)
set_option maxRecDepth 20000 in
theorem gW_X6_get_r3 : GoodIn wsL_law wsX6_get_r3 := goodIn_r _ [695, 696, 697, 698, 41, 87] (by decide +kernel) (by decide +kernel)
set_option maxRecDepth 20000 in
theorem ggL_law_X6_get : GoodIn wsL_law wsX6_get := goodIn_app (a := [.code yX6_get cX6_get 2 (some .int)]) (goodIn_r _ [689] (by decide +kernel) (by decide +kernel)) (goodIn_app (goodIn_app (goodIn_app (goodIn_app (goodIn_app gW_X6_get_r1 (goodIn_app gW_X6_get_r2 (gW_X6_get_r3))) gW_X60) gW_X50) gW_X20) gW_X30)
set_option maxRecDepth 20000 in
theorem gL_law_X6_get : GoodIn wsL_law (wsV RL 58 RX6 yX6_get wsX6_get) := goodIn_app (goodIn_of _ (by decide +kernel)) ggL_law_X6_get
set_option maxRecDepth 20000 in
theorem gW_X7_get_l : GoodIn wsL_law ([.fieldLink RX7 78 "BlockCardModel" "isOn" "Z", .fieldLink RX7 85 "BlockCardModel" "state" "I", .fieldLink RX7 16 "BlockCardModel" "torn" "[I", .fieldLink RX7 124 "BlockCardModel" "next" "I", .fieldLink RX7 13 "BlockCardModel" "content" "[I", .fieldLink RX7 127 "BlockCardModel" "left" "I", .fieldLink RX7 52 "BlockCardModel" "blocks" "I", .methodLink RX7 212 yX7_isInWindow, .instanceMethod yX7_isInWindow, .selects RX7 yX7_isInWindow yX7_isInWindow, .initialized RX7, .code yX7_isInWindow cX7_isInWindow 3 (some .boolean), .fieldLink RX7 97 "BlockCardModel" "point" "I", .fieldLink RX7 94 "BlockCardModel" "speed" "I", .fieldLink RX7 152 "BlockCardModel" "heat" "I"] : List Cond) := goodIn_r _ [168, 176, 144, 189, 143, 190, 159, 598, 599, 600, 5, 601, 180, 179, 284] (by decide +kernel) (by decide +kernel)
set_option maxRecDepth 20000 in
theorem ggL_law_X7_get : GoodIn wsL_law wsX7_get := goodIn_app (a := [.code yX7_get cX7_get 2 (some .int)]) (goodIn_r _ [702] (by decide +kernel) (by decide +kernel)) (goodIn_app (gW_X7_get_l) gW_X70)
set_option maxRecDepth 20000 in
theorem gL_law_X7_get : GoodIn wsL_law (wsV RL 61 RX7 yX7_get wsX7_get) := goodIn_app (goodIn_of _ (by decide +kernel)) ggL_law_X7_get
set_option maxRecDepth 20000 in
theorem gW_X6_tick_r1 : GoodIn wsL_law wsX6_tick_r1 := goodIn_r _ [75, 197, 198, 2, 199, 707, 708, 709, 710, 97, 24, 28, 461, 462, 463, 23, 464, 113, 711, 712, 713, 714, 36, 15] (by decide +kernel) (by decide +kernel)
set_option maxRecDepth 20000 in
theorem gW_X6_tick_r2 : GoodIn wsL_law wsX6_tick_r2 := goodIn_r _ [74, 715, 716, 717, 718, 114, 225, 226, 227, 228, 57, 58, 719, 720, 721, 35, 722, 106, 723, 724, 725, 14, 726, 41] (by decide +kernel) (by decide +kernel)
