set_option maxRecDepth 20000 in
theorem gW_X6_count_r3 : GoodIn wsL_law wsX6_count_r3 := goodIn_r _ [510, 511, 27, 512, 120, 826, 827, 828, 829, 830, 691, 692, 693, 43, 694, 446, 447, 448, 213, 214, 215, 18, 216, 92] (by decide +kernel) (by decide +kernel)
set_option maxRecDepth 20000 in
theorem gW_X6_count_r4 : GoodIn wsL_law wsX6_count_r4 := goodIn_r _ [831, 832, 833, 834, 661, 662, 663, 31, 664, 134, 445, 835, 836, 837, 838, 136, 839, 840, 841, 842, 135, 843, 844, 845] (by decide +kernel) (by decide +kernel)
set_option maxRecDepth 20000 in
theorem gW_X6_count_r5 : GoodIn wsL_law wsX6_count_r5 := goodIn_r _ [846, 87, 847, 696, 697, 698, 41, 424, 425, 426, 427, 428, 81, 51, 82, 429, 430, 51, 432] (by decide +kernel) (by decide +kernel)
set_option maxRecDepth 20000 in
theorem ggL_law_X6_count : GoodIn wsL_law wsX6_count := goodIn_app (a := [.code yX6_count cX6_count 2 (some .int)]) (goodIn_r _ [817] (by decide +kernel) (by decide +kernel)) (goodIn_app (goodIn_app (goodIn_app (goodIn_app (goodIn_app (goodIn_app (goodIn_app gW_X6_count_r1 (goodIn_app gW_X6_count_r2 (goodIn_app gW_X6_count_r3 (goodIn_app gW_X6_count_r4 (gW_X6_count_r5))))) gW_X60) gW_X30) gW_X20) gW_X00) gW_X10) gW_X50)
set_option maxRecDepth 20000 in
theorem gL_law_X6_count : GoodIn wsL_law (wsV RL 86 RX6 yX6_count wsX6_count) := goodIn_app (goodIn_of _ (by decide +kernel)) ggL_law_X6_count
set_option maxRecDepth 20000 in
theorem gW_X7_count_r1 : GoodIn wsL_law wsX7_count_r1 := goodIn_r _ [168, 176, 159, 160, 164, 163, 284, 299, 189, 190, 852, 853, 854, 5, 855, 177, 178, 179, 180, 181, 182, 184, 856, 857] (by decide +kernel) (by decide +kernel)
set_option maxRecDepth 20000 in
theorem gW_X7_count_r2 : GoodIn wsL_law wsX7_count_r2 := goodIn_r _ [858, 859, 144, 143, 167, 598, 599, 600, 601] (by decide +kernel) (by decide +kernel)
set_option maxRecDepth 20000 in
theorem ggL_law_X7_count : GoodIn wsL_law wsX7_count := goodIn_app (a := [.code yX7_count cX7_count 3 (some .int)]) (goodIn_r _ [851] (by decide +kernel) (by decide +kernel)) (goodIn_app (goodIn_app gW_X7_count_r1 (gW_X7_count_r2)) gW_X70)
set_option maxRecDepth 20000 in
theorem gL_law_X7_count : GoodIn wsL_law (wsV RL 89 RX7 yX7_count wsX7_count) := goodIn_app (goodIn_of _ (by decide +kernel)) ggL_law_X7_count
