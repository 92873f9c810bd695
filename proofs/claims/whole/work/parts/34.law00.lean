set_option maxRecDepth 20000 in
theorem gW_X00 : GoodIn wsL_law wsX00 := goodIn_r _ [927, 928, 929, 930, 931, 932] (by decide +kernel) (by decide +kernel)
set_option maxRecDepth 20000 in
theorem gW_X10 : GoodIn wsL_law wsX10 := goodIn_r _ [921, 922] (by decide +kernel) (by decide +kernel)
set_option maxRecDepth 20000 in
theorem gW_X20 : GoodIn wsL_law wsX20 := goodIn_r _ [938, 939, 940] (by decide +kernel) (by decide +kernel)
set_option maxRecDepth 20000 in
theorem gW_X30 : GoodIn wsL_law wsX30 := goodIn_r _ [915, 916, 917, 918, 919, 920] (by decide +kernel) (by decide +kernel)
set_option maxRecDepth 20000 in
theorem gW_X40 : GoodIn wsL_law wsX40 := goodIn_r _ [923, 924, 925, 926] (by decide +kernel) (by decide +kernel)
set_option maxRecDepth 20000 in
theorem gW_X50 : GoodIn wsL_law wsX50 := goodIn_r _ [933, 934, 935, 936, 937] (by decide +kernel) (by decide +kernel)
set_option maxRecDepth 20000 in
theorem gW_X60 : GoodIn wsL_law wsX60 := goodIn_r _ [860, 861, 862, 863, 864, 865, 866, 867, 868, 869, 870, 871, 872, 873, 874, 875, 876] (by decide +kernel) (by decide +kernel)
set_option maxRecDepth 20000 in
theorem gW_X70 : GoodIn wsL_law wsX70 := goodIn_r _ [877, 878, 879, 880, 881, 882, 883, 884, 885, 886, 887, 888, 889, 890, 891, 892, 893, 894, 895, 896, 897, 898, 899, 900, 901, 902, 903, 904, 905, 906, 907, 908, 909, 910, 911, 912, 913, 914] (by decide +kernel) (by decide +kernel)
set_option maxRecDepth 20000 in
theorem gW_X6_init_r1 : GoodIn wsL_law wsX6_init_r1 := goodIn_r _ [9, 10, 11, 12, 13, 14, 15, 16, 17, 18, 19, 20, 21, 22, 23, 24, 25, 26, 27, 28, 29, 30, 31, 32] (by decide +kernel) (by decide +kernel)
set_option maxRecDepth 20000 in
theorem gW_X6_init_r2 : GoodIn wsL_law wsX6_init_r2 := goodIn_r _ [33, 34, 35, 36, 37, 38, 39, 40, 41, 42, 43, 44, 45, 46, 47, 48, 49, 50, 51, 52, 53, 54, 55, 56] (by decide +kernel) (by decide +kernel)
set_option maxRecDepth 20000 in
theorem gW_X6_init_r3 : GoodIn wsL_law wsX6_init_r3 := goodIn_r _ [57, 58, 59, 60, 61, 62, 63, 64, 65, 66, 67, 68, 69, 70, 2, 71, 72, 73, 74, 75, 76, 77, 78, 79] (by decide +kernel) (by decide +kernel)
set_option maxRecDepth 20000 in
theorem gW_X6_init_r4 : GoodIn wsL_law wsX6_init_r4 := goodIn_r _ [80, 81, 82, 83, 84, 85, 86, 87, 88, 89, 90, 91, 92, 93, 94, 95, 96, 97, 98, 99, 100, 101, 102, 103] (by decide +kernel) (by decide +kernel)
set_option maxRecDepth 20000 in
theorem gW_X6_init_r5 : GoodIn wsL_law wsX6_init_r5 := goodIn_r _ [104, 105, 106, 107, 108, 109, 110, 111, 112, 113, 114, 115, 116, 117, 118, 119, 120, 121, 122, 123, 124, 125, 126, 127] (by decide +kernel) (by decide +kernel)
set_option maxRecDepth 20000 in
theorem gW_X6_init_r6 : GoodIn wsL_law wsX6_init_r6 := goodIn_r _ [128, 129, 130, 131, 132, 133, 134, 135, 136, 137] (by decide +kernel) (by decide +kernel)
set_option maxRecDepth 20000 in
theorem ggL_law_X6_init : GoodIn wsL_law wsX6_init := goodIn_app (a := [.code yX6_init cX6_init 1 none]) (goodIn_r _ [8] (by decide +kernel) (by decide +kernel)) (goodIn_app (goodIn_app (goodIn_app (goodIn_app (goodIn_app (goodIn_app (goodIn_app (goodIn_app gW_X6_init_r1 (goodIn_app gW_X6_init_r2 (goodIn_app gW_X6_init_r3 (goodIn_app gW_X6_init_r4 (goodIn_app gW_X6_init_r5 (gW_X6_init_r6)))))) gW_X30) gW_X60) gW_X10) gW_X40) gW_X00) gW_X50) gW_X20)
set_option maxRecDepth 20000 in
theorem gL_law_X6_init : GoodIn wsL_law (wsX6_init) := ggL_law_X6_init
set_option maxRecDepth 20000 in
theorem gW_X7_init_r1 : GoodIn wsL_law wsX7_init_r1 := goodIn_r _ [141, 10, 11, 40, 142, 143, 144, 145, 146, 147, 148, 149, 150, 151, 152, 5, 153, 154, 155, 156, 157, 158, 159, 160] (by decide +kernel) (by decide +kernel)
set_option maxRecDepth 20000 in
theorem gW_X7_init_r2 : GoodIn wsL_law wsX7_init_r2 := goodIn_r _ [161, 162, 163, 164, 165, 166, 167, 168, 169, 170, 171, 172, 173, 174, 175, 176, 177, 178, 179, 180, 181, 182, 183, 184] (by decide +kernel) (by decide +kernel)
set_option maxRecDepth 20000 in
theorem gW_X7_init_r3 : GoodIn wsL_law wsX7_init_r3 := goodIn_r _ [185, 186, 187, 188, 189, 190, 191] (by decide +kernel) (by decide +kernel)
set_option maxRecDepth 20000 in
theorem ggL_law_X7_init : GoodIn wsL_law wsX7_init := goodIn_app (a := [.code yX7_init cX7_init 1 none]) (goodIn_r _ [140] (by decide +kernel) (by decide +kernel)) (goodIn_app (goodIn_app gW_X7_init_r1 (goodIn_app gW_X7_init_r2 (gW_X7_init_r3))) gW_X70)
set_option maxRecDepth 20000 in
theorem gL_law_X7_init : GoodIn wsL_law (wsX7_init) := ggL_law_X7_init
set_option maxRecDepth 20000 in
theorem gW_X6_make_r1 : GoodIn wsL_law wsX6_make_r1 := goodIn_r _ [196, 197, 198, 2, 199, 68, 69, 70, 71, 72, 73, 15, 20, 74, 75, 76, 77, 78, 14, 79, 80, 81, 51, 82] (by decide +kernel) (by decide +kernel)
set_option maxRecDepth 20000 in
theorem gW_X6_make_r2 : GoodIn wsL_law wsX6_make_r2 := goodIn_r _ [83, 50, 52, 84, 85, 86, 41, 87, 43, 88, 89, 90, 18, 91, 92, 93, 94, 95, 96, 97, 98, 99, 100, 101] (by decide +kernel) (by decide +kernel)
set_option maxRecDepth 20000 in
theorem gW_X6_make_r3 : GoodIn wsL_law wsX6_make_r3 := goodIn_r _ [36, 24, 28, 32, 102, 103, 104, 35, 105, 106, 107, 108, 109, 110, 111, 23, 112, 113, 114, 115, 116, 117, 27, 118] (by decide +kernel) (by decide +kernel)
set_option maxRecDepth 20000 in
theorem gW_X6_make_r4 : GoodIn wsL_law wsX6_make_r4 := goodIn_r _ [119, 120, 121, 122, 123, 124, 125, 126, 127, 128, 129, 130, 131, 31, 132, 133, 134, 135, 136, 137] (by decide +kernel) (by decide +kernel)
set_option maxRecDepth 20000 in
theorem ggL_law_X6_make : GoodIn wsL_law wsX6_make := goodIn_app (a := [.code yX6_make cX6_make 5 (some .int)]) (goodIn_r _ [195] (by decide +kernel) (by decide +kernel)) (goodIn_app (goodIn_app (goodIn_app (goodIn_app (goodIn_app (goodIn_app (goodIn_app (goodIn_app gW_X6_make_r1 (goodIn_app gW_X6_make_r2 (goodIn_app gW_X6_make_r3 (gW_X6_make_r4)))) gW_X60) gW_X30) gW_X10) gW_X20) gW_X40) gW_X00) gW_X50)
set_option maxRecDepth 20000 in
theorem gL_law_X6_make : GoodIn wsL_law (wsV RL 13 RX6 yX6_make wsX6_make) := goodIn_app (goodIn_of _ (by decide +kernel)) ggL_law_X6_make
set_option maxRecDepth 20000 in
theorem gW_X7_make_r1 : GoodIn wsL_law wsX7_make_r1 := goodIn_r _ [154, 155, 156, 157, 158, 159, 160, 161, 162, 163, 164, 165, 166, 143, 167, 144, 168, 169, 170, 5, 171, 172, 173, 174] (by decide +kernel) (by decide +kernel)
set_option maxRecDepth 20000 in
theorem gW_X7_make_r2 : GoodIn wsL_law wsX7_make_r2 := goodIn_r _ [175, 176, 177, 178, 179, 180, 181, 182, 183, 184, 185, 186, 187, 188, 189, 190, 191] (by decide +kernel) (by decide +kernel)
set_option maxRecDepth 20000 in
theorem ggL_law_X7_make : GoodIn wsL_law wsX7_make := goodIn_app (a := [.code yX7_make cX7_make 6 (some .int)]) (goodIn_r _ [153] (by decide +kernel) (by decide +kernel)) (goodIn_app (goodIn_app gW_X7_make_r1 (gW_X7_make_r2)) gW_X70)
set_option maxRecDepth 20000 in
theorem gL_law_X7_make : GoodIn wsL_law (wsV RL 17 RX7 yX7_make wsX7_make) := goodIn_app (goodIn_of _ (by decide +kernel)) ggL_law_X7_make
