set_option maxRecDepth 20000 in
theorem ggL_law_X7_word : GoodIn wsL_law wsX7_word := goodIn_r _ [805, 165, 145, 877, 878, 879, 880, 881, 882, 883, 884, 885, 886, 887, 888, 889, 890, 891, 892, 893, 894, 895, 896, 897, 898, 899, 900, 901, 902, 903, 904, 905, 906, 907, 908, 909, 910, 911, 912, 913, 914] (by decide +kernel) (by decide +kernel)
set_option maxRecDepth 20000 in
theorem gL_law_X7_word : GoodIn wsL_law (wsV RL 81 RX7 yX7_word wsX7_word) := goodIn_app (goodIn_of _ (by decide +kernel)) ggL_law_X7_word
set_option maxRecDepth 20000 in
theorem ggL_law_X6_later : GoodIn wsL_law wsX6_later := goodIn_r _ [809, 24, 197, 198, 2, 199, 461, 462, 463, 23, 464, 113, 225, 226, 227, 228, 57, 58, 114, 860, 861, 862, 863, 864, 865, 866, 867, 868, 869, 870, 871, 872, 873, 874, 875, 876, 923, 924, 925, 926] (by decide +kernel) (by decide +kernel)
set_option maxRecDepth 20000 in
theorem gL_law_X6_later : GoodIn wsL_law (wsV RL 82 RX6 yX6_later wsX6_later) := goodIn_app (goodIn_of _ (by decide +kernel)) ggL_law_X6_later
set_option maxRecDepth 20000 in
theorem ggL_law_X7_later : GoodIn wsL_law wsX7_later := goodIn_r _ [813, 784, 183, 147, 148, 149, 169, 170, 5, 171, 877, 878, 879, 880, 881, 882, 883, 884, 885, 886, 887, 888, 889, 890, 891, 892, 893, 894, 895, 896, 897, 898, 899, 900, 901, 902, 903, 904, 905, 906, 907, 908, 909, 910, 911, 912, 913, 914] (by decide +kernel) (by decide +kernel)
set_option maxRecDepth 20000 in
theorem gL_law_X7_later : GoodIn wsL_law (wsV RL 85 RX7 yX7_later wsX7_later) := goodIn_app (goodIn_of _ (by decide +kernel)) ggL_law_X7_later
