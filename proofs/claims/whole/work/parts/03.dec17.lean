set_option maxRecDepth 20000 in
theorem ggL_law_X6_latest : GoodIn wsL_law wsX6_latest := goodIn_r _ [788, 15, 789, 790, 791, 14, 792, 86, 44, 860, 861, 862, 863, 864, 865, 866, 867, 868, 869, 870, 871, 872, 873, 874, 875, 876, 915, 916, 917, 918, 919, 920] (by decide +kernel) (by decide +kernel)
set_option maxRecDepth 20000 in
theorem gL_law_X6_latest : GoodIn wsL_law (wsV RL 74 RX6 yX6_latest wsX6_latest) := goodIn_app (goodIn_of _ (by decide +kernel)) ggL_law_X6_latest
set_option maxRecDepth 20000 in
theorem ggL_law_X7_latest : GoodIn wsL_law wsX7_latest := goodIn_r _ [796, 166, 146, 877, 878, 879, 880, 881, 882, 883, 884, 885, 886, 887, 888, 889, 890, 891, 892, 893, 894, 895, 896, 897, 898, 899, 900, 901, 902, 903, 904, 905, 906, 907, 908, 909, 910, 911, 912, 913, 914] (by decide +kernel) (by decide +kernel)
set_option maxRecDepth 20000 in
theorem gL_law_X7_latest : GoodIn wsL_law (wsV RL 77 RX7 yX7_latest wsX7_latest) := goodIn_app (goodIn_of _ (by decide +kernel)) ggL_law_X7_latest
set_option maxRecDepth 20000 in
theorem ggL_law_X6_word : GoodIn wsL_law wsX6_word := goodIn_r _ [800, 20, 213, 214, 215, 18, 216, 92, 801, 530, 531, 532, 53, 860, 861, 862, 863, 864, 865, 866, 867, 868, 869, 870, 871, 872, 873, 874, 875, 876, 921, 922] (by decide +kernel) (by decide +kernel)
set_option maxRecDepth 20000 in
theorem gL_law_X6_word : GoodIn wsL_law (wsV RL 78 RX6 yX6_word wsX6_word) := goodIn_app (goodIn_of _ (by decide +kernel)) ggL_law_X6_word
