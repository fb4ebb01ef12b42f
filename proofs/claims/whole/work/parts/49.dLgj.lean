set_option maxRecDepth 20000 in
theorem ggL_law_X6_seed : GoodIn wsL_law wsX6_seed := goodIn_r _ [854, 119, 20, 377, 855, 885, 886, 887, 888, 889, 890, 891, 942, 943, 944, 945, 946, 947, 948, 949, 950, 951, 952, 953] (by decide +kernel) (by decide +kernel)
set_option maxRecDepth 20000 in
theorem gL_law_X6_seed : GoodIn wsL_law (wsV RL 126 RX6 yX6_seed wsX6_seed) := goodIn_app (goodIn_of _ (by decide +kernel)) ggL_law_X6_seed
set_option maxRecDepth 20000 in
theorem ggL_law_X7_seed : GoodIn wsL_law wsX7_seed := goodIn_r _ [859, 133, 617, 892, 893, 894, 895, 896, 897, 898, 899, 900, 901, 902, 903, 904, 905, 906, 907, 908, 909, 910, 911, 912, 913, 914, 915, 916, 917, 918, 919, 920, 921, 922, 923, 924, 925, 926, 927, 928, 929, 930, 931, 932, 933, 934, 935] (by decide +kernel) (by decide +kernel)
set_option maxRecDepth 20000 in
theorem gL_law_X7_seed : GoodIn wsL_law (wsV RL 129 RX7 yX7_seed wsX7_seed) := goodIn_app (goodIn_of _ (by decide +kernel)) ggL_law_X7_seed
set_option maxRecDepth 20000 in
theorem ggL_law_X6_keep : GoodIn wsL_law wsX6_keep := goodIn_r _ [863, 398, 22, 20, 377, 26, 864, 865, 2, 866, 867, 868, 869, 24, 870, 69, 871, 597, 872, 295, 296, 297, 283, 65, 66, 67, 68, 885, 886, 887, 888, 889, 890, 891, 942, 943, 944, 945, 946, 947, 948, 949, 950, 951, 952, 953] (by decide +kernel) (by decide +kernel)
set_option maxRecDepth 20000 in
theorem gL_law_X6_keep : GoodIn wsL_law (wsV RL 130 RX6 yX6_keep wsX6_keep) := goodIn_app (goodIn_of _ (by decide +kernel)) ggL_law_X6_keep
set_option maxRecDepth 20000 in
theorem ggL_law_X7_keep : GoodIn wsL_law wsX7_keep := goodIn_r _ [876, 433, 112, 92, 93, 94, 90, 91, 307, 389, 617, 113, 137, 138, 5, 139, 892, 893, 894, 895, 896, 897, 898, 899, 900, 901, 902, 903, 904, 905, 906, 907, 908, 909, 910, 911, 912, 913, 914, 915, 916, 917, 918, 919, 920, 921, 922, 923, 924, 925, 926, 927, 928, 929, 930, 931, 932, 933, 934, 935] (by decide +kernel) (by decide +kernel)
set_option maxRecDepth 20000 in
theorem gL_law_X7_keep : GoodIn wsL_law (wsV RL 133 RX7 yX7_keep wsX7_keep) := goodIn_app (goodIn_of _ (by decide +kernel)) ggL_law_X7_keep
set_option maxRecDepth 20000 in
theorem ggL_law_X6_goBack : GoodIn wsL_law wsX6_goBack := goodIn_r _ [880, 398, 26, 527, 20, 377, 22, 864, 865, 2, 866, 867, 868, 869, 24, 870, 69, 871, 597, 872, 295, 296, 297, 283, 65, 66, 67, 68, 885, 886, 887, 888, 889, 890, 891, 942, 943, 944, 945, 946, 947, 948, 949, 950, 951, 952, 953] (by decide +kernel) (by decide +kernel)
set_option maxRecDepth 20000 in
theorem gL_law_X6_goBack : GoodIn wsL_law (wsV RL 134 RX6 yX6_goBack wsX6_goBack) := goodIn_app (goodIn_of _ (by decide +kernel)) ggL_law_X6_goBack
set_option maxRecDepth 20000 in
theorem ggL_law_X7_goBack : GoodIn wsL_law wsX7_goBack := goodIn_r _ [884, 433, 113, 556, 92, 112, 93, 94, 90, 91, 307, 389, 617, 137, 138, 5, 139, 892, 893, 894, 895, 896, 897, 898, 899, 900, 901, 902, 903, 904, 905, 906, 907, 908, 909, 910, 911, 912, 913, 914, 915, 916, 917, 918, 919, 920, 921, 922, 923, 924, 925, 926, 927, 928, 929, 930, 931, 932, 933, 934, 935] (by decide +kernel) (by decide +kernel)
set_option maxRecDepth 20000 in
theorem gL_law_X7_goBack : GoodIn wsL_law (wsV RL 137 RX7 yX7_goBack wsX7_goBack) := goodIn_app (goodIn_of _ (by decide +kernel)) ggL_law_X7_goBack
