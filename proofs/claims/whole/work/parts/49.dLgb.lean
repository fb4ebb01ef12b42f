set_option maxRecDepth 20000 in
theorem ggL_law_X6_fault : GoodIn wsL_law wsX6_fault := goodIn_r _ [367, 35, 885, 886, 887, 888, 889, 890, 891] (by decide +kernel) (by decide +kernel)
set_option maxRecDepth 20000 in
theorem gL_law_X6_fault : GoodIn wsL_law (wsV RL 25 RX6 yX6_fault wsX6_fault) := goodIn_app (goodIn_of _ (by decide +kernel)) ggL_law_X6_fault
set_option maxRecDepth 20000 in
theorem ggL_law_X7_fault : GoodIn wsL_law wsX7_fault := goodIn_r _ [371, 96, 892, 893, 894, 895, 896, 897, 898, 899, 900, 901, 902, 903, 904, 905, 906, 907, 908, 909, 910, 911, 912, 913, 914, 915, 916, 917, 918, 919, 920, 921, 922, 923, 924, 925, 926, 927, 928, 929, 930, 931, 932, 933, 934, 935] (by decide +kernel) (by decide +kernel)
set_option maxRecDepth 20000 in
theorem gL_law_X7_fault : GoodIn wsL_law (wsV RL 28 RX7 yX7_fault wsX7_fault) := goodIn_app (goodIn_of _ (by decide +kernel)) ggL_law_X7_fault
set_option maxRecDepth 20000 in
theorem ggL_law_X6_told : GoodIn wsL_law wsX6_told := goodIn_r _ [375, 20, 149, 150, 376, 377, 378, 16, 120, 379, 30, 147, 34, 148, 119, 380, 381, 382, 19, 383, 49, 163, 51, 384, 885, 886, 887, 888, 889, 890, 891, 942, 943, 944, 945, 962, 963, 964, 965, 966, 967, 946, 947, 948, 949, 950, 951, 952, 953, 936, 937, 938, 939, 940, 941, 954, 955, 956, 957, 958, 959, 960, 961] (by decide +kernel) (by decide +kernel)
set_option maxRecDepth 20000 in
theorem gL_law_X6_told : GoodIn wsL_law (wsV RL 29 RX6 yX6_told wsX6_told) := goodIn_app (goodIn_of _ (by decide +kernel)) ggL_law_X6_told
set_option maxRecDepth 20000 in
theorem ggL_law_X7_told : GoodIn wsL_law wsX7_told := goodIn_r _ [388, 114, 306, 307, 134, 389, 308, 309, 133, 390, 391, 392, 5, 393, 91, 892, 893, 894, 895, 896, 897, 898, 899, 900, 901, 902, 903, 904, 905, 906, 907, 908, 909, 910, 911, 912, 913, 914, 915, 916, 917, 918, 919, 920, 921, 922, 923, 924, 925, 926, 927, 928, 929, 930, 931, 932, 933, 934, 935] (by decide +kernel) (by decide +kernel)
set_option maxRecDepth 20000 in
theorem gL_law_X7_told : GoodIn wsL_law (wsV RL 33 RX7 yX7_told wsX7_told) := goodIn_app (goodIn_of _ (by decide +kernel)) ggL_law_X7_told
set_option maxRecDepth 20000 in
theorem ggL_law_X6_stair : GoodIn wsL_law wsX6_stair := goodIn_r _ [397, 20, 149, 398, 399, 400, 401, 402, 377, 403, 404, 119, 405, 406, 407, 48, 408, 293, 409, 410, 411, 412, 61, 413, 414, 415, 416, 19, 417, 51, 164, 418, 419, 420, 421, 422, 423, 49, 424, 425, 426, 427, 2, 428, 885, 886, 887, 888, 889, 890, 891, 942, 943, 944, 945, 962, 963, 964, 965, 966, 967, 946, 947, 948, 949, 950, 951, 952, 953] (by decide +kernel) (by decide +kernel)
set_option maxRecDepth 20000 in
theorem gL_law_X6_stair : GoodIn wsL_law (wsV RL 34 RX6 yX6_stair wsX6_stair) := goodIn_app (goodIn_of _ (by decide +kernel)) ggL_law_X6_stair
set_option maxRecDepth 20000 in
theorem ggL_law_X7_stair : GoodIn wsL_law wsX7_stair := goodIn_r _ [432, 433, 86, 87, 88, 89, 90, 91, 133, 434, 435, 436, 5, 437, 306, 137, 138, 139, 438, 439, 440, 441, 307, 442, 443, 444, 445, 93, 94, 446, 447, 448, 449, 892, 893, 894, 895, 896, 897, 898, 899, 900, 901, 902, 903, 904, 905, 906, 907, 908, 909, 910, 911, 912, 913, 914, 915, 916, 917, 918, 919, 920, 921, 922, 923, 924, 925, 926, 927, 928, 929, 930, 931, 932, 933, 934, 935] (by decide +kernel) (by decide +kernel)
set_option maxRecDepth 20000 in
theorem gL_law_X7_stair : GoodIn wsL_law (wsV RL 38 RX7 yX7_stair wsX7_stair) := goodIn_app (goodIn_of _ (by decide +kernel)) ggL_law_X7_stair
