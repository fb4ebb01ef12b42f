set_option maxRecDepth 20000 in
theorem ggL_law_X6_person : GoodIn wsL_law wsX6_person := goodIn_r _ [453, 20, 377, 398, 454, 455, 456, 119, 457, 458, 459, 24, 460, 283, 461, 462, 463, 19, 464, 51, 465, 418, 419, 466, 467, 468, 469, 470, 471, 472, 473, 49, 163, 420, 421, 422, 423, 424, 425, 426, 427, 2, 428, 474, 475, 476, 477, 478, 479, 480, 481, 482, 483, 484, 485, 486, 162, 487, 488, 489, 490, 885, 886, 887, 888, 889, 890, 891, 942, 943, 944, 945, 946, 947, 948, 949, 950, 951, 952, 953, 962, 963, 964, 965, 966, 967] (by decide +kernel) (by decide +kernel)
set_option maxRecDepth 20000 in
theorem gL_law_X6_person : GoodIn wsL_law (wsV RL 39 RX6 yX6_person wsX6_person) := goodIn_app (goodIn_of _ (by decide +kernel)) ggL_law_X6_person
set_option maxRecDepth 20000 in
theorem ggL_law_X7_person : GoodIn wsL_law wsX7_person := goodIn_r _ [494, 433, 92, 93, 94, 133, 495, 496, 497, 5, 498, 307, 137, 138, 139, 499, 500, 501, 502, 503, 504, 505, 506, 306, 87, 88, 389, 446, 447, 448, 449, 89, 90, 86, 507, 508, 509, 892, 893, 894, 895, 896, 897, 898, 899, 900, 901, 902, 903, 904, 905, 906, 907, 908, 909, 910, 911, 912, 913, 914, 915, 916, 917, 918, 919, 920, 921, 922, 923, 924, 925, 926, 927, 928, 929, 930, 931, 932, 933, 934, 935] (by decide +kernel) (by decide +kernel)
set_option maxRecDepth 20000 in
theorem gL_law_X7_person : GoodIn wsL_law (wsV RL 42 RX7 yX7_person wsX7_person) := goodIn_app (goodIn_of _ (by decide +kernel)) ggL_law_X7_person
set_option maxRecDepth 20000 in
theorem ggL_law_X6_fit : GoodIn wsL_law wsX6_fit := goodIn_r _ [513, 20, 149, 398, 119, 405, 406, 407, 48, 408, 293, 514, 515, 2, 516, 517, 421, 422, 19, 423, 49, 424, 425, 51, 426, 427, 428, 885, 886, 887, 888, 889, 890, 891, 942, 943, 944, 945, 962, 963, 964, 965, 966, 967, 946, 947, 948, 949, 950, 951, 952, 953] (by decide +kernel) (by decide +kernel)
set_option maxRecDepth 20000 in
theorem gL_law_X6_fit : GoodIn wsL_law (wsV RL 43 RX6 yX6_fit wsX6_fit) := goodIn_app (goodIn_of _ (by decide +kernel)) ggL_law_X6_fit
set_option maxRecDepth 20000 in
theorem ggL_law_X7_fit : GoodIn wsL_law wsX7_fit := goodIn_r _ [521, 433, 522, 133, 434, 435, 436, 5, 437, 306, 137, 138, 139, 446, 447, 448, 449, 89, 90, 86, 892, 893, 894, 895, 896, 897, 898, 899, 900, 901, 902, 903, 904, 905, 906, 907, 908, 909, 910, 911, 912, 913, 914, 915, 916, 917, 918, 919, 920, 921, 922, 923, 924, 925, 926, 927, 928, 929, 930, 931, 932, 933, 934, 935] (by decide +kernel) (by decide +kernel)
set_option maxRecDepth 20000 in
theorem gL_law_X7_fit : GoodIn wsL_law (wsV RL 46 RX7 yX7_fit wsX7_fit) := goodIn_app (goodIn_of _ (by decide +kernel)) ggL_law_X7_fit
set_option maxRecDepth 20000 in
theorem ggL_law_X6_go : GoodIn wsL_law wsX6_go := goodIn_r _ [526, 20, 377, 149, 398, 454, 527, 457, 458, 459, 24, 460, 283, 405, 406, 407, 48, 408, 293, 528, 529, 530, 19, 531, 51, 465, 384, 532, 533, 534, 535, 49, 487, 488, 478, 536, 537, 538, 539, 418, 419, 420, 421, 422, 423, 424, 425, 426, 427, 2, 428, 540, 541, 542, 543, 544, 545, 546, 547, 548, 549, 550, 551, 885, 886, 887, 888, 889, 890, 891, 942, 943, 944, 945, 946, 947, 948, 949, 950, 951, 952, 953, 962, 963, 964, 965, 966, 967] (by decide +kernel) (by decide +kernel)
set_option maxRecDepth 20000 in
theorem gL_law_X6_go : GoodIn wsL_law (wsV RL 47 RX6 yX6_go wsX6_go) := goodIn_app (goodIn_of _ (by decide +kernel)) ggL_law_X6_go
set_option maxRecDepth 20000 in
theorem ggL_law_X7_go : GoodIn wsL_law wsX7_go := goodIn_r _ [555, 433, 556, 92, 495, 496, 497, 5, 498, 307, 137, 138, 139, 434, 435, 436, 437, 306, 557, 558, 559, 560, 87, 88, 389, 442, 443, 444, 445, 93, 94, 446, 447, 448, 449, 89, 90, 86, 561, 562, 563, 564, 91, 892, 893, 894, 895, 896, 897, 898, 899, 900, 901, 902, 903, 904, 905, 906, 907, 908, 909, 910, 911, 912, 913, 914, 915, 916, 917, 918, 919, 920, 921, 922, 923, 924, 925, 926, 927, 928, 929, 930, 931, 932, 933, 934, 935] (by decide +kernel) (by decide +kernel)
set_option maxRecDepth 20000 in
theorem gL_law_X7_go : GoodIn wsL_law (wsV RL 50 RX7 yX7_go wsX7_go) := goodIn_app (goodIn_of _ (by decide +kernel)) ggL_law_X7_go
