set_option maxRecDepth 20000 in
theorem ggL_law_X6_reach : GoodIn wsL_law wsX6_reach := goodIn_r _ [625, 20, 149, 398, 119, 626, 627, 628, 48, 629, 292, 514, 515, 2, 516, 630, 467, 468, 19, 469, 470, 471, 472, 473, 49, 163, 420, 421, 422, 423, 424, 425, 51, 426, 427, 428, 474, 475, 476, 477, 478, 479, 480, 481, 482, 483, 484, 485, 486, 162, 487, 488, 489, 490, 885, 886, 887, 888, 889, 890, 891, 942, 943, 944, 945, 962, 963, 964, 965, 966, 967, 946, 947, 948, 949, 950, 951, 952, 953] (by decide +kernel) (by decide +kernel)
set_option maxRecDepth 20000 in
theorem gL_law_X6_reach : GoodIn wsL_law (wsV RL 64 RX6 yX6_reach wsX6_reach) := goodIn_app (goodIn_of _ (by decide +kernel)) ggL_law_X6_reach
set_option maxRecDepth 20000 in
theorem ggL_law_X7_reach : GoodIn wsL_law wsX7_reach := goodIn_r _ [634, 433, 522, 133, 635, 636, 637, 5, 638, 114, 137, 138, 139, 503, 504, 505, 506, 306, 87, 88, 389, 446, 447, 448, 449, 89, 90, 86, 507, 508, 509, 892, 893, 894, 895, 896, 897, 898, 899, 900, 901, 902, 903, 904, 905, 906, 907, 908, 909, 910, 911, 912, 913, 914, 915, 916, 917, 918, 919, 920, 921, 922, 923, 924, 925, 926, 927, 928, 929, 930, 931, 932, 933, 934, 935] (by decide +kernel) (by decide +kernel)
set_option maxRecDepth 20000 in
theorem gL_law_X7_reach : GoodIn wsL_law (wsV RL 67 RX7 yX7_reach wsX7_reach) := goodIn_app (goodIn_of _ (by decide +kernel)) ggL_law_X7_reach
set_option maxRecDepth 20000 in
theorem ggL_law_X6_guests : GoodIn wsL_law wsX6_guests := goodIn_r _ [642, 20, 377, 398, 378, 454, 457, 458, 459, 24, 460, 283, 461, 462, 463, 19, 464, 51, 465, 418, 419, 466, 467, 468, 469, 470, 471, 472, 473, 49, 163, 420, 421, 422, 423, 424, 425, 426, 427, 2, 428, 474, 475, 476, 477, 478, 479, 480, 481, 482, 483, 484, 485, 486, 162, 487, 488, 489, 490, 643, 885, 886, 887, 888, 889, 890, 891, 942, 943, 944, 945, 946, 947, 948, 949, 950, 951, 952, 953, 962, 963, 964, 965, 966, 967] (by decide +kernel) (by decide +kernel)
set_option maxRecDepth 20000 in
theorem gL_law_X6_guests : GoodIn wsL_law (wsV RL 68 RX6 yX6_guests wsX6_guests) := goodIn_app (goodIn_of _ (by decide +kernel)) ggL_law_X6_guests
set_option maxRecDepth 20000 in
theorem ggL_law_X7_guests : GoodIn wsL_law wsX7_guests := goodIn_r _ [647, 433, 307, 92, 495, 496, 497, 5, 498, 137, 138, 139, 499, 500, 501, 502, 93, 94, 503, 504, 505, 506, 306, 87, 88, 389, 446, 447, 448, 449, 89, 90, 86, 507, 508, 509, 892, 893, 894, 895, 896, 897, 898, 899, 900, 901, 902, 903, 904, 905, 906, 907, 908, 909, 910, 911, 912, 913, 914, 915, 916, 917, 918, 919, 920, 921, 922, 923, 924, 925, 926, 927, 928, 929, 930, 931, 932, 933, 934, 935] (by decide +kernel) (by decide +kernel)
set_option maxRecDepth 20000 in
theorem gL_law_X7_guests : GoodIn wsL_law (wsV RL 71 RX7 yX7_guests wsX7_guests) := goodIn_app (goodIn_of _ (by decide +kernel)) ggL_law_X7_guests
set_option maxRecDepth 20000 in
theorem ggL_law_X6_wish : GoodIn wsL_law wsX6_wish := goodIn_r _ [651, 20, 377, 398, 378, 455, 652, 456, 653, 654, 655, 24, 656, 283, 643, 489, 2, 490, 657, 658, 659, 660, 427, 428, 885, 886, 887, 888, 889, 890, 891, 942, 943, 944, 945, 946, 947, 948, 949, 950, 951, 952, 953] (by decide +kernel) (by decide +kernel)
set_option maxRecDepth 20000 in
theorem gL_law_X6_wish : GoodIn wsL_law (wsV RL 72 RX6 yX6_wish wsX6_wish) := goodIn_app (goodIn_of _ (by decide +kernel)) ggL_law_X6_wish
set_option maxRecDepth 20000 in
theorem ggL_law_X7_wish : GoodIn wsL_law wsX7_wish := goodIn_r _ [664, 307, 433, 665, 137, 138, 5, 139, 666, 667, 668, 669, 93, 94, 507, 508, 509, 892, 893, 894, 895, 896, 897, 898, 899, 900, 901, 902, 903, 904, 905, 906, 907, 908, 909, 910, 911, 912, 913, 914, 915, 916, 917, 918, 919, 920, 921, 922, 923, 924, 925, 926, 927, 928, 929, 930, 931, 932, 933, 934, 935] (by decide +kernel) (by decide +kernel)
set_option maxRecDepth 20000 in
theorem gL_law_X7_wish : GoodIn wsL_law (wsV RL 75 RX7 yX7_wish wsX7_wish) := goodIn_app (goodIn_of _ (by decide +kernel)) ggL_law_X7_wish
