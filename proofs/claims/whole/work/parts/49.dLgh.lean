set_option maxRecDepth 20000 in
theorem ggL_law_X6_see : GoodIn wsL_law wsX6_see := goodIn_r _ [766, 20, 149, 398, 30, 147, 121, 626, 627, 628, 48, 629, 292, 767, 768, 769, 29, 770, 771, 73, 74, 75, 885, 886, 887, 888, 889, 890, 891, 942, 943, 944, 945, 954, 955, 956, 957, 962, 963, 964, 965, 966, 967] (by decide +kernel) (by decide +kernel)
set_option maxRecDepth 20000 in
theorem gL_law_X6_see : GoodIn wsL_law (wsV RL 101 RX6 yX6_see wsX6_see) := goodIn_app (goodIn_of _ (by decide +kernel)) ggL_law_X6_see
set_option maxRecDepth 20000 in
theorem ggL_law_X7_see : GoodIn wsL_law wsX7_see := goodIn_r _ [775, 433, 308, 135, 106, 107, 108, 635, 636, 637, 5, 638, 114, 137, 138, 139, 892, 893, 894, 895, 896, 897, 898, 899, 900, 901, 902, 903, 904, 905, 906, 907, 908, 909, 910, 911, 912, 913, 914, 915, 916, 917, 918, 919, 920, 921, 922, 923, 924, 925, 926, 927, 928, 929, 930, 931, 932, 933, 934, 935] (by decide +kernel) (by decide +kernel)
set_option maxRecDepth 20000 in
theorem gL_law_X7_see : GoodIn wsL_law (wsV RL 105 RX7 yX7_see wsX7_see) := goodIn_app (goodIn_of _ (by decide +kernel)) ggL_law_X7_see
set_option maxRecDepth 20000 in
theorem ggL_law_X6_fits : GoodIn wsL_law wsX6_fits := goodIn_r _ [779, 30, 20, 780, 781, 782, 29, 783, 784, 785, 786, 787, 771, 73, 74, 75, 788, 471, 472, 19, 473, 49, 163, 420, 421, 422, 423, 424, 425, 51, 426, 427, 2, 428, 789, 475, 476, 477, 478, 479, 480, 481, 482, 790, 484, 485, 486, 162, 487, 488, 489, 490, 885, 886, 887, 888, 889, 890, 891, 954, 955, 956, 957, 942, 943, 944, 945, 962, 963, 964, 965, 966, 967, 946, 947, 948, 949, 950, 951, 952, 953] (by decide +kernel) (by decide +kernel)
set_option maxRecDepth 20000 in
theorem gL_law_X6_fits : GoodIn wsL_law (wsV RL 106 RX6 yX6_fits wsX6_fits) := goodIn_app (goodIn_of _ (by decide +kernel)) ggL_law_X6_fits
set_option maxRecDepth 20000 in
theorem ggL_law_X7_fits : GoodIn wsL_law wsX7_fits := goodIn_r _ [794, 308, 106, 107, 108, 503, 504, 505, 5, 506, 306, 87, 88, 389, 446, 447, 448, 449, 89, 90, 86, 507, 508, 509, 892, 893, 894, 895, 896, 897, 898, 899, 900, 901, 902, 903, 904, 905, 906, 907, 908, 909, 910, 911, 912, 913, 914, 915, 916, 917, 918, 919, 920, 921, 922, 923, 924, 925, 926, 927, 928, 929, 930, 931, 932, 933, 934, 935] (by decide +kernel) (by decide +kernel)
set_option maxRecDepth 20000 in
theorem gL_law_X7_fits : GoodIn wsL_law (wsV RL 109 RX7 yX7_fits wsX7_fits) := goodIn_app (goodIn_of _ (by decide +kernel)) ggL_law_X7_fits
set_option maxRecDepth 20000 in
theorem ggL_law_X6_ask : GoodIn wsL_law wsX6_ask := goodIn_r _ [798, 30, 20, 149, 376, 799, 800, 546, 801, 780, 781, 782, 29, 783, 784, 785, 786, 787, 771, 73, 74, 75, 788, 471, 472, 19, 473, 49, 163, 420, 421, 422, 423, 424, 425, 51, 426, 427, 2, 428, 789, 475, 476, 477, 478, 479, 480, 481, 482, 790, 484, 485, 486, 162, 487, 488, 489, 490, 704, 694, 695, 696, 697, 698, 699, 802, 803, 804, 805, 885, 886, 887, 888, 889, 890, 891, 942, 943, 944, 945, 962, 963, 964, 965, 966, 967, 954, 955, 956, 957, 946, 947, 948, 949, 950, 951, 952, 953] (by decide +kernel) (by decide +kernel)
set_option maxRecDepth 20000 in
theorem gL_law_X6_ask : GoodIn wsL_law (wsV RL 110 RX6 yX6_ask wsX6_ask) := goodIn_app (goodIn_of _ (by decide +kernel)) ggL_law_X6_ask
set_option maxRecDepth 20000 in
theorem ggL_law_X7_ask : GoodIn wsL_law wsX7_ask := goodIn_r _ [809, 306, 810, 792, 793, 5, 794, 308, 106, 107, 108, 503, 504, 505, 506, 87, 88, 389, 446, 447, 448, 449, 89, 90, 86, 507, 508, 509, 709, 710, 711, 892, 893, 894, 895, 896, 897, 898, 899, 900, 901, 902, 903, 904, 905, 906, 907, 908, 909, 910, 911, 912, 913, 914, 915, 916, 917, 918, 919, 920, 921, 922, 923, 924, 925, 926, 927, 928, 929, 930, 931, 932, 933, 934, 935] (by decide +kernel) (by decide +kernel)
set_option maxRecDepth 20000 in
theorem gL_law_X7_ask : GoodIn wsL_law (wsV RL 113 RX7 yX7_ask wsX7_ask) := goodIn_app (goodIn_of _ (by decide +kernel)) ggL_law_X7_ask
