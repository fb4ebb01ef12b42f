set_option maxRecDepth 20000 in
theorem ggL_law_X6_worst : GoodIn wsL_law wsX6_worst := goodIn_r _ [731, 119, 20, 149, 376, 402, 732, 733, 734, 19, 735, 51, 426, 736, 415, 416, 417, 164, 418, 419, 420, 421, 422, 423, 49, 424, 425, 427, 2, 428, 693, 694, 695, 696, 697, 698, 699, 885, 886, 887, 888, 889, 890, 891, 942, 943, 944, 945, 962, 963, 964, 965, 966, 967, 946, 947, 948, 949, 950, 951, 952, 953] (by decide +kernel) (by decide +kernel)
set_option maxRecDepth 20000 in
theorem gL_law_X6_worst : GoodIn wsL_law (wsV RL 89 RX6 yX6_worst wsX6_worst) := goodIn_app (goodIn_of _ (by decide +kernel)) ggL_law_X6_worst
set_option maxRecDepth 20000 in
theorem ggL_law_X7_worst : GoodIn wsL_law wsX7_worst := goodIn_r _ [740, 741, 133, 306, 89, 90, 137, 138, 5, 139, 742, 725, 726, 727, 433, 576, 434, 435, 436, 437, 438, 439, 440, 441, 307, 442, 443, 444, 445, 93, 94, 446, 447, 448, 449, 86, 709, 710, 711, 892, 893, 894, 895, 896, 897, 898, 899, 900, 901, 902, 903, 904, 905, 906, 907, 908, 909, 910, 911, 912, 913, 914, 915, 916, 917, 918, 919, 920, 921, 922, 923, 924, 925, 926, 927, 928, 929, 930, 931, 932, 933, 934, 935] (by decide +kernel) (by decide +kernel)
set_option maxRecDepth 20000 in
theorem gL_law_X7_worst : GoodIn wsL_law (wsV RL 92 RX7 yX7_worst wsX7_worst) := goodIn_app (goodIn_of _ (by decide +kernel)) ggL_law_X7_worst
set_option maxRecDepth 20000 in
theorem ggL_law_X6_best : GoodIn wsL_law wsX6_best := goodIn_r _ [746, 20, 149, 398, 626, 627, 628, 48, 629, 292, 630, 467, 468, 19, 469, 470, 471, 472, 473, 49, 163, 420, 421, 422, 423, 424, 425, 51, 426, 427, 2, 428, 474, 475, 476, 477, 478, 479, 480, 481, 482, 483, 484, 485, 486, 162, 487, 488, 489, 490, 704, 694, 695, 696, 697, 698, 699, 885, 886, 887, 888, 889, 890, 891, 942, 943, 944, 945, 962, 963, 964, 965, 966, 967, 946, 947, 948, 949, 950, 951, 952, 953] (by decide +kernel) (by decide +kernel)
set_option maxRecDepth 20000 in
theorem gL_law_X6_best : GoodIn wsL_law (wsV RL 93 RX6 yX6_best wsX6_best) := goodIn_app (goodIn_of _ (by decide +kernel)) ggL_law_X6_best
set_option maxRecDepth 20000 in
theorem ggL_law_X7_best : GoodIn wsL_law wsX7_best := goodIn_r _ [750, 433, 635, 636, 637, 5, 638, 114, 137, 138, 139, 503, 504, 505, 506, 306, 87, 88, 389, 446, 447, 448, 449, 89, 90, 86, 507, 508, 509, 709, 710, 711, 892, 893, 894, 895, 896, 897, 898, 899, 900, 901, 902, 903, 904, 905, 906, 907, 908, 909, 910, 911, 912, 913, 914, 915, 916, 917, 918, 919, 920, 921, 922, 923, 924, 925, 926, 927, 928, 929, 930, 931, 932, 933, 934, 935] (by decide +kernel) (by decide +kernel)
set_option maxRecDepth 20000 in
theorem gL_law_X7_best : GoodIn wsL_law (wsV RL 96 RX7 yX7_best wsX7_best) := goodIn_app (goodIn_of _ (by decide +kernel)) ggL_law_X7_best
set_option maxRecDepth 20000 in
theorem ggL_law_X6_cover : GoodIn wsL_law wsX6_cover := goodIn_r _ [754, 20, 755, 756, 757, 19, 758, 51, 164, 53, 418, 419, 470, 471, 472, 473, 49, 163, 420, 421, 422, 423, 424, 425, 426, 427, 2, 428, 690, 691, 692, 693, 694, 695, 696, 697, 698, 699, 700, 701, 702, 703, 489, 490, 479, 480, 481, 482, 885, 886, 887, 888, 889, 890, 891, 942, 943, 944, 945, 946, 947, 948, 949, 950, 951, 952, 953, 962, 963, 964, 965, 966, 967] (by decide +kernel) (by decide +kernel)
set_option maxRecDepth 20000 in
theorem gL_law_X6_cover : GoodIn wsL_law (wsV RL 97 RX6 yX6_cover wsX6_cover) := goodIn_app (goodIn_of _ (by decide +kernel)) ggL_law_X6_cover
set_option maxRecDepth 20000 in
theorem ggL_law_X7_cover : GoodIn wsL_law wsX7_cover := goodIn_r _ [762, 307, 306, 709, 710, 5, 711, 438, 439, 440, 441, 442, 443, 444, 445, 93, 94, 446, 447, 448, 449, 89, 90, 86, 892, 893, 894, 895, 896, 897, 898, 899, 900, 901, 902, 903, 904, 905, 906, 907, 908, 909, 910, 911, 912, 913, 914, 915, 916, 917, 918, 919, 920, 921, 922, 923, 924, 925, 926, 927, 928, 929, 930, 931, 932, 933, 934, 935] (by decide +kernel) (by decide +kernel)
set_option maxRecDepth 20000 in
theorem gL_law_X7_cover : GoodIn wsL_law (wsV RL 100 RX7 yX7_cover wsX7_cover) := goodIn_app (goodIn_of _ (by decide +kernel)) ggL_law_X7_cover
