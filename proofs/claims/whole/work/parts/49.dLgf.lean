set_option maxRecDepth 20000 in
theorem ggL_law_X6_pair : GoodIn wsL_law wsX6_pair := goodIn_r _ [673, 20, 377, 398, 455, 119, 457, 458, 459, 24, 460, 283, 461, 462, 463, 19, 464, 51, 465, 418, 419, 466, 467, 468, 469, 470, 471, 472, 473, 49, 163, 420, 421, 422, 423, 424, 425, 426, 427, 2, 428, 474, 475, 476, 477, 478, 479, 480, 481, 482, 483, 484, 485, 486, 162, 487, 488, 489, 490, 657, 658, 659, 660, 885, 886, 887, 888, 889, 890, 891, 942, 943, 944, 945, 946, 947, 948, 949, 950, 951, 952, 953, 962, 963, 964, 965, 966, 967] (by decide +kernel) (by decide +kernel)
set_option maxRecDepth 20000 in
theorem gL_law_X6_pair : GoodIn wsL_law (wsV RL 76 RX6 yX6_pair wsX6_pair) := goodIn_app (goodIn_of _ (by decide +kernel)) ggL_law_X6_pair
set_option maxRecDepth 20000 in
theorem ggL_law_X7_pair : GoodIn wsL_law wsX7_pair := goodIn_r _ [677, 433, 133, 93, 495, 496, 497, 5, 498, 307, 137, 138, 139, 499, 500, 501, 502, 92, 94, 503, 504, 505, 506, 306, 87, 88, 389, 446, 447, 448, 449, 89, 90, 86, 507, 508, 509, 892, 893, 894, 895, 896, 897, 898, 899, 900, 901, 902, 903, 904, 905, 906, 907, 908, 909, 910, 911, 912, 913, 914, 915, 916, 917, 918, 919, 920, 921, 922, 923, 924, 925, 926, 927, 928, 929, 930, 931, 932, 933, 934, 935] (by decide +kernel) (by decide +kernel)
set_option maxRecDepth 20000 in
theorem gL_law_X7_pair : GoodIn wsL_law (wsV RL 79 RX7 yX7_pair wsX7_pair) := goodIn_app (goodIn_of _ (by decide +kernel)) ggL_law_X7_pair
set_option maxRecDepth 20000 in
theorem ggL_law_X6_carried : GoodIn wsL_law wsX6_carried := goodIn_r _ [681, 20, 377, 149, 398, 119, 457, 458, 459, 24, 460, 283, 626, 627, 628, 48, 629, 292, 682, 683, 684, 19, 685, 51, 418, 419, 164, 53, 54, 465, 686, 687, 688, 689, 49, 163, 487, 488, 470, 471, 472, 473, 420, 421, 422, 423, 424, 425, 426, 427, 2, 428, 474, 475, 476, 477, 478, 479, 480, 481, 482, 483, 484, 485, 486, 162, 489, 490, 690, 691, 692, 693, 694, 695, 696, 697, 698, 699, 700, 701, 702, 703, 704, 885, 886, 887, 888, 889, 890, 891, 942, 943, 944, 945, 946, 947, 948, 949, 950, 951, 952, 953, 962, 963, 964, 965, 966, 967] (by decide +kernel) (by decide +kernel)
set_option maxRecDepth 20000 in
theorem gL_law_X6_carried : GoodIn wsL_law (wsV RL 80 RX6 yX6_carried wsX6_carried) := goodIn_app (goodIn_of _ (by decide +kernel)) ggL_law_X6_carried
set_option maxRecDepth 20000 in
theorem ggL_law_X7_carried : GoodIn wsL_law wsX7_carried := goodIn_r _ [708, 433, 133, 307, 105, 495, 496, 497, 5, 498, 137, 138, 139, 635, 636, 637, 638, 114, 499, 500, 501, 502, 92, 93, 94, 503, 504, 505, 506, 306, 87, 88, 389, 446, 447, 448, 449, 89, 90, 86, 507, 508, 509, 709, 710, 711, 712, 713, 714, 715, 716, 717, 718, 719, 442, 443, 444, 445, 892, 893, 894, 895, 896, 897, 898, 899, 900, 901, 902, 903, 904, 905, 906, 907, 908, 909, 910, 911, 912, 913, 914, 915, 916, 917, 918, 919, 920, 921, 922, 923, 924, 925, 926, 927, 928, 929, 930, 931, 932, 933, 934, 935] (by decide +kernel) (by decide +kernel)
set_option maxRecDepth 20000 in
theorem gL_law_X7_carried : GoodIn wsL_law (wsV RL 83 RX7 yX7_carried wsX7_carried) := goodIn_app (goodIn_of _ (by decide +kernel)) ggL_law_X7_carried
set_option maxRecDepth 20000 in
theorem ggL_law_X6_step : GoodIn wsL_law wsX6_step := goodIn_r _ [723, 20, 149, 398, 119, 377, 403, 409, 410, 411, 48, 412, 61, 413, 406, 407, 408, 293, 569, 570, 2, 571, 414, 415, 416, 19, 417, 51, 164, 418, 419, 420, 421, 422, 423, 49, 424, 425, 426, 427, 428, 704, 694, 695, 696, 697, 698, 699, 885, 886, 887, 888, 889, 890, 891, 942, 943, 944, 945, 946, 947, 948, 949, 950, 951, 952, 953, 962, 963, 964, 965, 966, 967] (by decide +kernel) (by decide +kernel)
set_option maxRecDepth 20000 in
theorem gL_law_X6_step : GoodIn wsL_law (wsV RL 84 RX6 yX6_step wsX6_step) := goodIn_app (goodIn_of _ (by decide +kernel)) ggL_law_X6_step
set_option maxRecDepth 20000 in
theorem ggL_law_X7_step : GoodIn wsL_law wsX7_step := goodIn_r _ [727, 89, 433, 90, 576, 133, 434, 435, 436, 5, 437, 306, 137, 138, 139, 438, 439, 440, 441, 307, 442, 443, 444, 445, 93, 94, 446, 447, 448, 449, 86, 709, 710, 711, 892, 893, 894, 895, 896, 897, 898, 899, 900, 901, 902, 903, 904, 905, 906, 907, 908, 909, 910, 911, 912, 913, 914, 915, 916, 917, 918, 919, 920, 921, 922, 923, 924, 925, 926, 927, 928, 929, 930, 931, 932, 933, 934, 935] (by decide +kernel) (by decide +kernel)
set_option maxRecDepth 20000 in
theorem gL_law_X7_step : GoodIn wsL_law (wsV RL 88 RX7 yX7_step wsX7_step) := goodIn_app (goodIn_of _ (by decide +kernel)) ggL_law_X7_step
