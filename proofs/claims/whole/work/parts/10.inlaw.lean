theorem memP {big ws : List Cond} (ps : List Nat) (hp : ws = ps.filterMap (fun i => big[i]?)) : ∀ w ∈ ws, w ∈ big := by
  intro w hw
  rw [hp] at hw
  obtain ⟨i, -, hi⟩ := List.mem_filterMap.mp hw
  exact List.mem_of_getElem? hi
set_option maxRecDepth 20000 in
theorem in_wsL_law_r1 : ∀ w ∈ wsL_law_r1, w ∈ lw_tbl := memP [56, 57, 42, 726, 727, 49, 1121, 58, 59, 60, 61, 62, 63, 64, 65, 43, 259, 213, 71, 44, 260, 215, 261, 121] (by decide +kernel)
set_option maxRecDepth 20000 in
theorem in_wsL_law_r2 : ∀ w ∈ wsL_law_r2, w ∈ lw_tbl := memP [46, 238, 262, 218, 219, 47, 263, 239, 240, 48, 264, 265, 67, 68, 69, 70, 195, 212, 197, 73, 74, 75, 76, 77] (by decide +kernel)
set_option maxRecDepth 20000 in
theorem in_wsL_law_r3 : ∀ w ∈ wsL_law_r3, w ∈ lw_tbl := memP [45, 170, 120, 174, 119, 178, 179, 79, 80, 81, 90, 94, 98, 102, 123, 124, 125, 131, 135, 138, 141, 145, 221, 222] (by decide +kernel)
set_option maxRecDepth 20000 in
theorem in_wsL_law_r4 : ∀ w ∈ wsL_law_r4, w ∈ lw_tbl := memP [223, 226, 227, 228, 242, 243, 244, 247, 248, 249, 728, 729, 730, 731, 734, 735, 736, 737, 738, 739, 741, 742, 743, 746] (by decide +kernel)
set_option maxRecDepth 20000 in
theorem in_wsL_law_r5 : ∀ w ∈ wsL_law_r5, w ∈ lw_tbl := memP [748, 756, 757, 758, 759, 760, 762, 763, 764, 765, 767, 768, 769, 771, 772, 773, 774, 775, 732, 281, 282, 283, 284, 285] (by decide +kernel)
set_option maxRecDepth 20000 in
theorem in_wsL_law_r6 : ∀ w ∈ wsL_law_r6, w ∈ lw_tbl := memP [190, 286, 287, 288, 289, 290, 291, 189, 865, 866, 867, 868, 869, 873, 747, 874, 875, 870, 871, 872, 292, 293, 294, 295] (by decide +kernel)
set_option maxRecDepth 20000 in
theorem in_wsL_law_r7 : ∀ w ∈ wsL_law_r7, w ∈ lw_tbl := memP [194, 192, 196, 225, 246, 172, 84, 296, 297, 298, 299, 198, 191, 193, 300, 301, 302, 303, 82, 86, 127, 304, 306, 0] (by decide +kernel)
set_option maxRecDepth 20000 in
theorem in_wsL_law_r8 : ∀ w ∈ wsL_law_r8, w ∈ lw_tbl := memP [307, 308, 310, 1, 311, 173, 85, 312, 314, 2, 315, 317, 319, 3, 320, 321, 322, 323, 50, 324, 1122, 325, 326, 327] (by decide +kernel)
set_option maxRecDepth 20000 in
theorem in_wsL_law_r9 : ∀ w ∈ wsL_law_r9, w ∈ lw_tbl := memP [328, 329, 1123, 331, 332, 333, 334, 335, 336, 337, 338, 339, 340, 51, 341, 342, 343, 344, 345, 347, 348, 52, 349, 350] (by decide +kernel)
set_option maxRecDepth 20000 in
theorem in_wsL_law_r10 : ∀ w ∈ wsL_law_r10, w ∈ lw_tbl := memP [351, 53, 352, 353, 354, 355, 356, 357, 358, 359, 360, 361, 362, 363, 365, 367, 369, 371, 4, 372, 373, 375, 5, 376] (by decide +kernel)
set_option maxRecDepth 20000 in
theorem in_wsL_law_r11 : ∀ w ∈ wsL_law_r11, w ∈ lw_tbl := memP [377, 378, 379, 380, 382, 6, 383, 384, 386, 7, 387, 389, 391, 8, 392, 89, 93, 96, 100, 105, 393, 395, 9, 396] (by decide +kernel)
set_option maxRecDepth 20000 in
theorem in_wsL_law_r12 : ∀ w ∈ wsL_law_r12, w ∈ lw_tbl := memP [400, 402, 10, 403, 404, 406, 11, 407, 177, 144, 409, 411, 12, 412, 130, 413, 414, 415, 416, 126, 417, 418, 419, 420] (by decide +kernel)
set_option maxRecDepth 20000 in
theorem in_wsL_law_r13 : ∀ w ∈ wsL_law_r13, w ∈ lw_tbl := memP [421, 422, 423, 424, 83, 87, 425, 426, 427, 428, 876, 877, 878, 879, 749, 754, 755, 761, 733, 740, 766, 770, 880, 882] (by decide +kernel)
set_option maxRecDepth 20000 in
theorem in_wsL_law_r14 : ∀ w ∈ wsL_law_r14, w ∈ lw_tbl := memP [16, 883, 884, 886, 17, 887, 750, 751, 752, 888, 890, 18, 891, 892, 893, 894, 895, 896, 897, 898, 899, 900, 901, 902] (by decide +kernel)
set_option maxRecDepth 20000 in
theorem in_wsL_law_r15 : ∀ w ∈ wsL_law_r15, w ∈ lw_tbl := memP [903, 904, 906, 19, 907, 908, 910, 20, 911, 912, 913, 753, 914, 916, 21, 917, 918, 920, 22, 921, 922, 924, 23, 925] (by decide +kernel)
set_option maxRecDepth 20000 in
theorem in_wsL_law_r16 : ∀ w ∈ wsL_law_r16, w ∈ lw_tbl := memP [926, 928, 24, 929, 429, 430, 431, 432, 930, 931, 932, 933, 433, 434, 435, 436, 88, 176, 129, 148, 437, 438, 439, 440] (by decide +kernel)
set_option maxRecDepth 20000 in
theorem in_wsL_law_r17 : ∀ w ∈ wsL_law_r17, w ∈ lw_tbl := memP [146, 934, 935, 936, 937, 744, 938, 940, 25, 941, 441, 442, 443, 444, 449, 92, 95, 99, 104, 143, 147, 445, 446, 447] (by decide +kernel)
set_option maxRecDepth 20000 in
theorem in_wsL_law_r18 : ∀ w ∈ wsL_law_r18, w ∈ lw_tbl := memP [448, 450, 451, 452, 453, 454, 455, 456, 457, 458, 136, 139, 459, 460, 461, 462, 91, 103, 142, 464, 465, 942, 943, 944] (by decide +kernel)
set_option maxRecDepth 20000 in
theorem in_wsL_law_r19 : ∀ w ∈ wsL_law_r19, w ∈ lw_tbl := memP [945, 950, 946, 948, 26, 949, 951, 953, 27, 954, 955, 957, 28, 958, 959, 961, 29, 962, 466, 467, 468, 469, 133, 137] (by decide +kernel)
set_option maxRecDepth 20000 in
theorem in_wsL_law_r20 : ∀ w ∈ wsL_law_r20, w ∈ lw_tbl := memP [140, 470, 471, 472, 473, 474, 475, 476, 477, 134, 478, 479, 480, 481, 482, 483, 484, 485, 486, 487, 488, 489, 150, 490] (by decide +kernel)
set_option maxRecDepth 20000 in
theorem in_wsL_law_r21 : ∀ w ∈ wsL_law_r21, w ∈ lw_tbl := memP [491, 492, 493, 494, 495, 496, 497, 97, 101, 499, 500, 963, 964, 965, 966, 967, 969, 30, 970, 971, 973, 31, 974, 975] (by decide +kernel)
set_option maxRecDepth 20000 in
theorem in_wsL_law_r22 : ∀ w ∈ wsL_law_r22, w ∈ lw_tbl := memP [977, 32, 978, 979, 980, 981, 501, 502, 503, 504, 505, 506, 507, 508, 982, 983, 984, 985, 986, 509, 510, 511, 512, 536] (by decide +kernel)
set_option maxRecDepth 20000 in
theorem in_wsL_law_r23 : ∀ w ∈ wsL_law_r23, w ∈ lw_tbl := memP [513, 514, 515, 516, 517, 518, 519, 520, 521, 522, 523, 524, 525, 526, 527, 528, 529, 530, 54, 531, 532, 533, 534, 535] (by decide +kernel)
set_option maxRecDepth 20000 in
theorem in_wsL_law_r24 : ∀ w ∈ wsL_law_r24, w ∈ lw_tbl := memP [987, 988, 989, 990, 995, 991, 993, 33, 994, 996, 998, 34, 999, 537, 538, 539, 540, 541, 542, 543, 1000, 1001, 1002, 1003] (by decide +kernel)
set_option maxRecDepth 20000 in
theorem in_wsL_law_r25 : ∀ w ∈ wsL_law_r25, w ∈ lw_tbl := memP [1004, 544, 545, 546, 547, 1005, 1006, 1007, 1008, 548, 549, 550, 551, 552, 553, 554, 555, 556, 557, 558, 559, 151, 560, 561] (by decide +kernel)
set_option maxRecDepth 20000 in
theorem in_wsL_law_r26 : ∀ w ∈ wsL_law_r26, w ∈ lw_tbl := memP [562, 563, 564, 565, 1009, 1010, 1011, 1012, 1013, 1014, 1016, 35, 1017, 1018, 1020, 36, 1021, 745, 1022, 1023, 1024, 1025, 566, 567] (by decide +kernel)
set_option maxRecDepth 20000 in
theorem in_wsL_law_r27 : ∀ w ∈ wsL_law_r27, w ∈ lw_tbl := memP [568, 569, 570, 571, 572, 573, 574, 1026, 1027, 1028, 1029, 1030, 1032, 37, 1033, 575, 576, 577, 578, 579, 1034, 1035, 1036, 1037] (by decide +kernel)
set_option maxRecDepth 20000 in
theorem in_wsL_law_r28 : ∀ w ∈ wsL_law_r28, w ∈ lw_tbl := memP [580, 581, 582, 583, 592, 584, 585, 586, 587, 588, 589, 590, 591, 1038, 1039, 1040, 1041, 1042, 1043, 1045, 38, 1046, 593, 594] (by decide +kernel)
set_option maxRecDepth 20000 in
theorem in_wsL_law_r29 : ∀ w ∈ wsL_law_r29, w ∈ lw_tbl := memP [595, 596, 1047, 1048, 1049, 1050, 597, 598, 599, 600, 601, 602, 603, 604, 605, 607, 13, 608, 609, 610, 611, 612, 613, 55] (by decide +kernel)
set_option maxRecDepth 20000 in
theorem in_wsL_law_r30 : ∀ w ∈ wsL_law_r30, w ∈ lw_tbl := memP [614, 615, 616, 617, 618, 620, 14, 621, 622, 1051, 1052, 1053, 1054, 1055, 1056, 1057, 1058, 1060, 39, 1061, 1062, 1064, 40, 1065] (by decide +kernel)
set_option maxRecDepth 20000 in
theorem in_wsL_law_r31 : ∀ w ∈ wsL_law_r31, w ∈ lw_tbl := memP [623, 624, 625, 626, 1066, 1067, 1068, 1069, 627, 628, 629, 630, 631, 632, 633, 634, 635, 1070, 1071, 1072, 1073, 1074, 1075, 636] (by decide +kernel)
set_option maxRecDepth 20000 in
theorem in_wsL_law_r32 : ∀ w ∈ wsL_law_r32, w ∈ lw_tbl := memP [637, 638, 639, 1076, 1077, 1078, 1079, 640, 641, 642, 643, 644, 645, 646, 647, 1080, 1081, 1082, 1083, 648, 649, 650, 651, 652] (by decide +kernel)
set_option maxRecDepth 20000 in
theorem in_wsL_law_r33 : ∀ w ∈ wsL_law_r33, w ∈ lw_tbl := memP [653, 654, 655, 224, 1084, 1085, 1086, 1087, 656, 657, 658, 659, 660, 661, 662, 663, 664, 666, 15, 667, 668, 669, 670, 1088] (by decide +kernel)
set_option maxRecDepth 20000 in
theorem in_wsL_law_r34 : ∀ w ∈ wsL_law_r34, w ∈ lw_tbl := memP [1089, 1090, 1091, 672, 673, 674, 675, 680, 681, 682, 676, 677, 678, 679, 1092, 1093, 1094, 1095, 1096, 683, 684, 685, 686, 687] (by decide +kernel)
set_option maxRecDepth 20000 in
theorem in_wsL_law_r35 : ∀ w ∈ wsL_law_r35, w ∈ lw_tbl := memP [688, 689, 690, 245, 1097, 1098, 1099, 1100, 691, 692, 693, 694, 1101, 1102, 1103, 1104, 695, 696, 697, 698, 699, 700, 701, 702] (by decide +kernel)
set_option maxRecDepth 20000 in
theorem in_wsL_law_r36 : ∀ w ∈ wsL_law_r36, w ∈ lw_tbl := memP [175, 128, 132, 171, 703, 704, 705, 1105, 1106, 1107, 1108, 706, 707, 708, 709, 152, 1109, 1110, 1111, 1112, 710, 711, 712, 713] (by decide +kernel)
set_option maxRecDepth 20000 in
theorem in_wsL_law_r37 : ∀ w ∈ wsL_law_r37, w ∈ lw_tbl := memP [714, 715, 716, 717, 718, 719, 720, 149, 721, 1113, 1114, 1115, 1116, 722, 723, 724, 725, 1117, 1118, 1119, 1120] (by decide +kernel)
set_option maxRecDepth 20000 in
theorem inX0 : ∀ w ∈ wsX00, w ∈ lw_tbl := memP [250, 252, 254, 256] (by decide +kernel)
set_option maxRecDepth 20000 in
theorem inX1 : ∀ w ∈ wsX10, w ∈ lw_tbl := memP [106, 108, 110, 112, 114, 116] (by decide +kernel)
set_option maxRecDepth 20000 in
theorem inX2 : ∀ w ∈ wsX20, w ∈ lw_tbl := memP [229, 231, 233, 235] (by decide +kernel)
set_option maxRecDepth 20000 in
theorem inX3 : ∀ w ∈ wsX30, w ∈ lw_tbl := memP [153, 155, 157, 159, 161, 163, 165, 167] (by decide +kernel)
set_option maxRecDepth 20000 in
theorem inX4 : ∀ w ∈ wsX40, w ∈ lw_tbl := memP [199, 201, 203, 205, 207, 209] (by decide +kernel)
set_option maxRecDepth 20000 in
theorem inX5 : ∀ w ∈ wsX50, w ∈ lw_tbl := memP [180, 182, 184, 186] (by decide +kernel)
set_option maxRecDepth 20000 in
theorem inX6 : ∀ w ∈ wsX60, w ∈ lw_tbl := memP [266, 268, 270, 272, 274, 276, 278] (by decide +kernel)
set_option maxRecDepth 20000 in
theorem inX7 : ∀ w ∈ wsX70, w ∈ lw_tbl := memP [776, 778, 780, 782, 784, 786, 788, 790, 792, 794, 796, 798, 800, 802, 804, 806, 808, 810, 812, 814, 816, 818, 820, 822, 824, 826, 828, 830, 832, 834, 836, 838, 840, 842, 844, 846, 848, 850, 852, 854, 856, 858, 860, 862] (by decide +kernel)
theorem wsL_law_in : ∀ w ∈ wsL_law, w ∈ lw_tbl := fun w => (fun h => (List.mem_append.mp h).elim ((fun h => (List.mem_append.mp h).elim ((fun h => (List.mem_append.mp h).elim ((fun h => (List.mem_append.mp h).elim ((fun h => (List.mem_append.mp h).elim ((fun h => (List.mem_append.mp h).elim ((fun h => (List.mem_append.mp h).elim ((fun h => (List.mem_append.mp h).elim ((fun h => (List.mem_append.mp h).elim ((fun h => (List.mem_append.mp h).elim (in_wsL_law_r1 w) ((fun h => (List.mem_append.mp h).elim (in_wsL_law_r2 w) ((fun h => (List.mem_append.mp h).elim (in_wsL_law_r3 w) ((fun h => (List.mem_append.mp h).elim (in_wsL_law_r4 w) ((fun h => (List.mem_append.mp h).elim (in_wsL_law_r5 w) ((fun h => (List.mem_append.mp h).elim (in_wsL_law_r6 w) ((fun h => (List.mem_append.mp h).elim (in_wsL_law_r7 w) ((fun h => (List.mem_append.mp h).elim (in_wsL_law_r8 w) ((fun h => (List.mem_append.mp h).elim (in_wsL_law_r9 w) ((fun h => (List.mem_append.mp h).elim (in_wsL_law_r10 w) ((fun h => (List.mem_append.mp h).elim (in_wsL_law_r11 w) ((fun h => (List.mem_append.mp h).elim (in_wsL_law_r12 w) ((fun h => (List.mem_append.mp h).elim (in_wsL_law_r13 w) ((fun h => (List.mem_append.mp h).elim (in_wsL_law_r14 w) ((fun h => (List.mem_append.mp h).elim (in_wsL_law_r15 w) ((fun h => (List.mem_append.mp h).elim (in_wsL_law_r16 w) ((fun h => (List.mem_append.mp h).elim (in_wsL_law_r17 w) ((fun h => (List.mem_append.mp h).elim (in_wsL_law_r18 w) ((fun h => (List.mem_append.mp h).elim (in_wsL_law_r19 w) ((fun h => (List.mem_append.mp h).elim (in_wsL_law_r20 w) ((fun h => (List.mem_append.mp h).elim (in_wsL_law_r21 w) ((fun h => (List.mem_append.mp h).elim (in_wsL_law_r22 w) ((fun h => (List.mem_append.mp h).elim (in_wsL_law_r23 w) ((fun h => (List.mem_append.mp h).elim (in_wsL_law_r24 w) ((fun h => (List.mem_append.mp h).elim (in_wsL_law_r25 w) ((fun h => (List.mem_append.mp h).elim (in_wsL_law_r26 w) ((fun h => (List.mem_append.mp h).elim (in_wsL_law_r27 w) ((fun h => (List.mem_append.mp h).elim (in_wsL_law_r28 w) ((fun h => (List.mem_append.mp h).elim (in_wsL_law_r29 w) ((fun h => (List.mem_append.mp h).elim (in_wsL_law_r30 w) ((fun h => (List.mem_append.mp h).elim (in_wsL_law_r31 w) ((fun h => (List.mem_append.mp h).elim (in_wsL_law_r32 w) ((fun h => (List.mem_append.mp h).elim (in_wsL_law_r33 w) ((fun h => (List.mem_append.mp h).elim (in_wsL_law_r34 w) ((fun h => (List.mem_append.mp h).elim (in_wsL_law_r35 w) ((fun h => (List.mem_append.mp h).elim (in_wsL_law_r36 w) (in_wsL_law_r37 w))))))))))))))))))))))))))))))))))))))))))))))))))))))))))))))))))))))))) (inX6 w))) (inX7 w))) (inX4 w))) (inX5 w))) (inX3 w))) (inX2 w))) (inX0 w))) (inX1 w))) ((fun h => absurd h List.not_mem_nil)))
theorem inJ6 : ∀ w ∈ wsJ60, w ∈ lw_tbl := by decide +kernel
theorem inJ9 : ∀ w ∈ wsJ90, w ∈ lw_tbl := by decide +kernel
theorem inJ0 : ∀ w ∈ wsJ00, w ∈ lw_tbl := by decide +kernel
theorem inJ1 : ∀ w ∈ wsJ10, w ∈ lw_tbl := by decide +kernel
theorem inJ2 : ∀ w ∈ wsJ20, w ∈ lw_tbl := by decide +kernel
theorem inJ3 : ∀ w ∈ wsJ30, w ∈ lw_tbl := by decide +kernel
