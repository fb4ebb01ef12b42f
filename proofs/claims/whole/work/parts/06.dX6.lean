set_option maxRecDepth 20000 in
theorem ggX6_init_X4_init : GoodIn wsX6_init wsX4_init := goodIn_r _ [28, 29, 2, 3, 30, 9, 10, 31, 32, 33, 34, 35, 36, 37, 38, 39, 40, 41, 14, 15, 42, 43, 44, 45, 46, 47, 48, 49, 50, 51, 52, 53, 54, 55, 56, 57, 58, 59, 60, 86, 87, 88, 89, 73, 74, 75, 76, 77, 78, 106, 107, 108, 109, 110, 111, 90, 91, 92, 93, 94, 95, 96, 97] (by decide +kernel) (by decide +kernel)
set_option maxRecDepth 20000 in
theorem gX6_init_X4_init_n9 : GoodIn wsX6_init (wsX4_init) := ggX6_init_X4_init
set_option maxRecDepth 20000 in
theorem ggX6_init_X5_init : GoodIn wsX6_init wsX5_init := goodIn_r _ [35, 36, 2, 3, 37, 38, 39, 40, 41, 14, 15, 42, 43, 44, 45, 46, 47, 48, 49, 50, 51, 52, 53, 54, 55, 56, 57, 58, 59, 60, 106, 107, 108, 109, 110, 111, 86, 87, 88, 89, 90, 91, 92, 93, 94, 95, 96, 97] (by decide +kernel) (by decide +kernel)
set_option maxRecDepth 20000 in
theorem gX6_init_X5_init_n18 : GoodIn wsX6_init (wsX5_init) := ggX6_init_X5_init
set_option maxRecDepth 20000 in
theorem ggX6_init_X3_init : GoodIn wsX6_init wsX3_init := goodIn_r _ [54, 55, 2, 3, 43, 56, 57, 58, 59, 60, 90, 91, 92, 93, 94, 95, 96, 97] (by decide +kernel) (by decide +kernel)
set_option maxRecDepth 20000 in
theorem gX6_init_X3_init_n29 : GoodIn wsX6_init (wsX3_init) := ggX6_init_X3_init
set_option maxRecDepth 20000 in
theorem ggX6_init_X2_init : GoodIn wsX6_init wsX2_init := goodIn_r _ [62, 63, 2, 3, 43, 64, 65, 16, 66, 98, 99, 100, 101] (by decide +kernel) (by decide +kernel)
set_option maxRecDepth 20000 in
theorem gX6_init_X2_init_n36 : GoodIn wsX6_init (wsX2_init) := ggX6_init_X2_init
set_option maxRecDepth 20000 in
theorem ggX6_init_X0_init : GoodIn wsX6_init wsX0_init := goodIn_r _ [68, 69, 2, 3, 43, 70, 71, 72, 102, 103, 104, 105] (by decide +kernel) (by decide +kernel)
set_option maxRecDepth 20000 in
theorem gX6_init_X0_init_n43 : GoodIn wsX6_init (wsX0_init) := ggX6_init_X0_init
theorem dX6_init_0 : decode cX6_init 0 = .ok (.aload_n 0, 1) := by decide +kernel
theorem dX6_init_1 : decode cX6_init 1 = .ok (.invokespecial 1, 3) := by decide +kernel
theorem dX6_init_4 : decode cX6_init 4 = .ok (.aload_n 0, 1) := by decide +kernel
theorem dX6_init_5 : decode cX6_init 5 = .ok (.new 7, 3) := by decide +kernel
theorem dX6_init_8 : decode cX6_init 8 = .ok (.dup, 1) := by decide +kernel
theorem dX6_init_9 : decode cX6_init 9 = .ok (.invokespecial 9, 3) := by decide +kernel
theorem dX6_init_12 : decode cX6_init 12 = .ok (.putfield 10, 3) := by decide +kernel
theorem dX6_init_15 : decode cX6_init 15 = .ok (.aload_n 0, 1) := by decide +kernel
theorem dX6_init_16 : decode cX6_init 16 = .ok (.new 16, 3) := by decide +kernel
theorem dX6_init_19 : decode cX6_init 19 = .ok (.dup, 1) := by decide +kernel
theorem dX6_init_20 : decode cX6_init 20 = .ok (.invokespecial 18, 3) := by decide +kernel
theorem dX6_init_23 : decode cX6_init 23 = .ok (.putfield 19, 3) := by decide +kernel
theorem dX6_init_26 : decode cX6_init 26 = .ok (.aload_n 0, 1) := by decide +kernel
theorem dX6_init_27 : decode cX6_init 27 = .ok (.iconst 2, 1) := by decide +kernel
theorem dX6_init_28 : decode cX6_init 28 = .ok (.anewarray 23, 3) := by decide +kernel
theorem dX6_init_31 : decode cX6_init 31 = .ok (.putfield 25, 3) := by decide +kernel
theorem dX6_init_34 : decode cX6_init 34 = .ok (.iconst 0, 1) := by decide +kernel
theorem dX6_init_35 : decode cX6_init 35 = .ok (.istore_n 1, 1) := by decide +kernel
theorem dX6_init_36 : decode cX6_init 36 = .ok (.iload_n 1, 1) := by decide +kernel
theorem dX6_init_37 : decode cX6_init 37 = .ok (.iconst 2, 1) := by decide +kernel
theorem dX6_init_38 : decode cX6_init 38 = .ok (.if_icmp .ge 22, 3) := by decide +kernel
theorem dX6_init_41 : decode cX6_init 41 = .ok (.aload_n 0, 1) := by decide +kernel
theorem dX6_init_42 : decode cX6_init 42 = .ok (.getfield 25, 3) := by decide +kernel
theorem dX6_init_45 : decode cX6_init 45 = .ok (.iload_n 1, 1) := by decide +kernel
theorem dX6_init_46 : decode cX6_init 46 = .ok (.new 23, 3) := by decide +kernel
theorem dX6_init_49 : decode cX6_init 49 = .ok (.dup, 1) := by decide +kernel
theorem dX6_init_50 : decode cX6_init 50 = .ok (.invokespecial 29, 3) := by decide +kernel
theorem dX6_init_53 : decode cX6_init 53 = .ok (.aastore, 1) := by decide +kernel
theorem dX6_init_54 : decode cX6_init 54 = .ok (.iinc 1 1, 3) := by decide +kernel
theorem dX6_init_57 : decode cX6_init 57 = .ok (.goto (-21), 3) := by decide +kernel
theorem dX6_init_60 : decode cX6_init 60 = .ok (.aload_n 0, 1) := by decide +kernel
theorem dX6_init_61 : decode cX6_init 61 = .ok (.iconst 2, 1) := by decide +kernel
theorem dX6_init_62 : decode cX6_init 62 = .ok (.newarray .boolean, 2) := by decide +kernel
theorem dX6_init_64 : decode cX6_init 64 = .ok (.putfield 30, 3) := by decide +kernel
theorem dX6_init_67 : decode cX6_init 67 = .ok (.aload_n 0, 1) := by decide +kernel
theorem dX6_init_68 : decode cX6_init 68 = .ok (.new 34, 3) := by decide +kernel
theorem dX6_init_71 : decode cX6_init 71 = .ok (.dup, 1) := by decide +kernel
theorem dX6_init_72 : decode cX6_init 72 = .ok (.invokespecial 36, 3) := by decide +kernel
theorem dX6_init_75 : decode cX6_init 75 = .ok (.putfield 37, 3) := by decide +kernel
theorem dX6_init_78 : decode cX6_init 78 = .ok (.aload_n 0, 1) := by decide +kernel
theorem dX6_init_79 : decode cX6_init 79 = .ok (.new 41, 3) := by decide +kernel
theorem dX6_init_82 : decode cX6_init 82 = .ok (.dup, 1) := by decide +kernel
theorem dX6_init_83 : decode cX6_init 83 = .ok (.invokespecial 43, 3) := by decide +kernel
theorem dX6_init_86 : decode cX6_init 86 = .ok (.putfield 44, 3) := by decide +kernel
theorem dX6_init_89 : decode cX6_init 89 = .ok (.aload_n 0, 1) := by decide +kernel
theorem dX6_init_90 : decode cX6_init 90 = .ok (.iconst (-1), 1) := by decide +kernel
theorem dX6_init_91 : decode cX6_init 91 = .ok (.putfield 48, 3) := by decide +kernel
theorem dX6_init_94 : decode cX6_init 94 = .ok (.return_, 1) := by decide +kernel
set_option maxRecDepth 20000 in
theorem ggX6_feed_X4_append : GoodIn wsX6_feed wsX4_append := goodIn_r _ [10, 11, 12, 20, 21, 22, 23, 24, 25] (by decide +kernel) (by decide +kernel)
set_option maxRecDepth 20000 in
theorem gX6_feed_X4_append : GoodIn wsX6_feed (wsV RX6 59 RX4 yX4_append wsX4_append) := goodIn_app (goodIn_of _ (by decide +kernel)) ggX6_feed_X4_append
theorem dX6_feed_0 : decode cX6_feed 0 = .ok (.iload_n 1, 1) := by decide +kernel
theorem dX6_feed_1 : decode cX6_feed 1 = .ok (.iconst 1, 1) := by decide +kernel
theorem dX6_feed_2 : decode cX6_feed 2 = .ok (.if_icmp .lt 9, 3) := by decide +kernel
theorem dX6_feed_5 : decode cX6_feed 5 = .ok (.iload_n 1, 1) := by decide +kernel
theorem dX6_feed_6 : decode cX6_feed 6 = .ok (.bipush 8, 2) := by decide +kernel
theorem dX6_feed_8 : decode cX6_feed 8 = .ok (.if_icmp .le 6, 3) := by decide +kernel
theorem dX6_feed_11 : decode cX6_feed 11 = .ok (.ldc 52, 2) := by decide +kernel
theorem dX6_feed_13 : decode cX6_feed 13 = .ok (.ireturn, 1) := by decide +kernel
theorem dX6_feed_14 : decode cX6_feed 14 = .ok (.aload_n 0, 1) := by decide +kernel
theorem dX6_feed_15 : decode cX6_feed 15 = .ok (.getfield 10, 3) := by decide +kernel
theorem dX6_feed_18 : decode cX6_feed 18 = .ok (.getfield 53, 3) := by decide +kernel
theorem dX6_feed_21 : decode cX6_feed 21 = .ok (.iload_n 1, 1) := by decide +kernel
theorem dX6_feed_22 : decode cX6_feed 22 = .ok (.iadd, 1) := by decide +kernel
theorem dX6_feed_23 : decode cX6_feed 23 = .ok (.sipush 500, 3) := by decide +kernel
theorem dX6_feed_26 : decode cX6_feed 26 = .ok (.if_icmp .le 6, 3) := by decide +kernel
theorem dX6_feed_29 : decode cX6_feed 29 = .ok (.ldc 56, 2) := by decide +kernel
theorem dX6_feed_31 : decode cX6_feed 31 = .ok (.ireturn, 1) := by decide +kernel
theorem dX6_feed_32 : decode cX6_feed 32 = .ok (.iload_n 1, 1) := by decide +kernel
theorem dX6_feed_33 : decode cX6_feed 33 = .ok (.iconst 1, 1) := by decide +kernel
theorem dX6_feed_34 : decode cX6_feed 34 = .ok (.isub, 1) := by decide +kernel
theorem dX6_feed_35 : decode cX6_feed 35 = .ok (.istore 4, 2) := by decide +kernel
theorem dX6_feed_37 : decode cX6_feed 37 = .ok (.iload 4, 2) := by decide +kernel
theorem dX6_feed_39 : decode cX6_feed 39 = .ok (.ifCond .lt 28, 3) := by decide +kernel
theorem dX6_feed_42 : decode cX6_feed 42 = .ok (.aload_n 0, 1) := by decide +kernel
theorem dX6_feed_43 : decode cX6_feed 43 = .ok (.getfield 10, 3) := by decide +kernel
theorem dX6_feed_46 : decode cX6_feed 46 = .ok (.lload_n 2, 1) := by decide +kernel
theorem dX6_feed_47 : decode cX6_feed 47 = .ok (.bipush 8, 2) := by decide +kernel
theorem dX6_feed_49 : decode cX6_feed 49 = .ok (.iload 4, 2) := by decide +kernel
theorem dX6_feed_51 : decode cX6_feed 51 = .ok (.imul, 1) := by decide +kernel
theorem dX6_feed_52 : decode cX6_feed 52 = .ok (.lushr, 1) := by decide +kernel
theorem dX6_feed_53 : decode cX6_feed 53 = .ok (.ldc2_w 57, 3) := by decide +kernel
theorem dX6_feed_56 : decode cX6_feed 56 = .ok (.land, 1) := by decide +kernel
theorem dX6_feed_57 : decode cX6_feed 57 = .ok (.l2i, 1) := by decide +kernel
theorem dX6_feed_58 : decode cX6_feed 58 = .ok (.invokevirtual 59, 3) := by decide +kernel
theorem dX6_feed_61 : decode cX6_feed 61 = .ok (.iinc 4 (-1), 3) := by decide +kernel
theorem dX6_feed_64 : decode cX6_feed 64 = .ok (.goto (-27), 3) := by decide +kernel
theorem dX6_feed_67 : decode cX6_feed 67 = .ok (.aload_n 0, 1) := by decide +kernel
theorem dX6_feed_68 : decode cX6_feed 68 = .ok (.getfield 10, 3) := by decide +kernel
theorem dX6_feed_71 : decode cX6_feed 71 = .ok (.getfield 53, 3) := by decide +kernel
theorem dX6_feed_74 : decode cX6_feed 74 = .ok (.ireturn, 1) := by decide +kernel
set_option maxRecDepth 20000 in
theorem ggX6_town_X4_read : GoodIn wsX6_town wsX4_read := goodIn_r _ [19, 20, 21, 22, 23, 24, 25, 26, 27, 28, 29, 30, 31, 32, 33, 34, 35, 36, 18, 37, 38, 39, 40, 41, 42, 43, 44, 45, 46, 47, 48, 49, 50, 51, 52, 53, 54, 55, 56, 57, 58, 59, 60, 61, 62, 63, 64, 65, 66, 67, 68, 69, 70, 71, 72, 73, 74, 75, 76, 77, 78, 79, 80, 81, 82, 83, 84, 85, 86, 87, 88, 89, 90, 91, 92, 93, 94, 95, 96, 97, 98, 99, 100, 101, 102, 103, 104, 105, 106, 107, 108, 109, 110, 111, 112, 113, 114, 115, 116, 117, 118, 119, 120, 121, 122, 123, 124, 125, 126, 127, 128, 129, 130, 131, 132, 133, 134, 135, 136, 137, 138, 139, 140, 141, 142, 143, 144, 145, 146, 147, 148, 149, 150, 151, 152, 153, 154, 155, 156, 157, 158, 187, 188, 189, 190, 191, 192, 201, 202, 203, 204, 205, 206, 207, 208, 209, 210, 211, 212, 213, 214, 215, 216, 217, 218] (by decide +kernel) (by decide +kernel)
set_option maxRecDepth 20000 in
theorem gX6_town_X4_read : GoodIn wsX6_town (wsV RX6 63 RX4 yX4_read wsX4_read) := goodIn_app (goodIn_of _ (by decide +kernel)) ggX6_town_X4_read
set_option maxRecDepth 20000 in
theorem ggX6_town_X5_becomeTold : GoodIn wsX6_town wsX5_becomeTold := goodIn_r _ [162, 29, 32, 163, 164, 165, 166, 167, 168, 169, 170, 171, 172, 173, 174, 175, 176, 153, 177, 155, 156, 157, 158, 178, 179, 201, 202, 203, 204, 205, 206, 207, 208, 209, 210, 211, 212, 213, 214, 215, 216, 217, 218] (by decide +kernel) (by decide +kernel)
set_option maxRecDepth 20000 in
theorem gX6_town_X5_becomeTold : GoodIn wsX6_town (wsV RX6 76 RX5 yX5_becomeTold wsX5_becomeTold) := goodIn_app (goodIn_of _ (by decide +kernel)) ggX6_town_X5_becomeTold
theorem dX6_town_0 : decode cX6_town 0 = .ok (.aload_n 0, 1) := by decide +kernel
theorem dX6_town_1 : decode cX6_town 1 = .ok (.getfield 10, 3) := by decide +kernel
theorem dX6_town_4 : decode cX6_town 4 = .ok (.invokevirtual 63, 3) := by decide +kernel
theorem dX6_town_7 : decode cX6_town 7 = .ok (.istore_n 1, 1) := by decide +kernel
theorem dX6_town_8 : decode cX6_town 8 = .ok (.aload_n 0, 1) := by decide +kernel
theorem dX6_town_9 : decode cX6_town 9 = .ok (.getfield 10, 3) := by decide +kernel
theorem dX6_town_12 : decode cX6_town 12 = .ok (.iconst 0, 1) := by decide +kernel
theorem dX6_town_13 : decode cX6_town 13 = .ok (.putfield 53, 3) := by decide +kernel
theorem dX6_town_16 : decode cX6_town 16 = .ok (.iload_n 1, 1) := by decide +kernel
theorem dX6_town_17 : decode cX6_town 17 = .ok (.ifCond .ne 25, 3) := by decide +kernel
theorem dX6_town_20 : decode cX6_town 20 = .ok (.aload_n 0, 1) := by decide +kernel
theorem dX6_town_21 : decode cX6_town 21 = .ok (.aload_n 0, 1) := by decide +kernel
theorem dX6_town_22 : decode cX6_town 22 = .ok (.getfield 10, 3) := by decide +kernel
theorem dX6_town_25 : decode cX6_town 25 = .ok (.getfield 67, 3) := by decide +kernel
theorem dX6_town_28 : decode cX6_town 28 = .ok (.putfield 48, 3) := by decide +kernel
theorem dX6_town_31 : decode cX6_town 31 = .ok (.bipush (-10), 2) := by decide +kernel
theorem dX6_town_33 : decode cX6_town 33 = .ok (.aload_n 0, 1) := by decide +kernel
theorem dX6_town_34 : decode cX6_town 34 = .ok (.getfield 10, 3) := by decide +kernel
theorem dX6_town_37 : decode cX6_town 37 = .ok (.getfield 70, 3) := by decide +kernel
theorem dX6_town_40 : decode cX6_town 40 = .ok (.isub, 1) := by decide +kernel
theorem dX6_town_41 : decode cX6_town 41 = .ok (.ireturn, 1) := by decide +kernel
theorem dX6_town_42 : decode cX6_town 42 = .ok (.aload_n 0, 1) := by decide +kernel
theorem dX6_town_43 : decode cX6_town 43 = .ok (.iconst (-1), 1) := by decide +kernel
theorem dX6_town_44 : decode cX6_town 44 = .ok (.putfield 48, 3) := by decide +kernel
theorem dX6_town_47 : decode cX6_town 47 = .ok (.aload_n 0, 1) := by decide +kernel
theorem dX6_town_48 : decode cX6_town 48 = .ok (.getfield 19, 3) := by decide +kernel
theorem dX6_town_51 : decode cX6_town 51 = .ok (.aload_n 0, 1) := by decide +kernel
theorem dX6_town_52 : decode cX6_town 52 = .ok (.getfield 10, 3) := by decide +kernel
theorem dX6_town_55 : decode cX6_town 55 = .ok (.getfield 73, 3) := by decide +kernel
theorem dX6_town_58 : decode cX6_town 58 = .ok (.invokevirtual 76, 3) := by decide +kernel
theorem dX6_town_61 : decode cX6_town 61 = .ok (.iconst 0, 1) := by decide +kernel
theorem dX6_town_62 : decode cX6_town 62 = .ok (.istore_n 2, 1) := by decide +kernel
theorem dX6_town_63 : decode cX6_town 63 = .ok (.iload_n 2, 1) := by decide +kernel
theorem dX6_town_64 : decode cX6_town 64 = .ok (.iconst 2, 1) := by decide +kernel
theorem dX6_town_65 : decode cX6_town 65 = .ok (.if_icmp .ge 16, 3) := by decide +kernel
theorem dX6_town_68 : decode cX6_town 68 = .ok (.aload_n 0, 1) := by decide +kernel
theorem dX6_town_69 : decode cX6_town 69 = .ok (.getfield 30, 3) := by decide +kernel
theorem dX6_town_72 : decode cX6_town 72 = .ok (.iload_n 2, 1) := by decide +kernel
theorem dX6_town_73 : decode cX6_town 73 = .ok (.iconst 0, 1) := by decide +kernel
theorem dX6_town_74 : decode cX6_town 74 = .ok (.bastore, 1) := by decide +kernel
theorem dX6_town_75 : decode cX6_town 75 = .ok (.iinc 2 1, 3) := by decide +kernel
theorem dX6_town_78 : decode cX6_town 78 = .ok (.goto (-15), 3) := by decide +kernel
theorem dX6_town_81 : decode cX6_town 81 = .ok (.aload_n 0, 1) := by decide +kernel
theorem dX6_town_82 : decode cX6_town 82 = .ok (.getfield 37, 3) := by decide +kernel
theorem dX6_town_85 : decode cX6_town 85 = .ok (.iconst 0, 1) := by decide +kernel
theorem dX6_town_86 : decode cX6_town 86 = .ok (.putfield 80, 3) := by decide +kernel
theorem dX6_town_89 : decode cX6_town 89 = .ok (.aload_n 0, 1) := by decide +kernel
theorem dX6_town_90 : decode cX6_town 90 = .ok (.getfield 44, 3) := by decide +kernel
theorem dX6_town_93 : decode cX6_town 93 = .ok (.iconst 0, 1) := by decide +kernel
theorem dX6_town_94 : decode cX6_town 94 = .ok (.putfield 83, 3) := by decide +kernel
theorem dX6_town_97 : decode cX6_town 97 = .ok (.aload_n 0, 1) := by decide +kernel
theorem dX6_town_98 : decode cX6_town 98 = .ok (.getfield 19, 3) := by decide +kernel
theorem dX6_town_101 : decode cX6_town 101 = .ok (.getfield 84, 3) := by decide +kernel
theorem dX6_town_104 : decode cX6_town 104 = .ok (.getfield 88, 3) := by decide +kernel
theorem dX6_town_107 : decode cX6_town 107 = .ok (.ireturn, 1) := by decide +kernel
theorem dX6_fault_0 : decode cX6_fault 0 = .ok (.aload_n 0, 1) := by decide +kernel
theorem dX6_fault_1 : decode cX6_fault 1 = .ok (.getfield 48, 3) := by decide +kernel
theorem dX6_fault_4 : decode cX6_fault 4 = .ok (.ireturn, 1) := by decide +kernel
set_option maxRecDepth 20000 in
theorem ggX6_told_X5_allWorn : GoodIn wsX6_told wsX5_allWorn := goodIn_r _ [19, 20, 21, 22, 23, 31, 32, 33, 34, 35, 36, 37, 38, 39, 40, 41, 42, 43, 44, 45, 46, 47, 48] (by decide +kernel) (by decide +kernel)
set_option maxRecDepth 20000 in
theorem gX6_told_X5_allWorn : GoodIn wsX6_told (wsV RX6 106 RX5 yX5_allWorn wsX5_allWorn) := goodIn_app (goodIn_of _ (by decide +kernel)) ggX6_told_X5_allWorn
theorem dX6_told_0 : decode cX6_told 0 = .ok (.iload_n 1, 1) := by decide +kernel
theorem dX6_told_1 : decode cX6_told 1 = .ok (.tableswitch 123 0 7 #[47, 58, 69, 80, 88, 99, 107, 115], 47) := by decide +kernel
theorem dX6_told_48 : decode cX6_told 48 = .ok (.aload_n 0, 1) := by decide +kernel
theorem dX6_told_49 : decode cX6_told 49 = .ok (.getfield 19, 3) := by decide +kernel
theorem dX6_told_52 : decode cX6_told 52 = .ok (.getfield 84, 3) := by decide +kernel
theorem dX6_told_55 : decode cX6_told 55 = .ok (.getfield 88, 3) := by decide +kernel
theorem dX6_told_58 : decode cX6_told 58 = .ok (.ireturn, 1) := by decide +kernel
theorem dX6_told_59 : decode cX6_told 59 = .ok (.aload_n 0, 1) := by decide +kernel
theorem dX6_told_60 : decode cX6_told 60 = .ok (.getfield 19, 3) := by decide +kernel
theorem dX6_told_63 : decode cX6_told 63 = .ok (.getfield 84, 3) := by decide +kernel
theorem dX6_told_66 : decode cX6_told 66 = .ok (.getfield 93, 3) := by decide +kernel
theorem dX6_told_69 : decode cX6_told 69 = .ok (.ireturn, 1) := by decide +kernel
theorem dX6_told_70 : decode cX6_told 70 = .ok (.aload_n 0, 1) := by decide +kernel
theorem dX6_told_71 : decode cX6_told 71 = .ok (.getfield 19, 3) := by decide +kernel
theorem dX6_told_74 : decode cX6_told 74 = .ok (.getfield 96, 3) := by decide +kernel
theorem dX6_told_77 : decode cX6_told 77 = .ok (.getfield 100, 3) := by decide +kernel
theorem dX6_told_80 : decode cX6_told 80 = .ok (.ireturn, 1) := by decide +kernel
theorem dX6_told_81 : decode cX6_told 81 = .ok (.aload_n 0, 1) := by decide +kernel
theorem dX6_told_82 : decode cX6_told 82 = .ok (.getfield 10, 3) := by decide +kernel
theorem dX6_told_85 : decode cX6_told 85 = .ok (.getfield 53, 3) := by decide +kernel
theorem dX6_told_88 : decode cX6_told 88 = .ok (.ireturn, 1) := by decide +kernel
theorem dX6_told_89 : decode cX6_told 89 = .ok (.aload_n 0, 1) := by decide +kernel
theorem dX6_told_90 : decode cX6_told 90 = .ok (.getfield 19, 3) := by decide +kernel
theorem dX6_told_93 : decode cX6_told 93 = .ok (.getfield 96, 3) := by decide +kernel
theorem dX6_told_96 : decode cX6_told 96 = .ok (.getfield 103, 3) := by decide +kernel
theorem dX6_told_99 : decode cX6_told 99 = .ok (.ireturn, 1) := by decide +kernel
theorem dX6_told_100 : decode cX6_told 100 = .ok (.aload_n 0, 1) := by decide +kernel
theorem dX6_told_101 : decode cX6_told 101 = .ok (.getfield 37, 3) := by decide +kernel
theorem dX6_told_104 : decode cX6_told 104 = .ok (.getfield 80, 3) := by decide +kernel
theorem dX6_told_107 : decode cX6_told 107 = .ok (.ireturn, 1) := by decide +kernel
theorem dX6_told_108 : decode cX6_told 108 = .ok (.aload_n 0, 1) := by decide +kernel
theorem dX6_told_109 : decode cX6_told 109 = .ok (.getfield 44, 3) := by decide +kernel
theorem dX6_told_112 : decode cX6_told 112 = .ok (.getfield 83, 3) := by decide +kernel
theorem dX6_told_115 : decode cX6_told 115 = .ok (.ireturn, 1) := by decide +kernel
theorem dX6_told_116 : decode cX6_told 116 = .ok (.aload_n 0, 1) := by decide +kernel
theorem dX6_told_117 : decode cX6_told 117 = .ok (.getfield 19, 3) := by decide +kernel
theorem dX6_told_120 : decode cX6_told 120 = .ok (.invokevirtual 106, 3) := by decide +kernel
theorem dX6_told_123 : decode cX6_told 123 = .ok (.ireturn, 1) := by decide +kernel
theorem dX6_told_124 : decode cX6_told 124 = .ok (.ldc 52, 2) := by decide +kernel
theorem dX6_told_126 : decode cX6_told 126 = .ok (.ireturn, 1) := by decide +kernel
set_option maxRecDepth 20000 in
theorem ggX6_stair_X1_hasStair : GoodIn wsX6_stair wsX1_hasStair := goodIn_r _ [16, 17, 55, 56, 57, 58, 59, 60] (by decide +kernel) (by decide +kernel)
set_option maxRecDepth 20000 in
theorem gX6_stair_X1_hasStair : GoodIn wsX6_stair (wsV RX6 110 RX1 yX1_hasStair wsX1_hasStair) := goodIn_app (goodIn_of _ (by decide +kernel)) ggX6_stair_X1_hasStair
set_option maxRecDepth 20000 in
theorem ggX6_stair_X1_hasPart : GoodIn wsX6_stair wsX1_hasPart := goodIn_r _ [21, 22, 23, 13, 14, 15, 16, 17, 55, 56, 57, 58, 59, 60] (by decide +kernel) (by decide +kernel)
set_option maxRecDepth 20000 in
theorem gX6_stair_X1_hasPart : GoodIn wsX6_stair (wsV RX6 128 RX1 yX1_hasPart wsX1_hasPart) := goodIn_app (goodIn_of _ (by decide +kernel)) ggX6_stair_X1_hasPart
set_option maxRecDepth 20000 in
theorem ggX6_stair_X5_climbers : GoodIn wsX6_stair wsX5_climbers := goodIn_r _ [28, 29, 30, 31, 32, 33, 34, 35, 27, 36, 37, 38, 39, 40, 41, 42, 43, 51, 52, 53, 54, 61, 62, 63, 64, 65, 66, 67, 68, 55, 56, 57, 58, 59, 60] (by decide +kernel) (by decide +kernel)
set_option maxRecDepth 20000 in
theorem gX6_stair_X5_climbers : GoodIn wsX6_stair (wsV RX6 138 RX5 yX5_climbers wsX5_climbers) := goodIn_app (goodIn_of _ (by decide +kernel)) ggX6_stair_X5_climbers
theorem dX6_stair_0 : decode cX6_stair 0 = .ok (.aload_n 0, 1) := by decide +kernel
theorem dX6_stair_1 : decode cX6_stair 1 = .ok (.getfield 19, 3) := by decide +kernel
theorem dX6_stair_4 : decode cX6_stair 4 = .ok (.getfield 84, 3) := by decide +kernel
theorem dX6_stair_7 : decode cX6_stair 7 = .ok (.astore_n 3, 1) := by decide +kernel
theorem dX6_stair_8 : decode cX6_stair 8 = .ok (.aload_n 3, 1) := by decide +kernel
theorem dX6_stair_9 : decode cX6_stair 9 = .ok (.iload_n 1, 1) := by decide +kernel
theorem dX6_stair_10 : decode cX6_stair 10 = .ok (.invokevirtual 110, 3) := by decide +kernel
theorem dX6_stair_13 : decode cX6_stair 13 = .ok (.ifCond .ne 6, 3) := by decide +kernel
theorem dX6_stair_16 : decode cX6_stair 16 = .ok (.ldc 114, 2) := by decide +kernel
theorem dX6_stair_18 : decode cX6_stair 18 = .ok (.ireturn, 1) := by decide +kernel
theorem dX6_stair_19 : decode cX6_stair 19 = .ok (.iload_n 2, 1) := by decide +kernel
theorem dX6_stair_20 : decode cX6_stair 20 = .ok (.tableswitch 138 0 8 #[52, 59, 66, 73, 80, 80, 80, 114, 127], 52) := by decide +kernel
theorem dX6_stair_72 : decode cX6_stair 72 = .ok (.aload_n 3, 1) := by decide +kernel
theorem dX6_stair_73 : decode cX6_stair 73 = .ok (.getfield 115, 3) := by decide +kernel
theorem dX6_stair_76 : decode cX6_stair 76 = .ok (.iload_n 1, 1) := by decide +kernel
theorem dX6_stair_77 : decode cX6_stair 77 = .ok (.iaload, 1) := by decide +kernel
theorem dX6_stair_78 : decode cX6_stair 78 = .ok (.ireturn, 1) := by decide +kernel
theorem dX6_stair_79 : decode cX6_stair 79 = .ok (.aload_n 3, 1) := by decide +kernel
theorem dX6_stair_80 : decode cX6_stair 80 = .ok (.getfield 119, 3) := by decide +kernel
theorem dX6_stair_83 : decode cX6_stair 83 = .ok (.iload_n 1, 1) := by decide +kernel
theorem dX6_stair_84 : decode cX6_stair 84 = .ok (.iaload, 1) := by decide +kernel
theorem dX6_stair_85 : decode cX6_stair 85 = .ok (.ireturn, 1) := by decide +kernel
theorem dX6_stair_86 : decode cX6_stair 86 = .ok (.aload_n 3, 1) := by decide +kernel
theorem dX6_stair_87 : decode cX6_stair 87 = .ok (.getfield 122, 3) := by decide +kernel
theorem dX6_stair_90 : decode cX6_stair 90 = .ok (.iload_n 1, 1) := by decide +kernel
theorem dX6_stair_91 : decode cX6_stair 91 = .ok (.iaload, 1) := by decide +kernel
theorem dX6_stair_92 : decode cX6_stair 92 = .ok (.ireturn, 1) := by decide +kernel
theorem dX6_stair_93 : decode cX6_stair 93 = .ok (.aload_n 3, 1) := by decide +kernel
theorem dX6_stair_94 : decode cX6_stair 94 = .ok (.getfield 125, 3) := by decide +kernel
theorem dX6_stair_97 : decode cX6_stair 97 = .ok (.iload_n 1, 1) := by decide +kernel
theorem dX6_stair_98 : decode cX6_stair 98 = .ok (.iaload, 1) := by decide +kernel
theorem dX6_stair_99 : decode cX6_stair 99 = .ok (.ireturn, 1) := by decide +kernel
theorem dX6_stair_100 : decode cX6_stair 100 = .ok (.aload_n 3, 1) := by decide +kernel
theorem dX6_stair_101 : decode cX6_stair 101 = .ok (.iload_n 1, 1) := by decide +kernel
theorem dX6_stair_102 : decode cX6_stair 102 = .ok (.iload_n 2, 1) := by decide +kernel
theorem dX6_stair_103 : decode cX6_stair 103 = .ok (.iconst 4, 1) := by decide +kernel
theorem dX6_stair_104 : decode cX6_stair 104 = .ok (.isub, 1) := by decide +kernel
theorem dX6_stair_105 : decode cX6_stair 105 = .ok (.invokevirtual 128, 3) := by decide +kernel
theorem dX6_stair_108 : decode cX6_stair 108 = .ok (.ifCond .eq 24, 3) := by decide +kernel
theorem dX6_stair_111 : decode cX6_stair 111 = .ok (.aload_n 0, 1) := by decide +kernel
theorem dX6_stair_112 : decode cX6_stair 112 = .ok (.getfield 19, 3) := by decide +kernel
theorem dX6_stair_115 : decode cX6_stair 115 = .ok (.getfield 96, 3) := by decide +kernel
theorem dX6_stair_118 : decode cX6_stair 118 = .ok (.getfield 132, 3) := by decide +kernel
theorem dX6_stair_121 : decode cX6_stair 121 = .ok (.iconst 3, 1) := by decide +kernel
theorem dX6_stair_122 : decode cX6_stair 122 = .ok (.iload_n 1, 1) := by decide +kernel
theorem dX6_stair_123 : decode cX6_stair 123 = .ok (.imul, 1) := by decide +kernel
theorem dX6_stair_124 : decode cX6_stair 124 = .ok (.iload_n 2, 1) := by decide +kernel
theorem dX6_stair_125 : decode cX6_stair 125 = .ok (.iadd, 1) := by decide +kernel
theorem dX6_stair_126 : decode cX6_stair 126 = .ok (.iconst 4, 1) := by decide +kernel
theorem dX6_stair_127 : decode cX6_stair 127 = .ok (.isub, 1) := by decide +kernel
theorem dX6_stair_128 : decode cX6_stair 128 = .ok (.iaload, 1) := by decide +kernel
theorem dX6_stair_129 : decode cX6_stair 129 = .ok (.goto 4, 3) := by decide +kernel
theorem dX6_stair_132 : decode cX6_stair 132 = .ok (.iconst 0, 1) := by decide +kernel
theorem dX6_stair_133 : decode cX6_stair 133 = .ok (.ireturn, 1) := by decide +kernel
theorem dX6_stair_134 : decode cX6_stair 134 = .ok (.aload_n 0, 1) := by decide +kernel
theorem dX6_stair_135 : decode cX6_stair 135 = .ok (.getfield 19, 3) := by decide +kernel
theorem dX6_stair_138 : decode cX6_stair 138 = .ok (.getfield 96, 3) := by decide +kernel
theorem dX6_stair_141 : decode cX6_stair 141 = .ok (.getfield 135, 3) := by decide +kernel
theorem dX6_stair_144 : decode cX6_stair 144 = .ok (.iload_n 1, 1) := by decide +kernel
theorem dX6_stair_145 : decode cX6_stair 145 = .ok (.iaload, 1) := by decide +kernel
theorem dX6_stair_146 : decode cX6_stair 146 = .ok (.ireturn, 1) := by decide +kernel
theorem dX6_stair_147 : decode cX6_stair 147 = .ok (.aload_n 0, 1) := by decide +kernel
theorem dX6_stair_148 : decode cX6_stair 148 = .ok (.getfield 19, 3) := by decide +kernel
theorem dX6_stair_151 : decode cX6_stair 151 = .ok (.iload_n 1, 1) := by decide +kernel
theorem dX6_stair_152 : decode cX6_stair 152 = .ok (.iconst (-1), 1) := by decide +kernel
theorem dX6_stair_153 : decode cX6_stair 153 = .ok (.iconst 0, 1) := by decide +kernel
theorem dX6_stair_154 : decode cX6_stair 154 = .ok (.invokevirtual 138, 3) := by decide +kernel
theorem dX6_stair_157 : decode cX6_stair 157 = .ok (.ireturn, 1) := by decide +kernel
theorem dX6_stair_158 : decode cX6_stair 158 = .ok (.ldc 52, 2) := by decide +kernel
theorem dX6_stair_160 : decode cX6_stair 160 = .ok (.ireturn, 1) := by decide +kernel
set_option maxRecDepth 20000 in
theorem ggX6_person_X3_hasPerson : GoodIn wsX6_person wsX3_hasPerson := goodIn_r _ [12, 13, 72, 73, 74, 75, 76, 77, 78, 79] (by decide +kernel) (by decide +kernel)
set_option maxRecDepth 20000 in
theorem gX6_person_X3_hasPerson : GoodIn wsX6_person (wsV RX6 142 RX3 yX3_hasPerson wsX3_hasPerson) := goodIn_app (goodIn_of _ (by decide +kernel)) ggX6_person_X3_hasPerson
set_option maxRecDepth 20000 in
theorem ggX6_person_X5_reachOfPerson : GoodIn wsX6_person wsX5_reachOfPerson := goodIn_r _ [18, 19, 20, 21, 22, 23, 24, 25, 17, 26, 27, 28, 29, 30, 31, 32, 33, 34, 35, 36, 37, 38, 39, 40, 41, 42, 43, 44, 45, 46, 47, 48, 49, 50, 51, 52, 53, 54, 55, 56, 57, 58, 59, 60, 68, 69, 70, 71, 72, 73, 74, 75, 76, 77, 78, 79, 80, 81, 82, 83, 84, 85] (by decide +kernel) (by decide +kernel)
set_option maxRecDepth 20000 in
theorem gX6_person_X5_reachOfPerson : GoodIn wsX6_person (wsV RX6 154 RX5 yX5_reachOfPerson wsX5_reachOfPerson) := goodIn_app (goodIn_of _ (by decide +kernel)) ggX6_person_X5_reachOfPerson
theorem dX6_person_0 : decode cX6_person 0 = .ok (.aload_n 0, 1) := by decide +kernel
theorem dX6_person_1 : decode cX6_person 1 = .ok (.getfield 19, 3) := by decide +kernel
theorem dX6_person_4 : decode cX6_person 4 = .ok (.getfield 96, 3) := by decide +kernel
theorem dX6_person_7 : decode cX6_person 7 = .ok (.astore_n 3, 1) := by decide +kernel
theorem dX6_person_8 : decode cX6_person 8 = .ok (.aload_n 3, 1) := by decide +kernel
theorem dX6_person_9 : decode cX6_person 9 = .ok (.iload_n 1, 1) := by decide +kernel
theorem dX6_person_10 : decode cX6_person 10 = .ok (.invokevirtual 142, 3) := by decide +kernel
theorem dX6_person_13 : decode cX6_person 13 = .ok (.ifCond .ne 6, 3) := by decide +kernel
theorem dX6_person_16 : decode cX6_person 16 = .ok (.ldc 114, 2) := by decide +kernel
theorem dX6_person_18 : decode cX6_person 18 = .ok (.ireturn, 1) := by decide +kernel
theorem dX6_person_19 : decode cX6_person 19 = .ok (.iload_n 2, 1) := by decide +kernel
theorem dX6_person_20 : decode cX6_person 20 = .ok (.tableswitch 62 0 3 #[32, 39, 46, 53], 32) := by decide +kernel
theorem dX6_person_52 : decode cX6_person 52 = .ok (.aload_n 3, 1) := by decide +kernel
theorem dX6_person_53 : decode cX6_person 53 = .ok (.getfield 145, 3) := by decide +kernel
theorem dX6_person_56 : decode cX6_person 56 = .ok (.iload_n 1, 1) := by decide +kernel
theorem dX6_person_57 : decode cX6_person 57 = .ok (.iaload, 1) := by decide +kernel
theorem dX6_person_58 : decode cX6_person 58 = .ok (.ireturn, 1) := by decide +kernel
theorem dX6_person_59 : decode cX6_person 59 = .ok (.aload_n 3, 1) := by decide +kernel
theorem dX6_person_60 : decode cX6_person 60 = .ok (.getfield 148, 3) := by decide +kernel
theorem dX6_person_63 : decode cX6_person 63 = .ok (.iload_n 1, 1) := by decide +kernel
theorem dX6_person_64 : decode cX6_person 64 = .ok (.iaload, 1) := by decide +kernel
theorem dX6_person_65 : decode cX6_person 65 = .ok (.ireturn, 1) := by decide +kernel
theorem dX6_person_66 : decode cX6_person 66 = .ok (.aload_n 3, 1) := by decide +kernel
theorem dX6_person_67 : decode cX6_person 67 = .ok (.getfield 151, 3) := by decide +kernel
theorem dX6_person_70 : decode cX6_person 70 = .ok (.iload_n 1, 1) := by decide +kernel
theorem dX6_person_71 : decode cX6_person 71 = .ok (.iaload, 1) := by decide +kernel
theorem dX6_person_72 : decode cX6_person 72 = .ok (.ireturn, 1) := by decide +kernel
theorem dX6_person_73 : decode cX6_person 73 = .ok (.aload_n 0, 1) := by decide +kernel
theorem dX6_person_74 : decode cX6_person 74 = .ok (.getfield 19, 3) := by decide +kernel
theorem dX6_person_77 : decode cX6_person 77 = .ok (.iload_n 1, 1) := by decide +kernel
theorem dX6_person_78 : decode cX6_person 78 = .ok (.invokevirtual 154, 3) := by decide +kernel
theorem dX6_person_81 : decode cX6_person 81 = .ok (.ireturn, 1) := by decide +kernel
theorem dX6_person_82 : decode cX6_person 82 = .ok (.ldc 52, 2) := by decide +kernel
theorem dX6_person_84 : decode cX6_person 84 = .ok (.ireturn, 1) := by decide +kernel
set_option maxRecDepth 20000 in
theorem ggX6_fit_X1_hasStair : GoodIn wsX6_fit wsX1_hasStair := goodIn_r _ [9, 10, 38, 39, 40, 41, 42, 43] (by decide +kernel) (by decide +kernel)
set_option maxRecDepth 20000 in
theorem gX6_fit_X1_hasStair : GoodIn wsX6_fit (wsV RX6 110 RX1 yX1_hasStair wsX1_hasStair) := goodIn_app (goodIn_of _ (by decide +kernel)) ggX6_fit_X1_hasStair
set_option maxRecDepth 20000 in
theorem ggX6_fit_X6_isStride : GoodIn wsX6_fit wsX6_isStride := goodIn_r _ [14] (by decide +kernel) (by decide +kernel)
set_option maxRecDepth 20000 in
theorem gX6_fit_X6_isStride : GoodIn wsX6_fit (va_wsS RX6 158 yX6_isStride wsX6_isStride) := goodIn_app (goodIn_of _ (by decide +kernel)) ggX6_fit_X6_isStride
set_option maxRecDepth 20000 in
theorem ggX6_fit_X5_allows : GoodIn wsX6_fit wsX5_allows := goodIn_r _ [19, 20, 21, 22, 23, 24, 25, 13, 26, 34, 35, 36, 37, 38, 39, 40, 41, 42, 43, 44, 45, 46, 47, 48, 49, 50, 51] (by decide +kernel) (by decide +kernel)
set_option maxRecDepth 20000 in
theorem gX6_fit_X5_allows : GoodIn wsX6_fit (wsV RX6 161 RX5 yX5_allows wsX5_allows) := goodIn_app (goodIn_of _ (by decide +kernel)) ggX6_fit_X5_allows
theorem dX6_fit_0 : decode cX6_fit 0 = .ok (.aload_n 0, 1) := by decide +kernel
theorem dX6_fit_1 : decode cX6_fit 1 = .ok (.getfield 19, 3) := by decide +kernel
theorem dX6_fit_4 : decode cX6_fit 4 = .ok (.getfield 84, 3) := by decide +kernel
theorem dX6_fit_7 : decode cX6_fit 7 = .ok (.iload_n 1, 1) := by decide +kernel
theorem dX6_fit_8 : decode cX6_fit 8 = .ok (.invokevirtual 110, 3) := by decide +kernel
theorem dX6_fit_11 : decode cX6_fit 11 = .ok (.ifCond .ne 6, 3) := by decide +kernel
theorem dX6_fit_14 : decode cX6_fit 14 = .ok (.ldc 114, 2) := by decide +kernel
theorem dX6_fit_16 : decode cX6_fit 16 = .ok (.ireturn, 1) := by decide +kernel
theorem dX6_fit_17 : decode cX6_fit 17 = .ok (.iload_n 2, 1) := by decide +kernel
theorem dX6_fit_18 : decode cX6_fit 18 = .ok (.invokestatic 158, 3) := by decide +kernel
theorem dX6_fit_21 : decode cX6_fit 21 = .ok (.ifCond .ne 6, 3) := by decide +kernel
theorem dX6_fit_24 : decode cX6_fit 24 = .ok (.ldc 52, 2) := by decide +kernel
theorem dX6_fit_26 : decode cX6_fit 26 = .ok (.ireturn, 1) := by decide +kernel
theorem dX6_fit_27 : decode cX6_fit 27 = .ok (.aload_n 0, 1) := by decide +kernel
theorem dX6_fit_28 : decode cX6_fit 28 = .ok (.getfield 19, 3) := by decide +kernel
theorem dX6_fit_31 : decode cX6_fit 31 = .ok (.iload_n 1, 1) := by decide +kernel
theorem dX6_fit_32 : decode cX6_fit 32 = .ok (.iload_n 2, 1) := by decide +kernel
theorem dX6_fit_33 : decode cX6_fit 33 = .ok (.iconst (-1), 1) := by decide +kernel
theorem dX6_fit_34 : decode cX6_fit 34 = .ok (.iconst 0, 1) := by decide +kernel
theorem dX6_fit_35 : decode cX6_fit 35 = .ok (.invokevirtual 161, 3) := by decide +kernel
theorem dX6_fit_38 : decode cX6_fit 38 = .ok (.ifCond .eq 7, 3) := by decide +kernel
theorem dX6_fit_41 : decode cX6_fit 41 = .ok (.iconst 1, 1) := by decide +kernel
theorem dX6_fit_42 : decode cX6_fit 42 = .ok (.goto 4, 3) := by decide +kernel
theorem dX6_fit_45 : decode cX6_fit 45 = .ok (.iconst 0, 1) := by decide +kernel
theorem dX6_fit_46 : decode cX6_fit 46 = .ok (.ireturn, 1) := by decide +kernel
set_option maxRecDepth 20000 in
theorem ggX6_go_X3_hasPerson : GoodIn wsX6_go wsX3_hasPerson := goodIn_r _ [11, 12, 74, 75, 76, 77, 78, 79, 80, 81] (by decide +kernel) (by decide +kernel)
set_option maxRecDepth 20000 in
theorem gX6_go_X3_hasPerson : GoodIn wsX6_go (wsV RX6 142 RX3 yX3_hasPerson wsX3_hasPerson) := goodIn_app (goodIn_of _ (by decide +kernel)) ggX6_go_X3_hasPerson
set_option maxRecDepth 20000 in
theorem ggX6_go_X1_hasStair : GoodIn wsX6_go wsX1_hasStair := goodIn_r _ [17, 18, 82, 83, 84, 85, 86, 87] (by decide +kernel) (by decide +kernel)
set_option maxRecDepth 20000 in
theorem gX6_go_X1_hasStair : GoodIn wsX6_go (wsV RX6 110 RX1 yX1_hasStair wsX1_hasStair) := goodIn_app (goodIn_of _ (by decide +kernel)) ggX6_go_X1_hasStair
set_option maxRecDepth 20000 in
theorem ggX6_go_X5_travel : GoodIn wsX6_go wsX5_travel := goodIn_r _ [23, 24, 25, 26, 27, 28, 29, 22, 30, 31, 32, 33, 34, 35, 36, 37, 38, 39, 40, 41, 42, 43, 44, 45, 46, 47, 48, 49, 50, 51, 52, 53, 54, 55, 56, 57, 58, 59, 60, 61, 62, 70, 71, 72, 73, 74, 75, 76, 77, 78, 79, 80, 81, 82, 83, 84, 85, 86, 87] (by decide +kernel) (by decide +kernel)
set_option maxRecDepth 20000 in
theorem gX6_go_X5_travel : GoodIn wsX6_go (wsV RX6 165 RX5 yX5_travel wsX5_travel) := goodIn_app (goodIn_of _ (by decide +kernel)) ggX6_go_X5_travel
theorem dX6_go_0 : decode cX6_go 0 = .ok (.aload_n 0, 1) := by decide +kernel
theorem dX6_go_1 : decode cX6_go 1 = .ok (.getfield 19, 3) := by decide +kernel
theorem dX6_go_4 : decode cX6_go 4 = .ok (.getfield 96, 3) := by decide +kernel
theorem dX6_go_7 : decode cX6_go 7 = .ok (.iload_n 1, 1) := by decide +kernel
theorem dX6_go_8 : decode cX6_go 8 = .ok (.invokevirtual 142, 3) := by decide +kernel
theorem dX6_go_11 : decode cX6_go 11 = .ok (.ifCond .eq 17, 3) := by decide +kernel
theorem dX6_go_14 : decode cX6_go 14 = .ok (.aload_n 0, 1) := by decide +kernel
theorem dX6_go_15 : decode cX6_go 15 = .ok (.getfield 19, 3) := by decide +kernel
theorem dX6_go_18 : decode cX6_go 18 = .ok (.getfield 84, 3) := by decide +kernel
theorem dX6_go_21 : decode cX6_go 21 = .ok (.iload_n 2, 1) := by decide +kernel
theorem dX6_go_22 : decode cX6_go 22 = .ok (.invokevirtual 110, 3) := by decide +kernel
theorem dX6_go_25 : decode cX6_go 25 = .ok (.ifCond .ne 6, 3) := by decide +kernel
theorem dX6_go_28 : decode cX6_go 28 = .ok (.ldc 114, 2) := by decide +kernel
theorem dX6_go_30 : decode cX6_go 30 = .ok (.ireturn, 1) := by decide +kernel
theorem dX6_go_31 : decode cX6_go 31 = .ok (.aload_n 0, 1) := by decide +kernel
theorem dX6_go_32 : decode cX6_go 32 = .ok (.getfield 19, 3) := by decide +kernel
theorem dX6_go_35 : decode cX6_go 35 = .ok (.iload_n 1, 1) := by decide +kernel
theorem dX6_go_36 : decode cX6_go 36 = .ok (.iload_n 2, 1) := by decide +kernel
theorem dX6_go_37 : decode cX6_go 37 = .ok (.invokevirtual 165, 3) := by decide +kernel
theorem dX6_go_40 : decode cX6_go 40 = .ok (.ifCond .eq 18, 3) := by decide +kernel
theorem dX6_go_43 : decode cX6_go 43 = .ok (.aload_n 0, 1) := by decide +kernel
theorem dX6_go_44 : decode cX6_go 44 = .ok (.getfield 19, 3) := by decide +kernel
theorem dX6_go_47 : decode cX6_go 47 = .ok (.getfield 96, 3) := by decide +kernel
theorem dX6_go_50 : decode cX6_go 50 = .ok (.getfield 145, 3) := by decide +kernel
theorem dX6_go_53 : decode cX6_go 53 = .ok (.iload_n 1, 1) := by decide +kernel
theorem dX6_go_54 : decode cX6_go 54 = .ok (.iaload, 1) := by decide +kernel
theorem dX6_go_55 : decode cX6_go 55 = .ok (.goto 5, 3) := by decide +kernel
theorem dX6_go_58 : decode cX6_go 58 = .ok (.ldc 168, 2) := by decide +kernel
theorem dX6_go_60 : decode cX6_go 60 = .ok (.ireturn, 1) := by decide +kernel
set_option maxRecDepth 20000 in
theorem ggX6_build_X1_hasPart : GoodIn wsX6_build wsX1_hasPart := goodIn_r _ [11, 12, 13, 14, 15, 10, 16, 17, 41, 42, 43, 44, 45, 46] (by decide +kernel) (by decide +kernel)
set_option maxRecDepth 20000 in
theorem gX6_build_X1_hasPart : GoodIn wsX6_build (wsV RX6 128 RX1 yX1_hasPart wsX1_hasPart) := goodIn_app (goodIn_of _ (by decide +kernel)) ggX6_build_X1_hasPart
set_option maxRecDepth 20000 in
theorem ggX6_build_X6_areSteps : GoodIn wsX6_build wsX6_areSteps := goodIn_r _ [21] (by decide +kernel) (by decide +kernel)
set_option maxRecDepth 20000 in
theorem gX6_build_X6_areSteps : GoodIn wsX6_build (va_wsS RX6 169 yX6_areSteps wsX6_areSteps) := goodIn_app (goodIn_of _ (by decide +kernel)) ggX6_build_X6_areSteps
theorem dX6_build_0 : decode cX6_build 0 = .ok (.aload_n 0, 1) := by decide +kernel
theorem dX6_build_1 : decode cX6_build 1 = .ok (.getfield 19, 3) := by decide +kernel
theorem dX6_build_4 : decode cX6_build 4 = .ok (.getfield 84, 3) := by decide +kernel
theorem dX6_build_7 : decode cX6_build 7 = .ok (.iload_n 1, 1) := by decide +kernel
theorem dX6_build_8 : decode cX6_build 8 = .ok (.iload_n 2, 1) := by decide +kernel
theorem dX6_build_9 : decode cX6_build 9 = .ok (.invokevirtual 128, 3) := by decide +kernel
theorem dX6_build_12 : decode cX6_build 12 = .ok (.ifCond .ne 6, 3) := by decide +kernel
theorem dX6_build_15 : decode cX6_build 15 = .ok (.ldc 114, 2) := by decide +kernel
theorem dX6_build_17 : decode cX6_build 17 = .ok (.ireturn, 1) := by decide +kernel
theorem dX6_build_18 : decode cX6_build 18 = .ok (.iload_n 3, 1) := by decide +kernel
theorem dX6_build_19 : decode cX6_build 19 = .ok (.invokestatic 169, 3) := by decide +kernel
theorem dX6_build_22 : decode cX6_build 22 = .ok (.ifCond .ne 6, 3) := by decide +kernel
theorem dX6_build_25 : decode cX6_build 25 = .ok (.ldc 52, 2) := by decide +kernel
theorem dX6_build_27 : decode cX6_build 27 = .ok (.ireturn, 1) := by decide +kernel
theorem dX6_build_28 : decode cX6_build 28 = .ok (.aload_n 0, 1) := by decide +kernel
theorem dX6_build_29 : decode cX6_build 29 = .ok (.getfield 19, 3) := by decide +kernel
theorem dX6_build_32 : decode cX6_build 32 = .ok (.getfield 96, 3) := by decide +kernel
theorem dX6_build_35 : decode cX6_build 35 = .ok (.getfield 132, 3) := by decide +kernel
theorem dX6_build_38 : decode cX6_build 38 = .ok (.iconst 3, 1) := by decide +kernel
theorem dX6_build_39 : decode cX6_build 39 = .ok (.iload_n 1, 1) := by decide +kernel
theorem dX6_build_40 : decode cX6_build 40 = .ok (.imul, 1) := by decide +kernel
theorem dX6_build_41 : decode cX6_build 41 = .ok (.iload_n 2, 1) := by decide +kernel
theorem dX6_build_42 : decode cX6_build 42 = .ok (.iadd, 1) := by decide +kernel
theorem dX6_build_43 : decode cX6_build 43 = .ok (.iaload, 1) := by decide +kernel
theorem dX6_build_44 : decode cX6_build 44 = .ok (.istore 4, 2) := by decide +kernel
theorem dX6_build_46 : decode cX6_build 46 = .ok (.aload_n 0, 1) := by decide +kernel
theorem dX6_build_47 : decode cX6_build 47 = .ok (.getfield 19, 3) := by decide +kernel
theorem dX6_build_50 : decode cX6_build 50 = .ok (.getfield 96, 3) := by decide +kernel
theorem dX6_build_53 : decode cX6_build 53 = .ok (.getfield 132, 3) := by decide +kernel
theorem dX6_build_56 : decode cX6_build 56 = .ok (.iconst 3, 1) := by decide +kernel
theorem dX6_build_57 : decode cX6_build 57 = .ok (.iload_n 1, 1) := by decide +kernel
theorem dX6_build_58 : decode cX6_build 58 = .ok (.imul, 1) := by decide +kernel
theorem dX6_build_59 : decode cX6_build 59 = .ok (.iload_n 2, 1) := by decide +kernel
theorem dX6_build_60 : decode cX6_build 60 = .ok (.iadd, 1) := by decide +kernel
theorem dX6_build_61 : decode cX6_build 61 = .ok (.iload_n 3, 1) := by decide +kernel
theorem dX6_build_62 : decode cX6_build 62 = .ok (.iastore, 1) := by decide +kernel
theorem dX6_build_63 : decode cX6_build 63 = .ok (.iload 4, 2) := by decide +kernel
theorem dX6_build_65 : decode cX6_build 65 = .ok (.ireturn, 1) := by decide +kernel
theorem dX6_law_0 : decode cX6_law 0 = .ok (.iload_n 1, 1) := by decide +kernel
theorem dX6_law_1 : decode cX6_law 1 = .ok (.ifCond .eq 11, 3) := by decide +kernel
theorem dX6_law_4 : decode cX6_law 4 = .ok (.iload_n 1, 1) := by decide +kernel
theorem dX6_law_5 : decode cX6_law 5 = .ok (.iconst 1, 1) := by decide +kernel
theorem dX6_law_6 : decode cX6_law 6 = .ok (.if_icmp .eq 6, 3) := by decide +kernel
theorem dX6_law_9 : decode cX6_law 9 = .ok (.ldc 52, 2) := by decide +kernel
theorem dX6_law_11 : decode cX6_law 11 = .ok (.ireturn, 1) := by decide +kernel
theorem dX6_law_12 : decode cX6_law 12 = .ok (.aload_n 0, 1) := by decide +kernel
theorem dX6_law_13 : decode cX6_law 13 = .ok (.getfield 19, 3) := by decide +kernel
theorem dX6_law_16 : decode cX6_law 16 = .ok (.getfield 96, 3) := by decide +kernel
theorem dX6_law_19 : decode cX6_law 19 = .ok (.getfield 103, 3) := by decide +kernel
theorem dX6_law_22 : decode cX6_law 22 = .ok (.istore_n 2, 1) := by decide +kernel
theorem dX6_law_23 : decode cX6_law 23 = .ok (.aload_n 0, 1) := by decide +kernel
theorem dX6_law_24 : decode cX6_law 24 = .ok (.getfield 19, 3) := by decide +kernel
theorem dX6_law_27 : decode cX6_law 27 = .ok (.getfield 96, 3) := by decide +kernel
theorem dX6_law_30 : decode cX6_law 30 = .ok (.iload_n 1, 1) := by decide +kernel
theorem dX6_law_31 : decode cX6_law 31 = .ok (.putfield 103, 3) := by decide +kernel
theorem dX6_law_34 : decode cX6_law 34 = .ok (.iload_n 2, 1) := by decide +kernel
theorem dX6_law_35 : decode cX6_law 35 = .ok (.ireturn, 1) := by decide +kernel
set_option maxRecDepth 20000 in
theorem ggX6_drift_X5_liveDay : GoodIn wsX6_drift wsX5_liveDay := goodIn_r _ [12, 13, 14, 15, 16, 17, 18, 19, 20, 21, 22, 23, 24, 25, 26, 27, 28, 29, 30, 31, 11, 32, 33, 34, 35, 36, 37, 38, 39, 40, 41, 42, 43, 44, 45, 46, 47, 48, 49, 50, 51, 52, 53, 54, 55, 56, 57, 58, 59, 60, 61, 62, 63, 64, 65, 66, 67, 68, 69, 70, 71, 72, 73, 74, 75, 83, 84, 85, 86, 87, 88, 89, 90, 91, 92, 93, 94, 95, 96, 97, 98, 99, 100] (by decide +kernel) (by decide +kernel)
set_option maxRecDepth 20000 in
theorem gX6_drift_X5_liveDay : GoodIn wsX6_drift (wsV RX6 172 RX5 yX5_liveDay wsX5_liveDay) := goodIn_app (goodIn_of _ (by decide +kernel)) ggX6_drift_X5_liveDay
theorem dX6_drift_0 : decode cX6_drift 0 = .ok (.iload_n 1, 1) := by decide +kernel
theorem dX6_drift_1 : decode cX6_drift 1 = .ok (.iconst 1, 1) := by decide +kernel
theorem dX6_drift_2 : decode cX6_drift 2 = .ok (.if_icmp .lt 9, 3) := by decide +kernel
theorem dX6_drift_5 : decode cX6_drift 5 = .ok (.iload_n 1, 1) := by decide +kernel
theorem dX6_drift_6 : decode cX6_drift 6 = .ok (.bipush 99, 2) := by decide +kernel
theorem dX6_drift_8 : decode cX6_drift 8 = .ok (.if_icmp .le 6, 3) := by decide +kernel
theorem dX6_drift_11 : decode cX6_drift 11 = .ok (.ldc 52, 2) := by decide +kernel
theorem dX6_drift_13 : decode cX6_drift 13 = .ok (.ireturn, 1) := by decide +kernel
theorem dX6_drift_14 : decode cX6_drift 14 = .ok (.aload_n 0, 1) := by decide +kernel
theorem dX6_drift_15 : decode cX6_drift 15 = .ok (.getfield 19, 3) := by decide +kernel
theorem dX6_drift_18 : decode cX6_drift 18 = .ok (.getfield 96, 3) := by decide +kernel
theorem dX6_drift_21 : decode cX6_drift 21 = .ok (.getfield 100, 3) := by decide +kernel
theorem dX6_drift_24 : decode cX6_drift 24 = .ok (.ifCond .eq 16, 3) := by decide +kernel
theorem dX6_drift_27 : decode cX6_drift 27 = .ok (.aload_n 0, 1) := by decide +kernel
theorem dX6_drift_28 : decode cX6_drift 28 = .ok (.getfield 19, 3) := by decide +kernel
theorem dX6_drift_31 : decode cX6_drift 31 = .ok (.getfield 84, 3) := by decide +kernel
theorem dX6_drift_34 : decode cX6_drift 34 = .ok (.getfield 93, 3) := by decide +kernel
theorem dX6_drift_37 : decode cX6_drift 37 = .ok (.ifCond .ne 6, 3) := by decide +kernel
theorem dX6_drift_40 : decode cX6_drift 40 = .ok (.ldc 168, 2) := by decide +kernel
theorem dX6_drift_42 : decode cX6_drift 42 = .ok (.ireturn, 1) := by decide +kernel
theorem dX6_drift_43 : decode cX6_drift 43 = .ok (.iconst 0, 1) := by decide +kernel
theorem dX6_drift_44 : decode cX6_drift 44 = .ok (.istore_n 2, 1) := by decide +kernel
theorem dX6_drift_45 : decode cX6_drift 45 = .ok (.iload_n 2, 1) := by decide +kernel
theorem dX6_drift_46 : decode cX6_drift 46 = .ok (.iload_n 1, 1) := by decide +kernel
theorem dX6_drift_47 : decode cX6_drift 47 = .ok (.if_icmp .ge 16, 3) := by decide +kernel
theorem dX6_drift_50 : decode cX6_drift 50 = .ok (.aload_n 0, 1) := by decide +kernel
theorem dX6_drift_51 : decode cX6_drift 51 = .ok (.getfield 19, 3) := by decide +kernel
theorem dX6_drift_54 : decode cX6_drift 54 = .ok (.invokevirtual 172, 3) := by decide +kernel
theorem dX6_drift_57 : decode cX6_drift 57 = .ok (.iinc 2 1, 3) := by decide +kernel
theorem dX6_drift_60 : decode cX6_drift 60 = .ok (.goto (-15), 3) := by decide +kernel
theorem dX6_drift_63 : decode cX6_drift 63 = .ok (.aload_n 0, 1) := by decide +kernel
theorem dX6_drift_64 : decode cX6_drift 64 = .ok (.getfield 19, 3) := by decide +kernel
theorem dX6_drift_67 : decode cX6_drift 67 = .ok (.getfield 96, 3) := by decide +kernel
theorem dX6_drift_70 : decode cX6_drift 70 = .ok (.getfield 100, 3) := by decide +kernel
theorem dX6_drift_73 : decode cX6_drift 73 = .ok (.ireturn, 1) := by decide +kernel
set_option maxRecDepth 20000 in
theorem ggX6_reach_X1_hasPlace : GoodIn wsX6_reach wsX1_hasPlace := goodIn_r _ [9, 10, 65, 66, 67, 68, 69, 70] (by decide +kernel) (by decide +kernel)
set_option maxRecDepth 20000 in
theorem gX6_reach_X1_hasPlace : GoodIn wsX6_reach (wsV RX6 175 RX1 yX1_hasPlace wsX1_hasPlace) := goodIn_app (goodIn_of _ (by decide +kernel)) ggX6_reach_X1_hasPlace
set_option maxRecDepth 20000 in
theorem ggX6_reach_X6_isStride : GoodIn wsX6_reach wsX6_isStride := goodIn_r _ [14] (by decide +kernel) (by decide +kernel)
set_option maxRecDepth 20000 in
theorem gX6_reach_X6_isStride : GoodIn wsX6_reach (va_wsS RX6 158 yX6_isStride wsX6_isStride) := goodIn_app (goodIn_of _ (by decide +kernel)) ggX6_reach_X6_isStride
set_option maxRecDepth 20000 in
theorem ggX6_reach_X5_reachFrom : GoodIn wsX6_reach wsX5_reachFrom := goodIn_r _ [19, 20, 21, 22, 18, 23, 24, 25, 26, 27, 28, 29, 30, 31, 32, 33, 34, 13, 35, 36, 37, 38, 39, 40, 41, 42, 43, 44, 45, 46, 47, 48, 49, 50, 51, 52, 53, 61, 62, 63, 64, 65, 66, 67, 68, 69, 70, 71, 72, 73, 74, 75, 76, 77, 78] (by decide +kernel) (by decide +kernel)
set_option maxRecDepth 20000 in
theorem gX6_reach_X5_reachFrom : GoodIn wsX6_reach (wsV RX6 178 RX5 yX5_reachFrom wsX5_reachFrom) := goodIn_app (goodIn_of _ (by decide +kernel)) ggX6_reach_X5_reachFrom
theorem dX6_reach_0 : decode cX6_reach 0 = .ok (.aload_n 0, 1) := by decide +kernel
theorem dX6_reach_1 : decode cX6_reach 1 = .ok (.getfield 19, 3) := by decide +kernel
theorem dX6_reach_4 : decode cX6_reach 4 = .ok (.getfield 84, 3) := by decide +kernel
theorem dX6_reach_7 : decode cX6_reach 7 = .ok (.iload_n 1, 1) := by decide +kernel
theorem dX6_reach_8 : decode cX6_reach 8 = .ok (.invokevirtual 175, 3) := by decide +kernel
theorem dX6_reach_11 : decode cX6_reach 11 = .ok (.ifCond .ne 6, 3) := by decide +kernel
theorem dX6_reach_14 : decode cX6_reach 14 = .ok (.ldc 114, 2) := by decide +kernel
theorem dX6_reach_16 : decode cX6_reach 16 = .ok (.ireturn, 1) := by decide +kernel
theorem dX6_reach_17 : decode cX6_reach 17 = .ok (.iload_n 2, 1) := by decide +kernel
theorem dX6_reach_18 : decode cX6_reach 18 = .ok (.invokestatic 158, 3) := by decide +kernel
theorem dX6_reach_21 : decode cX6_reach 21 = .ok (.ifCond .ne 6, 3) := by decide +kernel
theorem dX6_reach_24 : decode cX6_reach 24 = .ok (.ldc 52, 2) := by decide +kernel
theorem dX6_reach_26 : decode cX6_reach 26 = .ok (.ireturn, 1) := by decide +kernel
theorem dX6_reach_27 : decode cX6_reach 27 = .ok (.aload_n 0, 1) := by decide +kernel
theorem dX6_reach_28 : decode cX6_reach 28 = .ok (.getfield 19, 3) := by decide +kernel
theorem dX6_reach_31 : decode cX6_reach 31 = .ok (.iload_n 1, 1) := by decide +kernel
theorem dX6_reach_32 : decode cX6_reach 32 = .ok (.iload_n 2, 1) := by decide +kernel
theorem dX6_reach_33 : decode cX6_reach 33 = .ok (.iconst 0, 1) := by decide +kernel
theorem dX6_reach_34 : decode cX6_reach 34 = .ok (.invokevirtual 178, 3) := by decide +kernel
theorem dX6_reach_37 : decode cX6_reach 37 = .ok (.ireturn, 1) := by decide +kernel
set_option maxRecDepth 20000 in
theorem ggX6_guests_X3_hasPerson : GoodIn wsX6_guests wsX3_hasPerson := goodIn_r _ [10, 11, 71, 72, 73, 74, 75, 76, 77, 78] (by decide +kernel) (by decide +kernel)
set_option maxRecDepth 20000 in
theorem gX6_guests_X3_hasPerson : GoodIn wsX6_guests (wsV RX6 142 RX3 yX3_hasPerson wsX3_hasPerson) := goodIn_app (goodIn_of _ (by decide +kernel)) ggX6_guests_X3_hasPerson
set_option maxRecDepth 20000 in
theorem ggX6_guests_X5_reachOfPerson : GoodIn wsX6_guests wsX5_reachOfPerson := goodIn_r _ [16, 17, 18, 19, 20, 21, 22, 23, 15, 24, 25, 26, 27, 28, 29, 30, 31, 32, 33, 34, 35, 36, 37, 38, 39, 40, 41, 42, 43, 44, 45, 46, 47, 48, 49, 50, 51, 52, 53, 54, 55, 56, 57, 58, 67, 68, 69, 70, 71, 72, 73, 74, 75, 76, 77, 78, 79, 80, 81, 82, 83, 84] (by decide +kernel) (by decide +kernel)
set_option maxRecDepth 20000 in
theorem gX6_guests_X5_reachOfPerson : GoodIn wsX6_guests (wsV RX6 154 RX5 yX5_reachOfPerson wsX5_reachOfPerson) := goodIn_app (goodIn_of _ (by decide +kernel)) ggX6_guests_X5_reachOfPerson
set_option maxRecDepth 20000 in
theorem ggX6_guests_X6_has : GoodIn wsX6_guests wsX6_has := goodIn_r _ [58] (by decide +kernel) (by decide +kernel)
set_option maxRecDepth 20000 in
theorem gX6_guests_X6_has : GoodIn wsX6_guests (va_wsS RX6 181 yX6_has wsX6_has) := goodIn_app (goodIn_of _ (by decide +kernel)) ggX6_guests_X6_has
theorem dX6_guests_0 : decode cX6_guests 0 = .ok (.aload_n 0, 1) := by decide +kernel
theorem dX6_guests_1 : decode cX6_guests 1 = .ok (.getfield 19, 3) := by decide +kernel
theorem dX6_guests_4 : decode cX6_guests 4 = .ok (.getfield 96, 3) := by decide +kernel
theorem dX6_guests_7 : decode cX6_guests 7 = .ok (.astore_n 2, 1) := by decide +kernel
theorem dX6_guests_8 : decode cX6_guests 8 = .ok (.aload_n 2, 1) := by decide +kernel
theorem dX6_guests_9 : decode cX6_guests 9 = .ok (.iload_n 1, 1) := by decide +kernel
theorem dX6_guests_10 : decode cX6_guests 10 = .ok (.invokevirtual 142, 3) := by decide +kernel
theorem dX6_guests_13 : decode cX6_guests 13 = .ok (.ifCond .ne 6, 3) := by decide +kernel
theorem dX6_guests_16 : decode cX6_guests 16 = .ok (.ldc 114, 2) := by decide +kernel
theorem dX6_guests_18 : decode cX6_guests 18 = .ok (.ireturn, 1) := by decide +kernel
theorem dX6_guests_19 : decode cX6_guests 19 = .ok (.iconst 0, 1) := by decide +kernel
theorem dX6_guests_20 : decode cX6_guests 20 = .ok (.istore_n 3, 1) := by decide +kernel
theorem dX6_guests_21 : decode cX6_guests 21 = .ok (.iconst 0, 1) := by decide +kernel
theorem dX6_guests_22 : decode cX6_guests 22 = .ok (.istore 4, 2) := by decide +kernel
theorem dX6_guests_24 : decode cX6_guests 24 = .ok (.iload 4, 2) := by decide +kernel
theorem dX6_guests_26 : decode cX6_guests 26 = .ok (.aload_n 2, 1) := by decide +kernel
theorem dX6_guests_27 : decode cX6_guests 27 = .ok (.getfield 100, 3) := by decide +kernel
theorem dX6_guests_30 : decode cX6_guests 30 = .ok (.if_icmp .ge 43, 3) := by decide +kernel
theorem dX6_guests_33 : decode cX6_guests 33 = .ok (.iload 4, 2) := by decide +kernel
theorem dX6_guests_35 : decode cX6_guests 35 = .ok (.iload_n 1, 1) := by decide +kernel
theorem dX6_guests_36 : decode cX6_guests 36 = .ok (.if_icmp .eq 31, 3) := by decide +kernel
theorem dX6_guests_39 : decode cX6_guests 39 = .ok (.aload_n 0, 1) := by decide +kernel
theorem dX6_guests_40 : decode cX6_guests 40 = .ok (.getfield 19, 3) := by decide +kernel
theorem dX6_guests_43 : decode cX6_guests 43 = .ok (.iload 4, 2) := by decide +kernel
theorem dX6_guests_45 : decode cX6_guests 45 = .ok (.invokevirtual 154, 3) := by decide +kernel
theorem dX6_guests_48 : decode cX6_guests 48 = .ok (.aload_n 2, 1) := by decide +kernel
theorem dX6_guests_49 : decode cX6_guests 49 = .ok (.getfield 145, 3) := by decide +kernel
theorem dX6_guests_52 : decode cX6_guests 52 = .ok (.iload_n 1, 1) := by decide +kernel
theorem dX6_guests_53 : decode cX6_guests 53 = .ok (.iaload, 1) := by decide +kernel
theorem dX6_guests_54 : decode cX6_guests 54 = .ok (.invokestatic 181, 3) := by decide +kernel
theorem dX6_guests_57 : decode cX6_guests 57 = .ok (.ifCond .eq 10, 3) := by decide +kernel
theorem dX6_guests_60 : decode cX6_guests 60 = .ok (.iload_n 3, 1) := by decide +kernel
theorem dX6_guests_61 : decode cX6_guests 61 = .ok (.iconst 1, 1) := by decide +kernel
theorem dX6_guests_62 : decode cX6_guests 62 = .ok (.iload 4, 2) := by decide +kernel
theorem dX6_guests_64 : decode cX6_guests 64 = .ok (.ishl, 1) := by decide +kernel
theorem dX6_guests_65 : decode cX6_guests 65 = .ok (.ior, 1) := by decide +kernel
theorem dX6_guests_66 : decode cX6_guests 66 = .ok (.istore_n 3, 1) := by decide +kernel
theorem dX6_guests_67 : decode cX6_guests 67 = .ok (.iinc 4 1, 3) := by decide +kernel
theorem dX6_guests_70 : decode cX6_guests 70 = .ok (.goto (-46), 3) := by decide +kernel
theorem dX6_guests_73 : decode cX6_guests 73 = .ok (.iload_n 3, 1) := by decide +kernel
theorem dX6_guests_74 : decode cX6_guests 74 = .ok (.ireturn, 1) := by decide +kernel
set_option maxRecDepth 20000 in
theorem ggX6_wish_X3_hasPersons : GoodIn wsX6_wish wsX3_hasPersons := goodIn_r _ [12, 13, 35, 36, 37, 38, 39, 40, 41, 42] (by decide +kernel) (by decide +kernel)
set_option maxRecDepth 20000 in
theorem gX6_wish_X3_hasPersons : GoodIn wsX6_wish (wsV RX6 184 RX3 yX3_hasPersons wsX3_hasPersons) := goodIn_app (goodIn_of _ (by decide +kernel)) ggX6_wish_X3_hasPersons
set_option maxRecDepth 20000 in
theorem ggX6_wish_X6_has : GoodIn wsX6_wish wsX6_has := goodIn_r _ [17] (by decide +kernel) (by decide +kernel)
set_option maxRecDepth 20000 in
theorem gX6_wish_X6_has : GoodIn wsX6_wish (va_wsS RX6 181 yX6_has wsX6_has) := goodIn_app (goodIn_of _ (by decide +kernel)) ggX6_wish_X6_has
set_option maxRecDepth 20000 in
theorem ggX6_wish_X6_commonSteps : GoodIn wsX6_wish wsX6_commonSteps := goodIn_r _ [20, 21, 22, 16, 23] (by decide +kernel) (by decide +kernel)
set_option maxRecDepth 20000 in
theorem gX6_wish_X6_commonSteps : GoodIn wsX6_wish (va_wsS RX6 187 yX6_commonSteps wsX6_commonSteps) := goodIn_app (goodIn_of _ (by decide +kernel)) ggX6_wish_X6_commonSteps
set_option maxRecDepth 20000 in
theorem ggX6_wish_X6_goesInto : GoodIn wsX6_wish wsX6_goesInto := goodIn_r _ [23] (by decide +kernel) (by decide +kernel)
set_option maxRecDepth 20000 in
theorem gX6_wish_X6_goesInto : GoodIn wsX6_wish (va_wsS RX6 193 yX6_goesInto wsX6_goesInto) := goodIn_app (goodIn_of _ (by decide +kernel)) ggX6_wish_X6_goesInto
theorem dX6_wish_0 : decode cX6_wish 0 = .ok (.aload_n 0, 1) := by decide +kernel
theorem dX6_wish_1 : decode cX6_wish 1 = .ok (.getfield 19, 3) := by decide +kernel
theorem dX6_wish_4 : decode cX6_wish 4 = .ok (.getfield 96, 3) := by decide +kernel
theorem dX6_wish_7 : decode cX6_wish 7 = .ok (.astore_n 3, 1) := by decide +kernel
theorem dX6_wish_8 : decode cX6_wish 8 = .ok (.aload_n 3, 1) := by decide +kernel
theorem dX6_wish_9 : decode cX6_wish 9 = .ok (.iload_n 1, 1) := by decide +kernel
theorem dX6_wish_10 : decode cX6_wish 10 = .ok (.invokevirtual 184, 3) := by decide +kernel
theorem dX6_wish_13 : decode cX6_wish 13 = .ok (.ifCond .eq 11, 3) := by decide +kernel
theorem dX6_wish_16 : decode cX6_wish 16 = .ok (.aload_n 3, 1) := by decide +kernel
theorem dX6_wish_17 : decode cX6_wish 17 = .ok (.iload_n 2, 1) := by decide +kernel
theorem dX6_wish_18 : decode cX6_wish 18 = .ok (.invokevirtual 184, 3) := by decide +kernel
theorem dX6_wish_21 : decode cX6_wish 21 = .ok (.ifCond .ne 6, 3) := by decide +kernel
theorem dX6_wish_24 : decode cX6_wish 24 = .ok (.ldc 114, 2) := by decide +kernel
theorem dX6_wish_26 : decode cX6_wish 26 = .ok (.ireturn, 1) := by decide +kernel
theorem dX6_wish_27 : decode cX6_wish 27 = .ok (.lconst 1, 1) := by decide +kernel
theorem dX6_wish_28 : decode cX6_wish 28 = .ok (.lstore 4, 2) := by decide +kernel
theorem dX6_wish_30 : decode cX6_wish 30 = .ok (.iconst 0, 1) := by decide +kernel
theorem dX6_wish_31 : decode cX6_wish 31 = .ok (.istore 6, 2) := by decide +kernel
theorem dX6_wish_33 : decode cX6_wish 33 = .ok (.iload 6, 2) := by decide +kernel
theorem dX6_wish_35 : decode cX6_wish 35 = .ok (.aload_n 3, 1) := by decide +kernel
theorem dX6_wish_36 : decode cX6_wish 36 = .ok (.getfield 100, 3) := by decide +kernel
theorem dX6_wish_39 : decode cX6_wish 39 = .ok (.if_icmp .ge 32, 3) := by decide +kernel
theorem dX6_wish_42 : decode cX6_wish 42 = .ok (.iload_n 1, 1) := by decide +kernel
theorem dX6_wish_43 : decode cX6_wish 43 = .ok (.iload 6, 2) := by decide +kernel
theorem dX6_wish_45 : decode cX6_wish 45 = .ok (.invokestatic 181, 3) := by decide +kernel
theorem dX6_wish_48 : decode cX6_wish 48 = .ok (.ifCond .eq 17, 3) := by decide +kernel
theorem dX6_wish_51 : decode cX6_wish 51 = .ok (.lload 4, 2) := by decide +kernel
theorem dX6_wish_53 : decode cX6_wish 53 = .ok (.aload_n 3, 1) := by decide +kernel
theorem dX6_wish_54 : decode cX6_wish 54 = .ok (.getfield 148, 3) := by decide +kernel
theorem dX6_wish_57 : decode cX6_wish 57 = .ok (.iload 6, 2) := by decide +kernel
theorem dX6_wish_59 : decode cX6_wish 59 = .ok (.iaload, 1) := by decide +kernel
theorem dX6_wish_60 : decode cX6_wish 60 = .ok (.invokestatic 187, 3) := by decide +kernel
theorem dX6_wish_63 : decode cX6_wish 63 = .ok (.lstore 4, 2) := by decide +kernel
theorem dX6_wish_65 : decode cX6_wish 65 = .ok (.iinc 6 1, 3) := by decide +kernel
theorem dX6_wish_68 : decode cX6_wish 68 = .ok (.goto (-35), 3) := by decide +kernel
theorem dX6_wish_71 : decode cX6_wish 71 = .ok (.lload 4, 2) := by decide +kernel
theorem dX6_wish_73 : decode cX6_wish 73 = .ok (.ldc2_w 191, 3) := by decide +kernel
theorem dX6_wish_76 : decode cX6_wish 76 = .ok (.lcmp, 1) := by decide +kernel
theorem dX6_wish_77 : decode cX6_wish 77 = .ok (.ifCond .le 5, 3) := by decide +kernel
theorem dX6_wish_80 : decode cX6_wish 80 = .ok (.iconst (-1), 1) := by decide +kernel
theorem dX6_wish_81 : decode cX6_wish 81 = .ok (.ireturn, 1) := by decide +kernel
theorem dX6_wish_82 : decode cX6_wish 82 = .ok (.iconst 0, 1) := by decide +kernel
theorem dX6_wish_83 : decode cX6_wish 83 = .ok (.istore 6, 2) := by decide +kernel
theorem dX6_wish_85 : decode cX6_wish 85 = .ok (.iload 6, 2) := by decide +kernel
theorem dX6_wish_87 : decode cX6_wish 87 = .ok (.aload_n 3, 1) := by decide +kernel
theorem dX6_wish_88 : decode cX6_wish 88 = .ok (.getfield 100, 3) := by decide +kernel
theorem dX6_wish_91 : decode cX6_wish 91 = .ok (.if_icmp .ge 50, 3) := by decide +kernel
theorem dX6_wish_94 : decode cX6_wish 94 = .ok (.iload_n 2, 1) := by decide +kernel
theorem dX6_wish_95 : decode cX6_wish 95 = .ok (.iload 6, 2) := by decide +kernel
theorem dX6_wish_97 : decode cX6_wish 97 = .ok (.invokestatic 181, 3) := by decide +kernel
theorem dX6_wish_100 : decode cX6_wish 100 = .ok (.ifCond .eq 35, 3) := by decide +kernel
theorem dX6_wish_103 : decode cX6_wish 103 = .ok (.aload_n 3, 1) := by decide +kernel
theorem dX6_wish_104 : decode cX6_wish 104 = .ok (.getfield 148, 3) := by decide +kernel
theorem dX6_wish_107 : decode cX6_wish 107 = .ok (.iload 6, 2) := by decide +kernel
theorem dX6_wish_109 : decode cX6_wish 109 = .ok (.iaload, 1) := by decide +kernel
theorem dX6_wish_110 : decode cX6_wish 110 = .ok (.lload 4, 2) := by decide +kernel
theorem dX6_wish_112 : decode cX6_wish 112 = .ok (.invokestatic 193, 3) := by decide +kernel
theorem dX6_wish_115 : decode cX6_wish 115 = .ok (.ifCond .ne 18, 3) := by decide +kernel
theorem dX6_wish_118 : decode cX6_wish 118 = .ok (.aload_n 3, 1) := by decide +kernel
theorem dX6_wish_119 : decode cX6_wish 119 = .ok (.getfield 151, 3) := by decide +kernel
theorem dX6_wish_122 : decode cX6_wish 122 = .ok (.iload 6, 2) := by decide +kernel
theorem dX6_wish_124 : decode cX6_wish 124 = .ok (.iaload, 1) := by decide +kernel
theorem dX6_wish_125 : decode cX6_wish 125 = .ok (.lload 4, 2) := by decide +kernel
theorem dX6_wish_127 : decode cX6_wish 127 = .ok (.invokestatic 193, 3) := by decide +kernel
theorem dX6_wish_130 : decode cX6_wish 130 = .ok (.ifCond .eq 5, 3) := by decide +kernel
theorem dX6_wish_133 : decode cX6_wish 133 = .ok (.iconst (-1), 1) := by decide +kernel
theorem dX6_wish_134 : decode cX6_wish 134 = .ok (.ireturn, 1) := by decide +kernel
theorem dX6_wish_135 : decode cX6_wish 135 = .ok (.iinc 6 1, 3) := by decide +kernel
theorem dX6_wish_138 : decode cX6_wish 138 = .ok (.goto (-53), 3) := by decide +kernel
theorem dX6_wish_141 : decode cX6_wish 141 = .ok (.lload 4, 2) := by decide +kernel
theorem dX6_wish_143 : decode cX6_wish 143 = .ok (.l2i, 1) := by decide +kernel
theorem dX6_wish_144 : decode cX6_wish 144 = .ok (.ireturn, 1) := by decide +kernel
set_option maxRecDepth 20000 in
theorem ggX6_pair_X3_hasPerson : GoodIn wsX6_pair wsX3_hasPerson := goodIn_r _ [10, 11, 74, 75, 76, 77, 78, 79, 80, 81] (by decide +kernel) (by decide +kernel)
set_option maxRecDepth 20000 in
theorem gX6_pair_X3_hasPerson : GoodIn wsX6_pair (wsV RX6 142 RX3 yX3_hasPerson wsX3_hasPerson) := goodIn_app (goodIn_of _ (by decide +kernel)) ggX6_pair_X3_hasPerson
set_option maxRecDepth 20000 in
theorem ggX6_pair_X5_reachOfPerson : GoodIn wsX6_pair wsX5_reachOfPerson := goodIn_r _ [16, 17, 18, 19, 20, 21, 22, 23, 15, 24, 25, 26, 27, 28, 29, 30, 31, 32, 33, 34, 35, 36, 37, 38, 39, 40, 41, 42, 43, 44, 45, 46, 47, 48, 49, 50, 51, 52, 53, 54, 55, 56, 57, 58, 70, 71, 72, 73, 74, 75, 76, 77, 78, 79, 80, 81, 82, 83, 84, 85, 86, 87] (by decide +kernel) (by decide +kernel)
set_option maxRecDepth 20000 in
theorem gX6_pair_X5_reachOfPerson : GoodIn wsX6_pair (wsV RX6 154 RX5 yX5_reachOfPerson wsX5_reachOfPerson) := goodIn_app (goodIn_of _ (by decide +kernel)) ggX6_pair_X5_reachOfPerson
set_option maxRecDepth 20000 in
theorem ggX6_pair_X6_commonSteps : GoodIn wsX6_pair wsX6_commonSteps := goodIn_r _ [61, 62, 38, 39, 40] (by decide +kernel) (by decide +kernel)
set_option maxRecDepth 20000 in
theorem gX6_pair_X6_commonSteps : GoodIn wsX6_pair (va_wsS RX6 187 yX6_commonSteps wsX6_commonSteps) := goodIn_app (goodIn_of _ (by decide +kernel)) ggX6_pair_X6_commonSteps
theorem dX6_pair_0 : decode cX6_pair 0 = .ok (.aload_n 0, 1) := by decide +kernel
theorem dX6_pair_1 : decode cX6_pair 1 = .ok (.getfield 19, 3) := by decide +kernel
theorem dX6_pair_4 : decode cX6_pair 4 = .ok (.getfield 96, 3) := by decide +kernel
theorem dX6_pair_7 : decode cX6_pair 7 = .ok (.astore 4, 2) := by decide +kernel
theorem dX6_pair_9 : decode cX6_pair 9 = .ok (.aload 4, 2) := by decide +kernel
theorem dX6_pair_11 : decode cX6_pair 11 = .ok (.iload_n 1, 1) := by decide +kernel
theorem dX6_pair_12 : decode cX6_pair 12 = .ok (.invokevirtual 142, 3) := by decide +kernel
theorem dX6_pair_15 : decode cX6_pair 15 = .ok (.ifCond .eq 17, 3) := by decide +kernel
theorem dX6_pair_18 : decode cX6_pair 18 = .ok (.aload 4, 2) := by decide +kernel
theorem dX6_pair_20 : decode cX6_pair 20 = .ok (.iload_n 2, 1) := by decide +kernel
theorem dX6_pair_21 : decode cX6_pair 21 = .ok (.invokevirtual 142, 3) := by decide +kernel
theorem dX6_pair_24 : decode cX6_pair 24 = .ok (.ifCond .eq 8, 3) := by decide +kernel
theorem dX6_pair_27 : decode cX6_pair 27 = .ok (.iload_n 1, 1) := by decide +kernel
theorem dX6_pair_28 : decode cX6_pair 28 = .ok (.iload_n 2, 1) := by decide +kernel
theorem dX6_pair_29 : decode cX6_pair 29 = .ok (.if_icmp .ne 6, 3) := by decide +kernel
theorem dX6_pair_32 : decode cX6_pair 32 = .ok (.ldc 114, 2) := by decide +kernel
theorem dX6_pair_34 : decode cX6_pair 34 = .ok (.ireturn, 1) := by decide +kernel
theorem dX6_pair_35 : decode cX6_pair 35 = .ok (.iload_n 3, 1) := by decide +kernel
theorem dX6_pair_36 : decode cX6_pair 36 = .ok (.lookupswitch 66 #[(0, 28), (1, 46)], 28) := by decide +kernel
theorem dX6_pair_64 : decode cX6_pair 64 = .ok (.aload_n 0, 1) := by decide +kernel
theorem dX6_pair_65 : decode cX6_pair 65 = .ok (.getfield 19, 3) := by decide +kernel
theorem dX6_pair_68 : decode cX6_pair 68 = .ok (.iload_n 1, 1) := by decide +kernel
theorem dX6_pair_69 : decode cX6_pair 69 = .ok (.invokevirtual 154, 3) := by decide +kernel
theorem dX6_pair_72 : decode cX6_pair 72 = .ok (.aload_n 0, 1) := by decide +kernel
theorem dX6_pair_73 : decode cX6_pair 73 = .ok (.getfield 19, 3) := by decide +kernel
theorem dX6_pair_76 : decode cX6_pair 76 = .ok (.iload_n 2, 1) := by decide +kernel
theorem dX6_pair_77 : decode cX6_pair 77 = .ok (.invokevirtual 154, 3) := by decide +kernel
theorem dX6_pair_80 : decode cX6_pair 80 = .ok (.iand, 1) := by decide +kernel
theorem dX6_pair_81 : decode cX6_pair 81 = .ok (.ireturn, 1) := by decide +kernel
theorem dX6_pair_82 : decode cX6_pair 82 = .ok (.aload 4, 2) := by decide +kernel
theorem dX6_pair_84 : decode cX6_pair 84 = .ok (.getfield 148, 3) := by decide +kernel
theorem dX6_pair_87 : decode cX6_pair 87 = .ok (.iload_n 1, 1) := by decide +kernel
theorem dX6_pair_88 : decode cX6_pair 88 = .ok (.iaload, 1) := by decide +kernel
theorem dX6_pair_89 : decode cX6_pair 89 = .ok (.i2l, 1) := by decide +kernel
theorem dX6_pair_90 : decode cX6_pair 90 = .ok (.aload 4, 2) := by decide +kernel
theorem dX6_pair_92 : decode cX6_pair 92 = .ok (.getfield 148, 3) := by decide +kernel
theorem dX6_pair_95 : decode cX6_pair 95 = .ok (.iload_n 2, 1) := by decide +kernel
theorem dX6_pair_96 : decode cX6_pair 96 = .ok (.iaload, 1) := by decide +kernel
theorem dX6_pair_97 : decode cX6_pair 97 = .ok (.invokestatic 187, 3) := by decide +kernel
theorem dX6_pair_100 : decode cX6_pair 100 = .ok (.l2i, 1) := by decide +kernel
theorem dX6_pair_101 : decode cX6_pair 101 = .ok (.ireturn, 1) := by decide +kernel
theorem dX6_pair_102 : decode cX6_pair 102 = .ok (.ldc 52, 2) := by decide +kernel
theorem dX6_pair_104 : decode cX6_pair 104 = .ok (.ireturn, 1) := by decide +kernel
set_option maxRecDepth 20000 in
theorem ggX6_carried_X3_hasPerson : GoodIn wsX6_carried wsX3_hasPerson := goodIn_r _ [10, 11, 94, 95, 96, 97, 98, 99, 100, 101] (by decide +kernel) (by decide +kernel)
set_option maxRecDepth 20000 in
theorem gX6_carried_X3_hasPerson : GoodIn wsX6_carried (wsV RX6 142 RX3 yX3_hasPerson wsX3_hasPerson) := goodIn_app (goodIn_of _ (by decide +kernel)) ggX6_carried_X3_hasPerson
set_option maxRecDepth 20000 in
theorem ggX6_carried_X1_hasPlace : GoodIn wsX6_carried wsX1_hasPlace := goodIn_r _ [16, 17, 102, 103, 104, 105, 106, 107] (by decide +kernel) (by decide +kernel)
set_option maxRecDepth 20000 in
theorem gX6_carried_X1_hasPlace : GoodIn wsX6_carried (wsV RX6 175 RX1 yX1_hasPlace wsX1_hasPlace) := goodIn_app (goodIn_of _ (by decide +kernel)) ggX6_carried_X1_hasPlace
set_option maxRecDepth 20000 in
theorem ggX6_carried_X5_fewestCarriers : GoodIn wsX6_carried wsX5_fewestCarriers := goodIn_r _ [22, 23, 24, 25, 26, 27, 28, 29, 30, 31, 32, 21, 33, 34, 35, 36, 37, 38, 39, 40, 41, 42, 43, 44, 45, 46, 47, 48, 49, 50, 51, 52, 53, 54, 55, 56, 57, 58, 59, 60, 61, 62, 63, 64, 65, 66, 67, 68, 69, 70, 71, 72, 73, 74, 75, 76, 77, 78, 79, 80, 81, 90, 91, 92, 93, 94, 95, 96, 97, 98, 99, 100, 101, 102, 103, 104, 105, 106, 107] (by decide +kernel) (by decide +kernel)
set_option maxRecDepth 20000 in
theorem gX6_carried_X5_fewestCarriers : GoodIn wsX6_carried (wsV RX6 197 RX5 yX5_fewestCarriers wsX5_fewestCarriers) := goodIn_app (goodIn_of _ (by decide +kernel)) ggX6_carried_X5_fewestCarriers
set_option maxRecDepth 20000 in
theorem ggX6_carried_J6_bitCount_0f7a4 : GoodIn wsX6_carried wsJ6_bitCount_0f7a4 := goodIn_r _ [74, 75, 76, 77] (by decide +kernel) (by decide +kernel)
set_option maxRecDepth 20000 in
theorem gX6_carried_J6_bitCount_0f7a4 : GoodIn wsX6_carried (va_wsS RX6 201 yJ6_bitCount_0f7a4 wsJ6_bitCount_0f7a4) := goodIn_app (goodIn_of _ (by decide +kernel)) ggX6_carried_J6_bitCount_0f7a4
theorem dX6_carried_0 : decode cX6_carried 0 = .ok (.aload_n 0, 1) := by decide +kernel
theorem dX6_carried_1 : decode cX6_carried 1 = .ok (.getfield 19, 3) := by decide +kernel
theorem dX6_carried_4 : decode cX6_carried 4 = .ok (.getfield 96, 3) := by decide +kernel
theorem dX6_carried_7 : decode cX6_carried 7 = .ok (.iload_n 1, 1) := by decide +kernel
theorem dX6_carried_8 : decode cX6_carried 8 = .ok (.invokevirtual 142, 3) := by decide +kernel
theorem dX6_carried_11 : decode cX6_carried 11 = .ok (.ifCond .eq 17, 3) := by decide +kernel
theorem dX6_carried_14 : decode cX6_carried 14 = .ok (.aload_n 0, 1) := by decide +kernel
theorem dX6_carried_15 : decode cX6_carried 15 = .ok (.getfield 19, 3) := by decide +kernel
theorem dX6_carried_18 : decode cX6_carried 18 = .ok (.getfield 84, 3) := by decide +kernel
theorem dX6_carried_21 : decode cX6_carried 21 = .ok (.iload_n 2, 1) := by decide +kernel
theorem dX6_carried_22 : decode cX6_carried 22 = .ok (.invokevirtual 175, 3) := by decide +kernel
theorem dX6_carried_25 : decode cX6_carried 25 = .ok (.ifCond .ne 6, 3) := by decide +kernel
theorem dX6_carried_28 : decode cX6_carried 28 = .ok (.ldc 114, 2) := by decide +kernel
theorem dX6_carried_30 : decode cX6_carried 30 = .ok (.ireturn, 1) := by decide +kernel
theorem dX6_carried_31 : decode cX6_carried 31 = .ok (.iload_n 3, 1) := by decide +kernel
theorem dX6_carried_32 : decode cX6_carried 32 = .ok (.ifCond .eq 11, 3) := by decide +kernel
theorem dX6_carried_35 : decode cX6_carried 35 = .ok (.iload_n 3, 1) := by decide +kernel
theorem dX6_carried_36 : decode cX6_carried 36 = .ok (.iconst 1, 1) := by decide +kernel
theorem dX6_carried_37 : decode cX6_carried 37 = .ok (.if_icmp .eq 6, 3) := by decide +kernel
theorem dX6_carried_40 : decode cX6_carried 40 = .ok (.ldc 52, 2) := by decide +kernel
theorem dX6_carried_42 : decode cX6_carried 42 = .ok (.ireturn, 1) := by decide +kernel
theorem dX6_carried_43 : decode cX6_carried 43 = .ok (.aload_n 0, 1) := by decide +kernel
theorem dX6_carried_44 : decode cX6_carried 44 = .ok (.getfield 19, 3) := by decide +kernel
theorem dX6_carried_47 : decode cX6_carried 47 = .ok (.iload_n 1, 1) := by decide +kernel
theorem dX6_carried_48 : decode cX6_carried 48 = .ok (.iload_n 2, 1) := by decide +kernel
theorem dX6_carried_49 : decode cX6_carried 49 = .ok (.invokevirtual 197, 3) := by decide +kernel
theorem dX6_carried_52 : decode cX6_carried 52 = .ok (.istore 4, 2) := by decide +kernel
theorem dX6_carried_54 : decode cX6_carried 54 = .ok (.iload 4, 2) := by decide +kernel
theorem dX6_carried_56 : decode cX6_carried 56 = .ok (.iconst (-1), 1) := by decide +kernel
theorem dX6_carried_57 : decode cX6_carried 57 = .ok (.if_icmp .eq 8, 3) := by decide +kernel
theorem dX6_carried_60 : decode cX6_carried 60 = .ok (.iload_n 3, 1) := by decide +kernel
theorem dX6_carried_61 : decode cX6_carried 61 = .ok (.iconst 1, 1) := by decide +kernel
theorem dX6_carried_62 : decode cX6_carried 62 = .ok (.if_icmp .ne 8, 3) := by decide +kernel
theorem dX6_carried_65 : decode cX6_carried 65 = .ok (.iload 4, 2) := by decide +kernel
theorem dX6_carried_67 : decode cX6_carried 67 = .ok (.goto 8, 3) := by decide +kernel
theorem dX6_carried_70 : decode cX6_carried 70 = .ok (.iload 4, 2) := by decide +kernel
theorem dX6_carried_72 : decode cX6_carried 72 = .ok (.invokestatic 201, 3) := by decide +kernel
theorem dX6_carried_75 : decode cX6_carried 75 = .ok (.ireturn, 1) := by decide +kernel
set_option maxRecDepth 20000 in
theorem ggX6_step_X1_hasPart : GoodIn wsX6_step wsX1_hasPart := goodIn_r _ [11, 12, 13, 14, 15, 10, 16, 17, 67, 68, 69, 70, 71, 72] (by decide +kernel) (by decide +kernel)
set_option maxRecDepth 20000 in
theorem gX6_step_X1_hasPart : GoodIn wsX6_step (wsV RX6 128 RX1 yX1_hasPart wsX1_hasPart) := goodIn_app (goodIn_of _ (by decide +kernel)) ggX6_step_X1_hasPart
set_option maxRecDepth 20000 in
theorem ggX6_step_X6_areSteps : GoodIn wsX6_step wsX6_areSteps := goodIn_r _ [21] (by decide +kernel) (by decide +kernel)
set_option maxRecDepth 20000 in
theorem gX6_step_X6_areSteps : GoodIn wsX6_step (va_wsS RX6 169 yX6_areSteps wsX6_areSteps) := goodIn_app (goodIn_of _ (by decide +kernel)) ggX6_step_X6_areSteps
set_option maxRecDepth 20000 in
theorem ggX6_step_X5_climbers : GoodIn wsX6_step wsX5_climbers := goodIn_r _ [26, 27, 28, 29, 30, 31, 32, 33, 25, 34, 35, 36, 37, 38, 39, 20, 40, 55, 56, 57, 58, 59, 60, 61, 62, 63, 64, 65, 66, 67, 68, 69, 70, 71, 72] (by decide +kernel) (by decide +kernel)
set_option maxRecDepth 20000 in
theorem gX6_step_X5_climbers : GoodIn wsX6_step (wsV RX6 138 RX5 yX5_climbers wsX5_climbers) := goodIn_app (goodIn_of _ (by decide +kernel)) ggX6_step_X5_climbers
set_option maxRecDepth 20000 in
theorem ggX6_step_J6_bitCount_0f7a4 : GoodIn wsX6_step wsJ6_bitCount_0f7a4 := goodIn_r _ [44, 45, 46, 47] (by decide +kernel) (by decide +kernel)
set_option maxRecDepth 20000 in
theorem gX6_step_J6_bitCount_0f7a4 : GoodIn wsX6_step (va_wsS RX6 201 yJ6_bitCount_0f7a4 wsJ6_bitCount_0f7a4) := goodIn_app (goodIn_of _ (by decide +kernel)) ggX6_step_J6_bitCount_0f7a4
theorem dX6_step_0 : decode cX6_step 0 = .ok (.aload_n 0, 1) := by decide +kernel
theorem dX6_step_1 : decode cX6_step 1 = .ok (.getfield 19, 3) := by decide +kernel
theorem dX6_step_4 : decode cX6_step 4 = .ok (.getfield 84, 3) := by decide +kernel
theorem dX6_step_7 : decode cX6_step 7 = .ok (.iload_n 1, 1) := by decide +kernel
theorem dX6_step_8 : decode cX6_step 8 = .ok (.iload_n 2, 1) := by decide +kernel
theorem dX6_step_9 : decode cX6_step 9 = .ok (.invokevirtual 128, 3) := by decide +kernel
theorem dX6_step_12 : decode cX6_step 12 = .ok (.ifCond .ne 6, 3) := by decide +kernel
theorem dX6_step_15 : decode cX6_step 15 = .ok (.ldc 114, 2) := by decide +kernel
theorem dX6_step_17 : decode cX6_step 17 = .ok (.ireturn, 1) := by decide +kernel
theorem dX6_step_18 : decode cX6_step 18 = .ok (.iload_n 3, 1) := by decide +kernel
theorem dX6_step_19 : decode cX6_step 19 = .ok (.iconst 1, 1) := by decide +kernel
theorem dX6_step_20 : decode cX6_step 20 = .ok (.if_icmp .eq 8, 3) := by decide +kernel
theorem dX6_step_23 : decode cX6_step 23 = .ok (.iload_n 3, 1) := by decide +kernel
theorem dX6_step_24 : decode cX6_step 24 = .ok (.iconst (-1), 1) := by decide +kernel
theorem dX6_step_25 : decode cX6_step 25 = .ok (.if_icmp .ne 14, 3) := by decide +kernel
theorem dX6_step_28 : decode cX6_step 28 = .ok (.iload 4, 2) := by decide +kernel
theorem dX6_step_30 : decode cX6_step 30 = .ok (.ifCond .eq 12, 3) := by decide +kernel
theorem dX6_step_33 : decode cX6_step 33 = .ok (.iload 4, 2) := by decide +kernel
theorem dX6_step_35 : decode cX6_step 35 = .ok (.iconst 1, 1) := by decide +kernel
theorem dX6_step_36 : decode cX6_step 36 = .ok (.if_icmp .eq 6, 3) := by decide +kernel
theorem dX6_step_39 : decode cX6_step 39 = .ok (.ldc 52, 2) := by decide +kernel
theorem dX6_step_41 : decode cX6_step 41 = .ok (.ireturn, 1) := by decide +kernel
theorem dX6_step_42 : decode cX6_step 42 = .ok (.aload_n 0, 1) := by decide +kernel
theorem dX6_step_43 : decode cX6_step 43 = .ok (.getfield 19, 3) := by decide +kernel
theorem dX6_step_46 : decode cX6_step 46 = .ok (.getfield 96, 3) := by decide +kernel
theorem dX6_step_49 : decode cX6_step 49 = .ok (.getfield 132, 3) := by decide +kernel
theorem dX6_step_52 : decode cX6_step 52 = .ok (.iconst 3, 1) := by decide +kernel
theorem dX6_step_53 : decode cX6_step 53 = .ok (.iload_n 1, 1) := by decide +kernel
theorem dX6_step_54 : decode cX6_step 54 = .ok (.imul, 1) := by decide +kernel
theorem dX6_step_55 : decode cX6_step 55 = .ok (.iload_n 2, 1) := by decide +kernel
theorem dX6_step_56 : decode cX6_step 56 = .ok (.iadd, 1) := by decide +kernel
theorem dX6_step_57 : decode cX6_step 57 = .ok (.iaload, 1) := by decide +kernel
theorem dX6_step_58 : decode cX6_step 58 = .ok (.iload_n 3, 1) := by decide +kernel
theorem dX6_step_59 : decode cX6_step 59 = .ok (.iadd, 1) := by decide +kernel
theorem dX6_step_60 : decode cX6_step 60 = .ok (.invokestatic 169, 3) := by decide +kernel
theorem dX6_step_63 : decode cX6_step 63 = .ok (.ifCond .ne 6, 3) := by decide +kernel
theorem dX6_step_66 : decode cX6_step 66 = .ok (.ldc 52, 2) := by decide +kernel
theorem dX6_step_68 : decode cX6_step 68 = .ok (.ireturn, 1) := by decide +kernel
theorem dX6_step_69 : decode cX6_step 69 = .ok (.aload_n 0, 1) := by decide +kernel
theorem dX6_step_70 : decode cX6_step 70 = .ok (.getfield 19, 3) := by decide +kernel
theorem dX6_step_73 : decode cX6_step 73 = .ok (.iload_n 1, 1) := by decide +kernel
theorem dX6_step_74 : decode cX6_step 74 = .ok (.iconst (-1), 1) := by decide +kernel
theorem dX6_step_75 : decode cX6_step 75 = .ok (.iconst 0, 1) := by decide +kernel
theorem dX6_step_76 : decode cX6_step 76 = .ok (.invokevirtual 138, 3) := by decide +kernel
theorem dX6_step_79 : decode cX6_step 79 = .ok (.istore 5, 2) := by decide +kernel
theorem dX6_step_81 : decode cX6_step 81 = .ok (.aload_n 0, 1) := by decide +kernel
theorem dX6_step_82 : decode cX6_step 82 = .ok (.getfield 19, 3) := by decide +kernel
theorem dX6_step_85 : decode cX6_step 85 = .ok (.iload_n 1, 1) := by decide +kernel
theorem dX6_step_86 : decode cX6_step 86 = .ok (.iload_n 2, 1) := by decide +kernel
theorem dX6_step_87 : decode cX6_step 87 = .ok (.iload_n 3, 1) := by decide +kernel
theorem dX6_step_88 : decode cX6_step 88 = .ok (.invokevirtual 138, 3) := by decide +kernel
theorem dX6_step_91 : decode cX6_step 91 = .ok (.istore 6, 2) := by decide +kernel
theorem dX6_step_93 : decode cX6_step 93 = .ok (.iload 4, 2) := by decide +kernel
theorem dX6_step_95 : decode cX6_step 95 = .ok (.ifCond .ne 13, 3) := by decide +kernel
theorem dX6_step_98 : decode cX6_step 98 = .ok (.iload 6, 2) := by decide +kernel
theorem dX6_step_100 : decode cX6_step 100 = .ok (.iload 5, 2) := by decide +kernel
theorem dX6_step_102 : decode cX6_step 102 = .ok (.iconst (-1), 1) := by decide +kernel
theorem dX6_step_103 : decode cX6_step 103 = .ok (.ixor, 1) := by decide +kernel
theorem dX6_step_104 : decode cX6_step 104 = .ok (.iand, 1) := by decide +kernel
theorem dX6_step_105 : decode cX6_step 105 = .ok (.goto 10, 3) := by decide +kernel
theorem dX6_step_108 : decode cX6_step 108 = .ok (.iload 5, 2) := by decide +kernel
theorem dX6_step_110 : decode cX6_step 110 = .ok (.iload 6, 2) := by decide +kernel
theorem dX6_step_112 : decode cX6_step 112 = .ok (.iconst (-1), 1) := by decide +kernel
theorem dX6_step_113 : decode cX6_step 113 = .ok (.ixor, 1) := by decide +kernel
theorem dX6_step_114 : decode cX6_step 114 = .ok (.iand, 1) := by decide +kernel
theorem dX6_step_115 : decode cX6_step 115 = .ok (.invokestatic 201, 3) := by decide +kernel
theorem dX6_step_118 : decode cX6_step 118 = .ok (.ireturn, 1) := by decide +kernel
set_option maxRecDepth 20000 in
theorem ggX6_worst_X5_shutOutByLess : GoodIn wsX6_worst wsX5_shutOutByLess := goodIn_r _ [10, 11, 12, 13, 14, 15, 9, 16, 17, 18, 19, 20, 21, 22, 23, 24, 25, 26, 27, 28, 29, 30, 31, 32, 33, 34, 35, 36, 44, 45, 46, 47, 54, 55, 56, 57, 58, 59, 60, 61, 48, 49, 50, 51, 52, 53] (by decide +kernel) (by decide +kernel)
set_option maxRecDepth 20000 in
theorem gX6_worst_X5_shutOutByLess : GoodIn wsX6_worst (wsV RX6 206 RX5 yX5_shutOutByLess wsX5_shutOutByLess) := goodIn_app (goodIn_of _ (by decide +kernel)) ggX6_worst_X5_shutOutByLess
theorem dX6_worst_0 : decode cX6_worst 0 = .ok (.iload_n 1, 1) := by decide +kernel
theorem dX6_worst_1 : decode cX6_worst 1 = .ok (.ifCond .lt 8, 3) := by decide +kernel
theorem dX6_worst_4 : decode cX6_worst 4 = .ok (.iload_n 1, 1) := by decide +kernel
theorem dX6_worst_5 : decode cX6_worst 5 = .ok (.iconst 2, 1) := by decide +kernel
theorem dX6_worst_6 : decode cX6_worst 6 = .ok (.if_icmp .le 6, 3) := by decide +kernel
theorem dX6_worst_9 : decode cX6_worst 9 = .ok (.ldc 52, 2) := by decide +kernel
theorem dX6_worst_11 : decode cX6_worst 11 = .ok (.ireturn, 1) := by decide +kernel
theorem dX6_worst_12 : decode cX6_worst 12 = .ok (.iconst 0, 1) := by decide +kernel
theorem dX6_worst_13 : decode cX6_worst 13 = .ok (.istore_n 2, 1) := by decide +kernel
theorem dX6_worst_14 : decode cX6_worst 14 = .ok (.iconst (-1), 1) := by decide +kernel
theorem dX6_worst_15 : decode cX6_worst 15 = .ok (.istore_n 3, 1) := by decide +kernel
theorem dX6_worst_16 : decode cX6_worst 16 = .ok (.iconst (-1), 1) := by decide +kernel
theorem dX6_worst_17 : decode cX6_worst 17 = .ok (.istore 4, 2) := by decide +kernel
theorem dX6_worst_19 : decode cX6_worst 19 = .ok (.iconst 0, 1) := by decide +kernel
theorem dX6_worst_20 : decode cX6_worst 20 = .ok (.istore 5, 2) := by decide +kernel
theorem dX6_worst_22 : decode cX6_worst 22 = .ok (.iload 5, 2) := by decide +kernel
theorem dX6_worst_24 : decode cX6_worst 24 = .ok (.aload_n 0, 1) := by decide +kernel
theorem dX6_worst_25 : decode cX6_worst 25 = .ok (.getfield 19, 3) := by decide +kernel
theorem dX6_worst_28 : decode cX6_worst 28 = .ok (.getfield 84, 3) := by decide +kernel
theorem dX6_worst_31 : decode cX6_worst 31 = .ok (.getfield 93, 3) := by decide +kernel
theorem dX6_worst_34 : decode cX6_worst 34 = .ok (.if_icmp .ge 65, 3) := by decide +kernel
theorem dX6_worst_37 : decode cX6_worst 37 = .ok (.iconst 0, 1) := by decide +kernel
theorem dX6_worst_38 : decode cX6_worst 38 = .ok (.istore 6, 2) := by decide +kernel
theorem dX6_worst_40 : decode cX6_worst 40 = .ok (.iload 6, 2) := by decide +kernel
theorem dX6_worst_42 : decode cX6_worst 42 = .ok (.aload_n 0, 1) := by decide +kernel
theorem dX6_worst_43 : decode cX6_worst 43 = .ok (.getfield 19, 3) := by decide +kernel
theorem dX6_worst_46 : decode cX6_worst 46 = .ok (.getfield 84, 3) := by decide +kernel
theorem dX6_worst_49 : decode cX6_worst 49 = .ok (.getfield 125, 3) := by decide +kernel
theorem dX6_worst_52 : decode cX6_worst 52 = .ok (.iload 5, 2) := by decide +kernel
theorem dX6_worst_54 : decode cX6_worst 54 = .ok (.iaload, 1) := by decide +kernel
theorem dX6_worst_55 : decode cX6_worst 55 = .ok (.if_icmp .ge 38, 3) := by decide +kernel
theorem dX6_worst_58 : decode cX6_worst 58 = .ok (.aload_n 0, 1) := by decide +kernel
theorem dX6_worst_59 : decode cX6_worst 59 = .ok (.getfield 19, 3) := by decide +kernel
theorem dX6_worst_62 : decode cX6_worst 62 = .ok (.iload 5, 2) := by decide +kernel
theorem dX6_worst_64 : decode cX6_worst 64 = .ok (.iload 6, 2) := by decide +kernel
theorem dX6_worst_66 : decode cX6_worst 66 = .ok (.invokevirtual 206, 3) := by decide +kernel
theorem dX6_worst_69 : decode cX6_worst 69 = .ok (.istore 7, 2) := by decide +kernel
theorem dX6_worst_71 : decode cX6_worst 71 = .ok (.iload 7, 2) := by decide +kernel
theorem dX6_worst_73 : decode cX6_worst 73 = .ok (.iload_n 2, 1) := by decide +kernel
theorem dX6_worst_74 : decode cX6_worst 74 = .ok (.if_icmp .le 13, 3) := by decide +kernel
theorem dX6_worst_77 : decode cX6_worst 77 = .ok (.iload 7, 2) := by decide +kernel
theorem dX6_worst_79 : decode cX6_worst 79 = .ok (.istore_n 2, 1) := by decide +kernel
theorem dX6_worst_80 : decode cX6_worst 80 = .ok (.iload 5, 2) := by decide +kernel
theorem dX6_worst_82 : decode cX6_worst 82 = .ok (.istore_n 3, 1) := by decide +kernel
theorem dX6_worst_83 : decode cX6_worst 83 = .ok (.iload 6, 2) := by decide +kernel
theorem dX6_worst_85 : decode cX6_worst 85 = .ok (.istore 4, 2) := by decide +kernel
theorem dX6_worst_87 : decode cX6_worst 87 = .ok (.iinc 6 1, 3) := by decide +kernel
theorem dX6_worst_90 : decode cX6_worst 90 = .ok (.goto (-50), 3) := by decide +kernel
theorem dX6_worst_93 : decode cX6_worst 93 = .ok (.iinc 5 1, 3) := by decide +kernel
theorem dX6_worst_96 : decode cX6_worst 96 = .ok (.goto (-74), 3) := by decide +kernel
theorem dX6_worst_99 : decode cX6_worst 99 = .ok (.iload_n 2, 1) := by decide +kernel
theorem dX6_worst_100 : decode cX6_worst 100 = .ok (.ifCond .ne 5, 3) := by decide +kernel
theorem dX6_worst_103 : decode cX6_worst 103 = .ok (.iconst (-1), 1) := by decide +kernel
theorem dX6_worst_104 : decode cX6_worst 104 = .ok (.ireturn, 1) := by decide +kernel
theorem dX6_worst_105 : decode cX6_worst 105 = .ok (.iload_n 1, 1) := by decide +kernel
theorem dX6_worst_106 : decode cX6_worst 106 = .ok (.ifCond .ne 7, 3) := by decide +kernel
theorem dX6_worst_109 : decode cX6_worst 109 = .ok (.iload_n 3, 1) := by decide +kernel
theorem dX6_worst_110 : decode cX6_worst 110 = .ok (.goto 14, 3) := by decide +kernel
theorem dX6_worst_113 : decode cX6_worst 113 = .ok (.iload_n 1, 1) := by decide +kernel
theorem dX6_worst_114 : decode cX6_worst 114 = .ok (.iconst 1, 1) := by decide +kernel
theorem dX6_worst_115 : decode cX6_worst 115 = .ok (.if_icmp .ne 8, 3) := by decide +kernel
theorem dX6_worst_118 : decode cX6_worst 118 = .ok (.iload 4, 2) := by decide +kernel
theorem dX6_worst_120 : decode cX6_worst 120 = .ok (.goto 4, 3) := by decide +kernel
theorem dX6_worst_123 : decode cX6_worst 123 = .ok (.iload_n 2, 1) := by decide +kernel
theorem dX6_worst_124 : decode cX6_worst 124 = .ok (.ireturn, 1) := by decide +kernel
set_option maxRecDepth 20000 in
theorem ggX6_best_X1_hasPlace : GoodIn wsX6_best wsX1_hasPlace := goodIn_r _ [8, 9, 68, 69, 70, 71, 72, 73] (by decide +kernel) (by decide +kernel)
set_option maxRecDepth 20000 in
theorem gX6_best_X1_hasPlace : GoodIn wsX6_best (wsV RX6 175 RX1 yX1_hasPlace wsX1_hasPlace) := goodIn_app (goodIn_of _ (by decide +kernel)) ggX6_best_X1_hasPlace
set_option maxRecDepth 20000 in
theorem ggX6_best_X5_reachFrom : GoodIn wsX6_best wsX5_reachFrom := goodIn_r _ [14, 15, 16, 17, 13, 18, 19, 20, 21, 22, 23, 24, 25, 26, 27, 28, 29, 30, 31, 32, 33, 34, 35, 36, 37, 38, 39, 40, 41, 42, 43, 44, 45, 46, 47, 48, 49, 64, 65, 66, 67, 68, 69, 70, 71, 72, 73, 74, 75, 76, 77, 78, 79, 80, 81] (by decide +kernel) (by decide +kernel)
set_option maxRecDepth 20000 in
theorem gX6_best_X5_reachFrom : GoodIn wsX6_best (wsV RX6 178 RX5 yX5_reachFrom wsX5_reachFrom) := goodIn_app (goodIn_of _ (by decide +kernel)) ggX6_best_X5_reachFrom
set_option maxRecDepth 20000 in
theorem ggX6_best_J6_bitCount_0f7a4 : GoodIn wsX6_best wsJ6_bitCount_0f7a4 := goodIn_r _ [53, 54, 55, 56] (by decide +kernel) (by decide +kernel)
set_option maxRecDepth 20000 in
theorem gX6_best_J6_bitCount_0f7a4 : GoodIn wsX6_best (va_wsS RX6 201 yJ6_bitCount_0f7a4 wsJ6_bitCount_0f7a4) := goodIn_app (goodIn_of _ (by decide +kernel)) ggX6_best_J6_bitCount_0f7a4
theorem dX6_best_0 : decode cX6_best 0 = .ok (.aload_n 0, 1) := by decide +kernel
theorem dX6_best_1 : decode cX6_best 1 = .ok (.getfield 19, 3) := by decide +kernel
theorem dX6_best_4 : decode cX6_best 4 = .ok (.getfield 84, 3) := by decide +kernel
theorem dX6_best_7 : decode cX6_best 7 = .ok (.iload_n 1, 1) := by decide +kernel
theorem dX6_best_8 : decode cX6_best 8 = .ok (.invokevirtual 175, 3) := by decide +kernel
theorem dX6_best_11 : decode cX6_best 11 = .ok (.ifCond .ne 6, 3) := by decide +kernel
theorem dX6_best_14 : decode cX6_best 14 = .ok (.ldc 114, 2) := by decide +kernel
theorem dX6_best_16 : decode cX6_best 16 = .ok (.ireturn, 1) := by decide +kernel
theorem dX6_best_17 : decode cX6_best 17 = .ok (.iconst 1, 1) := by decide +kernel
theorem dX6_best_18 : decode cX6_best 18 = .ok (.istore_n 2, 1) := by decide +kernel
theorem dX6_best_19 : decode cX6_best 19 = .ok (.iconst 0, 1) := by decide +kernel
theorem dX6_best_20 : decode cX6_best 20 = .ok (.istore_n 3, 1) := by decide +kernel
theorem dX6_best_21 : decode cX6_best 21 = .ok (.iconst 1, 1) := by decide +kernel
theorem dX6_best_22 : decode cX6_best 22 = .ok (.istore 4, 2) := by decide +kernel
theorem dX6_best_24 : decode cX6_best 24 = .ok (.iload 4, 2) := by decide +kernel
theorem dX6_best_26 : decode cX6_best 26 = .ok (.bipush 24, 2) := by decide +kernel
theorem dX6_best_28 : decode cX6_best 28 = .ok (.if_icmp .gt 37, 3) := by decide +kernel
theorem dX6_best_31 : decode cX6_best 31 = .ok (.aload_n 0, 1) := by decide +kernel
theorem dX6_best_32 : decode cX6_best 32 = .ok (.getfield 19, 3) := by decide +kernel
theorem dX6_best_35 : decode cX6_best 35 = .ok (.iload_n 1, 1) := by decide +kernel
theorem dX6_best_36 : decode cX6_best 36 = .ok (.iload 4, 2) := by decide +kernel
theorem dX6_best_38 : decode cX6_best 38 = .ok (.iconst 0, 1) := by decide +kernel
theorem dX6_best_39 : decode cX6_best 39 = .ok (.invokevirtual 178, 3) := by decide +kernel
theorem dX6_best_42 : decode cX6_best 42 = .ok (.invokestatic 201, 3) := by decide +kernel
theorem dX6_best_45 : decode cX6_best 45 = .ok (.istore 5, 2) := by decide +kernel
theorem dX6_best_47 : decode cX6_best 47 = .ok (.iload 5, 2) := by decide +kernel
theorem dX6_best_49 : decode cX6_best 49 = .ok (.iload_n 3, 1) := by decide +kernel
theorem dX6_best_50 : decode cX6_best 50 = .ok (.if_icmp .lt 9, 3) := by decide +kernel
theorem dX6_best_53 : decode cX6_best 53 = .ok (.iload 5, 2) := by decide +kernel
theorem dX6_best_55 : decode cX6_best 55 = .ok (.istore_n 3, 1) := by decide +kernel
theorem dX6_best_56 : decode cX6_best 56 = .ok (.iload 4, 2) := by decide +kernel
theorem dX6_best_58 : decode cX6_best 58 = .ok (.istore_n 2, 1) := by decide +kernel
theorem dX6_best_59 : decode cX6_best 59 = .ok (.iinc 4 1, 3) := by decide +kernel
theorem dX6_best_62 : decode cX6_best 62 = .ok (.goto (-38), 3) := by decide +kernel
theorem dX6_best_65 : decode cX6_best 65 = .ok (.iload_n 2, 1) := by decide +kernel
theorem dX6_best_66 : decode cX6_best 66 = .ok (.ireturn, 1) := by decide +kernel
set_option maxRecDepth 20000 in
theorem ggX6_cover_X5_fewestClimbers : GoodIn wsX6_cover wsX5_fewestClimbers := goodIn_r _ [6, 7, 8, 9, 10, 11, 12, 13, 14, 5, 15, 16, 17, 18, 19, 20, 21, 22, 23, 24, 25, 26, 27, 28, 29, 30, 31, 32, 33, 34, 35, 36, 37, 38, 39, 40, 41, 42, 43, 44, 45, 46, 47, 55, 56, 57, 58, 59, 60, 61, 62, 63, 64, 65, 66, 67, 68, 69, 70, 71, 72] (by decide +kernel) (by decide +kernel)
set_option maxRecDepth 20000 in
theorem gX6_cover_X5_fewestClimbers : GoodIn wsX6_cover (wsV RX6 209 RX5 yX5_fewestClimbers wsX5_fewestClimbers) := goodIn_app (goodIn_of _ (by decide +kernel)) ggX6_cover_X5_fewestClimbers
theorem dX6_cover_0 : decode cX6_cover 0 = .ok (.aload_n 0, 1) := by decide +kernel
theorem dX6_cover_1 : decode cX6_cover 1 = .ok (.getfield 19, 3) := by decide +kernel
theorem dX6_cover_4 : decode cX6_cover 4 = .ok (.invokevirtual 209, 3) := by decide +kernel
theorem dX6_cover_7 : decode cX6_cover 7 = .ok (.ireturn, 1) := by decide +kernel
set_option maxRecDepth 20000 in
theorem ggX6_see_X1_hasPlace : GoodIn wsX6_see wsX1_hasPlace := goodIn_r _ [11, 12, 37, 38, 39, 40, 41, 42] (by decide +kernel) (by decide +kernel)
set_option maxRecDepth 20000 in
theorem gX6_see_X1_hasPlace : GoodIn wsX6_see (wsV RX6 175 RX1 yX1_hasPlace wsX1_hasPlace) := goodIn_app (goodIn_of _ (by decide +kernel)) ggX6_see_X1_hasPlace
set_option maxRecDepth 20000 in
theorem ggX6_see_X2_append : GoodIn wsX6_see wsX2_append := goodIn_r _ [17, 18, 19, 20, 21, 33, 34, 35, 36] (by decide +kernel) (by decide +kernel)
set_option maxRecDepth 20000 in
theorem gX6_see_X2_append : GoodIn wsX6_see (wsV RX6 212 RX2 yX2_append wsX2_append) := goodIn_app (goodIn_of _ (by decide +kernel)) ggX6_see_X2_append
theorem dX6_see_0 : decode cX6_see 0 = .ok (.aload_n 0, 1) := by decide +kernel
theorem dX6_see_1 : decode cX6_see 1 = .ok (.getfield 19, 3) := by decide +kernel
theorem dX6_see_4 : decode cX6_see 4 = .ok (.getfield 84, 3) := by decide +kernel
theorem dX6_see_7 : decode cX6_see 7 = .ok (.iload_n 1, 1) := by decide +kernel
theorem dX6_see_8 : decode cX6_see 8 = .ok (.invokevirtual 175, 3) := by decide +kernel
theorem dX6_see_11 : decode cX6_see 11 = .ok (.ifCond .eq 17, 3) := by decide +kernel
theorem dX6_see_14 : decode cX6_see 14 = .ok (.aload_n 0, 1) := by decide +kernel
theorem dX6_see_15 : decode cX6_see 15 = .ok (.getfield 19, 3) := by decide +kernel
theorem dX6_see_18 : decode cX6_see 18 = .ok (.getfield 84, 3) := by decide +kernel
theorem dX6_see_21 : decode cX6_see 21 = .ok (.iload_n 2, 1) := by decide +kernel
theorem dX6_see_22 : decode cX6_see 22 = .ok (.invokevirtual 175, 3) := by decide +kernel
theorem dX6_see_25 : decode cX6_see 25 = .ok (.ifCond .ne 6, 3) := by decide +kernel
theorem dX6_see_28 : decode cX6_see 28 = .ok (.ldc 114, 2) := by decide +kernel
theorem dX6_see_30 : decode cX6_see 30 = .ok (.ireturn, 1) := by decide +kernel
theorem dX6_see_31 : decode cX6_see 31 = .ok (.aload_n 0, 1) := by decide +kernel
theorem dX6_see_32 : decode cX6_see 32 = .ok (.getfield 37, 3) := by decide +kernel
theorem dX6_see_35 : decode cX6_see 35 = .ok (.getfield 80, 3) := by decide +kernel
theorem dX6_see_38 : decode cX6_see 38 = .ok (.bipush 20, 2) := by decide +kernel
theorem dX6_see_40 : decode cX6_see 40 = .ok (.if_icmp .lt 6, 3) := by decide +kernel
theorem dX6_see_43 : decode cX6_see 43 = .ok (.ldc 56, 2) := by decide +kernel
theorem dX6_see_45 : decode cX6_see 45 = .ok (.ireturn, 1) := by decide +kernel
theorem dX6_see_46 : decode cX6_see 46 = .ok (.aload_n 0, 1) := by decide +kernel
theorem dX6_see_47 : decode cX6_see 47 = .ok (.getfield 37, 3) := by decide +kernel
theorem dX6_see_50 : decode cX6_see 50 = .ok (.iload_n 1, 1) := by decide +kernel
theorem dX6_see_51 : decode cX6_see 51 = .ok (.iload_n 2, 1) := by decide +kernel
theorem dX6_see_52 : decode cX6_see 52 = .ok (.iload_n 3, 1) := by decide +kernel
theorem dX6_see_53 : decode cX6_see 53 = .ok (.invokevirtual 212, 3) := by decide +kernel
theorem dX6_see_56 : decode cX6_see 56 = .ok (.aload_n 0, 1) := by decide +kernel
theorem dX6_see_57 : decode cX6_see 57 = .ok (.getfield 37, 3) := by decide +kernel
theorem dX6_see_60 : decode cX6_see 60 = .ok (.getfield 80, 3) := by decide +kernel
theorem dX6_see_63 : decode cX6_see 63 = .ok (.ireturn, 1) := by decide +kernel
set_option maxRecDepth 20000 in
theorem ggX6_fits_X2_stridesAsSeen : GoodIn wsX6_fits wsX2_stridesAsSeen := goodIn_r _ [7, 8, 9, 10, 6, 11, 12, 13, 14, 15, 16, 17, 18, 19, 20, 21, 22, 23, 24, 25, 26, 27, 28, 29, 30, 31, 32, 33, 34, 35, 36, 37, 38, 39, 40, 41, 42, 43, 44, 45, 46, 47, 48, 49, 50, 51, 59, 60, 61, 62, 63, 64, 65, 66, 67, 68, 69, 70, 71, 72, 73, 74, 75, 76, 77, 78, 79, 80] (by decide +kernel) (by decide +kernel)
set_option maxRecDepth 20000 in
theorem gX6_fits_X2_stridesAsSeen : GoodIn wsX6_fits (wsV RX6 215 RX2 yX2_stridesAsSeen wsX2_stridesAsSeen) := goodIn_app (goodIn_of _ (by decide +kernel)) ggX6_fits_X2_stridesAsSeen
theorem dX6_fits_0 : decode cX6_fits 0 = .ok (.aload_n 0, 1) := by decide +kernel
theorem dX6_fits_1 : decode cX6_fits 1 = .ok (.getfield 37, 3) := by decide +kernel
theorem dX6_fits_4 : decode cX6_fits 4 = .ok (.aload_n 0, 1) := by decide +kernel
theorem dX6_fits_5 : decode cX6_fits 5 = .ok (.getfield 19, 3) := by decide +kernel
theorem dX6_fits_8 : decode cX6_fits 8 = .ok (.invokevirtual 215, 3) := by decide +kernel
theorem dX6_fits_11 : decode cX6_fits 11 = .ok (.ireturn, 1) := by decide +kernel
set_option maxRecDepth 20000 in
theorem ggX6_ask_X2_stridesAsSeen : GoodIn wsX6_ask wsX2_stridesAsSeen := goodIn_r _ [13, 14, 15, 16, 12, 17, 18, 19, 20, 21, 22, 23, 24, 25, 26, 27, 28, 29, 30, 31, 32, 33, 34, 35, 36, 37, 38, 39, 40, 41, 42, 43, 44, 45, 46, 47, 48, 49, 50, 51, 52, 53, 54, 55, 56, 57, 86, 87, 88, 89, 76, 77, 78, 79, 80, 81, 82, 83, 84, 85, 90, 91, 92, 93, 94, 95, 96, 97] (by decide +kernel) (by decide +kernel)
set_option maxRecDepth 20000 in
theorem gX6_ask_X2_stridesAsSeen : GoodIn wsX6_ask (wsV RX6 215 RX2 yX2_stridesAsSeen wsX2_stridesAsSeen) := goodIn_app (goodIn_of _ (by decide +kernel)) ggX6_ask_X2_stridesAsSeen
set_option maxRecDepth 20000 in
theorem ggX6_ask_J6_bitCount_0f7a4 : GoodIn wsX6_ask wsJ6_bitCount_0f7a4 := goodIn_r _ [61, 62, 63, 64] (by decide +kernel) (by decide +kernel)
set_option maxRecDepth 20000 in
theorem gX6_ask_J6_bitCount_0f7a4 : GoodIn wsX6_ask (va_wsS RX6 201 yJ6_bitCount_0f7a4 wsJ6_bitCount_0f7a4) := goodIn_app (goodIn_of _ (by decide +kernel)) ggX6_ask_J6_bitCount_0f7a4
set_option maxRecDepth 20000 in
theorem ggX6_ask_X5_stridesThatFit : GoodIn wsX6_ask wsX5_stridesThatFit := goodIn_r _ [68, 29, 30, 31, 25, 32, 27, 33, 34, 35, 36, 37, 38, 39, 76, 77, 78, 79, 80, 81, 82, 83, 84, 85, 90, 91, 92, 93, 94, 95, 96, 97] (by decide +kernel) (by decide +kernel)
set_option maxRecDepth 20000 in
theorem gX6_ask_X5_stridesThatFit : GoodIn wsX6_ask (wsV RX6 219 RX5 yX5_stridesThatFit wsX5_stridesThatFit) := goodIn_app (goodIn_of _ (by decide +kernel)) ggX6_ask_X5_stridesThatFit
theorem dX6_ask_0 : decode cX6_ask 0 = .ok (.aload_n 0, 1) := by decide +kernel
theorem dX6_ask_1 : decode cX6_ask 1 = .ok (.getfield 37, 3) := by decide +kernel
theorem dX6_ask_4 : decode cX6_ask 4 = .ok (.aload_n 0, 1) := by decide +kernel
theorem dX6_ask_5 : decode cX6_ask 5 = .ok (.getfield 19, 3) := by decide +kernel
theorem dX6_ask_8 : decode cX6_ask 8 = .ok (.invokevirtual 215, 3) := by decide +kernel
theorem dX6_ask_11 : decode cX6_ask 11 = .ok (.istore_n 1, 1) := by decide +kernel
theorem dX6_ask_12 : decode cX6_ask 12 = .ok (.iload_n 1, 1) := by decide +kernel
theorem dX6_ask_13 : decode cX6_ask 13 = .ok (.invokestatic 201, 3) := by decide +kernel
theorem dX6_ask_16 : decode cX6_ask 16 = .ok (.istore_n 2, 1) := by decide +kernel
theorem dX6_ask_17 : decode cX6_ask 17 = .ok (.iconst (-1), 1) := by decide +kernel
theorem dX6_ask_18 : decode cX6_ask 18 = .ok (.istore_n 3, 1) := by decide +kernel
theorem dX6_ask_19 : decode cX6_ask 19 = .ok (.bipush 25, 2) := by decide +kernel
theorem dX6_ask_21 : decode cX6_ask 21 = .ok (.istore 4, 2) := by decide +kernel
theorem dX6_ask_23 : decode cX6_ask 23 = .ok (.iconst 0, 1) := by decide +kernel
theorem dX6_ask_24 : decode cX6_ask 24 = .ok (.istore 5, 2) := by decide +kernel
theorem dX6_ask_26 : decode cX6_ask 26 = .ok (.iload 5, 2) := by decide +kernel
theorem dX6_ask_28 : decode cX6_ask 28 = .ok (.aload_n 0, 1) := by decide +kernel
theorem dX6_ask_29 : decode cX6_ask 29 = .ok (.getfield 19, 3) := by decide +kernel
theorem dX6_ask_32 : decode cX6_ask 32 = .ok (.getfield 84, 3) := by decide +kernel
theorem dX6_ask_35 : decode cX6_ask 35 = .ok (.getfield 93, 3) := by decide +kernel
theorem dX6_ask_38 : decode cX6_ask 38 = .ok (.if_icmp .ge 61, 3) := by decide +kernel
theorem dX6_ask_41 : decode cX6_ask 41 = .ok (.iload_n 1, 1) := by decide +kernel
theorem dX6_ask_42 : decode cX6_ask 42 = .ok (.aload_n 0, 1) := by decide +kernel
theorem dX6_ask_43 : decode cX6_ask 43 = .ok (.getfield 19, 3) := by decide +kernel
theorem dX6_ask_46 : decode cX6_ask 46 = .ok (.iload 5, 2) := by decide +kernel
theorem dX6_ask_48 : decode cX6_ask 48 = .ok (.invokevirtual 219, 3) := by decide +kernel
theorem dX6_ask_51 : decode cX6_ask 51 = .ok (.iand, 1) := by decide +kernel
theorem dX6_ask_52 : decode cX6_ask 52 = .ok (.invokestatic 201, 3) := by decide +kernel
theorem dX6_ask_55 : decode cX6_ask 55 = .ok (.istore 6, 2) := by decide +kernel
theorem dX6_ask_57 : decode cX6_ask 57 = .ok (.iload_n 2, 1) := by decide +kernel
theorem dX6_ask_58 : decode cX6_ask 58 = .ok (.iconst 2, 1) := by decide +kernel
theorem dX6_ask_59 : decode cX6_ask 59 = .ok (.iload 6, 2) := by decide +kernel
theorem dX6_ask_61 : decode cX6_ask 61 = .ok (.imul, 1) := by decide +kernel
theorem dX6_ask_62 : decode cX6_ask 62 = .ok (.isub, 1) := by decide +kernel
theorem dX6_ask_63 : decode cX6_ask 63 = .ok (.invokestatic 222, 3) := by decide +kernel
theorem dX6_ask_66 : decode cX6_ask 66 = .ok (.istore 7, 2) := by decide +kernel
theorem dX6_ask_68 : decode cX6_ask 68 = .ok (.iload 6, 2) := by decide +kernel
theorem dX6_ask_70 : decode cX6_ask 70 = .ok (.ifCond .le 23, 3) := by decide +kernel
theorem dX6_ask_73 : decode cX6_ask 73 = .ok (.iload 6, 2) := by decide +kernel
theorem dX6_ask_75 : decode cX6_ask 75 = .ok (.iload_n 2, 1) := by decide +kernel
theorem dX6_ask_76 : decode cX6_ask 76 = .ok (.if_icmp .ge 17, 3) := by decide +kernel
theorem dX6_ask_79 : decode cX6_ask 79 = .ok (.iload 7, 2) := by decide +kernel
theorem dX6_ask_81 : decode cX6_ask 81 = .ok (.iload 4, 2) := by decide +kernel
theorem dX6_ask_83 : decode cX6_ask 83 = .ok (.if_icmp .ge 10, 3) := by decide +kernel
theorem dX6_ask_86 : decode cX6_ask 86 = .ok (.iload 7, 2) := by decide +kernel
theorem dX6_ask_88 : decode cX6_ask 88 = .ok (.istore 4, 2) := by decide +kernel
theorem dX6_ask_90 : decode cX6_ask 90 = .ok (.iload 5, 2) := by decide +kernel
theorem dX6_ask_92 : decode cX6_ask 92 = .ok (.istore_n 3, 1) := by decide +kernel
theorem dX6_ask_93 : decode cX6_ask 93 = .ok (.iinc 5 1, 3) := by decide +kernel
theorem dX6_ask_96 : decode cX6_ask 96 = .ok (.goto (-70), 3) := by decide +kernel
theorem dX6_ask_99 : decode cX6_ask 99 = .ok (.iload_n 3, 1) := by decide +kernel
theorem dX6_ask_100 : decode cX6_ask 100 = .ok (.ireturn, 1) := by decide +kernel
set_option maxRecDepth 20000 in
theorem ggX6_write_X3_hasPerson : GoodIn wsX6_write wsX3_hasPerson := goodIn_r _ [12, 13, 43, 44, 45, 46, 47, 48, 49, 50] (by decide +kernel) (by decide +kernel)
set_option maxRecDepth 20000 in
theorem gX6_write_X3_hasPerson : GoodIn wsX6_write (wsV RX6 142 RX3 yX3_hasPerson wsX3_hasPerson) := goodIn_app (goodIn_of _ (by decide +kernel)) ggX6_write_X3_hasPerson
set_option maxRecDepth 20000 in
theorem ggX6_write_X1_hasStair : GoodIn wsX6_write wsX1_hasStair := goodIn_r _ [18, 19, 51, 52, 53, 54, 55, 56] (by decide +kernel) (by decide +kernel)
set_option maxRecDepth 20000 in
theorem gX6_write_X1_hasStair : GoodIn wsX6_write (wsV RX6 110 RX1 yX1_hasStair wsX1_hasStair) := goodIn_app (goodIn_of _ (by decide +kernel)) ggX6_write_X1_hasStair
set_option maxRecDepth 20000 in
theorem ggX6_write_X0_append : GoodIn wsX6_write wsX0_append := goodIn_r _ [24, 25, 26, 27, 39, 40, 41, 42] (by decide +kernel) (by decide +kernel)
set_option maxRecDepth 20000 in
theorem gX6_write_X0_append : GoodIn wsX6_write (wsV RX6 227 RX0 yX0_append wsX0_append) := goodIn_app (goodIn_of _ (by decide +kernel)) ggX6_write_X0_append
theorem dX6_write_0 : decode cX6_write 0 = .ok (.aload_n 0, 1) := by decide +kernel
theorem dX6_write_1 : decode cX6_write 1 = .ok (.getfield 19, 3) := by decide +kernel
theorem dX6_write_4 : decode cX6_write 4 = .ok (.getfield 96, 3) := by decide +kernel
theorem dX6_write_7 : decode cX6_write 7 = .ok (.iload_n 1, 1) := by decide +kernel
theorem dX6_write_8 : decode cX6_write 8 = .ok (.invokevirtual 142, 3) := by decide +kernel
theorem dX6_write_11 : decode cX6_write 11 = .ok (.ifCond .eq 17, 3) := by decide +kernel
theorem dX6_write_14 : decode cX6_write 14 = .ok (.aload_n 0, 1) := by decide +kernel
theorem dX6_write_15 : decode cX6_write 15 = .ok (.getfield 19, 3) := by decide +kernel
theorem dX6_write_18 : decode cX6_write 18 = .ok (.getfield 84, 3) := by decide +kernel
theorem dX6_write_21 : decode cX6_write 21 = .ok (.iload_n 2, 1) := by decide +kernel
theorem dX6_write_22 : decode cX6_write 22 = .ok (.invokevirtual 110, 3) := by decide +kernel
theorem dX6_write_25 : decode cX6_write 25 = .ok (.ifCond .ne 6, 3) := by decide +kernel
theorem dX6_write_28 : decode cX6_write 28 = .ok (.ldc 114, 2) := by decide +kernel
theorem dX6_write_30 : decode cX6_write 30 = .ok (.ireturn, 1) := by decide +kernel
theorem dX6_write_31 : decode cX6_write 31 = .ok (.aload_n 0, 1) := by decide +kernel
theorem dX6_write_32 : decode cX6_write 32 = .ok (.getfield 44, 3) := by decide +kernel
theorem dX6_write_35 : decode cX6_write 35 = .ok (.getfield 83, 3) := by decide +kernel
theorem dX6_write_38 : decode cX6_write 38 = .ok (.bipush 40, 2) := by decide +kernel
theorem dX6_write_40 : decode cX6_write 40 = .ok (.if_icmp .lt 6, 3) := by decide +kernel
theorem dX6_write_43 : decode cX6_write 43 = .ok (.ldc 56, 2) := by decide +kernel
theorem dX6_write_45 : decode cX6_write 45 = .ok (.ireturn, 1) := by decide +kernel
theorem dX6_write_46 : decode cX6_write 46 = .ok (.aload_n 0, 1) := by decide +kernel
theorem dX6_write_47 : decode cX6_write 47 = .ok (.getfield 44, 3) := by decide +kernel
theorem dX6_write_50 : decode cX6_write 50 = .ok (.iload_n 1, 1) := by decide +kernel
theorem dX6_write_51 : decode cX6_write 51 = .ok (.iload_n 2, 1) := by decide +kernel
theorem dX6_write_52 : decode cX6_write 52 = .ok (.invokevirtual 227, 3) := by decide +kernel
theorem dX6_write_55 : decode cX6_write 55 = .ok (.aload_n 0, 1) := by decide +kernel
theorem dX6_write_56 : decode cX6_write 56 = .ok (.getfield 44, 3) := by decide +kernel
theorem dX6_write_59 : decode cX6_write 59 = .ok (.getfield 83, 3) := by decide +kernel
theorem dX6_write_62 : decode cX6_write 62 = .ok (.ireturn, 1) := by decide +kernel
theorem dX6_tear_0 : decode cX6_tear 0 = .ok (.aload_n 0, 1) := by decide +kernel
theorem dX6_tear_1 : decode cX6_tear 1 = .ok (.getfield 44, 3) := by decide +kernel
theorem dX6_tear_4 : decode cX6_tear 4 = .ok (.getfield 83, 3) := by decide +kernel
theorem dX6_tear_7 : decode cX6_tear 7 = .ok (.aload_n 0, 1) := by decide +kernel
theorem dX6_tear_8 : decode cX6_tear 8 = .ok (.getfield 37, 3) := by decide +kernel
theorem dX6_tear_11 : decode cX6_tear 11 = .ok (.getfield 80, 3) := by decide +kernel
theorem dX6_tear_14 : decode cX6_tear 14 = .ok (.iadd, 1) := by decide +kernel
theorem dX6_tear_15 : decode cX6_tear 15 = .ok (.istore_n 1, 1) := by decide +kernel
theorem dX6_tear_16 : decode cX6_tear 16 = .ok (.aload_n 0, 1) := by decide +kernel
theorem dX6_tear_17 : decode cX6_tear 17 = .ok (.getfield 44, 3) := by decide +kernel
theorem dX6_tear_20 : decode cX6_tear 20 = .ok (.iconst 0, 1) := by decide +kernel
theorem dX6_tear_21 : decode cX6_tear 21 = .ok (.putfield 83, 3) := by decide +kernel
theorem dX6_tear_24 : decode cX6_tear 24 = .ok (.aload_n 0, 1) := by decide +kernel
theorem dX6_tear_25 : decode cX6_tear 25 = .ok (.getfield 37, 3) := by decide +kernel
theorem dX6_tear_28 : decode cX6_tear 28 = .ok (.iconst 0, 1) := by decide +kernel
theorem dX6_tear_29 : decode cX6_tear 29 = .ok (.putfield 80, 3) := by decide +kernel
theorem dX6_tear_32 : decode cX6_tear 32 = .ok (.iload_n 1, 1) := by decide +kernel
theorem dX6_tear_33 : decode cX6_tear 33 = .ok (.ireturn, 1) := by decide +kernel
set_option maxRecDepth 20000 in
theorem ggX6_judge_X0_firstWrong : GoodIn wsX6_judge wsX0_firstWrong := goodIn_r _ [7, 8, 9, 10, 11, 12, 13, 14, 15, 16, 17, 18, 19, 20, 21, 22, 23, 24, 25, 26, 27, 28, 29, 30, 31, 32, 33, 34, 35, 36, 37, 38, 39, 40, 41, 42, 43, 44, 45, 46, 47, 48, 49, 50, 51, 52, 53, 61, 62, 63, 64, 65, 66, 67, 68, 69, 70, 71, 72, 73, 74, 75, 76, 77, 78, 79, 80, 81, 82] (by decide +kernel) (by decide +kernel)
set_option maxRecDepth 20000 in
theorem gX6_judge_X0_firstWrong : GoodIn wsX6_judge (wsV RX6 230 RX0 yX0_firstWrong wsX0_firstWrong) := goodIn_app (goodIn_of _ (by decide +kernel)) ggX6_judge_X0_firstWrong
theorem dX6_judge_0 : decode cX6_judge 0 = .ok (.aload_n 0, 1) := by decide +kernel
theorem dX6_judge_1 : decode cX6_judge 1 = .ok (.getfield 44, 3) := by decide +kernel
theorem dX6_judge_4 : decode cX6_judge 4 = .ok (.aload_n 0, 1) := by decide +kernel
theorem dX6_judge_5 : decode cX6_judge 5 = .ok (.getfield 19, 3) := by decide +kernel
theorem dX6_judge_8 : decode cX6_judge 8 = .ok (.invokevirtual 230, 3) := by decide +kernel
theorem dX6_judge_11 : decode cX6_judge 11 = .ok (.ireturn, 1) := by decide +kernel
theorem dX6_seed_0 : decode cX6_seed 0 = .ok (.iload_n 1, 1) := by decide +kernel
theorem dX6_seed_1 : decode cX6_seed 1 = .ok (.ifCond .ge 6, 3) := by decide +kernel
theorem dX6_seed_4 : decode cX6_seed 4 = .ok (.ldc 52, 2) := by decide +kernel
theorem dX6_seed_6 : decode cX6_seed 6 = .ok (.ireturn, 1) := by decide +kernel
theorem dX6_seed_7 : decode cX6_seed 7 = .ok (.aload_n 0, 1) := by decide +kernel
theorem dX6_seed_8 : decode cX6_seed 8 = .ok (.getfield 19, 3) := by decide +kernel
theorem dX6_seed_11 : decode cX6_seed 11 = .ok (.getfield 96, 3) := by decide +kernel
theorem dX6_seed_14 : decode cX6_seed 14 = .ok (.getfield 233, 3) := by decide +kernel
theorem dX6_seed_17 : decode cX6_seed 17 = .ok (.istore_n 2, 1) := by decide +kernel
theorem dX6_seed_18 : decode cX6_seed 18 = .ok (.aload_n 0, 1) := by decide +kernel
theorem dX6_seed_19 : decode cX6_seed 19 = .ok (.getfield 19, 3) := by decide +kernel
theorem dX6_seed_22 : decode cX6_seed 22 = .ok (.getfield 96, 3) := by decide +kernel
theorem dX6_seed_25 : decode cX6_seed 25 = .ok (.iload_n 1, 1) := by decide +kernel
theorem dX6_seed_26 : decode cX6_seed 26 = .ok (.putfield 233, 3) := by decide +kernel
theorem dX6_seed_29 : decode cX6_seed 29 = .ok (.iload_n 2, 1) := by decide +kernel
theorem dX6_seed_30 : decode cX6_seed 30 = .ok (.ireturn, 1) := by decide +kernel
set_option maxRecDepth 20000 in
theorem ggX6_keep_X6_isImage : GoodIn wsX6_keep wsX6_isImage := goodIn_r _ [9] (by decide +kernel) (by decide +kernel)
set_option maxRecDepth 20000 in
theorem gX6_keep_X6_isImage : GoodIn wsX6_keep (va_wsS RX6 236 yX6_isImage wsX6_isImage) := goodIn_app (goodIn_of _ (by decide +kernel)) ggX6_keep_X6_isImage
set_option maxRecDepth 20000 in
theorem ggX6_keep_X3_become : GoodIn wsX6_keep wsX3_become := goodIn_r _ [14, 15, 16, 17, 18, 19, 20, 13, 21, 22, 23, 24, 25, 26, 38, 39, 40, 41, 42, 43, 44, 45] (by decide +kernel) (by decide +kernel)
set_option maxRecDepth 20000 in
theorem gX6_keep_X3_become : GoodIn wsX6_keep (wsV RX6 239 RX3 yX3_become wsX3_become) := goodIn_app (goodIn_of _ (by decide +kernel)) ggX6_keep_X3_become
theorem dX6_keep_0 : decode cX6_keep 0 = .ok (.iload_n 1, 1) := by decide +kernel
theorem dX6_keep_1 : decode cX6_keep 1 = .ok (.invokestatic 236, 3) := by decide +kernel
theorem dX6_keep_4 : decode cX6_keep 4 = .ok (.ifCond .ne 6, 3) := by decide +kernel
theorem dX6_keep_7 : decode cX6_keep 7 = .ok (.ldc 114, 2) := by decide +kernel
theorem dX6_keep_9 : decode cX6_keep 9 = .ok (.ireturn, 1) := by decide +kernel
theorem dX6_keep_10 : decode cX6_keep 10 = .ok (.aload_n 0, 1) := by decide +kernel
theorem dX6_keep_11 : decode cX6_keep 11 = .ok (.getfield 25, 3) := by decide +kernel
theorem dX6_keep_14 : decode cX6_keep 14 = .ok (.iload_n 1, 1) := by decide +kernel
theorem dX6_keep_15 : decode cX6_keep 15 = .ok (.aaload, 1) := by decide +kernel
theorem dX6_keep_16 : decode cX6_keep 16 = .ok (.aload_n 0, 1) := by decide +kernel
theorem dX6_keep_17 : decode cX6_keep 17 = .ok (.getfield 19, 3) := by decide +kernel
theorem dX6_keep_20 : decode cX6_keep 20 = .ok (.getfield 96, 3) := by decide +kernel
theorem dX6_keep_23 : decode cX6_keep 23 = .ok (.invokevirtual 239, 3) := by decide +kernel
theorem dX6_keep_26 : decode cX6_keep 26 = .ok (.aload_n 0, 1) := by decide +kernel
theorem dX6_keep_27 : decode cX6_keep 27 = .ok (.getfield 30, 3) := by decide +kernel
theorem dX6_keep_30 : decode cX6_keep 30 = .ok (.iload_n 1, 1) := by decide +kernel
theorem dX6_keep_31 : decode cX6_keep 31 = .ok (.iconst 1, 1) := by decide +kernel
theorem dX6_keep_32 : decode cX6_keep 32 = .ok (.bastore, 1) := by decide +kernel
theorem dX6_keep_33 : decode cX6_keep 33 = .ok (.iconst 1, 1) := by decide +kernel
theorem dX6_keep_34 : decode cX6_keep 34 = .ok (.ireturn, 1) := by decide +kernel
set_option maxRecDepth 20000 in
theorem ggX6_goBack_X6_isImage : GoodIn wsX6_goBack wsX6_isImage := goodIn_r _ [10] (by decide +kernel) (by decide +kernel)
set_option maxRecDepth 20000 in
theorem gX6_goBack_X6_isImage : GoodIn wsX6_goBack (va_wsS RX6 236 yX6_isImage wsX6_isImage) := goodIn_app (goodIn_of _ (by decide +kernel)) ggX6_goBack_X6_isImage
set_option maxRecDepth 20000 in
theorem ggX6_goBack_X3_become : GoodIn wsX6_goBack wsX3_become := goodIn_r _ [15, 16, 17, 18, 19, 20, 21, 14, 22, 23, 24, 25, 26, 27, 39, 40, 41, 42, 43, 44, 45, 46] (by decide +kernel) (by decide +kernel)
set_option maxRecDepth 20000 in
theorem gX6_goBack_X3_become : GoodIn wsX6_goBack (wsV RX6 239 RX3 yX3_become wsX3_become) := goodIn_app (goodIn_of _ (by decide +kernel)) ggX6_goBack_X3_become
theorem dX6_goBack_0 : decode cX6_goBack 0 = .ok (.iload_n 1, 1) := by decide +kernel
theorem dX6_goBack_1 : decode cX6_goBack 1 = .ok (.invokestatic 236, 3) := by decide +kernel
theorem dX6_goBack_4 : decode cX6_goBack 4 = .ok (.ifCond .ne 6, 3) := by decide +kernel
theorem dX6_goBack_7 : decode cX6_goBack 7 = .ok (.ldc 114, 2) := by decide +kernel
theorem dX6_goBack_9 : decode cX6_goBack 9 = .ok (.ireturn, 1) := by decide +kernel
theorem dX6_goBack_10 : decode cX6_goBack 10 = .ok (.aload_n 0, 1) := by decide +kernel
theorem dX6_goBack_11 : decode cX6_goBack 11 = .ok (.getfield 30, 3) := by decide +kernel
theorem dX6_goBack_14 : decode cX6_goBack 14 = .ok (.iload_n 1, 1) := by decide +kernel
theorem dX6_goBack_15 : decode cX6_goBack 15 = .ok (.baload, 1) := by decide +kernel
theorem dX6_goBack_16 : decode cX6_goBack 16 = .ok (.ifCond .ne 6, 3) := by decide +kernel
theorem dX6_goBack_19 : decode cX6_goBack 19 = .ok (.ldc 168, 2) := by decide +kernel
theorem dX6_goBack_21 : decode cX6_goBack 21 = .ok (.ireturn, 1) := by decide +kernel
theorem dX6_goBack_22 : decode cX6_goBack 22 = .ok (.aload_n 0, 1) := by decide +kernel
theorem dX6_goBack_23 : decode cX6_goBack 23 = .ok (.getfield 19, 3) := by decide +kernel
theorem dX6_goBack_26 : decode cX6_goBack 26 = .ok (.getfield 96, 3) := by decide +kernel
theorem dX6_goBack_29 : decode cX6_goBack 29 = .ok (.aload_n 0, 1) := by decide +kernel
theorem dX6_goBack_30 : decode cX6_goBack 30 = .ok (.getfield 25, 3) := by decide +kernel
theorem dX6_goBack_33 : decode cX6_goBack 33 = .ok (.iload_n 1, 1) := by decide +kernel
theorem dX6_goBack_34 : decode cX6_goBack 34 = .ok (.aaload, 1) := by decide +kernel
theorem dX6_goBack_35 : decode cX6_goBack 35 = .ok (.invokevirtual 239, 3) := by decide +kernel
theorem dX6_goBack_38 : decode cX6_goBack 38 = .ok (.iconst 1, 1) := by decide +kernel
theorem dX6_goBack_39 : decode cX6_goBack 39 = .ok (.ireturn, 1) := by decide +kernel
theorem dX6_isImage_0 : decode cX6_isImage 0 = .ok (.iload_n 0, 1) := by decide +kernel
theorem dX6_isImage_1 : decode cX6_isImage 1 = .ok (.ifCond .lt 12, 3) := by decide +kernel
theorem dX6_isImage_4 : decode cX6_isImage 4 = .ok (.iload_n 0, 1) := by decide +kernel
theorem dX6_isImage_5 : decode cX6_isImage 5 = .ok (.iconst 2, 1) := by decide +kernel
theorem dX6_isImage_6 : decode cX6_isImage 6 = .ok (.if_icmp .ge 7, 3) := by decide +kernel
theorem dX6_isImage_9 : decode cX6_isImage 9 = .ok (.iconst 1, 1) := by decide +kernel
theorem dX6_isImage_10 : decode cX6_isImage 10 = .ok (.goto 4, 3) := by decide +kernel
theorem dX6_isImage_13 : decode cX6_isImage 13 = .ok (.iconst 0, 1) := by decide +kernel
theorem dX6_isImage_14 : decode cX6_isImage 14 = .ok (.ireturn, 1) := by decide +kernel
theorem dX6_isStride_0 : decode cX6_isStride 0 = .ok (.iload_n 0, 1) := by decide +kernel
theorem dX6_isStride_1 : decode cX6_isStride 1 = .ok (.iconst 1, 1) := by decide +kernel
theorem dX6_isStride_2 : decode cX6_isStride 2 = .ok (.if_icmp .lt 13, 3) := by decide +kernel
theorem dX6_isStride_5 : decode cX6_isStride 5 = .ok (.iload_n 0, 1) := by decide +kernel
theorem dX6_isStride_6 : decode cX6_isStride 6 = .ok (.bipush 24, 2) := by decide +kernel
theorem dX6_isStride_8 : decode cX6_isStride 8 = .ok (.if_icmp .gt 7, 3) := by decide +kernel
theorem dX6_isStride_11 : decode cX6_isStride 11 = .ok (.iconst 1, 1) := by decide +kernel
theorem dX6_isStride_12 : decode cX6_isStride 12 = .ok (.goto 4, 3) := by decide +kernel
theorem dX6_isStride_15 : decode cX6_isStride 15 = .ok (.iconst 0, 1) := by decide +kernel
theorem dX6_isStride_16 : decode cX6_isStride 16 = .ok (.ireturn, 1) := by decide +kernel
theorem dX6_areSteps_0 : decode cX6_areSteps 0 = .ok (.iload_n 0, 1) := by decide +kernel
theorem dX6_areSteps_1 : decode cX6_areSteps 1 = .ok (.iconst 1, 1) := by decide +kernel
theorem dX6_areSteps_2 : decode cX6_areSteps 2 = .ok (.if_icmp .lt 14, 3) := by decide +kernel
theorem dX6_areSteps_5 : decode cX6_areSteps 5 = .ok (.iload_n 0, 1) := by decide +kernel
theorem dX6_areSteps_6 : decode cX6_areSteps 6 = .ok (.sipush 720, 3) := by decide +kernel
theorem dX6_areSteps_9 : decode cX6_areSteps 9 = .ok (.if_icmp .gt 7, 3) := by decide +kernel
theorem dX6_areSteps_12 : decode cX6_areSteps 12 = .ok (.iconst 1, 1) := by decide +kernel
theorem dX6_areSteps_13 : decode cX6_areSteps 13 = .ok (.goto 4, 3) := by decide +kernel
theorem dX6_areSteps_16 : decode cX6_areSteps 16 = .ok (.iconst 0, 1) := by decide +kernel
theorem dX6_areSteps_17 : decode cX6_areSteps 17 = .ok (.ireturn, 1) := by decide +kernel
theorem dX6_has_0 : decode cX6_has 0 = .ok (.iload_n 1, 1) := by decide +kernel
theorem dX6_has_1 : decode cX6_has 1 = .ok (.ifCond .lt 22, 3) := by decide +kernel
theorem dX6_has_4 : decode cX6_has 4 = .ok (.iload_n 1, 1) := by decide +kernel
theorem dX6_has_5 : decode cX6_has 5 = .ok (.bipush 31, 2) := by decide +kernel
theorem dX6_has_7 : decode cX6_has 7 = .ok (.if_icmp .ge 16, 3) := by decide +kernel
theorem dX6_has_10 : decode cX6_has 10 = .ok (.iload_n 0, 1) := by decide +kernel
theorem dX6_has_11 : decode cX6_has 11 = .ok (.iload_n 1, 1) := by decide +kernel
theorem dX6_has_12 : decode cX6_has 12 = .ok (.ishr, 1) := by decide +kernel
theorem dX6_has_13 : decode cX6_has 13 = .ok (.iconst 1, 1) := by decide +kernel
theorem dX6_has_14 : decode cX6_has 14 = .ok (.iand, 1) := by decide +kernel
theorem dX6_has_15 : decode cX6_has 15 = .ok (.iconst 1, 1) := by decide +kernel
theorem dX6_has_16 : decode cX6_has 16 = .ok (.if_icmp .ne 7, 3) := by decide +kernel
theorem dX6_has_19 : decode cX6_has 19 = .ok (.iconst 1, 1) := by decide +kernel
theorem dX6_has_20 : decode cX6_has 20 = .ok (.goto 4, 3) := by decide +kernel
theorem dX6_has_23 : decode cX6_has 23 = .ok (.iconst 0, 1) := by decide +kernel
theorem dX6_has_24 : decode cX6_has 24 = .ok (.ireturn, 1) := by decide +kernel
theorem dX6_goesInto_0 : decode cX6_goesInto 0 = .ok (.iload_n 0, 1) := by decide +kernel
theorem dX6_goesInto_1 : decode cX6_goesInto 1 = .ok (.ifCond .le 16, 3) := by decide +kernel
theorem dX6_goesInto_4 : decode cX6_goesInto 4 = .ok (.lload_n 1, 1) := by decide +kernel
theorem dX6_goesInto_5 : decode cX6_goesInto 5 = .ok (.iload_n 0, 1) := by decide +kernel
theorem dX6_goesInto_6 : decode cX6_goesInto 6 = .ok (.i2l, 1) := by decide +kernel
theorem dX6_goesInto_7 : decode cX6_goesInto 7 = .ok (.lrem, 1) := by decide +kernel
theorem dX6_goesInto_8 : decode cX6_goesInto 8 = .ok (.lconst 0, 1) := by decide +kernel
theorem dX6_goesInto_9 : decode cX6_goesInto 9 = .ok (.lcmp, 1) := by decide +kernel
theorem dX6_goesInto_10 : decode cX6_goesInto 10 = .ok (.ifCond .ne 7, 3) := by decide +kernel
theorem dX6_goesInto_13 : decode cX6_goesInto 13 = .ok (.iconst 1, 1) := by decide +kernel
theorem dX6_goesInto_14 : decode cX6_goesInto 14 = .ok (.goto 4, 3) := by decide +kernel
theorem dX6_goesInto_17 : decode cX6_goesInto 17 = .ok (.iconst 0, 1) := by decide +kernel
theorem dX6_goesInto_18 : decode cX6_goesInto 18 = .ok (.ireturn, 1) := by decide +kernel
set_option maxRecDepth 20000 in
theorem ggX6_commonSteps_X6_goesInto : GoodIn wsX6_commonSteps wsX6_goesInto := goodIn_r _ [4] (by decide +kernel) (by decide +kernel)
set_option maxRecDepth 20000 in
theorem gX6_commonSteps_X6_goesInto : GoodIn wsX6_commonSteps (va_wsS RX6 193 yX6_goesInto wsX6_goesInto) := goodIn_app (goodIn_of _ (by decide +kernel)) ggX6_commonSteps_X6_goesInto
theorem dX6_commonSteps_0 : decode cX6_commonSteps 0 = .ok (.iload_n 2, 1) := by decide +kernel
theorem dX6_commonSteps_1 : decode cX6_commonSteps 1 = .ok (.iconst 1, 1) := by decide +kernel
theorem dX6_commonSteps_2 : decode cX6_commonSteps 2 = .ok (.if_icmp .ge 5, 3) := by decide +kernel
theorem dX6_commonSteps_5 : decode cX6_commonSteps 5 = .ok (.lload_n 0, 1) := by decide +kernel
theorem dX6_commonSteps_6 : decode cX6_commonSteps 6 = .ok (.lreturn, 1) := by decide +kernel
theorem dX6_commonSteps_7 : decode cX6_commonSteps 7 = .ok (.iconst 1, 1) := by decide +kernel
theorem dX6_commonSteps_8 : decode cX6_commonSteps 8 = .ok (.istore_n 3, 1) := by decide +kernel
theorem dX6_commonSteps_9 : decode cX6_commonSteps 9 = .ok (.iload_n 3, 1) := by decide +kernel
theorem dX6_commonSteps_10 : decode cX6_commonSteps 10 = .ok (.iload_n 2, 1) := by decide +kernel
theorem dX6_commonSteps_11 : decode cX6_commonSteps 11 = .ok (.if_icmp .gt 25, 3) := by decide +kernel
theorem dX6_commonSteps_14 : decode cX6_commonSteps 14 = .ok (.iload_n 2, 1) := by decide +kernel
theorem dX6_commonSteps_15 : decode cX6_commonSteps 15 = .ok (.lload_n 0, 1) := by decide +kernel
theorem dX6_commonSteps_16 : decode cX6_commonSteps 16 = .ok (.iload_n 3, 1) := by decide +kernel
theorem dX6_commonSteps_17 : decode cX6_commonSteps 17 = .ok (.i2l, 1) := by decide +kernel
theorem dX6_commonSteps_18 : decode cX6_commonSteps 18 = .ok (.lmul, 1) := by decide +kernel
theorem dX6_commonSteps_19 : decode cX6_commonSteps 19 = .ok (.invokestatic 193, 3) := by decide +kernel
theorem dX6_commonSteps_22 : decode cX6_commonSteps 22 = .ok (.ifCond .eq 8, 3) := by decide +kernel
theorem dX6_commonSteps_25 : decode cX6_commonSteps 25 = .ok (.lload_n 0, 1) := by decide +kernel
theorem dX6_commonSteps_26 : decode cX6_commonSteps 26 = .ok (.iload_n 3, 1) := by decide +kernel
theorem dX6_commonSteps_27 : decode cX6_commonSteps 27 = .ok (.i2l, 1) := by decide +kernel
theorem dX6_commonSteps_28 : decode cX6_commonSteps 28 = .ok (.lmul, 1) := by decide +kernel
theorem dX6_commonSteps_29 : decode cX6_commonSteps 29 = .ok (.lreturn, 1) := by decide +kernel
theorem dX6_commonSteps_30 : decode cX6_commonSteps 30 = .ok (.iinc 3 1, 3) := by decide +kernel
theorem dX6_commonSteps_33 : decode cX6_commonSteps 33 = .ok (.goto (-24), 3) := by decide +kernel
theorem dX6_commonSteps_36 : decode cX6_commonSteps 36 = .ok (.lload_n 0, 1) := by decide +kernel
theorem dX6_commonSteps_37 : decode cX6_commonSteps 37 = .ok (.iload_n 2, 1) := by decide +kernel
theorem dX6_commonSteps_38 : decode cX6_commonSteps 38 = .ok (.i2l, 1) := by decide +kernel
theorem dX6_commonSteps_39 : decode cX6_commonSteps 39 = .ok (.lmul, 1) := by decide +kernel
theorem dX6_commonSteps_40 : decode cX6_commonSteps 40 = .ok (.lreturn, 1) := by decide +kernel
