set_option maxRecDepth 20000 in
theorem ggX4_init_X5_init : GoodIn wsX4_init wsX5_init := goodIn_r _ [11, 12, 2, 3, 13, 14, 15, 16, 17, 18, 19, 20, 21, 22, 23, 24, 25, 26, 27, 28, 29, 30, 31, 32, 33, 34, 35, 36, 37, 38, 49, 50, 51, 52, 53, 54, 39, 40, 41, 42, 55, 56, 57, 58, 59, 60, 61, 62] (by decide +kernel) (by decide +kernel)
set_option maxRecDepth 20000 in
theorem gX4_init_X5_init_n11 : GoodIn wsX4_init (wsX5_init) := ggX4_init_X5_init
theorem dX4_init_0 : decode cX4_init 0 = .ok (.aload_n 0, 1) := by decide +kernel
theorem dX4_init_1 : decode cX4_init 1 = .ok (.invokespecial 3, 3) := by decide +kernel
theorem dX4_init_4 : decode cX4_init 4 = .ok (.aload_n 0, 1) := by decide +kernel
theorem dX4_init_5 : decode cX4_init 5 = .ok (.new 9, 3) := by decide +kernel
theorem dX4_init_8 : decode cX4_init 8 = .ok (.dup, 1) := by decide +kernel
theorem dX4_init_9 : decode cX4_init 9 = .ok (.invokespecial 11, 3) := by decide +kernel
theorem dX4_init_12 : decode cX4_init 12 = .ok (.putfield 12, 3) := by decide +kernel
theorem dX4_init_15 : decode cX4_init 15 = .ok (.aload_n 0, 1) := by decide +kernel
theorem dX4_init_16 : decode cX4_init 16 = .ok (.sipush 500, 3) := by decide +kernel
theorem dX4_init_19 : decode cX4_init 19 = .ok (.newarray .byte, 2) := by decide +kernel
theorem dX4_init_21 : decode cX4_init 21 = .ok (.putfield 18, 3) := by decide +kernel
theorem dX4_init_24 : decode cX4_init 24 = .ok (.return_, 1) := by decide +kernel
theorem dX4_append_0 : decode cX4_append 0 = .ok (.aload_n 0, 1) := by decide +kernel
theorem dX4_append_1 : decode cX4_append 1 = .ok (.getfield 22, 3) := by decide +kernel
theorem dX4_append_4 : decode cX4_append 4 = .ok (.sipush 500, 3) := by decide +kernel
theorem dX4_append_7 : decode cX4_append 7 = .ok (.if_icmp .ge 24, 3) := by decide +kernel
theorem dX4_append_10 : decode cX4_append 10 = .ok (.aload_n 0, 1) := by decide +kernel
theorem dX4_append_11 : decode cX4_append 11 = .ok (.getfield 18, 3) := by decide +kernel
theorem dX4_append_14 : decode cX4_append 14 = .ok (.aload_n 0, 1) := by decide +kernel
theorem dX4_append_15 : decode cX4_append 15 = .ok (.getfield 22, 3) := by decide +kernel
theorem dX4_append_18 : decode cX4_append 18 = .ok (.iload_n 1, 1) := by decide +kernel
theorem dX4_append_19 : decode cX4_append 19 = .ok (.i2b, 1) := by decide +kernel
theorem dX4_append_20 : decode cX4_append 20 = .ok (.bastore, 1) := by decide +kernel
theorem dX4_append_21 : decode cX4_append 21 = .ok (.aload_n 0, 1) := by decide +kernel
theorem dX4_append_22 : decode cX4_append 22 = .ok (.dup, 1) := by decide +kernel
theorem dX4_append_23 : decode cX4_append 23 = .ok (.getfield 22, 3) := by decide +kernel
theorem dX4_append_26 : decode cX4_append 26 = .ok (.iconst 1, 1) := by decide +kernel
theorem dX4_append_27 : decode cX4_append 27 = .ok (.iadd, 1) := by decide +kernel
theorem dX4_append_28 : decode cX4_append 28 = .ok (.putfield 22, 3) := by decide +kernel
theorem dX4_append_31 : decode cX4_append 31 = .ok (.return_, 1) := by decide +kernel
set_option maxRecDepth 20000 in
theorem ggX4_read_X5_clear : GoodIn wsX4_read wsX5_clear := goodIn_r _ [9, 10, 11, 12, 13, 14, 147, 148, 149, 150, 151, 152, 153, 154, 155, 156, 157, 158, 159, 160, 161, 162, 163, 164] (by decide +kernel) (by decide +kernel)
set_option maxRecDepth 20000 in
theorem gX4_read_X5_clear : GoodIn wsX4_read (wsV RX4 26 RX5 yX5_clear wsX5_clear) := goodIn_app (goodIn_of _ (by decide +kernel)) ggX4_read_X5_clear
set_option maxRecDepth 20000 in
theorem ggX4_read_X4_look : GoodIn wsX4_read wsX4_look := goodIn_r _ [19, 2, 20, 21, 141, 142, 143, 144, 145, 146] (by decide +kernel) (by decide +kernel)
set_option maxRecDepth 20000 in
theorem gX4_read_X4_look : GoodIn wsX4_read (wsV RX4 38 RX4 yX4_look wsX4_look) := goodIn_app (goodIn_of _ (by decide +kernel)) ggX4_read_X4_look
set_option maxRecDepth 20000 in
theorem ggX4_read_X4_readClause : GoodIn wsX4_read wsX4_readClause := goodIn_r _ [25, 2, 1, 26, 27, 28, 29, 30, 18, 31, 20, 21, 32, 33, 34, 35, 36, 37, 38, 39, 40, 41, 42, 43, 44, 45, 46, 47, 48, 49, 50, 51, 52, 53, 54, 55, 56, 57, 58, 59, 60, 61, 62, 63, 64, 65, 66, 67, 68, 69, 70, 71, 72, 73, 74, 75, 76, 77, 78, 79, 80, 81, 82, 83, 84, 85, 86, 87, 88, 89, 90, 91, 92, 15, 16, 17, 19, 93, 94, 95, 96, 97, 98, 99, 3, 4, 100, 101, 102, 103, 104, 105, 106, 107, 108, 109, 110, 111, 112, 113, 114, 115, 116, 117, 118, 119, 120, 121, 122, 123, 124, 125, 126, 127, 128, 129, 130, 131, 132, 133, 134, 135, 136, 137, 138, 139, 140, 141, 142, 143, 144, 145, 146, 147, 148, 149, 150, 151, 152, 153, 154, 155, 156, 157, 158, 159, 160, 161, 162, 163, 164] (by decide +kernel) (by decide +kernel)
set_option maxRecDepth 20000 in
theorem gX4_read_X4_readClause : GoodIn wsX4_read (wsV RX4 42 RX4 yX4_readClause wsX4_readClause) := goodIn_app (goodIn_of _ (by decide +kernel)) ggX4_read_X4_readClause
theorem dX4_read_0 : decode cX4_read 0 = .ok (.aload_n 0, 1) := by decide +kernel
theorem dX4_read_1 : decode cX4_read 1 = .ok (.getfield 12, 3) := by decide +kernel
theorem dX4_read_4 : decode cX4_read 4 = .ok (.invokevirtual 26, 3) := by decide +kernel
theorem dX4_read_7 : decode cX4_read 7 = .ok (.aload_n 0, 1) := by decide +kernel
theorem dX4_read_8 : decode cX4_read 8 = .ok (.iconst 0, 1) := by decide +kernel
theorem dX4_read_9 : decode cX4_read 9 = .ok (.putfield 29, 3) := by decide +kernel
theorem dX4_read_12 : decode cX4_read 12 = .ok (.aload_n 0, 1) := by decide +kernel
theorem dX4_read_13 : decode cX4_read 13 = .ok (.iconst 0, 1) := by decide +kernel
theorem dX4_read_14 : decode cX4_read 14 = .ok (.putfield 32, 3) := by decide +kernel
theorem dX4_read_17 : decode cX4_read 17 = .ok (.aload_n 0, 1) := by decide +kernel
theorem dX4_read_18 : decode cX4_read 18 = .ok (.iconst (-1), 1) := by decide +kernel
theorem dX4_read_19 : decode cX4_read 19 = .ok (.putfield 35, 3) := by decide +kernel
theorem dX4_read_22 : decode cX4_read 22 = .ok (.iconst 0, 1) := by decide +kernel
theorem dX4_read_23 : decode cX4_read 23 = .ok (.istore_n 1, 1) := by decide +kernel
theorem dX4_read_24 : decode cX4_read 24 = .ok (.iload_n 1, 1) := by decide +kernel
theorem dX4_read_25 : decode cX4_read 25 = .ok (.sipush 500, 3) := by decide +kernel
theorem dX4_read_28 : decode cX4_read 28 = .ok (.if_icmp .ge 28, 3) := by decide +kernel
theorem dX4_read_31 : decode cX4_read 31 = .ok (.aload_n 0, 1) := by decide +kernel
theorem dX4_read_32 : decode cX4_read 32 = .ok (.getfield 32, 3) := by decide +kernel
theorem dX4_read_35 : decode cX4_read 35 = .ok (.ifCond .ne 21, 3) := by decide +kernel
theorem dX4_read_38 : decode cX4_read 38 = .ok (.aload_n 0, 1) := by decide +kernel
theorem dX4_read_39 : decode cX4_read 39 = .ok (.invokevirtual 38, 3) := by decide +kernel
theorem dX4_read_42 : decode cX4_read 42 = .ok (.iconst (-1), 1) := by decide +kernel
theorem dX4_read_43 : decode cX4_read 43 = .ok (.if_icmp .eq 13, 3) := by decide +kernel
theorem dX4_read_46 : decode cX4_read 46 = .ok (.aload_n 0, 1) := by decide +kernel
theorem dX4_read_47 : decode cX4_read 47 = .ok (.invokevirtual 42, 3) := by decide +kernel
theorem dX4_read_50 : decode cX4_read 50 = .ok (.iinc 1 1, 3) := by decide +kernel
theorem dX4_read_53 : decode cX4_read 53 = .ok (.goto (-29), 3) := by decide +kernel
theorem dX4_read_56 : decode cX4_read 56 = .ok (.aload_n 0, 1) := by decide +kernel
theorem dX4_read_57 : decode cX4_read 57 = .ok (.getfield 32, 3) := by decide +kernel
theorem dX4_read_60 : decode cX4_read 60 = .ok (.ifCond .ne 7, 3) := by decide +kernel
theorem dX4_read_63 : decode cX4_read 63 = .ok (.iconst 1, 1) := by decide +kernel
theorem dX4_read_64 : decode cX4_read 64 = .ok (.goto 4, 3) := by decide +kernel
theorem dX4_read_67 : decode cX4_read 67 = .ok (.iconst 0, 1) := by decide +kernel
theorem dX4_read_68 : decode cX4_read 68 = .ok (.ireturn, 1) := by decide +kernel
set_option maxRecDepth 20000 in
theorem ggX4_readClause_X4_skipWord : GoodIn wsX4_readClause wsX4_skipWord := goodIn_r _ [9, 1, 10, 11, 127, 128, 129, 130, 131, 132] (by decide +kernel) (by decide +kernel)
set_option maxRecDepth 20000 in
theorem gX4_readClause_X4_skipWord : GoodIn wsX4_readClause (wsV RX4 45 RX4 yX4_skipWord wsX4_skipWord) := goodIn_app (goodIn_of _ (by decide +kernel)) ggX4_readClause_X4_skipWord
set_option maxRecDepth 20000 in
theorem ggX4_readClause_X4_isWord : GoodIn wsX4_readClause wsX4_isWord := goodIn_r _ [15, 1, 10, 11, 16, 17, 18, 19, 20, 21, 22, 23, 24, 25, 26, 27, 28, 29, 30, 31, 32, 33, 34, 35, 36, 37, 38, 39, 40, 41, 42, 43, 44, 45, 46, 47, 48, 49, 50, 51, 52, 53, 54, 55, 56, 57, 58, 59, 60, 61, 62, 63, 64, 127, 128, 129, 130, 131, 132] (by decide +kernel) (by decide +kernel)
set_option maxRecDepth 20000 in
theorem gX4_readClause_X4_isWord : GoodIn wsX4_readClause (wsV RX4 50 RX4 yX4_isWord wsX4_isWord) := goodIn_app (goodIn_of _ (by decide +kernel)) ggX4_readClause_X4_isWord
set_option maxRecDepth 20000 in
theorem ggX4_readClause_X4_readPlaces : GoodIn wsX4_readClause wsX4_readPlaces := goodIn_r _ [68, 2, 3, 4, 69, 70, 71, 8, 72, 1, 10, 11, 73, 74, 75, 76, 77, 78, 79, 80, 81, 82, 83, 84, 85, 86, 87, 88, 89, 127, 128, 129, 130, 131, 132, 133, 134, 135, 136, 137, 138, 139, 140, 141, 142] (by decide +kernel) (by decide +kernel)
set_option maxRecDepth 20000 in
theorem gX4_readClause_X4_readPlaces : GoodIn wsX4_readClause (wsV RX4 62 RX4 yX4_readPlaces wsX4_readPlaces) := goodIn_app (goodIn_of _ (by decide +kernel)) ggX4_readClause_X4_readPlaces
set_option maxRecDepth 20000 in
theorem ggX4_readClause_X4_fail : GoodIn wsX4_readClause wsX4_fail := goodIn_r _ [83, 84, 85, 127, 128, 129, 130, 131, 132] (by decide +kernel) (by decide +kernel)
set_option maxRecDepth 20000 in
theorem gX4_readClause_X4_fail : GoodIn wsX4_readClause (wsV RX4 65 RX4 yX4_fail wsX4_fail) := goodIn_app (goodIn_of _ (by decide +kernel)) ggX4_readClause_X4_fail
set_option maxRecDepth 20000 in
theorem ggX4_readClause_X4_readStair : GoodIn wsX4_readClause wsX4_readStair := goodIn_r _ [93, 2, 3, 94, 95, 96, 97, 98, 80, 81, 82, 8, 83, 84, 85, 99, 100, 101, 102, 1, 73, 74, 75, 76, 10, 11, 5, 6, 7, 9, 12, 13, 14, 15, 16, 17, 18, 19, 20, 21, 22, 23, 24, 25, 26, 27, 28, 29, 30, 31, 32, 33, 34, 35, 36, 37, 38, 39, 40, 41, 42, 43, 44, 45, 46, 47, 48, 49, 50, 51, 52, 53, 54, 55, 56, 57, 58, 59, 60, 61, 62, 63, 64, 103, 104, 105, 106, 4, 69, 70, 71, 72, 77, 78, 79, 107, 108, 109, 110, 111, 112, 86, 87, 88, 89, 127, 128, 129, 130, 131, 132, 133, 134, 135, 136, 137, 138, 139, 140, 141, 142, 143, 144, 145, 146, 147, 148, 149, 150] (by decide +kernel) (by decide +kernel)
set_option maxRecDepth 20000 in
theorem gX4_readClause_X4_readStair : GoodIn wsX4_readClause (wsV RX4 71 RX4 yX4_readStair wsX4_readStair) := goodIn_app (goodIn_of _ (by decide +kernel)) ggX4_readClause_X4_readStair
set_option maxRecDepth 20000 in
theorem ggX4_readClause_X4_readPerson : GoodIn wsX4_readClause wsX4_readPerson := goodIn_r _ [116, 2, 111, 117, 80, 81, 82, 8, 83, 84, 85, 103, 104, 105, 106, 1, 3, 4, 73, 74, 75, 76, 10, 11, 69, 70, 71, 72, 77, 78, 79, 86, 87, 88, 89, 118, 119, 120, 121, 122, 123, 124, 125, 126, 127, 128, 129, 130, 131, 132, 133, 134, 135, 136, 143, 144, 145, 146, 147, 148, 149, 150, 137, 138, 139, 140, 141, 142] (by decide +kernel) (by decide +kernel)
set_option maxRecDepth 20000 in
theorem gX4_readClause_X4_readPerson : GoodIn wsX4_readClause (wsV RX4 77 RX4 yX4_readPerson wsX4_readPerson) := goodIn_app (goodIn_of _ (by decide +kernel)) ggX4_readClause_X4_readPerson
theorem dX4_readClause_0 : decode cX4_readClause 0 = .ok (.aload_n 0, 1) := by decide +kernel
theorem dX4_readClause_1 : decode cX4_readClause 1 = .ok (.getfield 29, 3) := by decide +kernel
theorem dX4_readClause_4 : decode cX4_readClause 4 = .ok (.istore_n 1, 1) := by decide +kernel
theorem dX4_readClause_5 : decode cX4_readClause 5 = .ok (.aload_n 0, 1) := by decide +kernel
theorem dX4_readClause_6 : decode cX4_readClause 6 = .ok (.invokevirtual 45, 3) := by decide +kernel
theorem dX4_readClause_9 : decode cX4_readClause 9 = .ok (.aload_n 0, 1) := by decide +kernel
theorem dX4_readClause_10 : decode cX4_readClause 10 = .ok (.iload_n 1, 1) := by decide +kernel
theorem dX4_readClause_11 : decode cX4_readClause 11 = .ok (.ldc 48, 2) := by decide +kernel
theorem dX4_readClause_13 : decode cX4_readClause 13 = .ok (.invokevirtual 50, 3) := by decide +kernel
theorem dX4_readClause_16 : decode cX4_readClause 16 = .ok (.istore_n 2, 1) := by decide +kernel
theorem dX4_readClause_17 : decode cX4_readClause 17 = .ok (.aload_n 0, 1) := by decide +kernel
theorem dX4_readClause_18 : decode cX4_readClause 18 = .ok (.getfield 12, 3) := by decide +kernel
theorem dX4_readClause_21 : decode cX4_readClause 21 = .ok (.getfield 54, 3) := by decide +kernel
theorem dX4_readClause_24 : decode cX4_readClause 24 = .ok (.getfield 58, 3) := by decide +kernel
theorem dX4_readClause_27 : decode cX4_readClause 27 = .ok (.ifCond .ne 23, 3) := by decide +kernel
theorem dX4_readClause_30 : decode cX4_readClause 30 = .ok (.iload_n 2, 1) := by decide +kernel
theorem dX4_readClause_31 : decode cX4_readClause 31 = .ok (.ifCond .eq 10, 3) := by decide +kernel
theorem dX4_readClause_34 : decode cX4_readClause 34 = .ok (.aload_n 0, 1) := by decide +kernel
theorem dX4_readClause_35 : decode cX4_readClause 35 = .ok (.invokevirtual 62, 3) := by decide +kernel
theorem dX4_readClause_38 : decode cX4_readClause 38 = .ok (.goto 67, 3) := by decide +kernel
theorem dX4_readClause_41 : decode cX4_readClause 41 = .ok (.aload_n 0, 1) := by decide +kernel
theorem dX4_readClause_42 : decode cX4_readClause 42 = .ok (.iconst 1, 1) := by decide +kernel
theorem dX4_readClause_43 : decode cX4_readClause 43 = .ok (.iload_n 1, 1) := by decide +kernel
theorem dX4_readClause_44 : decode cX4_readClause 44 = .ok (.invokevirtual 65, 3) := by decide +kernel
theorem dX4_readClause_47 : decode cX4_readClause 47 = .ok (.goto 58, 3) := by decide +kernel
theorem dX4_readClause_50 : decode cX4_readClause 50 = .ok (.iload_n 2, 1) := by decide +kernel
theorem dX4_readClause_51 : decode cX4_readClause 51 = .ok (.ifCond .eq 12, 3) := by decide +kernel
theorem dX4_readClause_54 : decode cX4_readClause 54 = .ok (.aload_n 0, 1) := by decide +kernel
theorem dX4_readClause_55 : decode cX4_readClause 55 = .ok (.iconst 3, 1) := by decide +kernel
theorem dX4_readClause_56 : decode cX4_readClause 56 = .ok (.iload_n 1, 1) := by decide +kernel
theorem dX4_readClause_57 : decode cX4_readClause 57 = .ok (.invokevirtual 65, 3) := by decide +kernel
theorem dX4_readClause_60 : decode cX4_readClause 60 = .ok (.goto 45, 3) := by decide +kernel
theorem dX4_readClause_63 : decode cX4_readClause 63 = .ok (.aload_n 0, 1) := by decide +kernel
theorem dX4_readClause_64 : decode cX4_readClause 64 = .ok (.iload_n 1, 1) := by decide +kernel
theorem dX4_readClause_65 : decode cX4_readClause 65 = .ok (.ldc 69, 2) := by decide +kernel
theorem dX4_readClause_67 : decode cX4_readClause 67 = .ok (.invokevirtual 50, 3) := by decide +kernel
theorem dX4_readClause_70 : decode cX4_readClause 70 = .ok (.ifCond .eq 11, 3) := by decide +kernel
theorem dX4_readClause_73 : decode cX4_readClause 73 = .ok (.aload_n 0, 1) := by decide +kernel
theorem dX4_readClause_74 : decode cX4_readClause 74 = .ok (.iload_n 1, 1) := by decide +kernel
theorem dX4_readClause_75 : decode cX4_readClause 75 = .ok (.invokevirtual 71, 3) := by decide +kernel
theorem dX4_readClause_78 : decode cX4_readClause 78 = .ok (.goto 27, 3) := by decide +kernel
theorem dX4_readClause_81 : decode cX4_readClause 81 = .ok (.aload_n 0, 1) := by decide +kernel
theorem dX4_readClause_82 : decode cX4_readClause 82 = .ok (.iload_n 1, 1) := by decide +kernel
theorem dX4_readClause_83 : decode cX4_readClause 83 = .ok (.ldc 75, 2) := by decide +kernel
theorem dX4_readClause_85 : decode cX4_readClause 85 = .ok (.invokevirtual 50, 3) := by decide +kernel
theorem dX4_readClause_88 : decode cX4_readClause 88 = .ok (.ifCond .eq 11, 3) := by decide +kernel
theorem dX4_readClause_91 : decode cX4_readClause 91 = .ok (.aload_n 0, 1) := by decide +kernel
theorem dX4_readClause_92 : decode cX4_readClause 92 = .ok (.iload_n 1, 1) := by decide +kernel
theorem dX4_readClause_93 : decode cX4_readClause 93 = .ok (.invokevirtual 77, 3) := by decide +kernel
theorem dX4_readClause_96 : decode cX4_readClause 96 = .ok (.goto 9, 3) := by decide +kernel
theorem dX4_readClause_99 : decode cX4_readClause 99 = .ok (.aload_n 0, 1) := by decide +kernel
theorem dX4_readClause_100 : decode cX4_readClause 100 = .ok (.iconst 1, 1) := by decide +kernel
theorem dX4_readClause_101 : decode cX4_readClause 101 = .ok (.iload_n 1, 1) := by decide +kernel
theorem dX4_readClause_102 : decode cX4_readClause 102 = .ok (.invokevirtual 65, 3) := by decide +kernel
theorem dX4_readClause_105 : decode cX4_readClause 105 = .ok (.return_, 1) := by decide +kernel
set_option maxRecDepth 20000 in
theorem ggX4_readPlaces_X4_readNumber : GoodIn wsX4_readPlaces wsX4_readNumber := goodIn_r _ [8, 9, 10, 11, 12, 13, 14, 7, 15, 16, 17, 18, 19, 20, 21, 22, 23, 24, 29, 30, 31, 32, 33, 34] (by decide +kernel) (by decide +kernel)
set_option maxRecDepth 20000 in
theorem gX4_readPlaces_X4_readNumber : GoodIn wsX4_readPlaces (wsV RX4 80 RX4 yX4_readNumber wsX4_readNumber) := goodIn_app (goodIn_of _ (by decide +kernel)) ggX4_readPlaces_X4_readNumber
set_option maxRecDepth 20000 in
theorem ggX4_readPlaces_X4_readSign : GoodIn wsX4_readPlaces wsX4_readSign := goodIn_r _ [28, 9, 12, 13, 14, 7, 15, 10, 11, 19, 20, 21, 22, 23, 24, 29, 30, 31, 32, 33, 34] (by decide +kernel) (by decide +kernel)
set_option maxRecDepth 20000 in
theorem gX4_readPlaces_X4_readSign : GoodIn wsX4_readPlaces (wsV RX4 84 RX4 yX4_readSign wsX4_readSign) := goodIn_app (goodIn_of _ (by decide +kernel)) ggX4_readPlaces_X4_readSign
theorem dX4_readPlaces_0 : decode cX4_readPlaces 0 = .ok (.aload_n 0, 1) := by decide +kernel
theorem dX4_readPlaces_1 : decode cX4_readPlaces 1 = .ok (.iconst 1, 1) := by decide +kernel
theorem dX4_readPlaces_2 : decode cX4_readPlaces 2 = .ok (.bipush 8, 2) := by decide +kernel
theorem dX4_readPlaces_4 : decode cX4_readPlaces 4 = .ok (.invokevirtual 80, 3) := by decide +kernel
theorem dX4_readPlaces_7 : decode cX4_readPlaces 7 = .ok (.istore_n 1, 1) := by decide +kernel
theorem dX4_readPlaces_8 : decode cX4_readPlaces 8 = .ok (.iload_n 1, 1) := by decide +kernel
theorem dX4_readPlaces_9 : decode cX4_readPlaces 9 = .ok (.iconst (-1), 1) := by decide +kernel
theorem dX4_readPlaces_10 : decode cX4_readPlaces 10 = .ok (.if_icmp .eq 23, 3) := by decide +kernel
theorem dX4_readPlaces_13 : decode cX4_readPlaces 13 = .ok (.aload_n 0, 1) := by decide +kernel
theorem dX4_readPlaces_14 : decode cX4_readPlaces 14 = .ok (.bipush 59, 2) := by decide +kernel
theorem dX4_readPlaces_16 : decode cX4_readPlaces 16 = .ok (.invokevirtual 84, 3) := by decide +kernel
theorem dX4_readPlaces_19 : decode cX4_readPlaces 19 = .ok (.ifCond .eq 14, 3) := by decide +kernel
theorem dX4_readPlaces_22 : decode cX4_readPlaces 22 = .ok (.aload_n 0, 1) := by decide +kernel
theorem dX4_readPlaces_23 : decode cX4_readPlaces 23 = .ok (.getfield 12, 3) := by decide +kernel
theorem dX4_readPlaces_26 : decode cX4_readPlaces 26 = .ok (.getfield 54, 3) := by decide +kernel
theorem dX4_readPlaces_29 : decode cX4_readPlaces 29 = .ok (.iload_n 1, 1) := by decide +kernel
theorem dX4_readPlaces_30 : decode cX4_readPlaces 30 = .ok (.putfield 58, 3) := by decide +kernel
theorem dX4_readPlaces_33 : decode cX4_readPlaces 33 = .ok (.return_, 1) := by decide +kernel
set_option maxRecDepth 20000 in
theorem ggX4_readStair_X4_fail : GoodIn wsX4_readStair wsX4_fail := goodIn_r _ [12, 13, 14, 105, 106, 107, 108, 109, 110] (by decide +kernel) (by decide +kernel)
set_option maxRecDepth 20000 in
theorem gX4_readStair_X4_fail : GoodIn wsX4_readStair (wsV RX4 65 RX4 yX4_fail wsX4_fail) := goodIn_app (goodIn_of _ (by decide +kernel)) ggX4_readStair_X4_fail
set_option maxRecDepth 20000 in
theorem ggX4_readStair_X4_readKind : GoodIn wsX4_readStair wsX4_readKind := goodIn_r _ [18, 19, 20, 21, 22, 11, 23, 24, 25, 26, 27, 28, 29, 30, 31, 32, 33, 34, 35, 36, 37, 38, 39, 40, 41, 42, 43, 44, 45, 46, 47, 48, 49, 50, 51, 52, 53, 54, 55, 56, 57, 58, 59, 60, 61, 62, 63, 64, 65, 66, 67, 68, 69, 70, 71, 72, 73, 74, 75, 76, 77, 78, 79, 80, 81, 82, 8, 9, 10, 12, 13, 14, 105, 106, 107, 108, 109, 110] (by decide +kernel) (by decide +kernel)
set_option maxRecDepth 20000 in
theorem gX4_readStair_X4_readKind : GoodIn wsX4_readStair (wsV RX4 91 RX4 yX4_readKind wsX4_readKind) := goodIn_app (goodIn_of _ (by decide +kernel)) ggX4_readStair_X4_readKind
set_option maxRecDepth 20000 in
theorem ggX4_readStair_X4_readPlace : GoodIn wsX4_readStair wsX4_readPlace := goodIn_r _ [86, 19, 1, 2, 87, 20, 21, 22, 11, 23, 24, 25, 88, 89, 90, 91, 92, 93, 94, 8, 9, 10, 12, 13, 14, 105, 106, 107, 108, 109, 110, 111, 112, 113, 114, 115, 116, 117, 118, 119, 120] (by decide +kernel) (by decide +kernel)
set_option maxRecDepth 20000 in
theorem gX4_readStair_X4_readPlace : GoodIn wsX4_readStair (wsV RX4 94 RX4 yX4_readPlace wsX4_readPlace) := goodIn_app (goodIn_of _ (by decide +kernel)) ggX4_readStair_X4_readPlace
set_option maxRecDepth 20000 in
theorem ggX4_readStair_X4_readParts : GoodIn wsX4_readStair wsX4_readParts := goodIn_r _ [98, 1, 99, 100, 19, 88, 89, 90, 11, 91, 24, 25, 20, 21, 22, 23, 92, 93, 94, 8, 9, 10, 12, 13, 14, 101, 102, 103, 104, 105, 106, 107, 108, 109, 110, 111, 112, 113, 114, 121, 122, 123, 124, 125, 126, 127, 128] (by decide +kernel) (by decide +kernel)
set_option maxRecDepth 20000 in
theorem gX4_readStair_X4_readParts : GoodIn wsX4_readStair (wsV RX4 98 RX4 yX4_readParts wsX4_readParts) := goodIn_app (goodIn_of _ (by decide +kernel)) ggX4_readStair_X4_readParts
theorem dX4_readStair_0 : decode cX4_readStair 0 = .ok (.aload_n 0, 1) := by decide +kernel
theorem dX4_readStair_1 : decode cX4_readStair 1 = .ok (.getfield 12, 3) := by decide +kernel
theorem dX4_readStair_4 : decode cX4_readStair 4 = .ok (.getfield 54, 3) := by decide +kernel
theorem dX4_readStair_7 : decode cX4_readStair 7 = .ok (.getfield 88, 3) := by decide +kernel
theorem dX4_readStair_10 : decode cX4_readStair 10 = .ok (.istore_n 2, 1) := by decide +kernel
theorem dX4_readStair_11 : decode cX4_readStair 11 = .ok (.iload_n 2, 1) := by decide +kernel
theorem dX4_readStair_12 : decode cX4_readStair 12 = .ok (.bipush 10, 2) := by decide +kernel
theorem dX4_readStair_14 : decode cX4_readStair 14 = .ok (.if_icmp .lt 10, 3) := by decide +kernel
theorem dX4_readStair_17 : decode cX4_readStair 17 = .ok (.aload_n 0, 1) := by decide +kernel
theorem dX4_readStair_18 : decode cX4_readStair 18 = .ok (.iconst 3, 1) := by decide +kernel
theorem dX4_readStair_19 : decode cX4_readStair 19 = .ok (.iload_n 1, 1) := by decide +kernel
theorem dX4_readStair_20 : decode cX4_readStair 20 = .ok (.invokevirtual 65, 3) := by decide +kernel
theorem dX4_readStair_23 : decode cX4_readStair 23 = .ok (.return_, 1) := by decide +kernel
theorem dX4_readStair_24 : decode cX4_readStair 24 = .ok (.aload_n 0, 1) := by decide +kernel
theorem dX4_readStair_25 : decode cX4_readStair 25 = .ok (.invokevirtual 91, 3) := by decide +kernel
theorem dX4_readStair_28 : decode cX4_readStair 28 = .ok (.istore_n 3, 1) := by decide +kernel
theorem dX4_readStair_29 : decode cX4_readStair 29 = .ok (.iload_n 3, 1) := by decide +kernel
theorem dX4_readStair_30 : decode cX4_readStair 30 = .ok (.iconst (-1), 1) := by decide +kernel
theorem dX4_readStair_31 : decode cX4_readStair 31 = .ok (.if_icmp .ne 7, 3) := by decide +kernel
theorem dX4_readStair_34 : decode cX4_readStair 34 = .ok (.iconst (-1), 1) := by decide +kernel
theorem dX4_readStair_35 : decode cX4_readStair 35 = .ok (.goto 8, 3) := by decide +kernel
theorem dX4_readStair_38 : decode cX4_readStair 38 = .ok (.aload_n 0, 1) := by decide +kernel
theorem dX4_readStair_39 : decode cX4_readStair 39 = .ok (.iconst (-1), 1) := by decide +kernel
theorem dX4_readStair_40 : decode cX4_readStair 40 = .ok (.invokevirtual 94, 3) := by decide +kernel
theorem dX4_readStair_43 : decode cX4_readStair 43 = .ok (.istore 4, 2) := by decide +kernel
theorem dX4_readStair_45 : decode cX4_readStair 45 = .ok (.iload 4, 2) := by decide +kernel
theorem dX4_readStair_47 : decode cX4_readStair 47 = .ok (.iconst (-1), 1) := by decide +kernel
theorem dX4_readStair_48 : decode cX4_readStair 48 = .ok (.if_icmp .ne 7, 3) := by decide +kernel
theorem dX4_readStair_51 : decode cX4_readStair 51 = .ok (.iconst (-1), 1) := by decide +kernel
theorem dX4_readStair_52 : decode cX4_readStair 52 = .ok (.goto 9, 3) := by decide +kernel
theorem dX4_readStair_55 : decode cX4_readStair 55 = .ok (.aload_n 0, 1) := by decide +kernel
theorem dX4_readStair_56 : decode cX4_readStair 56 = .ok (.iload 4, 2) := by decide +kernel
theorem dX4_readStair_58 : decode cX4_readStair 58 = .ok (.invokevirtual 94, 3) := by decide +kernel
theorem dX4_readStair_61 : decode cX4_readStair 61 = .ok (.istore 5, 2) := by decide +kernel
theorem dX4_readStair_63 : decode cX4_readStair 63 = .ok (.iload 5, 2) := by decide +kernel
theorem dX4_readStair_65 : decode cX4_readStair 65 = .ok (.iconst (-1), 1) := by decide +kernel
theorem dX4_readStair_66 : decode cX4_readStair 66 = .ok (.if_icmp .ne 7, 3) := by decide +kernel
theorem dX4_readStair_69 : decode cX4_readStair 69 = .ok (.iconst (-1), 1) := by decide +kernel
theorem dX4_readStair_70 : decode cX4_readStair 70 = .ok (.goto 8, 3) := by decide +kernel
theorem dX4_readStair_73 : decode cX4_readStair 73 = .ok (.aload_n 0, 1) := by decide +kernel
theorem dX4_readStair_74 : decode cX4_readStair 74 = .ok (.iload_n 2, 1) := by decide +kernel
theorem dX4_readStair_75 : decode cX4_readStair 75 = .ok (.invokevirtual 98, 3) := by decide +kernel
theorem dX4_readStair_78 : decode cX4_readStair 78 = .ok (.istore 6, 2) := by decide +kernel
theorem dX4_readStair_80 : decode cX4_readStair 80 = .ok (.iload 6, 2) := by decide +kernel
theorem dX4_readStair_82 : decode cX4_readStair 82 = .ok (.iconst (-1), 1) := by decide +kernel
theorem dX4_readStair_83 : decode cX4_readStair 83 = .ok (.if_icmp .eq 71, 3) := by decide +kernel
theorem dX4_readStair_86 : decode cX4_readStair 86 = .ok (.aload_n 0, 1) := by decide +kernel
theorem dX4_readStair_87 : decode cX4_readStair 87 = .ok (.getfield 12, 3) := by decide +kernel
theorem dX4_readStair_90 : decode cX4_readStair 90 = .ok (.getfield 54, 3) := by decide +kernel
theorem dX4_readStair_93 : decode cX4_readStair 93 = .ok (.getfield 101, 3) := by decide +kernel
theorem dX4_readStair_96 : decode cX4_readStair 96 = .ok (.iload_n 2, 1) := by decide +kernel
theorem dX4_readStair_97 : decode cX4_readStair 97 = .ok (.iload_n 3, 1) := by decide +kernel
theorem dX4_readStair_98 : decode cX4_readStair 98 = .ok (.iastore, 1) := by decide +kernel
theorem dX4_readStair_99 : decode cX4_readStair 99 = .ok (.aload_n 0, 1) := by decide +kernel
theorem dX4_readStair_100 : decode cX4_readStair 100 = .ok (.getfield 12, 3) := by decide +kernel
theorem dX4_readStair_103 : decode cX4_readStair 103 = .ok (.getfield 54, 3) := by decide +kernel
theorem dX4_readStair_106 : decode cX4_readStair 106 = .ok (.getfield 105, 3) := by decide +kernel
theorem dX4_readStair_109 : decode cX4_readStair 109 = .ok (.iload_n 2, 1) := by decide +kernel
theorem dX4_readStair_110 : decode cX4_readStair 110 = .ok (.iload 4, 2) := by decide +kernel
theorem dX4_readStair_112 : decode cX4_readStair 112 = .ok (.iastore, 1) := by decide +kernel
theorem dX4_readStair_113 : decode cX4_readStair 113 = .ok (.aload_n 0, 1) := by decide +kernel
theorem dX4_readStair_114 : decode cX4_readStair 114 = .ok (.getfield 12, 3) := by decide +kernel
theorem dX4_readStair_117 : decode cX4_readStair 117 = .ok (.getfield 54, 3) := by decide +kernel
theorem dX4_readStair_120 : decode cX4_readStair 120 = .ok (.getfield 108, 3) := by decide +kernel
theorem dX4_readStair_123 : decode cX4_readStair 123 = .ok (.iload_n 2, 1) := by decide +kernel
theorem dX4_readStair_124 : decode cX4_readStair 124 = .ok (.iload 5, 2) := by decide +kernel
theorem dX4_readStair_126 : decode cX4_readStair 126 = .ok (.iastore, 1) := by decide +kernel
theorem dX4_readStair_127 : decode cX4_readStair 127 = .ok (.aload_n 0, 1) := by decide +kernel
theorem dX4_readStair_128 : decode cX4_readStair 128 = .ok (.getfield 12, 3) := by decide +kernel
theorem dX4_readStair_131 : decode cX4_readStair 131 = .ok (.getfield 54, 3) := by decide +kernel
theorem dX4_readStair_134 : decode cX4_readStair 134 = .ok (.getfield 111, 3) := by decide +kernel
theorem dX4_readStair_137 : decode cX4_readStair 137 = .ok (.iload_n 2, 1) := by decide +kernel
theorem dX4_readStair_138 : decode cX4_readStair 138 = .ok (.iload 6, 2) := by decide +kernel
theorem dX4_readStair_140 : decode cX4_readStair 140 = .ok (.iastore, 1) := by decide +kernel
theorem dX4_readStair_141 : decode cX4_readStair 141 = .ok (.aload_n 0, 1) := by decide +kernel
theorem dX4_readStair_142 : decode cX4_readStair 142 = .ok (.getfield 12, 3) := by decide +kernel
theorem dX4_readStair_145 : decode cX4_readStair 145 = .ok (.getfield 54, 3) := by decide +kernel
theorem dX4_readStair_148 : decode cX4_readStair 148 = .ok (.iload_n 2, 1) := by decide +kernel
theorem dX4_readStair_149 : decode cX4_readStair 149 = .ok (.iconst 1, 1) := by decide +kernel
theorem dX4_readStair_150 : decode cX4_readStair 150 = .ok (.iadd, 1) := by decide +kernel
theorem dX4_readStair_151 : decode cX4_readStair 151 = .ok (.putfield 88, 3) := by decide +kernel
theorem dX4_readStair_154 : decode cX4_readStair 154 = .ok (.return_, 1) := by decide +kernel
set_option maxRecDepth 20000 in
theorem ggX4_readParts_X4_readNumber : GoodIn wsX4_readParts wsX4_readNumber := goodIn_r _ [9, 4, 10, 11, 12, 13, 14, 8, 15, 16, 17, 18, 19, 20, 21, 22, 23, 24, 29, 30, 31, 32, 33, 34] (by decide +kernel) (by decide +kernel)
set_option maxRecDepth 20000 in
theorem gX4_readParts_X4_readNumber : GoodIn wsX4_readParts (wsV RX4 80 RX4 yX4_readNumber wsX4_readNumber) := goodIn_app (goodIn_of _ (by decide +kernel)) ggX4_readParts_X4_readNumber
set_option maxRecDepth 20000 in
theorem ggX4_readParts_X4_look : GoodIn wsX4_readParts wsX4_look := goodIn_r _ [15, 4, 10, 11, 29, 30, 31, 32, 33, 34] (by decide +kernel) (by decide +kernel)
set_option maxRecDepth 20000 in
theorem gX4_readParts_X4_look : GoodIn wsX4_readParts (wsV RX4 38 RX4 yX4_look wsX4_look) := goodIn_app (goodIn_of _ (by decide +kernel)) ggX4_readParts_X4_look
set_option maxRecDepth 20000 in
theorem ggX4_readParts_X4_readSign : GoodIn wsX4_readParts wsX4_readSign := goodIn_r _ [28, 4, 12, 13, 14, 8, 15, 10, 11, 19, 20, 21, 22, 23, 24, 29, 30, 31, 32, 33, 34] (by decide +kernel) (by decide +kernel)
set_option maxRecDepth 20000 in
theorem gX4_readParts_X4_readSign : GoodIn wsX4_readParts (wsV RX4 84 RX4 yX4_readSign wsX4_readSign) := goodIn_app (goodIn_of _ (by decide +kernel)) ggX4_readParts_X4_readSign
theorem dX4_readParts_0 : decode cX4_readParts 0 = .ok (.iconst 0, 1) := by decide +kernel
theorem dX4_readParts_1 : decode cX4_readParts 1 = .ok (.istore_n 2, 1) := by decide +kernel
theorem dX4_readParts_2 : decode cX4_readParts 2 = .ok (.iload_n 2, 1) := by decide +kernel
theorem dX4_readParts_3 : decode cX4_readParts 3 = .ok (.iconst 3, 1) := by decide +kernel
theorem dX4_readParts_4 : decode cX4_readParts 4 = .ok (.if_icmp .ge 83, 3) := by decide +kernel
theorem dX4_readParts_7 : decode cX4_readParts 7 = .ok (.aload_n 0, 1) := by decide +kernel
theorem dX4_readParts_8 : decode cX4_readParts 8 = .ok (.iconst 1, 1) := by decide +kernel
theorem dX4_readParts_9 : decode cX4_readParts 9 = .ok (.sipush 720, 3) := by decide +kernel
theorem dX4_readParts_12 : decode cX4_readParts 12 = .ok (.invokevirtual 80, 3) := by decide +kernel
theorem dX4_readParts_15 : decode cX4_readParts 15 = .ok (.istore_n 3, 1) := by decide +kernel
theorem dX4_readParts_16 : decode cX4_readParts 16 = .ok (.iload_n 3, 1) := by decide +kernel
theorem dX4_readParts_17 : decode cX4_readParts 17 = .ok (.iconst (-1), 1) := by decide +kernel
theorem dX4_readParts_18 : decode cX4_readParts 18 = .ok (.if_icmp .ne 5, 3) := by decide +kernel
theorem dX4_readParts_21 : decode cX4_readParts 21 = .ok (.iconst (-1), 1) := by decide +kernel
theorem dX4_readParts_22 : decode cX4_readParts 22 = .ok (.ireturn, 1) := by decide +kernel
theorem dX4_readParts_23 : decode cX4_readParts 23 = .ok (.aload_n 0, 1) := by decide +kernel
theorem dX4_readParts_24 : decode cX4_readParts 24 = .ok (.getfield 12, 3) := by decide +kernel
theorem dX4_readParts_27 : decode cX4_readParts 27 = .ok (.getfield 114, 3) := by decide +kernel
theorem dX4_readParts_30 : decode cX4_readParts 30 = .ok (.getfield 118, 3) := by decide +kernel
theorem dX4_readParts_33 : decode cX4_readParts 33 = .ok (.iconst 3, 1) := by decide +kernel
theorem dX4_readParts_34 : decode cX4_readParts 34 = .ok (.iload_n 1, 1) := by decide +kernel
theorem dX4_readParts_35 : decode cX4_readParts 35 = .ok (.imul, 1) := by decide +kernel
theorem dX4_readParts_36 : decode cX4_readParts 36 = .ok (.iload_n 2, 1) := by decide +kernel
theorem dX4_readParts_37 : decode cX4_readParts 37 = .ok (.iadd, 1) := by decide +kernel
theorem dX4_readParts_38 : decode cX4_readParts 38 = .ok (.iload_n 3, 1) := by decide +kernel
theorem dX4_readParts_39 : decode cX4_readParts 39 = .ok (.iastore, 1) := by decide +kernel
theorem dX4_readParts_40 : decode cX4_readParts 40 = .ok (.iload_n 2, 1) := by decide +kernel
theorem dX4_readParts_41 : decode cX4_readParts 41 = .ok (.iconst 2, 1) := by decide +kernel
theorem dX4_readParts_42 : decode cX4_readParts 42 = .ok (.if_icmp .eq 12, 3) := by decide +kernel
theorem dX4_readParts_45 : decode cX4_readParts 45 = .ok (.aload_n 0, 1) := by decide +kernel
theorem dX4_readParts_46 : decode cX4_readParts 46 = .ok (.invokevirtual 38, 3) := by decide +kernel
theorem dX4_readParts_49 : decode cX4_readParts 49 = .ok (.bipush 44, 2) := by decide +kernel
theorem dX4_readParts_51 : decode cX4_readParts 51 = .ok (.if_icmp .eq 20, 3) := by decide +kernel
theorem dX4_readParts_54 : decode cX4_readParts 54 = .ok (.aload_n 0, 1) := by decide +kernel
theorem dX4_readParts_55 : decode cX4_readParts 55 = .ok (.bipush 59, 2) := by decide +kernel
theorem dX4_readParts_57 : decode cX4_readParts 57 = .ok (.invokevirtual 84, 3) := by decide +kernel
theorem dX4_readParts_60 : decode cX4_readParts 60 = .ok (.ifCond .eq 9, 3) := by decide +kernel
theorem dX4_readParts_63 : decode cX4_readParts 63 = .ok (.iload_n 2, 1) := by decide +kernel
theorem dX4_readParts_64 : decode cX4_readParts 64 = .ok (.iconst 1, 1) := by decide +kernel
theorem dX4_readParts_65 : decode cX4_readParts 65 = .ok (.iadd, 1) := by decide +kernel
theorem dX4_readParts_66 : decode cX4_readParts 66 = .ok (.goto 4, 3) := by decide +kernel
theorem dX4_readParts_69 : decode cX4_readParts 69 = .ok (.iconst (-1), 1) := by decide +kernel
theorem dX4_readParts_70 : decode cX4_readParts 70 = .ok (.ireturn, 1) := by decide +kernel
theorem dX4_readParts_71 : decode cX4_readParts 71 = .ok (.aload_n 0, 1) := by decide +kernel
theorem dX4_readParts_72 : decode cX4_readParts 72 = .ok (.dup, 1) := by decide +kernel
theorem dX4_readParts_73 : decode cX4_readParts 73 = .ok (.getfield 29, 3) := by decide +kernel
theorem dX4_readParts_76 : decode cX4_readParts 76 = .ok (.iconst 1, 1) := by decide +kernel
theorem dX4_readParts_77 : decode cX4_readParts 77 = .ok (.iadd, 1) := by decide +kernel
theorem dX4_readParts_78 : decode cX4_readParts 78 = .ok (.putfield 29, 3) := by decide +kernel
theorem dX4_readParts_81 : decode cX4_readParts 81 = .ok (.iinc 2 1, 3) := by decide +kernel
theorem dX4_readParts_84 : decode cX4_readParts 84 = .ok (.goto (-82), 3) := by decide +kernel
theorem dX4_readParts_87 : decode cX4_readParts 87 = .ok (.iconst (-1), 1) := by decide +kernel
theorem dX4_readParts_88 : decode cX4_readParts 88 = .ok (.ireturn, 1) := by decide +kernel
set_option maxRecDepth 20000 in
theorem ggX4_readPerson_X4_fail : GoodIn wsX4_readPerson wsX4_fail := goodIn_r _ [8, 9, 10, 44, 45, 46, 47, 48, 49] (by decide +kernel) (by decide +kernel)
set_option maxRecDepth 20000 in
theorem gX4_readPerson_X4_fail : GoodIn wsX4_readPerson (wsV RX4 65 RX4 yX4_fail wsX4_fail) := goodIn_app (goodIn_of _ (by decide +kernel)) ggX4_readPerson_X4_fail
set_option maxRecDepth 20000 in
theorem ggX4_readPerson_X4_readPlace : GoodIn wsX4_readPerson wsX4_readPlace := goodIn_r _ [14, 15, 1, 16, 17, 18, 19, 20, 7, 21, 22, 23, 24, 25, 26, 27, 28, 29, 30, 4, 5, 6, 8, 9, 10, 44, 45, 46, 47, 48, 49, 50, 51, 52, 53, 62, 63, 64, 65, 66, 67] (by decide +kernel) (by decide +kernel)
set_option maxRecDepth 20000 in
theorem gX4_readPerson_X4_readPlace : GoodIn wsX4_readPerson (wsV RX4 94 RX4 yX4_readPlace wsX4_readPlace) := goodIn_app (goodIn_of _ (by decide +kernel)) ggX4_readPerson_X4_readPlace
set_option maxRecDepth 20000 in
theorem ggX4_readPerson_X4_readNumber : GoodIn wsX4_readPerson wsX4_readNumber := goodIn_r _ [27, 15, 22, 23, 18, 19, 20, 7, 21, 28, 29, 30, 4, 5, 6, 8, 9, 10, 44, 45, 46, 47, 48, 49] (by decide +kernel) (by decide +kernel)
set_option maxRecDepth 20000 in
theorem gX4_readPerson_X4_readNumber : GoodIn wsX4_readPerson (wsV RX4 80 RX4 yX4_readNumber wsX4_readNumber) := goodIn_app (goodIn_of _ (by decide +kernel)) ggX4_readPerson_X4_readNumber
set_option maxRecDepth 20000 in
theorem ggX4_readPerson_X4_look : GoodIn wsX4_readPerson wsX4_look := goodIn_r _ [21, 15, 22, 23, 44, 45, 46, 47, 48, 49] (by decide +kernel) (by decide +kernel)
set_option maxRecDepth 20000 in
theorem gX4_readPerson_X4_look : GoodIn wsX4_readPerson (wsV RX4 38 RX4 yX4_look wsX4_look) := goodIn_app (goodIn_of _ (by decide +kernel)) ggX4_readPerson_X4_look
set_option maxRecDepth 20000 in
theorem ggX4_readPerson_X4_isFigure : GoodIn wsX4_readPerson wsX4_isFigure := goodIn_r _ [30] (by decide +kernel) (by decide +kernel)
set_option maxRecDepth 20000 in
theorem gX4_readPerson_X4_isFigure : GoodIn wsX4_readPerson (va_wsS RX4 126 yX4_isFigure wsX4_isFigure) := goodIn_app (goodIn_of _ (by decide +kernel)) ggX4_readPerson_X4_isFigure
set_option maxRecDepth 20000 in
theorem ggX4_readPerson_X4_readSign : GoodIn wsX4_readPerson wsX4_readSign := goodIn_r _ [34, 15, 18, 19, 20, 7, 21, 22, 23, 4, 5, 6, 8, 9, 10, 44, 45, 46, 47, 48, 49] (by decide +kernel) (by decide +kernel)
set_option maxRecDepth 20000 in
theorem gX4_readPerson_X4_readSign : GoodIn wsX4_readPerson (wsV RX4 84 RX4 yX4_readSign wsX4_readSign) := goodIn_app (goodIn_of _ (by decide +kernel)) ggX4_readPerson_X4_readSign
set_option maxRecDepth 20000 in
theorem ggX4_readPerson_X3_addPerson : GoodIn wsX4_readPerson wsX3_addPerson := goodIn_r _ [39, 40, 41, 42, 43, 54, 55, 56, 57, 58, 59, 60, 61] (by decide +kernel) (by decide +kernel)
set_option maxRecDepth 20000 in
theorem gX4_readPerson_X3_addPerson : GoodIn wsX4_readPerson (wsV RX4 130 RX3 yX3_addPerson wsX3_addPerson) := goodIn_app (goodIn_of _ (by decide +kernel)) ggX4_readPerson_X3_addPerson
theorem dX4_readPerson_0 : decode cX4_readPerson 0 = .ok (.aload_n 0, 1) := by decide +kernel
theorem dX4_readPerson_1 : decode cX4_readPerson 1 = .ok (.getfield 12, 3) := by decide +kernel
theorem dX4_readPerson_4 : decode cX4_readPerson 4 = .ok (.getfield 114, 3) := by decide +kernel
theorem dX4_readPerson_7 : decode cX4_readPerson 7 = .ok (.getfield 123, 3) := by decide +kernel
theorem dX4_readPerson_10 : decode cX4_readPerson 10 = .ok (.bipush 8, 2) := by decide +kernel
theorem dX4_readPerson_12 : decode cX4_readPerson 12 = .ok (.if_icmp .lt 10, 3) := by decide +kernel
theorem dX4_readPerson_15 : decode cX4_readPerson 15 = .ok (.aload_n 0, 1) := by decide +kernel
theorem dX4_readPerson_16 : decode cX4_readPerson 16 = .ok (.iconst 3, 1) := by decide +kernel
theorem dX4_readPerson_17 : decode cX4_readPerson 17 = .ok (.iload_n 1, 1) := by decide +kernel
theorem dX4_readPerson_18 : decode cX4_readPerson 18 = .ok (.invokevirtual 65, 3) := by decide +kernel
theorem dX4_readPerson_21 : decode cX4_readPerson 21 = .ok (.return_, 1) := by decide +kernel
theorem dX4_readPerson_22 : decode cX4_readPerson 22 = .ok (.aload_n 0, 1) := by decide +kernel
theorem dX4_readPerson_23 : decode cX4_readPerson 23 = .ok (.iconst (-1), 1) := by decide +kernel
theorem dX4_readPerson_24 : decode cX4_readPerson 24 = .ok (.invokevirtual 94, 3) := by decide +kernel
theorem dX4_readPerson_27 : decode cX4_readPerson 27 = .ok (.istore_n 2, 1) := by decide +kernel
theorem dX4_readPerson_28 : decode cX4_readPerson 28 = .ok (.iload_n 2, 1) := by decide +kernel
theorem dX4_readPerson_29 : decode cX4_readPerson 29 = .ok (.iconst (-1), 1) := by decide +kernel
theorem dX4_readPerson_30 : decode cX4_readPerson 30 = .ok (.if_icmp .ne 7, 3) := by decide +kernel
theorem dX4_readPerson_33 : decode cX4_readPerson 33 = .ok (.iconst (-1), 1) := by decide +kernel
theorem dX4_readPerson_34 : decode cX4_readPerson 34 = .ok (.goto 10, 3) := by decide +kernel
theorem dX4_readPerson_37 : decode cX4_readPerson 37 = .ok (.aload_n 0, 1) := by decide +kernel
theorem dX4_readPerson_38 : decode cX4_readPerson 38 = .ok (.iconst 1, 1) := by decide +kernel
theorem dX4_readPerson_39 : decode cX4_readPerson 39 = .ok (.bipush 24, 2) := by decide +kernel
theorem dX4_readPerson_41 : decode cX4_readPerson 41 = .ok (.invokevirtual 80, 3) := by decide +kernel
theorem dX4_readPerson_44 : decode cX4_readPerson 44 = .ok (.istore_n 3, 1) := by decide +kernel
theorem dX4_readPerson_45 : decode cX4_readPerson 45 = .ok (.iload_n 3, 1) := by decide +kernel
theorem dX4_readPerson_46 : decode cX4_readPerson 46 = .ok (.iconst (-1), 1) := by decide +kernel
theorem dX4_readPerson_47 : decode cX4_readPerson 47 = .ok (.if_icmp .ne 4, 3) := by decide +kernel
theorem dX4_readPerson_50 : decode cX4_readPerson 50 = .ok (.return_, 1) := by decide +kernel
theorem dX4_readPerson_51 : decode cX4_readPerson 51 = .ok (.aload_n 0, 1) := by decide +kernel
theorem dX4_readPerson_52 : decode cX4_readPerson 52 = .ok (.invokevirtual 38, 3) := by decide +kernel
theorem dX4_readPerson_55 : decode cX4_readPerson 55 = .ok (.invokestatic 126, 3) := by decide +kernel
theorem dX4_readPerson_58 : decode cX4_readPerson 58 = .ok (.ifCond .eq 13, 3) := by decide +kernel
theorem dX4_readPerson_61 : decode cX4_readPerson 61 = .ok (.aload_n 0, 1) := by decide +kernel
theorem dX4_readPerson_62 : decode cX4_readPerson 62 = .ok (.iconst 1, 1) := by decide +kernel
theorem dX4_readPerson_63 : decode cX4_readPerson 63 = .ok (.bipush 24, 2) := by decide +kernel
theorem dX4_readPerson_65 : decode cX4_readPerson 65 = .ok (.invokevirtual 80, 3) := by decide +kernel
theorem dX4_readPerson_68 : decode cX4_readPerson 68 = .ok (.goto 4, 3) := by decide +kernel
theorem dX4_readPerson_71 : decode cX4_readPerson 71 = .ok (.iconst 0, 1) := by decide +kernel
theorem dX4_readPerson_72 : decode cX4_readPerson 72 = .ok (.istore 4, 2) := by decide +kernel
theorem dX4_readPerson_74 : decode cX4_readPerson 74 = .ok (.iload 4, 2) := by decide +kernel
theorem dX4_readPerson_76 : decode cX4_readPerson 76 = .ok (.iconst (-1), 1) := by decide +kernel
theorem dX4_readPerson_77 : decode cX4_readPerson 77 = .ok (.if_icmp .eq 26, 3) := by decide +kernel
theorem dX4_readPerson_80 : decode cX4_readPerson 80 = .ok (.aload_n 0, 1) := by decide +kernel
theorem dX4_readPerson_81 : decode cX4_readPerson 81 = .ok (.bipush 59, 2) := by decide +kernel
theorem dX4_readPerson_83 : decode cX4_readPerson 83 = .ok (.invokevirtual 84, 3) := by decide +kernel
theorem dX4_readPerson_86 : decode cX4_readPerson 86 = .ok (.ifCond .eq 17, 3) := by decide +kernel
theorem dX4_readPerson_89 : decode cX4_readPerson 89 = .ok (.aload_n 0, 1) := by decide +kernel
theorem dX4_readPerson_90 : decode cX4_readPerson 90 = .ok (.getfield 12, 3) := by decide +kernel
theorem dX4_readPerson_93 : decode cX4_readPerson 93 = .ok (.getfield 114, 3) := by decide +kernel
theorem dX4_readPerson_96 : decode cX4_readPerson 96 = .ok (.iload_n 2, 1) := by decide +kernel
theorem dX4_readPerson_97 : decode cX4_readPerson 97 = .ok (.iload_n 3, 1) := by decide +kernel
theorem dX4_readPerson_98 : decode cX4_readPerson 98 = .ok (.iload 4, 2) := by decide +kernel
theorem dX4_readPerson_100 : decode cX4_readPerson 100 = .ok (.invokevirtual 130, 3) := by decide +kernel
theorem dX4_readPerson_103 : decode cX4_readPerson 103 = .ok (.return_, 1) := by decide +kernel
set_option maxRecDepth 20000 in
theorem ggX4_readKind_X4_look : GoodIn wsX4_readKind wsX4_look := goodIn_r _ [6, 1, 7, 8, 72, 73, 74, 75, 76, 77] (by decide +kernel) (by decide +kernel)
set_option maxRecDepth 20000 in
theorem gX4_readKind_X4_look : GoodIn wsX4_readKind (wsV RX4 38 RX4 yX4_look wsX4_look) := goodIn_app (goodIn_of _ (by decide +kernel)) ggX4_readKind_X4_look
set_option maxRecDepth 20000 in
theorem ggX4_readKind_X4_skipWord : GoodIn wsX4_readKind wsX4_skipWord := goodIn_r _ [12, 1, 7, 8, 72, 73, 74, 75, 76, 77] (by decide +kernel) (by decide +kernel)
set_option maxRecDepth 20000 in
theorem gX4_readKind_X4_skipWord : GoodIn wsX4_readKind (wsV RX4 45 RX4 yX4_skipWord wsX4_skipWord) := goodIn_app (goodIn_of _ (by decide +kernel)) ggX4_readKind_X4_skipWord
set_option maxRecDepth 20000 in
theorem ggX4_readKind_X4_isWord : GoodIn wsX4_readKind wsX4_isWord := goodIn_r _ [16, 1, 7, 8, 17, 18, 19, 20, 21, 22, 23, 24, 25, 26, 27, 28, 29, 30, 31, 32, 33, 34, 35, 36, 37, 38, 39, 40, 41, 42, 43, 44, 45, 46, 47, 48, 49, 50, 51, 52, 53, 54, 55, 56, 57, 58, 59, 60, 61, 62, 63, 64, 65, 72, 73, 74, 75, 76, 77] (by decide +kernel) (by decide +kernel)
set_option maxRecDepth 20000 in
theorem gX4_readKind_X4_isWord : GoodIn wsX4_readKind (wsV RX4 50 RX4 yX4_isWord wsX4_isWord) := goodIn_app (goodIn_of _ (by decide +kernel)) ggX4_readKind_X4_isWord
set_option maxRecDepth 20000 in
theorem ggX4_readKind_X4_fail : GoodIn wsX4_readKind wsX4_fail := goodIn_r _ [69, 70, 71, 72, 73, 74, 75, 76, 77] (by decide +kernel) (by decide +kernel)
set_option maxRecDepth 20000 in
theorem gX4_readKind_X4_fail : GoodIn wsX4_readKind (wsV RX4 65 RX4 yX4_fail wsX4_fail) := goodIn_app (goodIn_of _ (by decide +kernel)) ggX4_readKind_X4_fail
theorem dX4_readKind_0 : decode cX4_readKind 0 = .ok (.aload_n 0, 1) := by decide +kernel
theorem dX4_readKind_1 : decode cX4_readKind 1 = .ok (.invokevirtual 38, 3) := by decide +kernel
theorem dX4_readKind_4 : decode cX4_readKind 4 = .ok (.pop, 1) := by decide +kernel
theorem dX4_readKind_5 : decode cX4_readKind 5 = .ok (.aload_n 0, 1) := by decide +kernel
theorem dX4_readKind_6 : decode cX4_readKind 6 = .ok (.getfield 29, 3) := by decide +kernel
theorem dX4_readKind_9 : decode cX4_readKind 9 = .ok (.istore_n 1, 1) := by decide +kernel
theorem dX4_readKind_10 : decode cX4_readKind 10 = .ok (.aload_n 0, 1) := by decide +kernel
theorem dX4_readKind_11 : decode cX4_readKind 11 = .ok (.invokevirtual 45, 3) := by decide +kernel
theorem dX4_readKind_14 : decode cX4_readKind 14 = .ok (.aload_n 0, 1) := by decide +kernel
theorem dX4_readKind_15 : decode cX4_readKind 15 = .ok (.iload_n 1, 1) := by decide +kernel
theorem dX4_readKind_16 : decode cX4_readKind 16 = .ok (.ldc 134, 2) := by decide +kernel
theorem dX4_readKind_18 : decode cX4_readKind 18 = .ok (.invokevirtual 50, 3) := by decide +kernel
theorem dX4_readKind_21 : decode cX4_readKind 21 = .ok (.ifCond .eq 5, 3) := by decide +kernel
theorem dX4_readKind_24 : decode cX4_readKind 24 = .ok (.iconst 0, 1) := by decide +kernel
theorem dX4_readKind_25 : decode cX4_readKind 25 = .ok (.ireturn, 1) := by decide +kernel
theorem dX4_readKind_26 : decode cX4_readKind 26 = .ok (.aload_n 0, 1) := by decide +kernel
theorem dX4_readKind_27 : decode cX4_readKind 27 = .ok (.iload_n 1, 1) := by decide +kernel
theorem dX4_readKind_28 : decode cX4_readKind 28 = .ok (.ldc 136, 2) := by decide +kernel
theorem dX4_readKind_30 : decode cX4_readKind 30 = .ok (.invokevirtual 50, 3) := by decide +kernel
theorem dX4_readKind_33 : decode cX4_readKind 33 = .ok (.ifCond .eq 5, 3) := by decide +kernel
theorem dX4_readKind_36 : decode cX4_readKind 36 = .ok (.iconst 1, 1) := by decide +kernel
theorem dX4_readKind_37 : decode cX4_readKind 37 = .ok (.ireturn, 1) := by decide +kernel
theorem dX4_readKind_38 : decode cX4_readKind 38 = .ok (.aload_n 0, 1) := by decide +kernel
theorem dX4_readKind_39 : decode cX4_readKind 39 = .ok (.iload_n 1, 1) := by decide +kernel
theorem dX4_readKind_40 : decode cX4_readKind 40 = .ok (.ldc 138, 2) := by decide +kernel
theorem dX4_readKind_42 : decode cX4_readKind 42 = .ok (.invokevirtual 50, 3) := by decide +kernel
theorem dX4_readKind_45 : decode cX4_readKind 45 = .ok (.ifCond .eq 5, 3) := by decide +kernel
theorem dX4_readKind_48 : decode cX4_readKind 48 = .ok (.iconst 2, 1) := by decide +kernel
theorem dX4_readKind_49 : decode cX4_readKind 49 = .ok (.ireturn, 1) := by decide +kernel
theorem dX4_readKind_50 : decode cX4_readKind 50 = .ok (.aload_n 0, 1) := by decide +kernel
theorem dX4_readKind_51 : decode cX4_readKind 51 = .ok (.iconst 1, 1) := by decide +kernel
theorem dX4_readKind_52 : decode cX4_readKind 52 = .ok (.iload_n 1, 1) := by decide +kernel
theorem dX4_readKind_53 : decode cX4_readKind 53 = .ok (.invokevirtual 65, 3) := by decide +kernel
theorem dX4_readKind_56 : decode cX4_readKind 56 = .ok (.iconst (-1), 1) := by decide +kernel
theorem dX4_readKind_57 : decode cX4_readKind 57 = .ok (.ireturn, 1) := by decide +kernel
set_option maxRecDepth 20000 in
theorem ggX4_readPlace_X4_look : GoodIn wsX4_readPlace wsX4_look := goodIn_r _ [9, 1, 10, 11, 25, 26, 27, 28, 29, 30] (by decide +kernel) (by decide +kernel)
set_option maxRecDepth 20000 in
theorem gX4_readPlace_X4_look : GoodIn wsX4_readPlace (wsV RX4 38 RX4 yX4_look wsX4_look) := goodIn_app (goodIn_of _ (by decide +kernel)) ggX4_readPlace_X4_look
set_option maxRecDepth 20000 in
theorem ggX4_readPlace_X4_readNumber : GoodIn wsX4_readPlace wsX4_readNumber := goodIn_r _ [15, 1, 10, 11, 5, 6, 7, 8, 9, 16, 17, 18, 19, 20, 21, 22, 23, 24, 25, 26, 27, 28, 29, 30] (by decide +kernel) (by decide +kernel)
set_option maxRecDepth 20000 in
theorem gX4_readPlace_X4_readNumber : GoodIn wsX4_readPlace (wsV RX4 80 RX4 yX4_readNumber wsX4_readNumber) := goodIn_app (goodIn_of _ (by decide +kernel)) ggX4_readPlace_X4_readNumber
set_option maxRecDepth 20000 in
theorem ggX4_readPlace_X4_fail : GoodIn wsX4_readPlace wsX4_fail := goodIn_r _ [22, 23, 24, 25, 26, 27, 28, 29, 30] (by decide +kernel) (by decide +kernel)
set_option maxRecDepth 20000 in
theorem gX4_readPlace_X4_fail : GoodIn wsX4_readPlace (wsV RX4 65 RX4 yX4_fail wsX4_fail) := goodIn_app (goodIn_of _ (by decide +kernel)) ggX4_readPlace_X4_fail
theorem dX4_readPlace_0 : decode cX4_readPlace 0 = .ok (.aload_n 0, 1) := by decide +kernel
theorem dX4_readPlace_1 : decode cX4_readPlace 1 = .ok (.invokevirtual 38, 3) := by decide +kernel
theorem dX4_readPlace_4 : decode cX4_readPlace 4 = .ok (.pop, 1) := by decide +kernel
theorem dX4_readPlace_5 : decode cX4_readPlace 5 = .ok (.aload_n 0, 1) := by decide +kernel
theorem dX4_readPlace_6 : decode cX4_readPlace 6 = .ok (.getfield 29, 3) := by decide +kernel
theorem dX4_readPlace_9 : decode cX4_readPlace 9 = .ok (.istore_n 2, 1) := by decide +kernel
theorem dX4_readPlace_10 : decode cX4_readPlace 10 = .ok (.aload_n 0, 1) := by decide +kernel
theorem dX4_readPlace_11 : decode cX4_readPlace 11 = .ok (.iconst 0, 1) := by decide +kernel
theorem dX4_readPlace_12 : decode cX4_readPlace 12 = .ok (.aload_n 0, 1) := by decide +kernel
theorem dX4_readPlace_13 : decode cX4_readPlace 13 = .ok (.getfield 12, 3) := by decide +kernel
theorem dX4_readPlace_16 : decode cX4_readPlace 16 = .ok (.getfield 54, 3) := by decide +kernel
theorem dX4_readPlace_19 : decode cX4_readPlace 19 = .ok (.getfield 58, 3) := by decide +kernel
theorem dX4_readPlace_22 : decode cX4_readPlace 22 = .ok (.iconst 1, 1) := by decide +kernel
theorem dX4_readPlace_23 : decode cX4_readPlace 23 = .ok (.isub, 1) := by decide +kernel
theorem dX4_readPlace_24 : decode cX4_readPlace 24 = .ok (.invokevirtual 80, 3) := by decide +kernel
theorem dX4_readPlace_27 : decode cX4_readPlace 27 = .ok (.istore_n 3, 1) := by decide +kernel
theorem dX4_readPlace_28 : decode cX4_readPlace 28 = .ok (.iload_n 3, 1) := by decide +kernel
theorem dX4_readPlace_29 : decode cX4_readPlace 29 = .ok (.iconst (-1), 1) := by decide +kernel
theorem dX4_readPlace_30 : decode cX4_readPlace 30 = .ok (.if_icmp .eq 16, 3) := by decide +kernel
theorem dX4_readPlace_33 : decode cX4_readPlace 33 = .ok (.iload_n 3, 1) := by decide +kernel
theorem dX4_readPlace_34 : decode cX4_readPlace 34 = .ok (.iload_n 1, 1) := by decide +kernel
theorem dX4_readPlace_35 : decode cX4_readPlace 35 = .ok (.if_icmp .ne 11, 3) := by decide +kernel
theorem dX4_readPlace_38 : decode cX4_readPlace 38 = .ok (.aload_n 0, 1) := by decide +kernel
theorem dX4_readPlace_39 : decode cX4_readPlace 39 = .ok (.iconst 4, 1) := by decide +kernel
theorem dX4_readPlace_40 : decode cX4_readPlace 40 = .ok (.iload_n 2, 1) := by decide +kernel
theorem dX4_readPlace_41 : decode cX4_readPlace 41 = .ok (.invokevirtual 65, 3) := by decide +kernel
theorem dX4_readPlace_44 : decode cX4_readPlace 44 = .ok (.iconst (-1), 1) := by decide +kernel
theorem dX4_readPlace_45 : decode cX4_readPlace 45 = .ok (.ireturn, 1) := by decide +kernel
theorem dX4_readPlace_46 : decode cX4_readPlace 46 = .ok (.iload_n 3, 1) := by decide +kernel
theorem dX4_readPlace_47 : decode cX4_readPlace 47 = .ok (.ireturn, 1) := by decide +kernel
set_option maxRecDepth 20000 in
theorem ggX4_readNumber_X4_look : GoodIn wsX4_readNumber wsX4_look := goodIn_r _ [8, 1, 2, 3, 18, 19, 20, 21, 22, 23] (by decide +kernel) (by decide +kernel)
set_option maxRecDepth 20000 in
theorem gX4_readNumber_X4_look : GoodIn wsX4_readNumber (wsV RX4 38 RX4 yX4_look wsX4_look) := goodIn_app (goodIn_of _ (by decide +kernel)) ggX4_readNumber_X4_look
set_option maxRecDepth 20000 in
theorem ggX4_readNumber_X4_isFigure : GoodIn wsX4_readNumber wsX4_isFigure := goodIn_r _ [11] (by decide +kernel) (by decide +kernel)
set_option maxRecDepth 20000 in
theorem gX4_readNumber_X4_isFigure : GoodIn wsX4_readNumber (va_wsS RX4 126 yX4_isFigure wsX4_isFigure) := goodIn_app (goodIn_of _ (by decide +kernel)) ggX4_readNumber_X4_isFigure
set_option maxRecDepth 20000 in
theorem ggX4_readNumber_X4_fail : GoodIn wsX4_readNumber wsX4_fail := goodIn_r _ [15, 16, 17, 18, 19, 20, 21, 22, 23] (by decide +kernel) (by decide +kernel)
set_option maxRecDepth 20000 in
theorem gX4_readNumber_X4_fail : GoodIn wsX4_readNumber (wsV RX4 65 RX4 yX4_fail wsX4_fail) := goodIn_app (goodIn_of _ (by decide +kernel)) ggX4_readNumber_X4_fail
theorem dX4_readNumber_0 : decode cX4_readNumber 0 = .ok (.aload_n 0, 1) := by decide +kernel
theorem dX4_readNumber_1 : decode cX4_readNumber 1 = .ok (.invokevirtual 38, 3) := by decide +kernel
theorem dX4_readNumber_4 : decode cX4_readNumber 4 = .ok (.invokestatic 126, 3) := by decide +kernel
theorem dX4_readNumber_7 : decode cX4_readNumber 7 = .ok (.istore_n 3, 1) := by decide +kernel
theorem dX4_readNumber_8 : decode cX4_readNumber 8 = .ok (.aload_n 0, 1) := by decide +kernel
theorem dX4_readNumber_9 : decode cX4_readNumber 9 = .ok (.getfield 29, 3) := by decide +kernel
theorem dX4_readNumber_12 : decode cX4_readNumber 12 = .ok (.istore 4, 2) := by decide +kernel
theorem dX4_readNumber_14 : decode cX4_readNumber 14 = .ok (.iload_n 3, 1) := by decide +kernel
theorem dX4_readNumber_15 : decode cX4_readNumber 15 = .ok (.ifCond .ne 12, 3) := by decide +kernel
theorem dX4_readNumber_18 : decode cX4_readNumber 18 = .ok (.aload_n 0, 1) := by decide +kernel
theorem dX4_readNumber_19 : decode cX4_readNumber 19 = .ok (.iconst 1, 1) := by decide +kernel
theorem dX4_readNumber_20 : decode cX4_readNumber 20 = .ok (.iload 4, 2) := by decide +kernel
theorem dX4_readNumber_22 : decode cX4_readNumber 22 = .ok (.invokevirtual 65, 3) := by decide +kernel
theorem dX4_readNumber_25 : decode cX4_readNumber 25 = .ok (.iconst (-1), 1) := by decide +kernel
theorem dX4_readNumber_26 : decode cX4_readNumber 26 = .ok (.ireturn, 1) := by decide +kernel
theorem dX4_readNumber_27 : decode cX4_readNumber 27 = .ok (.iconst 0, 1) := by decide +kernel
theorem dX4_readNumber_28 : decode cX4_readNumber 28 = .ok (.istore 5, 2) := by decide +kernel
theorem dX4_readNumber_30 : decode cX4_readNumber 30 = .ok (.aload_n 0, 1) := by decide +kernel
theorem dX4_readNumber_31 : decode cX4_readNumber 31 = .ok (.getfield 29, 3) := by decide +kernel
theorem dX4_readNumber_34 : decode cX4_readNumber 34 = .ok (.aload_n 0, 1) := by decide +kernel
theorem dX4_readNumber_35 : decode cX4_readNumber 35 = .ok (.getfield 22, 3) := by decide +kernel
theorem dX4_readNumber_38 : decode cX4_readNumber 38 = .ok (.if_icmp .ge 62, 3) := by decide +kernel
theorem dX4_readNumber_41 : decode cX4_readNumber 41 = .ok (.aload_n 0, 1) := by decide +kernel
theorem dX4_readNumber_42 : decode cX4_readNumber 42 = .ok (.getfield 18, 3) := by decide +kernel
theorem dX4_readNumber_45 : decode cX4_readNumber 45 = .ok (.aload_n 0, 1) := by decide +kernel
theorem dX4_readNumber_46 : decode cX4_readNumber 46 = .ok (.getfield 29, 3) := by decide +kernel
theorem dX4_readNumber_49 : decode cX4_readNumber 49 = .ok (.baload, 1) := by decide +kernel
theorem dX4_readNumber_50 : decode cX4_readNumber 50 = .ok (.invokestatic 126, 3) := by decide +kernel
theorem dX4_readNumber_53 : decode cX4_readNumber 53 = .ok (.ifCond .eq 47, 3) := by decide +kernel
theorem dX4_readNumber_56 : decode cX4_readNumber 56 = .ok (.aload_n 0, 1) := by decide +kernel
theorem dX4_readNumber_57 : decode cX4_readNumber 57 = .ok (.getfield 29, 3) := by decide +kernel
theorem dX4_readNumber_60 : decode cX4_readNumber 60 = .ok (.iload 4, 2) := by decide +kernel
theorem dX4_readNumber_62 : decode cX4_readNumber 62 = .ok (.isub, 1) := by decide +kernel
theorem dX4_readNumber_63 : decode cX4_readNumber 63 = .ok (.iconst 3, 1) := by decide +kernel
theorem dX4_readNumber_64 : decode cX4_readNumber 64 = .ok (.if_icmp .ge 23, 3) := by decide +kernel
theorem dX4_readNumber_67 : decode cX4_readNumber 67 = .ok (.bipush 10, 2) := by decide +kernel
theorem dX4_readNumber_69 : decode cX4_readNumber 69 = .ok (.iload 5, 2) := by decide +kernel
theorem dX4_readNumber_71 : decode cX4_readNumber 71 = .ok (.imul, 1) := by decide +kernel
theorem dX4_readNumber_72 : decode cX4_readNumber 72 = .ok (.aload_n 0, 1) := by decide +kernel
theorem dX4_readNumber_73 : decode cX4_readNumber 73 = .ok (.getfield 18, 3) := by decide +kernel
theorem dX4_readNumber_76 : decode cX4_readNumber 76 = .ok (.aload_n 0, 1) := by decide +kernel
theorem dX4_readNumber_77 : decode cX4_readNumber 77 = .ok (.getfield 29, 3) := by decide +kernel
theorem dX4_readNumber_80 : decode cX4_readNumber 80 = .ok (.baload, 1) := by decide +kernel
theorem dX4_readNumber_81 : decode cX4_readNumber 81 = .ok (.iadd, 1) := by decide +kernel
theorem dX4_readNumber_82 : decode cX4_readNumber 82 = .ok (.bipush 48, 2) := by decide +kernel
theorem dX4_readNumber_84 : decode cX4_readNumber 84 = .ok (.isub, 1) := by decide +kernel
theorem dX4_readNumber_85 : decode cX4_readNumber 85 = .ok (.istore 5, 2) := by decide +kernel
theorem dX4_readNumber_87 : decode cX4_readNumber 87 = .ok (.aload_n 0, 1) := by decide +kernel
theorem dX4_readNumber_88 : decode cX4_readNumber 88 = .ok (.dup, 1) := by decide +kernel
theorem dX4_readNumber_89 : decode cX4_readNumber 89 = .ok (.getfield 29, 3) := by decide +kernel
theorem dX4_readNumber_92 : decode cX4_readNumber 92 = .ok (.iconst 1, 1) := by decide +kernel
theorem dX4_readNumber_93 : decode cX4_readNumber 93 = .ok (.iadd, 1) := by decide +kernel
theorem dX4_readNumber_94 : decode cX4_readNumber 94 = .ok (.putfield 29, 3) := by decide +kernel
theorem dX4_readNumber_97 : decode cX4_readNumber 97 = .ok (.goto (-67), 3) := by decide +kernel
theorem dX4_readNumber_100 : decode cX4_readNumber 100 = .ok (.aload_n 0, 1) := by decide +kernel
theorem dX4_readNumber_101 : decode cX4_readNumber 101 = .ok (.getfield 29, 3) := by decide +kernel
theorem dX4_readNumber_104 : decode cX4_readNumber 104 = .ok (.iload 4, 2) := by decide +kernel
theorem dX4_readNumber_106 : decode cX4_readNumber 106 = .ok (.isub, 1) := by decide +kernel
theorem dX4_readNumber_107 : decode cX4_readNumber 107 = .ok (.iconst 3, 1) := by decide +kernel
theorem dX4_readNumber_108 : decode cX4_readNumber 108 = .ok (.if_icmp .gt 15, 3) := by decide +kernel
theorem dX4_readNumber_111 : decode cX4_readNumber 111 = .ok (.iload 5, 2) := by decide +kernel
theorem dX4_readNumber_113 : decode cX4_readNumber 113 = .ok (.iload_n 1, 1) := by decide +kernel
theorem dX4_readNumber_114 : decode cX4_readNumber 114 = .ok (.if_icmp .lt 9, 3) := by decide +kernel
theorem dX4_readNumber_117 : decode cX4_readNumber 117 = .ok (.iload 5, 2) := by decide +kernel
theorem dX4_readNumber_119 : decode cX4_readNumber 119 = .ok (.iload_n 2, 1) := by decide +kernel
theorem dX4_readNumber_120 : decode cX4_readNumber 120 = .ok (.if_icmp .le 12, 3) := by decide +kernel
theorem dX4_readNumber_123 : decode cX4_readNumber 123 = .ok (.aload_n 0, 1) := by decide +kernel
theorem dX4_readNumber_124 : decode cX4_readNumber 124 = .ok (.iconst 2, 1) := by decide +kernel
theorem dX4_readNumber_125 : decode cX4_readNumber 125 = .ok (.iload 4, 2) := by decide +kernel
theorem dX4_readNumber_127 : decode cX4_readNumber 127 = .ok (.invokevirtual 65, 3) := by decide +kernel
theorem dX4_readNumber_130 : decode cX4_readNumber 130 = .ok (.iconst (-1), 1) := by decide +kernel
theorem dX4_readNumber_131 : decode cX4_readNumber 131 = .ok (.ireturn, 1) := by decide +kernel
theorem dX4_readNumber_132 : decode cX4_readNumber 132 = .ok (.iload 5, 2) := by decide +kernel
theorem dX4_readNumber_134 : decode cX4_readNumber 134 = .ok (.ireturn, 1) := by decide +kernel
set_option maxRecDepth 20000 in
theorem ggX4_readSign_X4_look : GoodIn wsX4_readSign wsX4_look := goodIn_r _ [6, 1, 7, 8, 15, 16, 17, 18, 19, 20] (by decide +kernel) (by decide +kernel)
set_option maxRecDepth 20000 in
theorem gX4_readSign_X4_look : GoodIn wsX4_readSign (wsV RX4 38 RX4 yX4_look wsX4_look) := goodIn_app (goodIn_of _ (by decide +kernel)) ggX4_readSign_X4_look
set_option maxRecDepth 20000 in
theorem ggX4_readSign_X4_fail : GoodIn wsX4_readSign wsX4_fail := goodIn_r _ [12, 13, 14, 15, 16, 17, 18, 19, 20] (by decide +kernel) (by decide +kernel)
set_option maxRecDepth 20000 in
theorem gX4_readSign_X4_fail : GoodIn wsX4_readSign (wsV RX4 65 RX4 yX4_fail wsX4_fail) := goodIn_app (goodIn_of _ (by decide +kernel)) ggX4_readSign_X4_fail
theorem dX4_readSign_0 : decode cX4_readSign 0 = .ok (.aload_n 0, 1) := by decide +kernel
theorem dX4_readSign_1 : decode cX4_readSign 1 = .ok (.invokevirtual 38, 3) := by decide +kernel
theorem dX4_readSign_4 : decode cX4_readSign 4 = .ok (.iload_n 1, 1) := by decide +kernel
theorem dX4_readSign_5 : decode cX4_readSign 5 = .ok (.if_icmp .eq 14, 3) := by decide +kernel
theorem dX4_readSign_8 : decode cX4_readSign 8 = .ok (.aload_n 0, 1) := by decide +kernel
theorem dX4_readSign_9 : decode cX4_readSign 9 = .ok (.iconst 1, 1) := by decide +kernel
theorem dX4_readSign_10 : decode cX4_readSign 10 = .ok (.aload_n 0, 1) := by decide +kernel
theorem dX4_readSign_11 : decode cX4_readSign 11 = .ok (.getfield 29, 3) := by decide +kernel
theorem dX4_readSign_14 : decode cX4_readSign 14 = .ok (.invokevirtual 65, 3) := by decide +kernel
theorem dX4_readSign_17 : decode cX4_readSign 17 = .ok (.iconst 0, 1) := by decide +kernel
theorem dX4_readSign_18 : decode cX4_readSign 18 = .ok (.ireturn, 1) := by decide +kernel
theorem dX4_readSign_19 : decode cX4_readSign 19 = .ok (.aload_n 0, 1) := by decide +kernel
theorem dX4_readSign_20 : decode cX4_readSign 20 = .ok (.dup, 1) := by decide +kernel
theorem dX4_readSign_21 : decode cX4_readSign 21 = .ok (.getfield 29, 3) := by decide +kernel
theorem dX4_readSign_24 : decode cX4_readSign 24 = .ok (.iconst 1, 1) := by decide +kernel
theorem dX4_readSign_25 : decode cX4_readSign 25 = .ok (.iadd, 1) := by decide +kernel
theorem dX4_readSign_26 : decode cX4_readSign 26 = .ok (.putfield 29, 3) := by decide +kernel
theorem dX4_readSign_29 : decode cX4_readSign 29 = .ok (.iconst 1, 1) := by decide +kernel
theorem dX4_readSign_30 : decode cX4_readSign 30 = .ok (.ireturn, 1) := by decide +kernel
theorem dX4_look_0 : decode cX4_look 0 = .ok (.aload_n 0, 1) := by decide +kernel
theorem dX4_look_1 : decode cX4_look 1 = .ok (.getfield 29, 3) := by decide +kernel
theorem dX4_look_4 : decode cX4_look 4 = .ok (.aload_n 0, 1) := by decide +kernel
theorem dX4_look_5 : decode cX4_look 5 = .ok (.getfield 22, 3) := by decide +kernel
theorem dX4_look_8 : decode cX4_look 8 = .ok (.if_icmp .ge 30, 3) := by decide +kernel
theorem dX4_look_11 : decode cX4_look 11 = .ok (.aload_n 0, 1) := by decide +kernel
theorem dX4_look_12 : decode cX4_look 12 = .ok (.getfield 18, 3) := by decide +kernel
theorem dX4_look_15 : decode cX4_look 15 = .ok (.aload_n 0, 1) := by decide +kernel
theorem dX4_look_16 : decode cX4_look 16 = .ok (.getfield 29, 3) := by decide +kernel
theorem dX4_look_19 : decode cX4_look 19 = .ok (.baload, 1) := by decide +kernel
theorem dX4_look_20 : decode cX4_look 20 = .ok (.bipush 32, 2) := by decide +kernel
theorem dX4_look_22 : decode cX4_look 22 = .ok (.if_icmp .ne 16, 3) := by decide +kernel
theorem dX4_look_25 : decode cX4_look 25 = .ok (.aload_n 0, 1) := by decide +kernel
theorem dX4_look_26 : decode cX4_look 26 = .ok (.dup, 1) := by decide +kernel
theorem dX4_look_27 : decode cX4_look 27 = .ok (.getfield 29, 3) := by decide +kernel
theorem dX4_look_30 : decode cX4_look 30 = .ok (.iconst 1, 1) := by decide +kernel
theorem dX4_look_31 : decode cX4_look 31 = .ok (.iadd, 1) := by decide +kernel
theorem dX4_look_32 : decode cX4_look 32 = .ok (.putfield 29, 3) := by decide +kernel
theorem dX4_look_35 : decode cX4_look 35 = .ok (.goto (-35), 3) := by decide +kernel
theorem dX4_look_38 : decode cX4_look 38 = .ok (.aload_n 0, 1) := by decide +kernel
theorem dX4_look_39 : decode cX4_look 39 = .ok (.getfield 29, 3) := by decide +kernel
theorem dX4_look_42 : decode cX4_look 42 = .ok (.aload_n 0, 1) := by decide +kernel
theorem dX4_look_43 : decode cX4_look 43 = .ok (.getfield 22, 3) := by decide +kernel
theorem dX4_look_46 : decode cX4_look 46 = .ok (.if_icmp .ge 19, 3) := by decide +kernel
theorem dX4_look_49 : decode cX4_look 49 = .ok (.aload_n 0, 1) := by decide +kernel
theorem dX4_look_50 : decode cX4_look 50 = .ok (.getfield 18, 3) := by decide +kernel
theorem dX4_look_53 : decode cX4_look 53 = .ok (.aload_n 0, 1) := by decide +kernel
theorem dX4_look_54 : decode cX4_look 54 = .ok (.getfield 29, 3) := by decide +kernel
theorem dX4_look_57 : decode cX4_look 57 = .ok (.baload, 1) := by decide +kernel
theorem dX4_look_58 : decode cX4_look 58 = .ok (.sipush 255, 3) := by decide +kernel
theorem dX4_look_61 : decode cX4_look 61 = .ok (.iand, 1) := by decide +kernel
theorem dX4_look_62 : decode cX4_look 62 = .ok (.goto 4, 3) := by decide +kernel
theorem dX4_look_65 : decode cX4_look 65 = .ok (.iconst (-1), 1) := by decide +kernel
theorem dX4_look_66 : decode cX4_look 66 = .ok (.ireturn, 1) := by decide +kernel
theorem dX4_skipWord_0 : decode cX4_skipWord 0 = .ok (.aload_n 0, 1) := by decide +kernel
theorem dX4_skipWord_1 : decode cX4_skipWord 1 = .ok (.getfield 29, 3) := by decide +kernel
theorem dX4_skipWord_4 : decode cX4_skipWord 4 = .ok (.aload_n 0, 1) := by decide +kernel
theorem dX4_skipWord_5 : decode cX4_skipWord 5 = .ok (.getfield 22, 3) := by decide +kernel
theorem dX4_skipWord_8 : decode cX4_skipWord 8 = .ok (.if_icmp .ge 44, 3) := by decide +kernel
theorem dX4_skipWord_11 : decode cX4_skipWord 11 = .ok (.aload_n 0, 1) := by decide +kernel
theorem dX4_skipWord_12 : decode cX4_skipWord 12 = .ok (.getfield 18, 3) := by decide +kernel
theorem dX4_skipWord_15 : decode cX4_skipWord 15 = .ok (.aload_n 0, 1) := by decide +kernel
theorem dX4_skipWord_16 : decode cX4_skipWord 16 = .ok (.getfield 29, 3) := by decide +kernel
theorem dX4_skipWord_19 : decode cX4_skipWord 19 = .ok (.baload, 1) := by decide +kernel
theorem dX4_skipWord_20 : decode cX4_skipWord 20 = .ok (.bipush 97, 2) := by decide +kernel
theorem dX4_skipWord_22 : decode cX4_skipWord 22 = .ok (.if_icmp .lt 30, 3) := by decide +kernel
theorem dX4_skipWord_25 : decode cX4_skipWord 25 = .ok (.aload_n 0, 1) := by decide +kernel
theorem dX4_skipWord_26 : decode cX4_skipWord 26 = .ok (.getfield 18, 3) := by decide +kernel
theorem dX4_skipWord_29 : decode cX4_skipWord 29 = .ok (.aload_n 0, 1) := by decide +kernel
theorem dX4_skipWord_30 : decode cX4_skipWord 30 = .ok (.getfield 29, 3) := by decide +kernel
theorem dX4_skipWord_33 : decode cX4_skipWord 33 = .ok (.baload, 1) := by decide +kernel
theorem dX4_skipWord_34 : decode cX4_skipWord 34 = .ok (.bipush 122, 2) := by decide +kernel
theorem dX4_skipWord_36 : decode cX4_skipWord 36 = .ok (.if_icmp .gt 16, 3) := by decide +kernel
theorem dX4_skipWord_39 : decode cX4_skipWord 39 = .ok (.aload_n 0, 1) := by decide +kernel
theorem dX4_skipWord_40 : decode cX4_skipWord 40 = .ok (.dup, 1) := by decide +kernel
theorem dX4_skipWord_41 : decode cX4_skipWord 41 = .ok (.getfield 29, 3) := by decide +kernel
theorem dX4_skipWord_44 : decode cX4_skipWord 44 = .ok (.iconst 1, 1) := by decide +kernel
theorem dX4_skipWord_45 : decode cX4_skipWord 45 = .ok (.iadd, 1) := by decide +kernel
theorem dX4_skipWord_46 : decode cX4_skipWord 46 = .ok (.putfield 29, 3) := by decide +kernel
theorem dX4_skipWord_49 : decode cX4_skipWord 49 = .ok (.goto (-49), 3) := by decide +kernel
theorem dX4_skipWord_52 : decode cX4_skipWord 52 = .ok (.return_, 1) := by decide +kernel
set_option maxRecDepth 20000 in
theorem ggX4_isWord_J0_length_8abf5 : GoodIn wsX4_isWord wsJ0_length_8abf5 := goodIn_r _ [8, 9, 10, 11, 12, 7, 13, 14, 15] (by decide +kernel) (by decide +kernel)
set_option maxRecDepth 20000 in
theorem gX4_isWord_J0_length_8abf5 : GoodIn wsX4_isWord (wsV RX4 140 RJ0 yJ0_length_8abf5 wsJ0_length_8abf5) := goodIn_app (goodIn_of _ (by decide +kernel)) ggX4_isWord_J0_length_8abf5
set_option maxRecDepth 20000 in
theorem ggX4_isWord_J0_charAt_5068e : GoodIn wsX4_isWord wsJ0_charAt_5068e := goodIn_r _ [19, 9, 20, 21, 22, 7, 23, 14, 15, 24, 25, 26, 27, 28, 29, 30, 31, 32, 33, 34, 35, 36, 37, 38, 39, 40, 41, 42, 43, 44, 45, 46, 47, 48, 49, 50, 51, 52] (by decide +kernel) (by decide +kernel)
set_option maxRecDepth 20000 in
theorem gX4_isWord_J0_charAt_5068e : GoodIn wsX4_isWord (wsV RX4 144 RJ0 yJ0_charAt_5068e wsJ0_charAt_5068e) := goodIn_app (goodIn_of _ (by decide +kernel)) ggX4_isWord_J0_charAt_5068e
theorem dX4_isWord_0 : decode cX4_isWord 0 = .ok (.iload_n 1, 1) := by decide +kernel
theorem dX4_isWord_1 : decode cX4_isWord 1 = .ok (.ifCond .lt 27, 3) := by decide +kernel
theorem dX4_isWord_4 : decode cX4_isWord 4 = .ok (.aload_n 0, 1) := by decide +kernel
theorem dX4_isWord_5 : decode cX4_isWord 5 = .ok (.getfield 29, 3) := by decide +kernel
theorem dX4_isWord_8 : decode cX4_isWord 8 = .ok (.aload_n 0, 1) := by decide +kernel
theorem dX4_isWord_9 : decode cX4_isWord 9 = .ok (.getfield 22, 3) := by decide +kernel
theorem dX4_isWord_12 : decode cX4_isWord 12 = .ok (.if_icmp .gt 16, 3) := by decide +kernel
theorem dX4_isWord_15 : decode cX4_isWord 15 = .ok (.aload_n 0, 1) := by decide +kernel
theorem dX4_isWord_16 : decode cX4_isWord 16 = .ok (.getfield 29, 3) := by decide +kernel
theorem dX4_isWord_19 : decode cX4_isWord 19 = .ok (.iload_n 1, 1) := by decide +kernel
theorem dX4_isWord_20 : decode cX4_isWord 20 = .ok (.isub, 1) := by decide +kernel
theorem dX4_isWord_21 : decode cX4_isWord 21 = .ok (.aload_n 2, 1) := by decide +kernel
theorem dX4_isWord_22 : decode cX4_isWord 22 = .ok (.invokevirtual 140, 3) := by decide +kernel
theorem dX4_isWord_25 : decode cX4_isWord 25 = .ok (.if_icmp .eq 5, 3) := by decide +kernel
theorem dX4_isWord_28 : decode cX4_isWord 28 = .ok (.iconst 0, 1) := by decide +kernel
theorem dX4_isWord_29 : decode cX4_isWord 29 = .ok (.ireturn, 1) := by decide +kernel
theorem dX4_isWord_30 : decode cX4_isWord 30 = .ok (.iconst 0, 1) := by decide +kernel
theorem dX4_isWord_31 : decode cX4_isWord 31 = .ok (.istore_n 3, 1) := by decide +kernel
theorem dX4_isWord_32 : decode cX4_isWord 32 = .ok (.iload_n 3, 1) := by decide +kernel
theorem dX4_isWord_33 : decode cX4_isWord 33 = .ok (.aload_n 2, 1) := by decide +kernel
theorem dX4_isWord_34 : decode cX4_isWord 34 = .ok (.invokevirtual 140, 3) := by decide +kernel
theorem dX4_isWord_37 : decode cX4_isWord 37 = .ok (.if_icmp .ge 27, 3) := by decide +kernel
theorem dX4_isWord_40 : decode cX4_isWord 40 = .ok (.aload_n 0, 1) := by decide +kernel
theorem dX4_isWord_41 : decode cX4_isWord 41 = .ok (.getfield 18, 3) := by decide +kernel
theorem dX4_isWord_44 : decode cX4_isWord 44 = .ok (.iload_n 1, 1) := by decide +kernel
theorem dX4_isWord_45 : decode cX4_isWord 45 = .ok (.iload_n 3, 1) := by decide +kernel
theorem dX4_isWord_46 : decode cX4_isWord 46 = .ok (.iadd, 1) := by decide +kernel
theorem dX4_isWord_47 : decode cX4_isWord 47 = .ok (.baload, 1) := by decide +kernel
theorem dX4_isWord_48 : decode cX4_isWord 48 = .ok (.aload_n 2, 1) := by decide +kernel
theorem dX4_isWord_49 : decode cX4_isWord 49 = .ok (.iload_n 3, 1) := by decide +kernel
theorem dX4_isWord_50 : decode cX4_isWord 50 = .ok (.invokevirtual 144, 3) := by decide +kernel
theorem dX4_isWord_53 : decode cX4_isWord 53 = .ok (.if_icmp .eq 5, 3) := by decide +kernel
theorem dX4_isWord_56 : decode cX4_isWord 56 = .ok (.iconst 0, 1) := by decide +kernel
theorem dX4_isWord_57 : decode cX4_isWord 57 = .ok (.ireturn, 1) := by decide +kernel
theorem dX4_isWord_58 : decode cX4_isWord 58 = .ok (.iinc 3 1, 3) := by decide +kernel
theorem dX4_isWord_61 : decode cX4_isWord 61 = .ok (.goto (-29), 3) := by decide +kernel
theorem dX4_isWord_64 : decode cX4_isWord 64 = .ok (.iconst 1, 1) := by decide +kernel
theorem dX4_isWord_65 : decode cX4_isWord 65 = .ok (.ireturn, 1) := by decide +kernel
theorem dX4_isFigure_0 : decode cX4_isFigure 0 = .ok (.iload_n 0, 1) := by decide +kernel
theorem dX4_isFigure_1 : decode cX4_isFigure 1 = .ok (.bipush 48, 2) := by decide +kernel
theorem dX4_isFigure_3 : decode cX4_isFigure 3 = .ok (.if_icmp .lt 13, 3) := by decide +kernel
theorem dX4_isFigure_6 : decode cX4_isFigure 6 = .ok (.iload_n 0, 1) := by decide +kernel
theorem dX4_isFigure_7 : decode cX4_isFigure 7 = .ok (.bipush 57, 2) := by decide +kernel
theorem dX4_isFigure_9 : decode cX4_isFigure 9 = .ok (.if_icmp .gt 7, 3) := by decide +kernel
theorem dX4_isFigure_12 : decode cX4_isFigure 12 = .ok (.iconst 1, 1) := by decide +kernel
theorem dX4_isFigure_13 : decode cX4_isFigure 13 = .ok (.goto 4, 3) := by decide +kernel
theorem dX4_isFigure_16 : decode cX4_isFigure 16 = .ok (.iconst 0, 1) := by decide +kernel
theorem dX4_isFigure_17 : decode cX4_isFigure 17 = .ok (.ireturn, 1) := by decide +kernel
theorem dX4_fail_0 : decode cX4_fail 0 = .ok (.aload_n 0, 1) := by decide +kernel
theorem dX4_fail_1 : decode cX4_fail 1 = .ok (.iload_n 1, 1) := by decide +kernel
theorem dX4_fail_2 : decode cX4_fail 2 = .ok (.putfield 32, 3) := by decide +kernel
theorem dX4_fail_5 : decode cX4_fail 5 = .ok (.aload_n 0, 1) := by decide +kernel
theorem dX4_fail_6 : decode cX4_fail 6 = .ok (.iload_n 2, 1) := by decide +kernel
theorem dX4_fail_7 : decode cX4_fail 7 = .ok (.putfield 35, 3) := by decide +kernel
theorem dX4_fail_10 : decode cX4_fail 10 = .ok (.return_, 1) := by decide +kernel
