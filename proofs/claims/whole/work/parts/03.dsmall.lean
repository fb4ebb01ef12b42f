theorem dX0_init_0 : decode cX0_init 0 = .ok (.aload_n 0, 1) := by decide +kernel
theorem dX0_init_1 : decode cX0_init 1 = .ok (.invokespecial 3, 3) := by decide +kernel
theorem dX0_init_4 : decode cX0_init 4 = .ok (.aload_n 0, 1) := by decide +kernel
theorem dX0_init_5 : decode cX0_init 5 = .ok (.bipush 40, 2) := by decide +kernel
theorem dX0_init_7 : decode cX0_init 7 = .ok (.newarray .int, 2) := by decide +kernel
theorem dX0_init_9 : decode cX0_init 9 = .ok (.putfield 9, 3) := by decide +kernel
theorem dX0_init_12 : decode cX0_init 12 = .ok (.aload_n 0, 1) := by decide +kernel
theorem dX0_init_13 : decode cX0_init 13 = .ok (.bipush 40, 2) := by decide +kernel
theorem dX0_init_15 : decode cX0_init 15 = .ok (.newarray .int, 2) := by decide +kernel
theorem dX0_init_17 : decode cX0_init 17 = .ok (.putfield 15, 3) := by decide +kernel
theorem dX0_init_20 : decode cX0_init 20 = .ok (.aload_n 0, 1) := by decide +kernel
theorem dX0_init_21 : decode cX0_init 21 = .ok (.bipush 8, 2) := by decide +kernel
theorem dX0_init_23 : decode cX0_init 23 = .ok (.newarray .int, 2) := by decide +kernel
theorem dX0_init_25 : decode cX0_init 25 = .ok (.putfield 18, 3) := by decide +kernel
theorem dX0_init_28 : decode cX0_init 28 = .ok (.return_, 1) := by decide +kernel
theorem dX0_append_0 : decode cX0_append 0 = .ok (.aload_n 0, 1) := by decide +kernel
theorem dX0_append_1 : decode cX0_append 1 = .ok (.getfield 21, 3) := by decide +kernel
theorem dX0_append_4 : decode cX0_append 4 = .ok (.bipush 40, 2) := by decide +kernel
theorem dX0_append_6 : decode cX0_append 6 = .ok (.if_icmp .ge 33, 3) := by decide +kernel
theorem dX0_append_9 : decode cX0_append 9 = .ok (.aload_n 0, 1) := by decide +kernel
theorem dX0_append_10 : decode cX0_append 10 = .ok (.getfield 9, 3) := by decide +kernel
theorem dX0_append_13 : decode cX0_append 13 = .ok (.aload_n 0, 1) := by decide +kernel
theorem dX0_append_14 : decode cX0_append 14 = .ok (.getfield 21, 3) := by decide +kernel
theorem dX0_append_17 : decode cX0_append 17 = .ok (.iload_n 1, 1) := by decide +kernel
theorem dX0_append_18 : decode cX0_append 18 = .ok (.iastore, 1) := by decide +kernel
theorem dX0_append_19 : decode cX0_append 19 = .ok (.aload_n 0, 1) := by decide +kernel
theorem dX0_append_20 : decode cX0_append 20 = .ok (.getfield 15, 3) := by decide +kernel
theorem dX0_append_23 : decode cX0_append 23 = .ok (.aload_n 0, 1) := by decide +kernel
theorem dX0_append_24 : decode cX0_append 24 = .ok (.getfield 21, 3) := by decide +kernel
theorem dX0_append_27 : decode cX0_append 27 = .ok (.iload_n 2, 1) := by decide +kernel
theorem dX0_append_28 : decode cX0_append 28 = .ok (.iastore, 1) := by decide +kernel
theorem dX0_append_29 : decode cX0_append 29 = .ok (.aload_n 0, 1) := by decide +kernel
theorem dX0_append_30 : decode cX0_append 30 = .ok (.dup, 1) := by decide +kernel
theorem dX0_append_31 : decode cX0_append 31 = .ok (.getfield 21, 3) := by decide +kernel
theorem dX0_append_34 : decode cX0_append 34 = .ok (.iconst 1, 1) := by decide +kernel
theorem dX0_append_35 : decode cX0_append 35 = .ok (.iadd, 1) := by decide +kernel
theorem dX0_append_36 : decode cX0_append 36 = .ok (.putfield 21, 3) := by decide +kernel
theorem dX0_append_39 : decode cX0_append 39 = .ok (.return_, 1) := by decide +kernel
set_option maxRecDepth 20000 in
theorem ggX0_firstWrong_X3_hasPerson : GoodIn wsX0_firstWrong wsX3_hasPerson := goodIn_r _ [13, 14, 51, 52, 53, 54, 55, 56, 57, 58] (by decide +kernel) (by decide +kernel)
set_option maxRecDepth 20000 in
theorem gX0_firstWrong_X3_hasPerson : GoodIn wsX0_firstWrong (wsV RX0 39 RX3 yX3_hasPerson wsX3_hasPerson) := goodIn_app (goodIn_of _ (by decide +kernel)) ggX0_firstWrong_X3_hasPerson
set_option maxRecDepth 20000 in
theorem ggX0_firstWrong_X1_hasStair : GoodIn wsX0_firstWrong wsX1_hasStair := goodIn_r _ [19, 20, 63, 64, 65, 66, 67, 68] (by decide +kernel) (by decide +kernel)
set_option maxRecDepth 20000 in
theorem gX0_firstWrong_X1_hasStair : GoodIn wsX0_firstWrong (wsV RX0 47 RX1 yX1_hasStair wsX1_hasStair) := goodIn_app (goodIn_of _ (by decide +kernel)) ggX0_firstWrong_X1_hasStair
set_option maxRecDepth 20000 in
theorem ggX0_firstWrong_X5_otherEnd : GoodIn wsX0_firstWrong wsX5_otherEnd := goodIn_r _ [25, 26, 27, 28, 29, 30, 31, 32, 33, 24, 34, 35, 36, 37, 38, 39, 40, 41, 42, 43, 44, 45, 46, 47, 48, 49, 50, 63, 64, 65, 66, 67, 68, 51, 52, 53, 54, 55, 56, 57, 58] (by decide +kernel) (by decide +kernel)
set_option maxRecDepth 20000 in
theorem gX0_firstWrong_X5_otherEnd : GoodIn wsX0_firstWrong (wsV RX0 52 RX5 yX5_otherEnd wsX5_otherEnd) := goodIn_app (goodIn_of _ (by decide +kernel)) ggX0_firstWrong_X5_otherEnd
theorem dX0_firstWrong_0 : decode cX0_firstWrong 0 = .ok (.iconst 0, 1) := by decide +kernel
theorem dX0_firstWrong_1 : decode cX0_firstWrong 1 = .ok (.istore_n 2, 1) := by decide +kernel
theorem dX0_firstWrong_2 : decode cX0_firstWrong 2 = .ok (.iload_n 2, 1) := by decide +kernel
theorem dX0_firstWrong_3 : decode cX0_firstWrong 3 = .ok (.aload_n 1, 1) := by decide +kernel
theorem dX0_firstWrong_4 : decode cX0_firstWrong 4 = .ok (.getfield 25, 3) := by decide +kernel
theorem dX0_firstWrong_7 : decode cX0_firstWrong 7 = .ok (.getfield 31, 3) := by decide +kernel
theorem dX0_firstWrong_10 : decode cX0_firstWrong 10 = .ok (.if_icmp .ge 24, 3) := by decide +kernel
theorem dX0_firstWrong_13 : decode cX0_firstWrong 13 = .ok (.aload_n 0, 1) := by decide +kernel
theorem dX0_firstWrong_14 : decode cX0_firstWrong 14 = .ok (.getfield 18, 3) := by decide +kernel
theorem dX0_firstWrong_17 : decode cX0_firstWrong 17 = .ok (.iload_n 2, 1) := by decide +kernel
theorem dX0_firstWrong_18 : decode cX0_firstWrong 18 = .ok (.aload_n 1, 1) := by decide +kernel
theorem dX0_firstWrong_19 : decode cX0_firstWrong 19 = .ok (.getfield 25, 3) := by decide +kernel
theorem dX0_firstWrong_22 : decode cX0_firstWrong 22 = .ok (.getfield 36, 3) := by decide +kernel
theorem dX0_firstWrong_25 : decode cX0_firstWrong 25 = .ok (.iload_n 2, 1) := by decide +kernel
theorem dX0_firstWrong_26 : decode cX0_firstWrong 26 = .ok (.iaload, 1) := by decide +kernel
theorem dX0_firstWrong_27 : decode cX0_firstWrong 27 = .ok (.iastore, 1) := by decide +kernel
theorem dX0_firstWrong_28 : decode cX0_firstWrong 28 = .ok (.iinc 2 1, 3) := by decide +kernel
theorem dX0_firstWrong_31 : decode cX0_firstWrong 31 = .ok (.goto (-29), 3) := by decide +kernel
theorem dX0_firstWrong_34 : decode cX0_firstWrong 34 = .ok (.iconst 0, 1) := by decide +kernel
theorem dX0_firstWrong_35 : decode cX0_firstWrong 35 = .ok (.istore_n 2, 1) := by decide +kernel
theorem dX0_firstWrong_36 : decode cX0_firstWrong 36 = .ok (.iload_n 2, 1) := by decide +kernel
theorem dX0_firstWrong_37 : decode cX0_firstWrong 37 = .ok (.aload_n 0, 1) := by decide +kernel
theorem dX0_firstWrong_38 : decode cX0_firstWrong 38 = .ok (.getfield 21, 3) := by decide +kernel
theorem dX0_firstWrong_41 : decode cX0_firstWrong 41 = .ok (.if_icmp .ge 80, 3) := by decide +kernel
theorem dX0_firstWrong_44 : decode cX0_firstWrong 44 = .ok (.aload_n 0, 1) := by decide +kernel
theorem dX0_firstWrong_45 : decode cX0_firstWrong 45 = .ok (.getfield 9, 3) := by decide +kernel
theorem dX0_firstWrong_48 : decode cX0_firstWrong 48 = .ok (.iload_n 2, 1) := by decide +kernel
theorem dX0_firstWrong_49 : decode cX0_firstWrong 49 = .ok (.iaload, 1) := by decide +kernel
theorem dX0_firstWrong_50 : decode cX0_firstWrong 50 = .ok (.istore_n 3, 1) := by decide +kernel
theorem dX0_firstWrong_51 : decode cX0_firstWrong 51 = .ok (.aload_n 1, 1) := by decide +kernel
theorem dX0_firstWrong_52 : decode cX0_firstWrong 52 = .ok (.getfield 25, 3) := by decide +kernel
theorem dX0_firstWrong_55 : decode cX0_firstWrong 55 = .ok (.iload_n 3, 1) := by decide +kernel
theorem dX0_firstWrong_56 : decode cX0_firstWrong 56 = .ok (.invokevirtual 39, 3) := by decide +kernel
theorem dX0_firstWrong_59 : decode cX0_firstWrong 59 = .ok (.ifCond .eq 19, 3) := by decide +kernel
theorem dX0_firstWrong_62 : decode cX0_firstWrong 62 = .ok (.aload_n 1, 1) := by decide +kernel
theorem dX0_firstWrong_63 : decode cX0_firstWrong 63 = .ok (.getfield 43, 3) := by decide +kernel
theorem dX0_firstWrong_66 : decode cX0_firstWrong 66 = .ok (.aload_n 0, 1) := by decide +kernel
theorem dX0_firstWrong_67 : decode cX0_firstWrong 67 = .ok (.getfield 15, 3) := by decide +kernel
theorem dX0_firstWrong_70 : decode cX0_firstWrong 70 = .ok (.iload_n 2, 1) := by decide +kernel
theorem dX0_firstWrong_71 : decode cX0_firstWrong 71 = .ok (.iaload, 1) := by decide +kernel
theorem dX0_firstWrong_72 : decode cX0_firstWrong 72 = .ok (.invokevirtual 47, 3) := by decide +kernel
theorem dX0_firstWrong_75 : decode cX0_firstWrong 75 = .ok (.ifCond .ne 5, 3) := by decide +kernel
theorem dX0_firstWrong_78 : decode cX0_firstWrong 78 = .ok (.iload_n 2, 1) := by decide +kernel
theorem dX0_firstWrong_79 : decode cX0_firstWrong 79 = .ok (.ireturn, 1) := by decide +kernel
theorem dX0_firstWrong_80 : decode cX0_firstWrong 80 = .ok (.aload_n 1, 1) := by decide +kernel
theorem dX0_firstWrong_81 : decode cX0_firstWrong 81 = .ok (.iload_n 3, 1) := by decide +kernel
theorem dX0_firstWrong_82 : decode cX0_firstWrong 82 = .ok (.aload_n 0, 1) := by decide +kernel
theorem dX0_firstWrong_83 : decode cX0_firstWrong 83 = .ok (.getfield 15, 3) := by decide +kernel
theorem dX0_firstWrong_86 : decode cX0_firstWrong 86 = .ok (.iload_n 2, 1) := by decide +kernel
theorem dX0_firstWrong_87 : decode cX0_firstWrong 87 = .ok (.iaload, 1) := by decide +kernel
theorem dX0_firstWrong_88 : decode cX0_firstWrong 88 = .ok (.aload_n 0, 1) := by decide +kernel
theorem dX0_firstWrong_89 : decode cX0_firstWrong 89 = .ok (.getfield 18, 3) := by decide +kernel
theorem dX0_firstWrong_92 : decode cX0_firstWrong 92 = .ok (.iload_n 3, 1) := by decide +kernel
theorem dX0_firstWrong_93 : decode cX0_firstWrong 93 = .ok (.iaload, 1) := by decide +kernel
theorem dX0_firstWrong_94 : decode cX0_firstWrong 94 = .ok (.invokevirtual 52, 3) := by decide +kernel
theorem dX0_firstWrong_97 : decode cX0_firstWrong 97 = .ok (.istore 4, 2) := by decide +kernel
theorem dX0_firstWrong_99 : decode cX0_firstWrong 99 = .ok (.iload 4, 2) := by decide +kernel
theorem dX0_firstWrong_101 : decode cX0_firstWrong 101 = .ok (.iconst (-1), 1) := by decide +kernel
theorem dX0_firstWrong_102 : decode cX0_firstWrong 102 = .ok (.if_icmp .ne 5, 3) := by decide +kernel
theorem dX0_firstWrong_105 : decode cX0_firstWrong 105 = .ok (.iload_n 2, 1) := by decide +kernel
theorem dX0_firstWrong_106 : decode cX0_firstWrong 106 = .ok (.ireturn, 1) := by decide +kernel
theorem dX0_firstWrong_107 : decode cX0_firstWrong 107 = .ok (.aload_n 0, 1) := by decide +kernel
theorem dX0_firstWrong_108 : decode cX0_firstWrong 108 = .ok (.getfield 18, 3) := by decide +kernel
theorem dX0_firstWrong_111 : decode cX0_firstWrong 111 = .ok (.iload_n 3, 1) := by decide +kernel
theorem dX0_firstWrong_112 : decode cX0_firstWrong 112 = .ok (.iload 4, 2) := by decide +kernel
theorem dX0_firstWrong_114 : decode cX0_firstWrong 114 = .ok (.iastore, 1) := by decide +kernel
theorem dX0_firstWrong_115 : decode cX0_firstWrong 115 = .ok (.iinc 2 1, 3) := by decide +kernel
theorem dX0_firstWrong_118 : decode cX0_firstWrong 118 = .ok (.goto (-82), 3) := by decide +kernel
theorem dX0_firstWrong_121 : decode cX0_firstWrong 121 = .ok (.iconst (-1), 1) := by decide +kernel
theorem dX0_firstWrong_122 : decode cX0_firstWrong 122 = .ok (.ireturn, 1) := by decide +kernel
theorem dX1_init_0 : decode cX1_init 0 = .ok (.aload_n 0, 1) := by decide +kernel
theorem dX1_init_1 : decode cX1_init 1 = .ok (.invokespecial 3, 3) := by decide +kernel
theorem dX1_init_4 : decode cX1_init 4 = .ok (.aload_n 0, 1) := by decide +kernel
theorem dX1_init_5 : decode cX1_init 5 = .ok (.bipush 10, 2) := by decide +kernel
theorem dX1_init_7 : decode cX1_init 7 = .ok (.newarray .int, 2) := by decide +kernel
theorem dX1_init_9 : decode cX1_init 9 = .ok (.putfield 9, 3) := by decide +kernel
theorem dX1_init_12 : decode cX1_init 12 = .ok (.aload_n 0, 1) := by decide +kernel
theorem dX1_init_13 : decode cX1_init 13 = .ok (.bipush 10, 2) := by decide +kernel
theorem dX1_init_15 : decode cX1_init 15 = .ok (.newarray .int, 2) := by decide +kernel
theorem dX1_init_17 : decode cX1_init 17 = .ok (.putfield 15, 3) := by decide +kernel
theorem dX1_init_20 : decode cX1_init 20 = .ok (.aload_n 0, 1) := by decide +kernel
theorem dX1_init_21 : decode cX1_init 21 = .ok (.bipush 10, 2) := by decide +kernel
theorem dX1_init_23 : decode cX1_init 23 = .ok (.newarray .int, 2) := by decide +kernel
theorem dX1_init_25 : decode cX1_init 25 = .ok (.putfield 18, 3) := by decide +kernel
theorem dX1_init_28 : decode cX1_init 28 = .ok (.aload_n 0, 1) := by decide +kernel
theorem dX1_init_29 : decode cX1_init 29 = .ok (.bipush 10, 2) := by decide +kernel
theorem dX1_init_31 : decode cX1_init 31 = .ok (.newarray .int, 2) := by decide +kernel
theorem dX1_init_33 : decode cX1_init 33 = .ok (.putfield 21, 3) := by decide +kernel
theorem dX1_init_36 : decode cX1_init 36 = .ok (.return_, 1) := by decide +kernel
theorem dX1_hasPlace_0 : decode cX1_hasPlace 0 = .ok (.iload_n 1, 1) := by decide +kernel
theorem dX1_hasPlace_1 : decode cX1_hasPlace 1 = .ok (.ifCond .lt 15, 3) := by decide +kernel
theorem dX1_hasPlace_4 : decode cX1_hasPlace 4 = .ok (.iload_n 1, 1) := by decide +kernel
theorem dX1_hasPlace_5 : decode cX1_hasPlace 5 = .ok (.aload_n 0, 1) := by decide +kernel
theorem dX1_hasPlace_6 : decode cX1_hasPlace 6 = .ok (.getfield 24, 3) := by decide +kernel
theorem dX1_hasPlace_9 : decode cX1_hasPlace 9 = .ok (.if_icmp .ge 7, 3) := by decide +kernel
theorem dX1_hasPlace_12 : decode cX1_hasPlace 12 = .ok (.iconst 1, 1) := by decide +kernel
theorem dX1_hasPlace_13 : decode cX1_hasPlace 13 = .ok (.goto 4, 3) := by decide +kernel
theorem dX1_hasPlace_16 : decode cX1_hasPlace 16 = .ok (.iconst 0, 1) := by decide +kernel
theorem dX1_hasPlace_17 : decode cX1_hasPlace 17 = .ok (.ireturn, 1) := by decide +kernel
theorem dX1_hasStair_0 : decode cX1_hasStair 0 = .ok (.iload_n 1, 1) := by decide +kernel
theorem dX1_hasStair_1 : decode cX1_hasStair 1 = .ok (.ifCond .lt 15, 3) := by decide +kernel
theorem dX1_hasStair_4 : decode cX1_hasStair 4 = .ok (.iload_n 1, 1) := by decide +kernel
theorem dX1_hasStair_5 : decode cX1_hasStair 5 = .ok (.aload_n 0, 1) := by decide +kernel
theorem dX1_hasStair_6 : decode cX1_hasStair 6 = .ok (.getfield 28, 3) := by decide +kernel
theorem dX1_hasStair_9 : decode cX1_hasStair 9 = .ok (.if_icmp .ge 7, 3) := by decide +kernel
theorem dX1_hasStair_12 : decode cX1_hasStair 12 = .ok (.iconst 1, 1) := by decide +kernel
theorem dX1_hasStair_13 : decode cX1_hasStair 13 = .ok (.goto 4, 3) := by decide +kernel
theorem dX1_hasStair_16 : decode cX1_hasStair 16 = .ok (.iconst 0, 1) := by decide +kernel
theorem dX1_hasStair_17 : decode cX1_hasStair 17 = .ok (.ireturn, 1) := by decide +kernel
set_option maxRecDepth 20000 in
theorem ggX1_hasPart_X1_hasStair : GoodIn wsX1_hasPart wsX1_hasStair := goodIn_r _ [6, 7, 8, 9, 10, 11, 12, 13] (by decide +kernel) (by decide +kernel)
set_option maxRecDepth 20000 in
theorem gX1_hasPart_X1_hasStair : GoodIn wsX1_hasPart (wsV RX1 31 RX1 yX1_hasStair wsX1_hasStair) := goodIn_app (goodIn_of _ (by decide +kernel)) ggX1_hasPart_X1_hasStair
theorem dX1_hasPart_0 : decode cX1_hasPart 0 = .ok (.aload_n 0, 1) := by decide +kernel
theorem dX1_hasPart_1 : decode cX1_hasPart 1 = .ok (.iload_n 1, 1) := by decide +kernel
theorem dX1_hasPart_2 : decode cX1_hasPart 2 = .ok (.invokevirtual 31, 3) := by decide +kernel
theorem dX1_hasPart_5 : decode cX1_hasPart 5 = .ok (.ifCond .eq 21, 3) := by decide +kernel
theorem dX1_hasPart_8 : decode cX1_hasPart 8 = .ok (.iload_n 2, 1) := by decide +kernel
theorem dX1_hasPart_9 : decode cX1_hasPart 9 = .ok (.ifCond .lt 17, 3) := by decide +kernel
theorem dX1_hasPart_12 : decode cX1_hasPart 12 = .ok (.iload_n 2, 1) := by decide +kernel
theorem dX1_hasPart_13 : decode cX1_hasPart 13 = .ok (.aload_n 0, 1) := by decide +kernel
theorem dX1_hasPart_14 : decode cX1_hasPart 14 = .ok (.getfield 21, 3) := by decide +kernel
theorem dX1_hasPart_17 : decode cX1_hasPart 17 = .ok (.iload_n 1, 1) := by decide +kernel
theorem dX1_hasPart_18 : decode cX1_hasPart 18 = .ok (.iaload, 1) := by decide +kernel
theorem dX1_hasPart_19 : decode cX1_hasPart 19 = .ok (.if_icmp .ge 7, 3) := by decide +kernel
theorem dX1_hasPart_22 : decode cX1_hasPart 22 = .ok (.iconst 1, 1) := by decide +kernel
theorem dX1_hasPart_23 : decode cX1_hasPart 23 = .ok (.goto 4, 3) := by decide +kernel
theorem dX1_hasPart_26 : decode cX1_hasPart 26 = .ok (.iconst 0, 1) := by decide +kernel
theorem dX1_hasPart_27 : decode cX1_hasPart 27 = .ok (.ireturn, 1) := by decide +kernel
theorem dX1_become_0 : decode cX1_become 0 = .ok (.aload_n 0, 1) := by decide +kernel
theorem dX1_become_1 : decode cX1_become 1 = .ok (.aload_n 1, 1) := by decide +kernel
theorem dX1_become_2 : decode cX1_become 2 = .ok (.getfield 24, 3) := by decide +kernel
theorem dX1_become_5 : decode cX1_become 5 = .ok (.putfield 24, 3) := by decide +kernel
theorem dX1_become_8 : decode cX1_become 8 = .ok (.aload_n 0, 1) := by decide +kernel
theorem dX1_become_9 : decode cX1_become 9 = .ok (.aload_n 1, 1) := by decide +kernel
theorem dX1_become_10 : decode cX1_become 10 = .ok (.getfield 28, 3) := by decide +kernel
theorem dX1_become_13 : decode cX1_become 13 = .ok (.putfield 28, 3) := by decide +kernel
theorem dX1_become_16 : decode cX1_become 16 = .ok (.iconst 0, 1) := by decide +kernel
theorem dX1_become_17 : decode cX1_become 17 = .ok (.istore_n 2, 1) := by decide +kernel
theorem dX1_become_18 : decode cX1_become 18 = .ok (.iload_n 2, 1) := by decide +kernel
theorem dX1_become_19 : decode cX1_become 19 = .ok (.bipush 10, 2) := by decide +kernel
theorem dX1_become_21 : decode cX1_become 21 = .ok (.if_icmp .ge 57, 3) := by decide +kernel
theorem dX1_become_24 : decode cX1_become 24 = .ok (.aload_n 0, 1) := by decide +kernel
theorem dX1_become_25 : decode cX1_become 25 = .ok (.getfield 9, 3) := by decide +kernel
theorem dX1_become_28 : decode cX1_become 28 = .ok (.iload_n 2, 1) := by decide +kernel
theorem dX1_become_29 : decode cX1_become 29 = .ok (.aload_n 1, 1) := by decide +kernel
theorem dX1_become_30 : decode cX1_become 30 = .ok (.getfield 9, 3) := by decide +kernel
theorem dX1_become_33 : decode cX1_become 33 = .ok (.iload_n 2, 1) := by decide +kernel
theorem dX1_become_34 : decode cX1_become 34 = .ok (.iaload, 1) := by decide +kernel
theorem dX1_become_35 : decode cX1_become 35 = .ok (.iastore, 1) := by decide +kernel
theorem dX1_become_36 : decode cX1_become 36 = .ok (.aload_n 0, 1) := by decide +kernel
theorem dX1_become_37 : decode cX1_become 37 = .ok (.getfield 15, 3) := by decide +kernel
theorem dX1_become_40 : decode cX1_become 40 = .ok (.iload_n 2, 1) := by decide +kernel
theorem dX1_become_41 : decode cX1_become 41 = .ok (.aload_n 1, 1) := by decide +kernel
theorem dX1_become_42 : decode cX1_become 42 = .ok (.getfield 15, 3) := by decide +kernel
theorem dX1_become_45 : decode cX1_become 45 = .ok (.iload_n 2, 1) := by decide +kernel
theorem dX1_become_46 : decode cX1_become 46 = .ok (.iaload, 1) := by decide +kernel
theorem dX1_become_47 : decode cX1_become 47 = .ok (.iastore, 1) := by decide +kernel
theorem dX1_become_48 : decode cX1_become 48 = .ok (.aload_n 0, 1) := by decide +kernel
theorem dX1_become_49 : decode cX1_become 49 = .ok (.getfield 18, 3) := by decide +kernel
theorem dX1_become_52 : decode cX1_become 52 = .ok (.iload_n 2, 1) := by decide +kernel
theorem dX1_become_53 : decode cX1_become 53 = .ok (.aload_n 1, 1) := by decide +kernel
theorem dX1_become_54 : decode cX1_become 54 = .ok (.getfield 18, 3) := by decide +kernel
theorem dX1_become_57 : decode cX1_become 57 = .ok (.iload_n 2, 1) := by decide +kernel
theorem dX1_become_58 : decode cX1_become 58 = .ok (.iaload, 1) := by decide +kernel
theorem dX1_become_59 : decode cX1_become 59 = .ok (.iastore, 1) := by decide +kernel
theorem dX1_become_60 : decode cX1_become 60 = .ok (.aload_n 0, 1) := by decide +kernel
theorem dX1_become_61 : decode cX1_become 61 = .ok (.getfield 21, 3) := by decide +kernel
theorem dX1_become_64 : decode cX1_become 64 = .ok (.iload_n 2, 1) := by decide +kernel
theorem dX1_become_65 : decode cX1_become 65 = .ok (.aload_n 1, 1) := by decide +kernel
theorem dX1_become_66 : decode cX1_become 66 = .ok (.getfield 21, 3) := by decide +kernel
theorem dX1_become_69 : decode cX1_become 69 = .ok (.iload_n 2, 1) := by decide +kernel
theorem dX1_become_70 : decode cX1_become 70 = .ok (.iaload, 1) := by decide +kernel
theorem dX1_become_71 : decode cX1_become 71 = .ok (.iastore, 1) := by decide +kernel
theorem dX1_become_72 : decode cX1_become 72 = .ok (.iinc 2 1, 3) := by decide +kernel
theorem dX1_become_75 : decode cX1_become 75 = .ok (.goto (-57), 3) := by decide +kernel
theorem dX1_become_78 : decode cX1_become 78 = .ok (.return_, 1) := by decide +kernel
theorem dX2_init_0 : decode cX2_init 0 = .ok (.aload_n 0, 1) := by decide +kernel
theorem dX2_init_1 : decode cX2_init 1 = .ok (.invokespecial 3, 3) := by decide +kernel
theorem dX2_init_4 : decode cX2_init 4 = .ok (.aload_n 0, 1) := by decide +kernel
theorem dX2_init_5 : decode cX2_init 5 = .ok (.bipush 20, 2) := by decide +kernel
theorem dX2_init_7 : decode cX2_init 7 = .ok (.newarray .int, 2) := by decide +kernel
theorem dX2_init_9 : decode cX2_init 9 = .ok (.putfield 9, 3) := by decide +kernel
theorem dX2_init_12 : decode cX2_init 12 = .ok (.aload_n 0, 1) := by decide +kernel
theorem dX2_init_13 : decode cX2_init 13 = .ok (.bipush 20, 2) := by decide +kernel
theorem dX2_init_15 : decode cX2_init 15 = .ok (.newarray .int, 2) := by decide +kernel
theorem dX2_init_17 : decode cX2_init 17 = .ok (.putfield 15, 3) := by decide +kernel
theorem dX2_init_20 : decode cX2_init 20 = .ok (.aload_n 0, 1) := by decide +kernel
theorem dX2_init_21 : decode cX2_init 21 = .ok (.bipush 20, 2) := by decide +kernel
theorem dX2_init_23 : decode cX2_init 23 = .ok (.newarray .boolean, 2) := by decide +kernel
theorem dX2_init_25 : decode cX2_init 25 = .ok (.putfield 18, 3) := by decide +kernel
theorem dX2_init_28 : decode cX2_init 28 = .ok (.return_, 1) := by decide +kernel
theorem dX2_append_0 : decode cX2_append 0 = .ok (.aload_n 0, 1) := by decide +kernel
theorem dX2_append_1 : decode cX2_append 1 = .ok (.getfield 22, 3) := by decide +kernel
theorem dX2_append_4 : decode cX2_append 4 = .ok (.bipush 20, 2) := by decide +kernel
theorem dX2_append_6 : decode cX2_append 6 = .ok (.if_icmp .ge 43, 3) := by decide +kernel
theorem dX2_append_9 : decode cX2_append 9 = .ok (.aload_n 0, 1) := by decide +kernel
theorem dX2_append_10 : decode cX2_append 10 = .ok (.getfield 9, 3) := by decide +kernel
theorem dX2_append_13 : decode cX2_append 13 = .ok (.aload_n 0, 1) := by decide +kernel
theorem dX2_append_14 : decode cX2_append 14 = .ok (.getfield 22, 3) := by decide +kernel
theorem dX2_append_17 : decode cX2_append 17 = .ok (.iload_n 1, 1) := by decide +kernel
theorem dX2_append_18 : decode cX2_append 18 = .ok (.iastore, 1) := by decide +kernel
theorem dX2_append_19 : decode cX2_append 19 = .ok (.aload_n 0, 1) := by decide +kernel
theorem dX2_append_20 : decode cX2_append 20 = .ok (.getfield 15, 3) := by decide +kernel
theorem dX2_append_23 : decode cX2_append 23 = .ok (.aload_n 0, 1) := by decide +kernel
theorem dX2_append_24 : decode cX2_append 24 = .ok (.getfield 22, 3) := by decide +kernel
theorem dX2_append_27 : decode cX2_append 27 = .ok (.iload_n 2, 1) := by decide +kernel
theorem dX2_append_28 : decode cX2_append 28 = .ok (.iastore, 1) := by decide +kernel
theorem dX2_append_29 : decode cX2_append 29 = .ok (.aload_n 0, 1) := by decide +kernel
theorem dX2_append_30 : decode cX2_append 30 = .ok (.getfield 18, 3) := by decide +kernel
theorem dX2_append_33 : decode cX2_append 33 = .ok (.aload_n 0, 1) := by decide +kernel
theorem dX2_append_34 : decode cX2_append 34 = .ok (.getfield 22, 3) := by decide +kernel
theorem dX2_append_37 : decode cX2_append 37 = .ok (.iload_n 3, 1) := by decide +kernel
theorem dX2_append_38 : decode cX2_append 38 = .ok (.bastore, 1) := by decide +kernel
theorem dX2_append_39 : decode cX2_append 39 = .ok (.aload_n 0, 1) := by decide +kernel
theorem dX2_append_40 : decode cX2_append 40 = .ok (.dup, 1) := by decide +kernel
theorem dX2_append_41 : decode cX2_append 41 = .ok (.getfield 22, 3) := by decide +kernel
theorem dX2_append_44 : decode cX2_append 44 = .ok (.iconst 1, 1) := by decide +kernel
theorem dX2_append_45 : decode cX2_append 45 = .ok (.iadd, 1) := by decide +kernel
theorem dX2_append_46 : decode cX2_append 46 = .ok (.putfield 22, 3) := by decide +kernel
theorem dX2_append_49 : decode cX2_append 49 = .ok (.return_, 1) := by decide +kernel
set_option maxRecDepth 20000 in
theorem ggX2_stridesAsSeen_X2_isAsSeen : GoodIn wsX2_stridesAsSeen wsX2_isAsSeen := goodIn_r _ [5, 6, 7, 8, 9, 10, 11, 12, 13, 14, 15, 16, 17, 18, 19, 20, 21, 22, 23, 24, 25, 26, 27, 28, 29, 30, 31, 32, 33, 34, 35, 36, 37, 38, 39, 40, 41, 42, 43, 44, 45, 46, 47, 48, 49, 50, 51, 52, 53, 54, 55, 56, 57, 58, 59, 60, 61, 62, 63, 64, 65, 66, 67] (by decide +kernel) (by decide +kernel)
set_option maxRecDepth 20000 in
theorem gX2_stridesAsSeen_X2_isAsSeen : GoodIn wsX2_stridesAsSeen (wsV RX2 26 RX2 yX2_isAsSeen wsX2_isAsSeen) := goodIn_app (goodIn_of _ (by decide +kernel)) ggX2_stridesAsSeen_X2_isAsSeen
theorem dX2_stridesAsSeen_0 : decode cX2_stridesAsSeen 0 = .ok (.iconst 0, 1) := by decide +kernel
theorem dX2_stridesAsSeen_1 : decode cX2_stridesAsSeen 1 = .ok (.istore_n 2, 1) := by decide +kernel
theorem dX2_stridesAsSeen_2 : decode cX2_stridesAsSeen 2 = .ok (.iconst 1, 1) := by decide +kernel
theorem dX2_stridesAsSeen_3 : decode cX2_stridesAsSeen 3 = .ok (.istore_n 3, 1) := by decide +kernel
theorem dX2_stridesAsSeen_4 : decode cX2_stridesAsSeen 4 = .ok (.iload_n 3, 1) := by decide +kernel
theorem dX2_stridesAsSeen_5 : decode cX2_stridesAsSeen 5 = .ok (.bipush 24, 2) := by decide +kernel
theorem dX2_stridesAsSeen_7 : decode cX2_stridesAsSeen 7 = .ok (.if_icmp .gt 26, 3) := by decide +kernel
theorem dX2_stridesAsSeen_10 : decode cX2_stridesAsSeen 10 = .ok (.aload_n 0, 1) := by decide +kernel
theorem dX2_stridesAsSeen_11 : decode cX2_stridesAsSeen 11 = .ok (.aload_n 1, 1) := by decide +kernel
theorem dX2_stridesAsSeen_12 : decode cX2_stridesAsSeen 12 = .ok (.iload_n 3, 1) := by decide +kernel
theorem dX2_stridesAsSeen_13 : decode cX2_stridesAsSeen 13 = .ok (.invokevirtual 26, 3) := by decide +kernel
theorem dX2_stridesAsSeen_16 : decode cX2_stridesAsSeen 16 = .ok (.ifCond .eq 11, 3) := by decide +kernel
theorem dX2_stridesAsSeen_19 : decode cX2_stridesAsSeen 19 = .ok (.iload_n 2, 1) := by decide +kernel
theorem dX2_stridesAsSeen_20 : decode cX2_stridesAsSeen 20 = .ok (.iconst 1, 1) := by decide +kernel
theorem dX2_stridesAsSeen_21 : decode cX2_stridesAsSeen 21 = .ok (.iload_n 3, 1) := by decide +kernel
theorem dX2_stridesAsSeen_22 : decode cX2_stridesAsSeen 22 = .ok (.iconst 1, 1) := by decide +kernel
theorem dX2_stridesAsSeen_23 : decode cX2_stridesAsSeen 23 = .ok (.isub, 1) := by decide +kernel
theorem dX2_stridesAsSeen_24 : decode cX2_stridesAsSeen 24 = .ok (.ishl, 1) := by decide +kernel
theorem dX2_stridesAsSeen_25 : decode cX2_stridesAsSeen 25 = .ok (.ior, 1) := by decide +kernel
theorem dX2_stridesAsSeen_26 : decode cX2_stridesAsSeen 26 = .ok (.istore_n 2, 1) := by decide +kernel
theorem dX2_stridesAsSeen_27 : decode cX2_stridesAsSeen 27 = .ok (.iinc 3 1, 3) := by decide +kernel
theorem dX2_stridesAsSeen_30 : decode cX2_stridesAsSeen 30 = .ok (.goto (-26), 3) := by decide +kernel
theorem dX2_stridesAsSeen_33 : decode cX2_stridesAsSeen 33 = .ok (.iload_n 2, 1) := by decide +kernel
theorem dX2_stridesAsSeen_34 : decode cX2_stridesAsSeen 34 = .ok (.ireturn, 1) := by decide +kernel
set_option maxRecDepth 20000 in
theorem ggX2_isAsSeen_X5_upStairs : GoodIn wsX2_isAsSeen wsX5_upStairs := goodIn_r _ [9, 10, 11, 12, 13, 14, 8, 15, 16, 17, 18, 19, 20, 21, 22, 45, 46, 47, 48, 49, 50, 51, 52, 53, 54, 55, 56, 57, 58, 59, 60, 61, 62] (by decide +kernel) (by decide +kernel)
set_option maxRecDepth 20000 in
theorem gX2_isAsSeen_X5_upStairs : GoodIn wsX2_isAsSeen (wsV RX2 30 RX5 yX5_upStairs wsX5_upStairs) := goodIn_app (goodIn_of _ (by decide +kernel)) ggX2_isAsSeen_X5_upStairs
set_option maxRecDepth 20000 in
theorem ggX2_isAsSeen_X5_downStairs : GoodIn wsX2_isAsSeen wsX5_downStairs := goodIn_r _ [26, 18, 27, 28, 29, 30, 8, 31, 10, 11, 45, 46, 47, 48, 55, 56, 57, 58, 59, 60, 61, 62, 49, 50, 51, 52, 53, 54] (by decide +kernel) (by decide +kernel)
set_option maxRecDepth 20000 in
theorem gX2_isAsSeen_X5_downStairs : GoodIn wsX2_isAsSeen (wsV RX2 36 RX5 yX5_downStairs wsX5_downStairs) := goodIn_app (goodIn_of _ (by decide +kernel)) ggX2_isAsSeen_X5_downStairs
set_option maxRecDepth 20000 in
theorem ggX2_isAsSeen_X5_spread : GoodIn wsX2_isAsSeen wsX5_spread := goodIn_r _ [35, 10, 36, 11, 37, 38, 39, 21, 40, 45, 46, 47, 48, 49, 50, 51, 52, 53, 54] (by decide +kernel) (by decide +kernel)
set_option maxRecDepth 20000 in
theorem gX2_isAsSeen_X5_spread : GoodIn wsX2_isAsSeen (wsV RX2 40 RX5 yX5_spread wsX5_spread) := goodIn_app (goodIn_of _ (by decide +kernel)) ggX2_isAsSeen_X5_spread
set_option maxRecDepth 20000 in
theorem ggX2_isAsSeen_X6_has : GoodIn wsX2_isAsSeen wsX6_has := goodIn_r _ [40] (by decide +kernel) (by decide +kernel)
set_option maxRecDepth 20000 in
theorem gX2_isAsSeen_X6_has_n44 : GoodIn wsX2_isAsSeen (wsX6_has) := ggX2_isAsSeen_X6_has
theorem dX2_isAsSeen_0 : decode cX2_isAsSeen 0 = .ok (.aload_n 1, 1) := by decide +kernel
theorem dX2_isAsSeen_1 : decode cX2_isAsSeen 1 = .ok (.iload_n 2, 1) := by decide +kernel
theorem dX2_isAsSeen_2 : decode cX2_isAsSeen 2 = .ok (.iconst 0, 1) := by decide +kernel
theorem dX2_isAsSeen_3 : decode cX2_isAsSeen 3 = .ok (.invokevirtual 30, 3) := by decide +kernel
theorem dX2_isAsSeen_6 : decode cX2_isAsSeen 6 = .ok (.istore_n 3, 1) := by decide +kernel
theorem dX2_isAsSeen_7 : decode cX2_isAsSeen 7 = .ok (.aload_n 1, 1) := by decide +kernel
theorem dX2_isAsSeen_8 : decode cX2_isAsSeen 8 = .ok (.iload_n 3, 1) := by decide +kernel
theorem dX2_isAsSeen_9 : decode cX2_isAsSeen 9 = .ok (.invokevirtual 36, 3) := by decide +kernel
theorem dX2_isAsSeen_12 : decode cX2_isAsSeen 12 = .ok (.istore 4, 2) := by decide +kernel
theorem dX2_isAsSeen_14 : decode cX2_isAsSeen 14 = .ok (.iconst 0, 1) := by decide +kernel
theorem dX2_isAsSeen_15 : decode cX2_isAsSeen 15 = .ok (.istore 5, 2) := by decide +kernel
theorem dX2_isAsSeen_17 : decode cX2_isAsSeen 17 = .ok (.iload 5, 2) := by decide +kernel
theorem dX2_isAsSeen_19 : decode cX2_isAsSeen 19 = .ok (.aload_n 0, 1) := by decide +kernel
theorem dX2_isAsSeen_20 : decode cX2_isAsSeen 20 = .ok (.getfield 22, 3) := by decide +kernel
theorem dX2_isAsSeen_23 : decode cX2_isAsSeen 23 = .ok (.if_icmp .ge 45, 3) := by decide +kernel
theorem dX2_isAsSeen_26 : decode cX2_isAsSeen 26 = .ok (.aload_n 1, 1) := by decide +kernel
theorem dX2_isAsSeen_27 : decode cX2_isAsSeen 27 = .ok (.aload_n 0, 1) := by decide +kernel
theorem dX2_isAsSeen_28 : decode cX2_isAsSeen 28 = .ok (.getfield 9, 3) := by decide +kernel
theorem dX2_isAsSeen_31 : decode cX2_isAsSeen 31 = .ok (.iload 5, 2) := by decide +kernel
theorem dX2_isAsSeen_33 : decode cX2_isAsSeen 33 = .ok (.iaload, 1) := by decide +kernel
theorem dX2_isAsSeen_34 : decode cX2_isAsSeen 34 = .ok (.iload_n 3, 1) := by decide +kernel
theorem dX2_isAsSeen_35 : decode cX2_isAsSeen 35 = .ok (.iload 4, 2) := by decide +kernel
theorem dX2_isAsSeen_37 : decode cX2_isAsSeen 37 = .ok (.invokevirtual 40, 3) := by decide +kernel
theorem dX2_isAsSeen_40 : decode cX2_isAsSeen 40 = .ok (.aload_n 0, 1) := by decide +kernel
theorem dX2_isAsSeen_41 : decode cX2_isAsSeen 41 = .ok (.getfield 15, 3) := by decide +kernel
theorem dX2_isAsSeen_44 : decode cX2_isAsSeen 44 = .ok (.iload 5, 2) := by decide +kernel
theorem dX2_isAsSeen_46 : decode cX2_isAsSeen 46 = .ok (.iaload, 1) := by decide +kernel
theorem dX2_isAsSeen_47 : decode cX2_isAsSeen 47 = .ok (.invokestatic 44, 3) := by decide +kernel
theorem dX2_isAsSeen_50 : decode cX2_isAsSeen 50 = .ok (.aload_n 0, 1) := by decide +kernel
theorem dX2_isAsSeen_51 : decode cX2_isAsSeen 51 = .ok (.getfield 18, 3) := by decide +kernel
theorem dX2_isAsSeen_54 : decode cX2_isAsSeen 54 = .ok (.iload 5, 2) := by decide +kernel
theorem dX2_isAsSeen_56 : decode cX2_isAsSeen 56 = .ok (.baload, 1) := by decide +kernel
theorem dX2_isAsSeen_57 : decode cX2_isAsSeen 57 = .ok (.if_icmp .eq 5, 3) := by decide +kernel
theorem dX2_isAsSeen_60 : decode cX2_isAsSeen 60 = .ok (.iconst 0, 1) := by decide +kernel
theorem dX2_isAsSeen_61 : decode cX2_isAsSeen 61 = .ok (.ireturn, 1) := by decide +kernel
theorem dX2_isAsSeen_62 : decode cX2_isAsSeen 62 = .ok (.iinc 5 1, 3) := by decide +kernel
theorem dX2_isAsSeen_65 : decode cX2_isAsSeen 65 = .ok (.goto (-48), 3) := by decide +kernel
theorem dX2_isAsSeen_68 : decode cX2_isAsSeen 68 = .ok (.iconst 1, 1) := by decide +kernel
theorem dX2_isAsSeen_69 : decode cX2_isAsSeen 69 = .ok (.ireturn, 1) := by decide +kernel
theorem dX3_init_0 : decode cX3_init 0 = .ok (.aload_n 0, 1) := by decide +kernel
theorem dX3_init_1 : decode cX3_init 1 = .ok (.invokespecial 3, 3) := by decide +kernel
theorem dX3_init_4 : decode cX3_init 4 = .ok (.aload_n 0, 1) := by decide +kernel
theorem dX3_init_5 : decode cX3_init 5 = .ok (.bipush 8, 2) := by decide +kernel
theorem dX3_init_7 : decode cX3_init 7 = .ok (.newarray .int, 2) := by decide +kernel
theorem dX3_init_9 : decode cX3_init 9 = .ok (.putfield 9, 3) := by decide +kernel
theorem dX3_init_12 : decode cX3_init 12 = .ok (.aload_n 0, 1) := by decide +kernel
theorem dX3_init_13 : decode cX3_init 13 = .ok (.bipush 8, 2) := by decide +kernel
theorem dX3_init_15 : decode cX3_init 15 = .ok (.newarray .int, 2) := by decide +kernel
theorem dX3_init_17 : decode cX3_init 17 = .ok (.putfield 15, 3) := by decide +kernel
theorem dX3_init_20 : decode cX3_init 20 = .ok (.aload_n 0, 1) := by decide +kernel
theorem dX3_init_21 : decode cX3_init 21 = .ok (.bipush 8, 2) := by decide +kernel
theorem dX3_init_23 : decode cX3_init 23 = .ok (.newarray .int, 2) := by decide +kernel
theorem dX3_init_25 : decode cX3_init 25 = .ok (.putfield 18, 3) := by decide +kernel
theorem dX3_init_28 : decode cX3_init 28 = .ok (.aload_n 0, 1) := by decide +kernel
theorem dX3_init_29 : decode cX3_init 29 = .ok (.bipush 30, 2) := by decide +kernel
theorem dX3_init_31 : decode cX3_init 31 = .ok (.newarray .int, 2) := by decide +kernel
theorem dX3_init_33 : decode cX3_init 33 = .ok (.putfield 21, 3) := by decide +kernel
theorem dX3_init_36 : decode cX3_init 36 = .ok (.aload_n 0, 1) := by decide +kernel
theorem dX3_init_37 : decode cX3_init 37 = .ok (.bipush 10, 2) := by decide +kernel
theorem dX3_init_39 : decode cX3_init 39 = .ok (.newarray .int, 2) := by decide +kernel
theorem dX3_init_41 : decode cX3_init 41 = .ok (.putfield 24, 3) := by decide +kernel
theorem dX3_init_44 : decode cX3_init 44 = .ok (.return_, 1) := by decide +kernel
theorem dX3_hasPerson_0 : decode cX3_hasPerson 0 = .ok (.iload_n 1, 1) := by decide +kernel
theorem dX3_hasPerson_1 : decode cX3_hasPerson 1 = .ok (.ifCond .lt 15, 3) := by decide +kernel
theorem dX3_hasPerson_4 : decode cX3_hasPerson 4 = .ok (.iload_n 1, 1) := by decide +kernel
theorem dX3_hasPerson_5 : decode cX3_hasPerson 5 = .ok (.aload_n 0, 1) := by decide +kernel
theorem dX3_hasPerson_6 : decode cX3_hasPerson 6 = .ok (.getfield 27, 3) := by decide +kernel
theorem dX3_hasPerson_9 : decode cX3_hasPerson 9 = .ok (.if_icmp .ge 7, 3) := by decide +kernel
theorem dX3_hasPerson_12 : decode cX3_hasPerson 12 = .ok (.iconst 1, 1) := by decide +kernel
theorem dX3_hasPerson_13 : decode cX3_hasPerson 13 = .ok (.goto 4, 3) := by decide +kernel
theorem dX3_hasPerson_16 : decode cX3_hasPerson 16 = .ok (.iconst 0, 1) := by decide +kernel
theorem dX3_hasPerson_17 : decode cX3_hasPerson 17 = .ok (.ireturn, 1) := by decide +kernel
theorem dX3_hasPersons_0 : decode cX3_hasPersons 0 = .ok (.iload_n 1, 1) := by decide +kernel
theorem dX3_hasPersons_1 : decode cX3_hasPersons 1 = .ok (.ifCond .lt 17, 3) := by decide +kernel
theorem dX3_hasPersons_4 : decode cX3_hasPersons 4 = .ok (.iload_n 1, 1) := by decide +kernel
theorem dX3_hasPersons_5 : decode cX3_hasPersons 5 = .ok (.iconst 1, 1) := by decide +kernel
theorem dX3_hasPersons_6 : decode cX3_hasPersons 6 = .ok (.aload_n 0, 1) := by decide +kernel
theorem dX3_hasPersons_7 : decode cX3_hasPersons 7 = .ok (.getfield 27, 3) := by decide +kernel
theorem dX3_hasPersons_10 : decode cX3_hasPersons 10 = .ok (.ishl, 1) := by decide +kernel
theorem dX3_hasPersons_11 : decode cX3_hasPersons 11 = .ok (.if_icmp .ge 7, 3) := by decide +kernel
theorem dX3_hasPersons_14 : decode cX3_hasPersons 14 = .ok (.iconst 1, 1) := by decide +kernel
theorem dX3_hasPersons_15 : decode cX3_hasPersons 15 = .ok (.goto 4, 3) := by decide +kernel
theorem dX3_hasPersons_18 : decode cX3_hasPersons 18 = .ok (.iconst 0, 1) := by decide +kernel
theorem dX3_hasPersons_19 : decode cX3_hasPersons 19 = .ok (.ireturn, 1) := by decide +kernel
theorem dX3_addPerson_0 : decode cX3_addPerson 0 = .ok (.aload_n 0, 1) := by decide +kernel
theorem dX3_addPerson_1 : decode cX3_addPerson 1 = .ok (.getfield 27, 3) := by decide +kernel
theorem dX3_addPerson_4 : decode cX3_addPerson 4 = .ok (.bipush 8, 2) := by decide +kernel
theorem dX3_addPerson_6 : decode cX3_addPerson 6 = .ok (.if_icmp .ge 43, 3) := by decide +kernel
theorem dX3_addPerson_9 : decode cX3_addPerson 9 = .ok (.aload_n 0, 1) := by decide +kernel
theorem dX3_addPerson_10 : decode cX3_addPerson 10 = .ok (.getfield 9, 3) := by decide +kernel
theorem dX3_addPerson_13 : decode cX3_addPerson 13 = .ok (.aload_n 0, 1) := by decide +kernel
theorem dX3_addPerson_14 : decode cX3_addPerson 14 = .ok (.getfield 27, 3) := by decide +kernel
theorem dX3_addPerson_17 : decode cX3_addPerson 17 = .ok (.iload_n 1, 1) := by decide +kernel
theorem dX3_addPerson_18 : decode cX3_addPerson 18 = .ok (.iastore, 1) := by decide +kernel
theorem dX3_addPerson_19 : decode cX3_addPerson 19 = .ok (.aload_n 0, 1) := by decide +kernel
theorem dX3_addPerson_20 : decode cX3_addPerson 20 = .ok (.getfield 15, 3) := by decide +kernel
theorem dX3_addPerson_23 : decode cX3_addPerson 23 = .ok (.aload_n 0, 1) := by decide +kernel
theorem dX3_addPerson_24 : decode cX3_addPerson 24 = .ok (.getfield 27, 3) := by decide +kernel
theorem dX3_addPerson_27 : decode cX3_addPerson 27 = .ok (.iload_n 2, 1) := by decide +kernel
theorem dX3_addPerson_28 : decode cX3_addPerson 28 = .ok (.iastore, 1) := by decide +kernel
theorem dX3_addPerson_29 : decode cX3_addPerson 29 = .ok (.aload_n 0, 1) := by decide +kernel
theorem dX3_addPerson_30 : decode cX3_addPerson 30 = .ok (.getfield 18, 3) := by decide +kernel
theorem dX3_addPerson_33 : decode cX3_addPerson 33 = .ok (.aload_n 0, 1) := by decide +kernel
theorem dX3_addPerson_34 : decode cX3_addPerson 34 = .ok (.getfield 27, 3) := by decide +kernel
theorem dX3_addPerson_37 : decode cX3_addPerson 37 = .ok (.iload_n 3, 1) := by decide +kernel
theorem dX3_addPerson_38 : decode cX3_addPerson 38 = .ok (.iastore, 1) := by decide +kernel
theorem dX3_addPerson_39 : decode cX3_addPerson 39 = .ok (.aload_n 0, 1) := by decide +kernel
theorem dX3_addPerson_40 : decode cX3_addPerson 40 = .ok (.dup, 1) := by decide +kernel
theorem dX3_addPerson_41 : decode cX3_addPerson 41 = .ok (.getfield 27, 3) := by decide +kernel
theorem dX3_addPerson_44 : decode cX3_addPerson 44 = .ok (.iconst 1, 1) := by decide +kernel
theorem dX3_addPerson_45 : decode cX3_addPerson 45 = .ok (.iadd, 1) := by decide +kernel
theorem dX3_addPerson_46 : decode cX3_addPerson 46 = .ok (.putfield 27, 3) := by decide +kernel
theorem dX3_addPerson_49 : decode cX3_addPerson 49 = .ok (.return_, 1) := by decide +kernel
theorem dX3_becomeTold_0 : decode cX3_becomeTold 0 = .ok (.aload_n 0, 1) := by decide +kernel
theorem dX3_becomeTold_1 : decode cX3_becomeTold 1 = .ok (.aload_n 1, 1) := by decide +kernel
theorem dX3_becomeTold_2 : decode cX3_becomeTold 2 = .ok (.getfield 27, 3) := by decide +kernel
theorem dX3_becomeTold_5 : decode cX3_becomeTold 5 = .ok (.putfield 27, 3) := by decide +kernel
theorem dX3_becomeTold_8 : decode cX3_becomeTold 8 = .ok (.iconst 0, 1) := by decide +kernel
theorem dX3_becomeTold_9 : decode cX3_becomeTold 9 = .ok (.istore_n 2, 1) := by decide +kernel
theorem dX3_becomeTold_10 : decode cX3_becomeTold 10 = .ok (.iload_n 2, 1) := by decide +kernel
theorem dX3_becomeTold_11 : decode cX3_becomeTold 11 = .ok (.bipush 8, 2) := by decide +kernel
theorem dX3_becomeTold_13 : decode cX3_becomeTold 13 = .ok (.if_icmp .ge 45, 3) := by decide +kernel
theorem dX3_becomeTold_16 : decode cX3_becomeTold 16 = .ok (.aload_n 0, 1) := by decide +kernel
theorem dX3_becomeTold_17 : decode cX3_becomeTold 17 = .ok (.getfield 9, 3) := by decide +kernel
theorem dX3_becomeTold_20 : decode cX3_becomeTold 20 = .ok (.iload_n 2, 1) := by decide +kernel
theorem dX3_becomeTold_21 : decode cX3_becomeTold 21 = .ok (.aload_n 1, 1) := by decide +kernel
theorem dX3_becomeTold_22 : decode cX3_becomeTold 22 = .ok (.getfield 9, 3) := by decide +kernel
theorem dX3_becomeTold_25 : decode cX3_becomeTold 25 = .ok (.iload_n 2, 1) := by decide +kernel
theorem dX3_becomeTold_26 : decode cX3_becomeTold 26 = .ok (.iaload, 1) := by decide +kernel
theorem dX3_becomeTold_27 : decode cX3_becomeTold 27 = .ok (.iastore, 1) := by decide +kernel
theorem dX3_becomeTold_28 : decode cX3_becomeTold 28 = .ok (.aload_n 0, 1) := by decide +kernel
theorem dX3_becomeTold_29 : decode cX3_becomeTold 29 = .ok (.getfield 15, 3) := by decide +kernel
theorem dX3_becomeTold_32 : decode cX3_becomeTold 32 = .ok (.iload_n 2, 1) := by decide +kernel
theorem dX3_becomeTold_33 : decode cX3_becomeTold 33 = .ok (.aload_n 1, 1) := by decide +kernel
theorem dX3_becomeTold_34 : decode cX3_becomeTold 34 = .ok (.getfield 15, 3) := by decide +kernel
theorem dX3_becomeTold_37 : decode cX3_becomeTold 37 = .ok (.iload_n 2, 1) := by decide +kernel
theorem dX3_becomeTold_38 : decode cX3_becomeTold 38 = .ok (.iaload, 1) := by decide +kernel
theorem dX3_becomeTold_39 : decode cX3_becomeTold 39 = .ok (.iastore, 1) := by decide +kernel
theorem dX3_becomeTold_40 : decode cX3_becomeTold 40 = .ok (.aload_n 0, 1) := by decide +kernel
theorem dX3_becomeTold_41 : decode cX3_becomeTold 41 = .ok (.getfield 18, 3) := by decide +kernel
theorem dX3_becomeTold_44 : decode cX3_becomeTold 44 = .ok (.iload_n 2, 1) := by decide +kernel
theorem dX3_becomeTold_45 : decode cX3_becomeTold 45 = .ok (.aload_n 1, 1) := by decide +kernel
theorem dX3_becomeTold_46 : decode cX3_becomeTold 46 = .ok (.getfield 18, 3) := by decide +kernel
theorem dX3_becomeTold_49 : decode cX3_becomeTold 49 = .ok (.iload_n 2, 1) := by decide +kernel
theorem dX3_becomeTold_50 : decode cX3_becomeTold 50 = .ok (.iaload, 1) := by decide +kernel
theorem dX3_becomeTold_51 : decode cX3_becomeTold 51 = .ok (.iastore, 1) := by decide +kernel
theorem dX3_becomeTold_52 : decode cX3_becomeTold 52 = .ok (.iinc 2 1, 3) := by decide +kernel
theorem dX3_becomeTold_55 : decode cX3_becomeTold 55 = .ok (.goto (-45), 3) := by decide +kernel
theorem dX3_becomeTold_58 : decode cX3_becomeTold 58 = .ok (.iconst 0, 1) := by decide +kernel
theorem dX3_becomeTold_59 : decode cX3_becomeTold 59 = .ok (.istore_n 2, 1) := by decide +kernel
theorem dX3_becomeTold_60 : decode cX3_becomeTold 60 = .ok (.iload_n 2, 1) := by decide +kernel
theorem dX3_becomeTold_61 : decode cX3_becomeTold 61 = .ok (.bipush 30, 2) := by decide +kernel
theorem dX3_becomeTold_63 : decode cX3_becomeTold 63 = .ok (.if_icmp .ge 21, 3) := by decide +kernel
theorem dX3_becomeTold_66 : decode cX3_becomeTold 66 = .ok (.aload_n 0, 1) := by decide +kernel
theorem dX3_becomeTold_67 : decode cX3_becomeTold 67 = .ok (.getfield 21, 3) := by decide +kernel
theorem dX3_becomeTold_70 : decode cX3_becomeTold 70 = .ok (.iload_n 2, 1) := by decide +kernel
theorem dX3_becomeTold_71 : decode cX3_becomeTold 71 = .ok (.aload_n 1, 1) := by decide +kernel
theorem dX3_becomeTold_72 : decode cX3_becomeTold 72 = .ok (.getfield 21, 3) := by decide +kernel
theorem dX3_becomeTold_75 : decode cX3_becomeTold 75 = .ok (.iload_n 2, 1) := by decide +kernel
theorem dX3_becomeTold_76 : decode cX3_becomeTold 76 = .ok (.iaload, 1) := by decide +kernel
theorem dX3_becomeTold_77 : decode cX3_becomeTold 77 = .ok (.iastore, 1) := by decide +kernel
theorem dX3_becomeTold_78 : decode cX3_becomeTold 78 = .ok (.iinc 2 1, 3) := by decide +kernel
theorem dX3_becomeTold_81 : decode cX3_becomeTold 81 = .ok (.goto (-21), 3) := by decide +kernel
theorem dX3_becomeTold_84 : decode cX3_becomeTold 84 = .ok (.iconst 0, 1) := by decide +kernel
theorem dX3_becomeTold_85 : decode cX3_becomeTold 85 = .ok (.istore_n 2, 1) := by decide +kernel
theorem dX3_becomeTold_86 : decode cX3_becomeTold 86 = .ok (.iload_n 2, 1) := by decide +kernel
theorem dX3_becomeTold_87 : decode cX3_becomeTold 87 = .ok (.bipush 10, 2) := by decide +kernel
theorem dX3_becomeTold_89 : decode cX3_becomeTold 89 = .ok (.if_icmp .ge 16, 3) := by decide +kernel
theorem dX3_becomeTold_92 : decode cX3_becomeTold 92 = .ok (.aload_n 0, 1) := by decide +kernel
theorem dX3_becomeTold_93 : decode cX3_becomeTold 93 = .ok (.getfield 24, 3) := by decide +kernel
theorem dX3_becomeTold_96 : decode cX3_becomeTold 96 = .ok (.iload_n 2, 1) := by decide +kernel
theorem dX3_becomeTold_97 : decode cX3_becomeTold 97 = .ok (.iconst 0, 1) := by decide +kernel
theorem dX3_becomeTold_98 : decode cX3_becomeTold 98 = .ok (.iastore, 1) := by decide +kernel
theorem dX3_becomeTold_99 : decode cX3_becomeTold 99 = .ok (.iinc 2 1, 3) := by decide +kernel
theorem dX3_becomeTold_102 : decode cX3_becomeTold 102 = .ok (.goto (-16), 3) := by decide +kernel
theorem dX3_becomeTold_105 : decode cX3_becomeTold 105 = .ok (.return_, 1) := by decide +kernel
set_option maxRecDepth 20000 in
theorem ggX3_become_X3_becomeTold : GoodIn wsX3_become wsX3_becomeTold := goodIn_r _ [8, 9, 10, 11, 12, 13, 1, 14, 15, 16, 17, 18, 19, 20, 21] (by decide +kernel) (by decide +kernel)
set_option maxRecDepth 20000 in
theorem gX3_become_X3_becomeTold : GoodIn wsX3_become (wsV RX3 31 RX3 yX3_becomeTold wsX3_becomeTold) := goodIn_app (goodIn_of _ (by decide +kernel)) ggX3_become_X3_becomeTold
theorem dX3_become_0 : decode cX3_become 0 = .ok (.aload_n 0, 1) := by decide +kernel
theorem dX3_become_1 : decode cX3_become 1 = .ok (.aload_n 1, 1) := by decide +kernel
theorem dX3_become_2 : decode cX3_become 2 = .ok (.invokevirtual 31, 3) := by decide +kernel
theorem dX3_become_5 : decode cX3_become 5 = .ok (.iconst 0, 1) := by decide +kernel
theorem dX3_become_6 : decode cX3_become 6 = .ok (.istore_n 2, 1) := by decide +kernel
theorem dX3_become_7 : decode cX3_become 7 = .ok (.iload_n 2, 1) := by decide +kernel
theorem dX3_become_8 : decode cX3_become 8 = .ok (.bipush 10, 2) := by decide +kernel
theorem dX3_become_10 : decode cX3_become 10 = .ok (.if_icmp .ge 21, 3) := by decide +kernel
theorem dX3_become_13 : decode cX3_become 13 = .ok (.aload_n 0, 1) := by decide +kernel
theorem dX3_become_14 : decode cX3_become 14 = .ok (.getfield 24, 3) := by decide +kernel
theorem dX3_become_17 : decode cX3_become 17 = .ok (.iload_n 2, 1) := by decide +kernel
theorem dX3_become_18 : decode cX3_become 18 = .ok (.aload_n 1, 1) := by decide +kernel
theorem dX3_become_19 : decode cX3_become 19 = .ok (.getfield 24, 3) := by decide +kernel
theorem dX3_become_22 : decode cX3_become 22 = .ok (.iload_n 2, 1) := by decide +kernel
theorem dX3_become_23 : decode cX3_become 23 = .ok (.iaload, 1) := by decide +kernel
theorem dX3_become_24 : decode cX3_become 24 = .ok (.iastore, 1) := by decide +kernel
theorem dX3_become_25 : decode cX3_become 25 = .ok (.iinc 2 1, 3) := by decide +kernel
theorem dX3_become_28 : decode cX3_become 28 = .ok (.goto (-21), 3) := by decide +kernel
theorem dX3_become_31 : decode cX3_become 31 = .ok (.aload_n 0, 1) := by decide +kernel
theorem dX3_become_32 : decode cX3_become 32 = .ok (.aload_n 1, 1) := by decide +kernel
theorem dX3_become_33 : decode cX3_become 33 = .ok (.getfield 35, 3) := by decide +kernel
theorem dX3_become_36 : decode cX3_become 36 = .ok (.putfield 35, 3) := by decide +kernel
theorem dX3_become_39 : decode cX3_become 39 = .ok (.aload_n 0, 1) := by decide +kernel
theorem dX3_become_40 : decode cX3_become 40 = .ok (.aload_n 1, 1) := by decide +kernel
theorem dX3_become_41 : decode cX3_become 41 = .ok (.getfield 38, 3) := by decide +kernel
theorem dX3_become_44 : decode cX3_become 44 = .ok (.putfield 38, 3) := by decide +kernel
theorem dX3_become_47 : decode cX3_become 47 = .ok (.return_, 1) := by decide +kernel
theorem dX3_draw_0 : decode cX3_draw 0 = .ok (.aload_n 0, 1) := by decide +kernel
theorem dX3_draw_1 : decode cX3_draw 1 = .ok (.aload_n 0, 1) := by decide +kernel
theorem dX3_draw_2 : decode cX3_draw 2 = .ok (.getfield 38, 3) := by decide +kernel
theorem dX3_draw_5 : decode cX3_draw 5 = .ok (.i2l, 1) := by decide +kernel
theorem dX3_draw_6 : decode cX3_draw 6 = .ok (.ldc2_w 41, 3) := by decide +kernel
theorem dX3_draw_9 : decode cX3_draw 9 = .ok (.lmul, 1) := by decide +kernel
theorem dX3_draw_10 : decode cX3_draw 10 = .ok (.ldc2_w 43, 3) := by decide +kernel
theorem dX3_draw_13 : decode cX3_draw 13 = .ok (.ladd, 1) := by decide +kernel
theorem dX3_draw_14 : decode cX3_draw 14 = .ok (.ldc2_w 45, 3) := by decide +kernel
theorem dX3_draw_17 : decode cX3_draw 17 = .ok (.land, 1) := by decide +kernel
theorem dX3_draw_18 : decode cX3_draw 18 = .ok (.l2i, 1) := by decide +kernel
theorem dX3_draw_19 : decode cX3_draw 19 = .ok (.putfield 38, 3) := by decide +kernel
theorem dX3_draw_22 : decode cX3_draw 22 = .ok (.iload_n 1, 1) := by decide +kernel
theorem dX3_draw_23 : decode cX3_draw 23 = .ok (.ifCond .le 15, 3) := by decide +kernel
theorem dX3_draw_26 : decode cX3_draw 26 = .ok (.aload_n 0, 1) := by decide +kernel
theorem dX3_draw_27 : decode cX3_draw 27 = .ok (.getfield 38, 3) := by decide +kernel
theorem dX3_draw_30 : decode cX3_draw 30 = .ok (.ldc 47, 2) := by decide +kernel
theorem dX3_draw_32 : decode cX3_draw 32 = .ok (.idiv, 1) := by decide +kernel
theorem dX3_draw_33 : decode cX3_draw 33 = .ok (.iload_n 1, 1) := by decide +kernel
theorem dX3_draw_34 : decode cX3_draw 34 = .ok (.irem, 1) := by decide +kernel
theorem dX3_draw_35 : decode cX3_draw 35 = .ok (.goto 4, 3) := by decide +kernel
theorem dX3_draw_38 : decode cX3_draw 38 = .ok (.iconst 0, 1) := by decide +kernel
theorem dX3_draw_39 : decode cX3_draw 39 = .ok (.ireturn, 1) := by decide +kernel
theorem dJ6_bitCount_0f7a4_0 : decode cJ6_bitCount_0f7a4 0 = .ok (.iload_n 0, 1) := by decide +kernel
theorem dJ6_bitCount_0f7a4_1 : decode cJ6_bitCount_0f7a4 1 = .ok (.iload_n 0, 1) := by decide +kernel
theorem dJ6_bitCount_0f7a4_2 : decode cJ6_bitCount_0f7a4 2 = .ok (.iconst 1, 1) := by decide +kernel
theorem dJ6_bitCount_0f7a4_3 : decode cJ6_bitCount_0f7a4 3 = .ok (.iushr, 1) := by decide +kernel
theorem dJ6_bitCount_0f7a4_4 : decode cJ6_bitCount_0f7a4 4 = .ok (.ldc_w 265, 3) := by decide +kernel
theorem dJ6_bitCount_0f7a4_7 : decode cJ6_bitCount_0f7a4 7 = .ok (.iand, 1) := by decide +kernel
theorem dJ6_bitCount_0f7a4_8 : decode cJ6_bitCount_0f7a4 8 = .ok (.isub, 1) := by decide +kernel
theorem dJ6_bitCount_0f7a4_9 : decode cJ6_bitCount_0f7a4 9 = .ok (.istore_n 0, 1) := by decide +kernel
theorem dJ6_bitCount_0f7a4_10 : decode cJ6_bitCount_0f7a4 10 = .ok (.iload_n 0, 1) := by decide +kernel
theorem dJ6_bitCount_0f7a4_11 : decode cJ6_bitCount_0f7a4 11 = .ok (.ldc_w 266, 3) := by decide +kernel
theorem dJ6_bitCount_0f7a4_14 : decode cJ6_bitCount_0f7a4 14 = .ok (.iand, 1) := by decide +kernel
theorem dJ6_bitCount_0f7a4_15 : decode cJ6_bitCount_0f7a4 15 = .ok (.iload_n 0, 1) := by decide +kernel
theorem dJ6_bitCount_0f7a4_16 : decode cJ6_bitCount_0f7a4 16 = .ok (.iconst 2, 1) := by decide +kernel
theorem dJ6_bitCount_0f7a4_17 : decode cJ6_bitCount_0f7a4 17 = .ok (.iushr, 1) := by decide +kernel
theorem dJ6_bitCount_0f7a4_18 : decode cJ6_bitCount_0f7a4 18 = .ok (.ldc_w 266, 3) := by decide +kernel
theorem dJ6_bitCount_0f7a4_21 : decode cJ6_bitCount_0f7a4 21 = .ok (.iand, 1) := by decide +kernel
theorem dJ6_bitCount_0f7a4_22 : decode cJ6_bitCount_0f7a4 22 = .ok (.iadd, 1) := by decide +kernel
theorem dJ6_bitCount_0f7a4_23 : decode cJ6_bitCount_0f7a4 23 = .ok (.istore_n 0, 1) := by decide +kernel
theorem dJ6_bitCount_0f7a4_24 : decode cJ6_bitCount_0f7a4 24 = .ok (.iload_n 0, 1) := by decide +kernel
theorem dJ6_bitCount_0f7a4_25 : decode cJ6_bitCount_0f7a4 25 = .ok (.iload_n 0, 1) := by decide +kernel
theorem dJ6_bitCount_0f7a4_26 : decode cJ6_bitCount_0f7a4 26 = .ok (.iconst 4, 1) := by decide +kernel
theorem dJ6_bitCount_0f7a4_27 : decode cJ6_bitCount_0f7a4 27 = .ok (.iushr, 1) := by decide +kernel
theorem dJ6_bitCount_0f7a4_28 : decode cJ6_bitCount_0f7a4 28 = .ok (.iadd, 1) := by decide +kernel
theorem dJ6_bitCount_0f7a4_29 : decode cJ6_bitCount_0f7a4 29 = .ok (.ldc_w 267, 3) := by decide +kernel
theorem dJ6_bitCount_0f7a4_32 : decode cJ6_bitCount_0f7a4 32 = .ok (.iand, 1) := by decide +kernel
theorem dJ6_bitCount_0f7a4_33 : decode cJ6_bitCount_0f7a4 33 = .ok (.istore_n 0, 1) := by decide +kernel
theorem dJ6_bitCount_0f7a4_34 : decode cJ6_bitCount_0f7a4 34 = .ok (.iload_n 0, 1) := by decide +kernel
theorem dJ6_bitCount_0f7a4_35 : decode cJ6_bitCount_0f7a4 35 = .ok (.iload_n 0, 1) := by decide +kernel
theorem dJ6_bitCount_0f7a4_36 : decode cJ6_bitCount_0f7a4 36 = .ok (.bipush 8, 2) := by decide +kernel
theorem dJ6_bitCount_0f7a4_38 : decode cJ6_bitCount_0f7a4 38 = .ok (.iushr, 1) := by decide +kernel
theorem dJ6_bitCount_0f7a4_39 : decode cJ6_bitCount_0f7a4 39 = .ok (.iadd, 1) := by decide +kernel
theorem dJ6_bitCount_0f7a4_40 : decode cJ6_bitCount_0f7a4 40 = .ok (.istore_n 0, 1) := by decide +kernel
theorem dJ6_bitCount_0f7a4_41 : decode cJ6_bitCount_0f7a4 41 = .ok (.iload_n 0, 1) := by decide +kernel
theorem dJ6_bitCount_0f7a4_42 : decode cJ6_bitCount_0f7a4 42 = .ok (.iload_n 0, 1) := by decide +kernel
theorem dJ6_bitCount_0f7a4_43 : decode cJ6_bitCount_0f7a4 43 = .ok (.bipush 16, 2) := by decide +kernel
theorem dJ6_bitCount_0f7a4_45 : decode cJ6_bitCount_0f7a4 45 = .ok (.iushr, 1) := by decide +kernel
theorem dJ6_bitCount_0f7a4_46 : decode cJ6_bitCount_0f7a4 46 = .ok (.iadd, 1) := by decide +kernel
theorem dJ6_bitCount_0f7a4_47 : decode cJ6_bitCount_0f7a4 47 = .ok (.istore_n 0, 1) := by decide +kernel
theorem dJ6_bitCount_0f7a4_48 : decode cJ6_bitCount_0f7a4 48 = .ok (.iload_n 0, 1) := by decide +kernel
theorem dJ6_bitCount_0f7a4_49 : decode cJ6_bitCount_0f7a4 49 = .ok (.bipush 63, 2) := by decide +kernel
theorem dJ6_bitCount_0f7a4_51 : decode cJ6_bitCount_0f7a4 51 = .ok (.iand, 1) := by decide +kernel
theorem dJ6_bitCount_0f7a4_52 : decode cJ6_bitCount_0f7a4 52 = .ok (.ireturn, 1) := by decide +kernel
theorem dJ9_abs_0f7a4_0 : decode cJ9_abs_0f7a4 0 = .ok (.iload_n 0, 1) := by decide +kernel
theorem dJ9_abs_0f7a4_1 : decode cJ9_abs_0f7a4 1 = .ok (.ifCond .ge 8, 3) := by decide +kernel
theorem dJ9_abs_0f7a4_4 : decode cJ9_abs_0f7a4 4 = .ok (.iload_n 0, 1) := by decide +kernel
theorem dJ9_abs_0f7a4_5 : decode cJ9_abs_0f7a4 5 = .ok (.ineg, 1) := by decide +kernel
theorem dJ9_abs_0f7a4_6 : decode cJ9_abs_0f7a4 6 = .ok (.goto 4, 3) := by decide +kernel
theorem dJ9_abs_0f7a4_9 : decode cJ9_abs_0f7a4 9 = .ok (.iload_n 0, 1) := by decide +kernel
theorem dJ9_abs_0f7a4_10 : decode cJ9_abs_0f7a4 10 = .ok (.ireturn, 1) := by decide +kernel
theorem dJ9_max_7cf53_0 : decode cJ9_max_7cf53 0 = .ok (.iload_n 0, 1) := by decide +kernel
theorem dJ9_max_7cf53_1 : decode cJ9_max_7cf53 1 = .ok (.iload_n 1, 1) := by decide +kernel
theorem dJ9_max_7cf53_2 : decode cJ9_max_7cf53 2 = .ok (.if_icmp .lt 7, 3) := by decide +kernel
theorem dJ9_max_7cf53_5 : decode cJ9_max_7cf53 5 = .ok (.iload_n 0, 1) := by decide +kernel
theorem dJ9_max_7cf53_6 : decode cJ9_max_7cf53 6 = .ok (.goto 4, 3) := by decide +kernel
theorem dJ9_max_7cf53_9 : decode cJ9_max_7cf53 9 = .ok (.iload_n 1, 1) := by decide +kernel
theorem dJ9_max_7cf53_10 : decode cJ9_max_7cf53 10 = .ok (.ireturn, 1) := by decide +kernel
set_option maxRecDepth 20000 in
theorem ggJ0_length_8abf5_J0_coder_7d493 : GoodIn wsJ0_length_8abf5 wsJ0_coder_7d493 := goodIn_r _ [6, 7, 8] (by decide +kernel) (by decide +kernel)
set_option maxRecDepth 20000 in
theorem gJ0_length_8abf5_J0_coder_7d493 : GoodIn wsJ0_length_8abf5 (wsV RJ0 335 RJ0 yJ0_coder_7d493 wsJ0_coder_7d493) := goodIn_app (goodIn_of _ (by decide +kernel)) ggJ0_length_8abf5_J0_coder_7d493
theorem dJ0_length_8abf5_0 : decode cJ0_length_8abf5 0 = .ok (.aload_n 0, 1) := by decide +kernel
theorem dJ0_length_8abf5_1 : decode cJ0_length_8abf5 1 = .ok (.getfield 9, 3) := by decide +kernel
theorem dJ0_length_8abf5_4 : decode cJ0_length_8abf5 4 = .ok (.arraylength, 1) := by decide +kernel
theorem dJ0_length_8abf5_5 : decode cJ0_length_8abf5 5 = .ok (.aload_n 0, 1) := by decide +kernel
theorem dJ0_length_8abf5_6 : decode cJ0_length_8abf5 6 = .ok (.invokevirtual 335, 3) := by decide +kernel
theorem dJ0_length_8abf5_9 : decode cJ0_length_8abf5 9 = .ok (.ishr, 1) := by decide +kernel
theorem dJ0_length_8abf5_10 : decode cJ0_length_8abf5 10 = .ok (.ireturn, 1) := by decide +kernel
set_option maxRecDepth 20000 in
theorem ggJ0_charAt_5068e_J0_isLatin1_aae02 : GoodIn wsJ0_charAt_5068e wsJ0_isLatin1_aae02 := goodIn_r _ [6, 7, 8] (by decide +kernel) (by decide +kernel)
set_option maxRecDepth 20000 in
theorem gJ0_charAt_5068e_J0_isLatin1_aae02 : GoodIn wsJ0_charAt_5068e (wsV RJ0 492 RJ0 yJ0_isLatin1_aae02 wsJ0_isLatin1_aae02) := goodIn_app (goodIn_of _ (by decide +kernel)) ggJ0_charAt_5068e_J0_isLatin1_aae02
set_option maxRecDepth 20000 in
theorem ggJ0_charAt_5068e_J1_charAt_3b067 : GoodIn wsJ0_charAt_5068e wsJ1_charAt_3b067 := goodIn_r _ [12, 13, 14, 5, 15, 16, 17, 18, 19, 20] (by decide +kernel) (by decide +kernel)
set_option maxRecDepth 20000 in
theorem gJ0_charAt_5068e_J1_charAt_3b067 : GoodIn wsJ0_charAt_5068e (va_wsS RJ0 495 yJ1_charAt_3b067 wsJ1_charAt_3b067) := goodIn_app (goodIn_of _ (by decide +kernel)) ggJ0_charAt_5068e_J1_charAt_3b067
set_option maxRecDepth 20000 in
theorem ggJ0_charAt_5068e_J2_charAt_3b067 : GoodIn wsJ0_charAt_5068e wsJ2_charAt_3b067 := goodIn_r _ [24, 25, 26, 23, 27, 28, 29, 30, 31, 14, 5, 15, 16, 17, 18, 19, 20, 32, 33, 34, 35, 36, 37] (by decide +kernel) (by decide +kernel)
set_option maxRecDepth 20000 in
theorem gJ0_charAt_5068e_J2_charAt_3b067 : GoodIn wsJ0_charAt_5068e (va_wsS RJ0 498 yJ2_charAt_3b067 wsJ2_charAt_3b067) := goodIn_app (goodIn_of _ (by decide +kernel)) ggJ0_charAt_5068e_J2_charAt_3b067
theorem dJ0_charAt_5068e_0 : decode cJ0_charAt_5068e 0 = .ok (.aload_n 0, 1) := by decide +kernel
theorem dJ0_charAt_5068e_1 : decode cJ0_charAt_5068e 1 = .ok (.invokevirtual 492, 3) := by decide +kernel
theorem dJ0_charAt_5068e_4 : decode cJ0_charAt_5068e 4 = .ok (.ifCond .eq 12, 3) := by decide +kernel
theorem dJ0_charAt_5068e_7 : decode cJ0_charAt_5068e 7 = .ok (.aload_n 0, 1) := by decide +kernel
theorem dJ0_charAt_5068e_8 : decode cJ0_charAt_5068e 8 = .ok (.getfield 9, 3) := by decide +kernel
theorem dJ0_charAt_5068e_11 : decode cJ0_charAt_5068e 11 = .ok (.iload_n 1, 1) := by decide +kernel
theorem dJ0_charAt_5068e_12 : decode cJ0_charAt_5068e 12 = .ok (.invokestatic 495, 3) := by decide +kernel
theorem dJ0_charAt_5068e_15 : decode cJ0_charAt_5068e 15 = .ok (.ireturn, 1) := by decide +kernel
theorem dJ0_charAt_5068e_16 : decode cJ0_charAt_5068e 16 = .ok (.aload_n 0, 1) := by decide +kernel
theorem dJ0_charAt_5068e_17 : decode cJ0_charAt_5068e 17 = .ok (.getfield 9, 3) := by decide +kernel
theorem dJ0_charAt_5068e_20 : decode cJ0_charAt_5068e 20 = .ok (.iload_n 1, 1) := by decide +kernel
theorem dJ0_charAt_5068e_21 : decode cJ0_charAt_5068e 21 = .ok (.invokestatic 498, 3) := by decide +kernel
theorem dJ0_charAt_5068e_24 : decode cJ0_charAt_5068e 24 = .ok (.ireturn, 1) := by decide +kernel
theorem dJ0_coder_7d493_0 : decode cJ0_coder_7d493 0 = .ok (.getstatic 38, 3) := by decide +kernel
theorem dJ0_coder_7d493_3 : decode cJ0_coder_7d493 3 = .ok (.ifCond .eq 10, 3) := by decide +kernel
theorem dJ0_coder_7d493_6 : decode cJ0_coder_7d493 6 = .ok (.aload_n 0, 1) := by decide +kernel
theorem dJ0_coder_7d493_7 : decode cJ0_coder_7d493 7 = .ok (.getfield 15, 3) := by decide +kernel
theorem dJ0_coder_7d493_10 : decode cJ0_coder_7d493 10 = .ok (.goto 4, 3) := by decide +kernel
theorem dJ0_coder_7d493_13 : decode cJ0_coder_7d493 13 = .ok (.iconst 1, 1) := by decide +kernel
theorem dJ0_coder_7d493_14 : decode cJ0_coder_7d493 14 = .ok (.ireturn, 1) := by decide +kernel
theorem dJ0_isLatin1_aae02_0 : decode cJ0_isLatin1_aae02 0 = .ok (.getstatic 38, 3) := by decide +kernel
theorem dJ0_isLatin1_aae02_3 : decode cJ0_isLatin1_aae02 3 = .ok (.ifCond .eq 14, 3) := by decide +kernel
theorem dJ0_isLatin1_aae02_6 : decode cJ0_isLatin1_aae02 6 = .ok (.aload_n 0, 1) := by decide +kernel
theorem dJ0_isLatin1_aae02_7 : decode cJ0_isLatin1_aae02 7 = .ok (.getfield 15, 3) := by decide +kernel
theorem dJ0_isLatin1_aae02_10 : decode cJ0_isLatin1_aae02 10 = .ok (.ifCond .ne 7, 3) := by decide +kernel
theorem dJ0_isLatin1_aae02_13 : decode cJ0_isLatin1_aae02 13 = .ok (.iconst 1, 1) := by decide +kernel
theorem dJ0_isLatin1_aae02_14 : decode cJ0_isLatin1_aae02 14 = .ok (.goto 4, 3) := by decide +kernel
theorem dJ0_isLatin1_aae02_17 : decode cJ0_isLatin1_aae02 17 = .ok (.iconst 0, 1) := by decide +kernel
theorem dJ0_isLatin1_aae02_18 : decode cJ0_isLatin1_aae02 18 = .ok (.ireturn, 1) := by decide +kernel
set_option maxRecDepth 20000 in
theorem ggJ0_checkIndex_df160_J3_checkIndex_8e157 : GoodIn wsJ0_checkIndex_df160 wsJ3_checkIndex_8e157 := goodIn_r _ [5] (by decide +kernel) (by decide +kernel)
set_option maxRecDepth 20000 in
theorem gJ0_checkIndex_df160_J3_checkIndex_8e157 : GoodIn wsJ0_checkIndex_df160 (va_wsS RJ0 1059 yJ3_checkIndex_8e157 wsJ3_checkIndex_8e157) := goodIn_app (goodIn_of _ (by decide +kernel)) ggJ0_checkIndex_df160_J3_checkIndex_8e157
theorem dJ0_checkIndex_df160_0 : decode cJ0_checkIndex_df160 0 = .ok (.iload_n 0, 1) := by decide +kernel
theorem dJ0_checkIndex_df160_1 : decode cJ0_checkIndex_df160 1 = .ok (.iload_n 1, 1) := by decide +kernel
theorem dJ0_checkIndex_df160_2 : decode cJ0_checkIndex_df160 2 = .ok (.getstatic 1053, 3) := by decide +kernel
theorem dJ0_checkIndex_df160_5 : decode cJ0_checkIndex_df160 5 = .ok (.invokestatic 1059, 3) := by decide +kernel
theorem dJ0_checkIndex_df160_8 : decode cJ0_checkIndex_df160 8 = .ok (.pop, 1) := by decide +kernel
theorem dJ0_checkIndex_df160_9 : decode cJ0_checkIndex_df160 9 = .ok (.return_, 1) := by decide +kernel
set_option maxRecDepth 20000 in
theorem ggJ1_charAt_3b067_J0_checkIndex_df160 : GoodIn wsJ1_charAt_3b067 wsJ0_checkIndex_df160 := goodIn_r _ [4, 5, 6, 7, 8, 9] (by decide +kernel) (by decide +kernel)
set_option maxRecDepth 20000 in
theorem gJ1_charAt_3b067_J0_checkIndex_df160 : GoodIn wsJ1_charAt_3b067 (va_wsS RJ1 9 yJ0_checkIndex_df160 wsJ0_checkIndex_df160) := goodIn_app (goodIn_of _ (by decide +kernel)) ggJ1_charAt_3b067_J0_checkIndex_df160
theorem dJ1_charAt_3b067_0 : decode cJ1_charAt_3b067 0 = .ok (.iload_n 1, 1) := by decide +kernel
theorem dJ1_charAt_3b067_1 : decode cJ1_charAt_3b067 1 = .ok (.aload_n 0, 1) := by decide +kernel
theorem dJ1_charAt_3b067_2 : decode cJ1_charAt_3b067 2 = .ok (.arraylength, 1) := by decide +kernel
theorem dJ1_charAt_3b067_3 : decode cJ1_charAt_3b067 3 = .ok (.invokestatic 9, 3) := by decide +kernel
theorem dJ1_charAt_3b067_6 : decode cJ1_charAt_3b067 6 = .ok (.aload_n 0, 1) := by decide +kernel
theorem dJ1_charAt_3b067_7 : decode cJ1_charAt_3b067 7 = .ok (.iload_n 1, 1) := by decide +kernel
theorem dJ1_charAt_3b067_8 : decode cJ1_charAt_3b067 8 = .ok (.baload, 1) := by decide +kernel
theorem dJ1_charAt_3b067_9 : decode cJ1_charAt_3b067 9 = .ok (.sipush 255, 3) := by decide +kernel
theorem dJ1_charAt_3b067_12 : decode cJ1_charAt_3b067 12 = .ok (.iand, 1) := by decide +kernel
theorem dJ1_charAt_3b067_13 : decode cJ1_charAt_3b067 13 = .ok (.i2c, 1) := by decide +kernel
theorem dJ1_charAt_3b067_14 : decode cJ1_charAt_3b067 14 = .ok (.ireturn, 1) := by decide +kernel
set_option maxRecDepth 20000 in
theorem ggJ2_getChar_3b067_J2_length_9d52b : GoodIn wsJ2_getChar_3b067 wsJ2_length_9d52b := goodIn_r _ [7] (by decide +kernel) (by decide +kernel)
set_option maxRecDepth 20000 in
theorem gJ2_getChar_3b067_J2_length_9d52b : GoodIn wsJ2_getChar_3b067 (va_wsS RJ2 48 yJ2_length_9d52b wsJ2_length_9d52b) := goodIn_app (goodIn_of _ (by decide +kernel)) ggJ2_getChar_3b067_J2_length_9d52b
theorem dJ2_getChar_3b067_0 : decode cJ2_getChar_3b067 0 = .ok (.getstatic 44, 3) := by decide +kernel
theorem dJ2_getChar_3b067_3 : decode cJ2_getChar_3b067 3 = .ok (.ifCond .ne 25, 3) := by decide +kernel
theorem dJ2_getChar_3b067_6 : decode cJ2_getChar_3b067 6 = .ok (.iload_n 1, 1) := by decide +kernel
theorem dJ2_getChar_3b067_7 : decode cJ2_getChar_3b067 7 = .ok (.ifCond .lt 11, 3) := by decide +kernel
theorem dJ2_getChar_3b067_10 : decode cJ2_getChar_3b067 10 = .ok (.iload_n 1, 1) := by decide +kernel
theorem dJ2_getChar_3b067_11 : decode cJ2_getChar_3b067 11 = .ok (.aload_n 0, 1) := by decide +kernel
theorem dJ2_getChar_3b067_12 : decode cJ2_getChar_3b067 12 = .ok (.invokestatic 48, 3) := by decide +kernel
theorem dJ2_getChar_3b067_15 : decode cJ2_getChar_3b067 15 = .ok (.if_icmp .lt 13, 3) := by decide +kernel
theorem dJ2_getChar_3b067_18 : decode cJ2_getChar_3b067 18 = .ok (.new 52, 3) := by decide +kernel
theorem dJ2_getChar_3b067_21 : decode cJ2_getChar_3b067 21 = .ok (.dup, 1) := by decide +kernel
theorem dJ2_getChar_3b067_22 : decode cJ2_getChar_3b067 22 = .ok (.ldc 54, 2) := by decide +kernel
theorem dJ2_getChar_3b067_24 : decode cJ2_getChar_3b067 24 = .ok (.invokespecial 56, 3) := by decide +kernel
theorem dJ2_getChar_3b067_27 : decode cJ2_getChar_3b067 27 = .ok (.athrow, 1) := by decide +kernel
theorem dJ2_getChar_3b067_28 : decode cJ2_getChar_3b067 28 = .ok (.iload_n 1, 1) := by decide +kernel
theorem dJ2_getChar_3b067_29 : decode cJ2_getChar_3b067 29 = .ok (.iconst 1, 1) := by decide +kernel
theorem dJ2_getChar_3b067_30 : decode cJ2_getChar_3b067 30 = .ok (.ishl, 1) := by decide +kernel
theorem dJ2_getChar_3b067_31 : decode cJ2_getChar_3b067 31 = .ok (.istore_n 1, 1) := by decide +kernel
theorem dJ2_getChar_3b067_32 : decode cJ2_getChar_3b067 32 = .ok (.aload_n 0, 1) := by decide +kernel
theorem dJ2_getChar_3b067_33 : decode cJ2_getChar_3b067 33 = .ok (.iload_n 1, 1) := by decide +kernel
theorem dJ2_getChar_3b067_34 : decode cJ2_getChar_3b067 34 = .ok (.iinc 1 1, 3) := by decide +kernel
theorem dJ2_getChar_3b067_37 : decode cJ2_getChar_3b067 37 = .ok (.baload, 1) := by decide +kernel
theorem dJ2_getChar_3b067_38 : decode cJ2_getChar_3b067 38 = .ok (.sipush 255, 3) := by decide +kernel
theorem dJ2_getChar_3b067_41 : decode cJ2_getChar_3b067 41 = .ok (.iand, 1) := by decide +kernel
theorem dJ2_getChar_3b067_42 : decode cJ2_getChar_3b067 42 = .ok (.getstatic 59, 3) := by decide +kernel
theorem dJ2_getChar_3b067_45 : decode cJ2_getChar_3b067 45 = .ok (.ishl, 1) := by decide +kernel
theorem dJ2_getChar_3b067_46 : decode cJ2_getChar_3b067 46 = .ok (.aload_n 0, 1) := by decide +kernel
theorem dJ2_getChar_3b067_47 : decode cJ2_getChar_3b067 47 = .ok (.iload_n 1, 1) := by decide +kernel
theorem dJ2_getChar_3b067_48 : decode cJ2_getChar_3b067 48 = .ok (.baload, 1) := by decide +kernel
theorem dJ2_getChar_3b067_49 : decode cJ2_getChar_3b067 49 = .ok (.sipush 255, 3) := by decide +kernel
theorem dJ2_getChar_3b067_52 : decode cJ2_getChar_3b067 52 = .ok (.iand, 1) := by decide +kernel
theorem dJ2_getChar_3b067_53 : decode cJ2_getChar_3b067 53 = .ok (.getstatic 63, 3) := by decide +kernel
theorem dJ2_getChar_3b067_56 : decode cJ2_getChar_3b067 56 = .ok (.ishl, 1) := by decide +kernel
theorem dJ2_getChar_3b067_57 : decode cJ2_getChar_3b067 57 = .ok (.ior, 1) := by decide +kernel
theorem dJ2_getChar_3b067_58 : decode cJ2_getChar_3b067 58 = .ok (.i2c, 1) := by decide +kernel
theorem dJ2_getChar_3b067_59 : decode cJ2_getChar_3b067 59 = .ok (.ireturn, 1) := by decide +kernel
theorem dJ2_length_9d52b_0 : decode cJ2_length_9d52b 0 = .ok (.aload_n 0, 1) := by decide +kernel
theorem dJ2_length_9d52b_1 : decode cJ2_length_9d52b 1 = .ok (.arraylength, 1) := by decide +kernel
theorem dJ2_length_9d52b_2 : decode cJ2_length_9d52b 2 = .ok (.iconst 1, 1) := by decide +kernel
theorem dJ2_length_9d52b_3 : decode cJ2_length_9d52b 3 = .ok (.ishr, 1) := by decide +kernel
theorem dJ2_length_9d52b_4 : decode cJ2_length_9d52b 4 = .ok (.ireturn, 1) := by decide +kernel
set_option maxRecDepth 20000 in
theorem ggJ2_charAt_3b067_J2_checkIndex_2214a : GoodIn wsJ2_charAt_3b067 wsJ2_checkIndex_2214a := goodIn_r _ [4, 5, 6, 3, 7, 8, 9, 10, 11, 12, 13, 14, 15, 16] (by decide +kernel) (by decide +kernel)
set_option maxRecDepth 20000 in
theorem gJ2_charAt_3b067_J2_checkIndex_2214a : GoodIn wsJ2_charAt_3b067 (va_wsS RJ2 67 yJ2_checkIndex_2214a wsJ2_checkIndex_2214a) := goodIn_app (goodIn_of _ (by decide +kernel)) ggJ2_charAt_3b067_J2_checkIndex_2214a
set_option maxRecDepth 20000 in
theorem ggJ2_charAt_3b067_J2_getChar_3b067 : GoodIn wsJ2_charAt_3b067 wsJ2_getChar_3b067 := goodIn_r _ [19, 20, 21, 22, 5, 6, 3, 7] (by decide +kernel) (by decide +kernel)
set_option maxRecDepth 20000 in
theorem gJ2_charAt_3b067_J2_getChar_3b067 : GoodIn wsJ2_charAt_3b067 (va_wsS RJ2 71 yJ2_getChar_3b067 wsJ2_getChar_3b067) := goodIn_app (goodIn_of _ (by decide +kernel)) ggJ2_charAt_3b067_J2_getChar_3b067
theorem dJ2_charAt_3b067_0 : decode cJ2_charAt_3b067 0 = .ok (.iload_n 1, 1) := by decide +kernel
theorem dJ2_charAt_3b067_1 : decode cJ2_charAt_3b067 1 = .ok (.aload_n 0, 1) := by decide +kernel
theorem dJ2_charAt_3b067_2 : decode cJ2_charAt_3b067 2 = .ok (.invokestatic 67, 3) := by decide +kernel
theorem dJ2_charAt_3b067_5 : decode cJ2_charAt_3b067 5 = .ok (.aload_n 0, 1) := by decide +kernel
theorem dJ2_charAt_3b067_6 : decode cJ2_charAt_3b067 6 = .ok (.iload_n 1, 1) := by decide +kernel
theorem dJ2_charAt_3b067_7 : decode cJ2_charAt_3b067 7 = .ok (.invokestatic 71, 3) := by decide +kernel
theorem dJ2_charAt_3b067_10 : decode cJ2_charAt_3b067 10 = .ok (.ireturn, 1) := by decide +kernel
set_option maxRecDepth 20000 in
theorem ggJ2_checkIndex_2214a_J2_length_9d52b : GoodIn wsJ2_checkIndex_2214a wsJ2_length_9d52b := goodIn_r _ [4] (by decide +kernel) (by decide +kernel)
set_option maxRecDepth 20000 in
theorem gJ2_checkIndex_2214a_J2_length_9d52b : GoodIn wsJ2_checkIndex_2214a (va_wsS RJ2 48 yJ2_length_9d52b wsJ2_length_9d52b) := goodIn_app (goodIn_of _ (by decide +kernel)) ggJ2_checkIndex_2214a_J2_length_9d52b
set_option maxRecDepth 20000 in
theorem ggJ2_checkIndex_2214a_J0_checkIndex_df160 : GoodIn wsJ2_checkIndex_2214a wsJ0_checkIndex_df160 := goodIn_r _ [8, 9, 10, 11, 12, 13] (by decide +kernel) (by decide +kernel)
set_option maxRecDepth 20000 in
theorem gJ2_checkIndex_2214a_J0_checkIndex_df160 : GoodIn wsJ2_checkIndex_2214a (va_wsS RJ2 414 yJ0_checkIndex_df160 wsJ0_checkIndex_df160) := goodIn_app (goodIn_of _ (by decide +kernel)) ggJ2_checkIndex_2214a_J0_checkIndex_df160
theorem dJ2_checkIndex_2214a_0 : decode cJ2_checkIndex_2214a 0 = .ok (.iload_n 0, 1) := by decide +kernel
theorem dJ2_checkIndex_2214a_1 : decode cJ2_checkIndex_2214a 1 = .ok (.aload_n 1, 1) := by decide +kernel
theorem dJ2_checkIndex_2214a_2 : decode cJ2_checkIndex_2214a 2 = .ok (.invokestatic 48, 3) := by decide +kernel
theorem dJ2_checkIndex_2214a_5 : decode cJ2_checkIndex_2214a 5 = .ok (.invokestatic 414, 3) := by decide +kernel
theorem dJ2_checkIndex_2214a_8 : decode cJ2_checkIndex_2214a 8 = .ok (.return_, 1) := by decide +kernel
theorem dJ3_checkIndex_8e157_0 : decode cJ3_checkIndex_8e157 0 = .ok (.iload_n 0, 1) := by decide +kernel
theorem dJ3_checkIndex_8e157_1 : decode cJ3_checkIndex_8e157 1 = .ok (.ifCond .lt 8, 3) := by decide +kernel
theorem dJ3_checkIndex_8e157_4 : decode cJ3_checkIndex_8e157 4 = .ok (.iload_n 0, 1) := by decide +kernel
theorem dJ3_checkIndex_8e157_5 : decode cJ3_checkIndex_8e157 5 = .ok (.iload_n 1, 1) := by decide +kernel
theorem dJ3_checkIndex_8e157_6 : decode cJ3_checkIndex_8e157 6 = .ok (.if_icmp .lt 10, 3) := by decide +kernel
theorem dJ3_checkIndex_8e157_9 : decode cJ3_checkIndex_8e157 9 = .ok (.aload_n 2, 1) := by decide +kernel
theorem dJ3_checkIndex_8e157_10 : decode cJ3_checkIndex_8e157 10 = .ok (.iload_n 0, 1) := by decide +kernel
theorem dJ3_checkIndex_8e157_11 : decode cJ3_checkIndex_8e157 11 = .ok (.iload_n 1, 1) := by decide +kernel
theorem dJ3_checkIndex_8e157_12 : decode cJ3_checkIndex_8e157 12 = .ok (.invokestatic 95, 3) := by decide +kernel
theorem dJ3_checkIndex_8e157_15 : decode cJ3_checkIndex_8e157 15 = .ok (.athrow, 1) := by decide +kernel
theorem dJ3_checkIndex_8e157_16 : decode cJ3_checkIndex_8e157 16 = .ok (.iload_n 0, 1) := by decide +kernel
theorem dJ3_checkIndex_8e157_17 : decode cJ3_checkIndex_8e157 17 = .ok (.ireturn, 1) := by decide +kernel
