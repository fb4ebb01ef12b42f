set_option maxRecDepth 20000 in
theorem ggX5_init_X1_init : GoodIn wsX5_init wsX1_init := goodIn_r _ [16, 17, 2, 3, 12, 18, 19, 20, 21, 30, 31, 32, 33, 34, 35] (by decide +kernel) (by decide +kernel)
set_option maxRecDepth 20000 in
theorem gX5_init_X1_init_n11 : GoodIn wsX5_init (wsX1_init) := ggX5_init_X1_init
set_option maxRecDepth 20000 in
theorem ggX5_init_X3_init : GoodIn wsX5_init wsX3_init := goodIn_r _ [23, 24, 2, 3, 12, 25, 26, 27, 28, 29, 40, 41, 42, 43, 44, 45, 46, 47] (by decide +kernel) (by decide +kernel)
set_option maxRecDepth 20000 in
theorem gX5_init_X3_init_n20 : GoodIn wsX5_init (wsX3_init) := ggX5_init_X3_init
theorem dX5_init_0 : decode cX5_init 0 = .ok (.aload_n 0, 1) := by decide +kernel
theorem dX5_init_1 : decode cX5_init 1 = .ok (.invokespecial 3, 3) := by decide +kernel
theorem dX5_init_4 : decode cX5_init 4 = .ok (.aload_n 0, 1) := by decide +kernel
theorem dX5_init_5 : decode cX5_init 5 = .ok (.new 9, 3) := by decide +kernel
theorem dX5_init_8 : decode cX5_init 8 = .ok (.dup, 1) := by decide +kernel
theorem dX5_init_9 : decode cX5_init 9 = .ok (.invokespecial 11, 3) := by decide +kernel
theorem dX5_init_12 : decode cX5_init 12 = .ok (.putfield 12, 3) := by decide +kernel
theorem dX5_init_15 : decode cX5_init 15 = .ok (.aload_n 0, 1) := by decide +kernel
theorem dX5_init_16 : decode cX5_init 16 = .ok (.new 18, 3) := by decide +kernel
theorem dX5_init_19 : decode cX5_init 19 = .ok (.dup, 1) := by decide +kernel
theorem dX5_init_20 : decode cX5_init 20 = .ok (.invokespecial 20, 3) := by decide +kernel
theorem dX5_init_23 : decode cX5_init 23 = .ok (.putfield 21, 3) := by decide +kernel
theorem dX5_init_26 : decode cX5_init 26 = .ok (.aload_n 0, 1) := by decide +kernel
theorem dX5_init_27 : decode cX5_init 27 = .ok (.bipush 8, 2) := by decide +kernel
theorem dX5_init_29 : decode cX5_init 29 = .ok (.newarray .int, 2) := by decide +kernel
theorem dX5_init_31 : decode cX5_init 31 = .ok (.putfield 25, 3) := by decide +kernel
theorem dX5_init_34 : decode cX5_init 34 = .ok (.aload_n 0, 1) := by decide +kernel
theorem dX5_init_35 : decode cX5_init 35 = .ok (.bipush 8, 2) := by decide +kernel
theorem dX5_init_37 : decode cX5_init 37 = .ok (.newarray .int, 2) := by decide +kernel
theorem dX5_init_39 : decode cX5_init 39 = .ok (.putfield 29, 3) := by decide +kernel
theorem dX5_init_42 : decode cX5_init 42 = .ok (.return_, 1) := by decide +kernel
theorem dX5_clear_0 : decode cX5_clear 0 = .ok (.aload_n 0, 1) := by decide +kernel
theorem dX5_clear_1 : decode cX5_clear 1 = .ok (.getfield 12, 3) := by decide +kernel
theorem dX5_clear_4 : decode cX5_clear 4 = .ok (.iconst 0, 1) := by decide +kernel
theorem dX5_clear_5 : decode cX5_clear 5 = .ok (.putfield 32, 3) := by decide +kernel
theorem dX5_clear_8 : decode cX5_clear 8 = .ok (.aload_n 0, 1) := by decide +kernel
theorem dX5_clear_9 : decode cX5_clear 9 = .ok (.getfield 12, 3) := by decide +kernel
theorem dX5_clear_12 : decode cX5_clear 12 = .ok (.iconst 0, 1) := by decide +kernel
theorem dX5_clear_13 : decode cX5_clear 13 = .ok (.putfield 36, 3) := by decide +kernel
theorem dX5_clear_16 : decode cX5_clear 16 = .ok (.aload_n 0, 1) := by decide +kernel
theorem dX5_clear_17 : decode cX5_clear 17 = .ok (.getfield 21, 3) := by decide +kernel
theorem dX5_clear_20 : decode cX5_clear 20 = .ok (.iconst 0, 1) := by decide +kernel
theorem dX5_clear_21 : decode cX5_clear 21 = .ok (.putfield 39, 3) := by decide +kernel
theorem dX5_clear_24 : decode cX5_clear 24 = .ok (.return_, 1) := by decide +kernel
set_option maxRecDepth 20000 in
theorem ggX5_becomeTold_X1_become : GoodIn wsX5_becomeTold wsX1_become := goodIn_r _ [7, 8, 9, 10, 11, 12, 13, 29, 30, 31, 32, 33, 34] (by decide +kernel) (by decide +kernel)
set_option maxRecDepth 20000 in
theorem gX5_becomeTold_X1_become : GoodIn wsX5_becomeTold (wsV RX5 42 RX1 yX1_become wsX1_become) := goodIn_app (goodIn_of _ (by decide +kernel)) ggX5_becomeTold_X1_become
set_option maxRecDepth 20000 in
theorem ggX5_becomeTold_X3_becomeTold : GoodIn wsX5_becomeTold wsX3_becomeTold := goodIn_r _ [18, 19, 20, 21, 22, 23, 24, 35, 36, 37, 38, 39, 40, 41, 42] (by decide +kernel) (by decide +kernel)
set_option maxRecDepth 20000 in
theorem gX5_becomeTold_X3_becomeTold : GoodIn wsX5_becomeTold (wsV RX5 46 RX3 yX3_becomeTold wsX3_becomeTold) := goodIn_app (goodIn_of _ (by decide +kernel)) ggX5_becomeTold_X3_becomeTold
theorem dX5_becomeTold_0 : decode cX5_becomeTold 0 = .ok (.aload_n 0, 1) := by decide +kernel
theorem dX5_becomeTold_1 : decode cX5_becomeTold 1 = .ok (.getfield 12, 3) := by decide +kernel
theorem dX5_becomeTold_4 : decode cX5_becomeTold 4 = .ok (.aload_n 1, 1) := by decide +kernel
theorem dX5_becomeTold_5 : decode cX5_becomeTold 5 = .ok (.getfield 12, 3) := by decide +kernel
theorem dX5_becomeTold_8 : decode cX5_becomeTold 8 = .ok (.invokevirtual 42, 3) := by decide +kernel
theorem dX5_becomeTold_11 : decode cX5_becomeTold 11 = .ok (.aload_n 0, 1) := by decide +kernel
theorem dX5_becomeTold_12 : decode cX5_becomeTold 12 = .ok (.getfield 21, 3) := by decide +kernel
theorem dX5_becomeTold_15 : decode cX5_becomeTold 15 = .ok (.aload_n 1, 1) := by decide +kernel
theorem dX5_becomeTold_16 : decode cX5_becomeTold 16 = .ok (.getfield 21, 3) := by decide +kernel
theorem dX5_becomeTold_19 : decode cX5_becomeTold 19 = .ok (.invokevirtual 46, 3) := by decide +kernel
theorem dX5_becomeTold_22 : decode cX5_becomeTold 22 = .ok (.return_, 1) := by decide +kernel
theorem dX5_allWorn_0 : decode cX5_allWorn 0 = .ok (.iconst 0, 1) := by decide +kernel
theorem dX5_allWorn_1 : decode cX5_allWorn 1 = .ok (.istore_n 1, 1) := by decide +kernel
theorem dX5_allWorn_2 : decode cX5_allWorn 2 = .ok (.iconst 0, 1) := by decide +kernel
theorem dX5_allWorn_3 : decode cX5_allWorn 3 = .ok (.istore_n 2, 1) := by decide +kernel
theorem dX5_allWorn_4 : decode cX5_allWorn 4 = .ok (.iload_n 2, 1) := by decide +kernel
theorem dX5_allWorn_5 : decode cX5_allWorn 5 = .ok (.aload_n 0, 1) := by decide +kernel
theorem dX5_allWorn_6 : decode cX5_allWorn 6 = .ok (.getfield 12, 3) := by decide +kernel
theorem dX5_allWorn_9 : decode cX5_allWorn 9 = .ok (.getfield 36, 3) := by decide +kernel
theorem dX5_allWorn_12 : decode cX5_allWorn 12 = .ok (.if_icmp .ge 21, 3) := by decide +kernel
theorem dX5_allWorn_15 : decode cX5_allWorn 15 = .ok (.iload_n 1, 1) := by decide +kernel
theorem dX5_allWorn_16 : decode cX5_allWorn 16 = .ok (.aload_n 0, 1) := by decide +kernel
theorem dX5_allWorn_17 : decode cX5_allWorn 17 = .ok (.getfield 21, 3) := by decide +kernel
theorem dX5_allWorn_20 : decode cX5_allWorn 20 = .ok (.getfield 50, 3) := by decide +kernel
theorem dX5_allWorn_23 : decode cX5_allWorn 23 = .ok (.iload_n 2, 1) := by decide +kernel
theorem dX5_allWorn_24 : decode cX5_allWorn 24 = .ok (.iaload, 1) := by decide +kernel
theorem dX5_allWorn_25 : decode cX5_allWorn 25 = .ok (.iadd, 1) := by decide +kernel
theorem dX5_allWorn_26 : decode cX5_allWorn 26 = .ok (.istore_n 1, 1) := by decide +kernel
theorem dX5_allWorn_27 : decode cX5_allWorn 27 = .ok (.iinc 2 1, 3) := by decide +kernel
theorem dX5_allWorn_30 : decode cX5_allWorn 30 = .ok (.goto (-26), 3) := by decide +kernel
theorem dX5_allWorn_33 : decode cX5_allWorn 33 = .ok (.iload_n 1, 1) := by decide +kernel
theorem dX5_allWorn_34 : decode cX5_allWorn 34 = .ok (.ireturn, 1) := by decide +kernel
set_option maxRecDepth 20000 in
theorem ggX5_allows_X6_goesInto : GoodIn wsX5_allows wsX6_goesInto := goodIn_r _ [8] (by decide +kernel) (by decide +kernel)
set_option maxRecDepth 20000 in
theorem gX5_allows_X6_goesInto_n62 : GoodIn wsX5_allows (wsX6_goesInto) := ggX5_allows_X6_goesInto
theorem dX5_allows_0 : decode cX5_allows 0 = .ok (.iload_n 2, 1) := by decide +kernel
theorem dX5_allows_1 : decode cX5_allows 1 = .ok (.iconst 1, 1) := by decide +kernel
theorem dX5_allows_2 : decode cX5_allows 2 = .ok (.if_icmp .ge 5, 3) := by decide +kernel
theorem dX5_allows_5 : decode cX5_allows 5 = .ok (.iconst 0, 1) := by decide +kernel
theorem dX5_allows_6 : decode cX5_allows 6 = .ok (.ireturn, 1) := by decide +kernel
theorem dX5_allows_7 : decode cX5_allows 7 = .ok (.aload_n 0, 1) := by decide +kernel
theorem dX5_allows_8 : decode cX5_allows 8 = .ok (.getfield 12, 3) := by decide +kernel
theorem dX5_allows_11 : decode cX5_allows 11 = .ok (.getfield 53, 3) := by decide +kernel
theorem dX5_allows_14 : decode cX5_allows 14 = .ok (.iload_n 1, 1) := by decide +kernel
theorem dX5_allows_15 : decode cX5_allows 15 = .ok (.iaload, 1) := by decide +kernel
theorem dX5_allows_16 : decode cX5_allows 16 = .ok (.istore 5, 2) := by decide +kernel
theorem dX5_allows_18 : decode cX5_allows 18 = .ok (.iload 5, 2) := by decide +kernel
theorem dX5_allows_20 : decode cX5_allows 20 = .ok (.iconst 1, 1) := by decide +kernel
theorem dX5_allows_21 : decode cX5_allows 21 = .ok (.if_icmp .eq 14, 3) := by decide +kernel
theorem dX5_allows_24 : decode cX5_allows 24 = .ok (.iload 5, 2) := by decide +kernel
theorem dX5_allows_26 : decode cX5_allows 26 = .ok (.iconst 2, 1) := by decide +kernel
theorem dX5_allows_27 : decode cX5_allows 27 = .ok (.if_icmp .ne 10, 3) := by decide +kernel
theorem dX5_allows_30 : decode cX5_allows 30 = .ok (.iload_n 2, 1) := by decide +kernel
theorem dX5_allows_31 : decode cX5_allows 31 = .ok (.iconst 1, 1) := by decide +kernel
theorem dX5_allows_32 : decode cX5_allows 32 = .ok (.if_icmp .ne 5, 3) := by decide +kernel
theorem dX5_allows_35 : decode cX5_allows 35 = .ok (.iconst 1, 1) := by decide +kernel
theorem dX5_allows_36 : decode cX5_allows 36 = .ok (.ireturn, 1) := by decide +kernel
theorem dX5_allows_37 : decode cX5_allows 37 = .ok (.iconst 0, 1) := by decide +kernel
theorem dX5_allows_38 : decode cX5_allows 38 = .ok (.istore 6, 2) := by decide +kernel
theorem dX5_allows_40 : decode cX5_allows 40 = .ok (.iload 6, 2) := by decide +kernel
theorem dX5_allows_42 : decode cX5_allows 42 = .ok (.aload_n 0, 1) := by decide +kernel
theorem dX5_allows_43 : decode cX5_allows 43 = .ok (.getfield 12, 3) := by decide +kernel
theorem dX5_allows_46 : decode cX5_allows 46 = .ok (.getfield 56, 3) := by decide +kernel
theorem dX5_allows_49 : decode cX5_allows 49 = .ok (.iload_n 1, 1) := by decide +kernel
theorem dX5_allows_50 : decode cX5_allows 50 = .ok (.iaload, 1) := by decide +kernel
theorem dX5_allows_51 : decode cX5_allows 51 = .ok (.if_icmp .ge 65, 3) := by decide +kernel
theorem dX5_allows_54 : decode cX5_allows 54 = .ok (.aload_n 0, 1) := by decide +kernel
theorem dX5_allows_55 : decode cX5_allows 55 = .ok (.getfield 21, 3) := by decide +kernel
theorem dX5_allows_58 : decode cX5_allows 58 = .ok (.getfield 59, 3) := by decide +kernel
theorem dX5_allows_61 : decode cX5_allows 61 = .ok (.iconst 3, 1) := by decide +kernel
theorem dX5_allows_62 : decode cX5_allows 62 = .ok (.iload_n 1, 1) := by decide +kernel
theorem dX5_allows_63 : decode cX5_allows 63 = .ok (.imul, 1) := by decide +kernel
theorem dX5_allows_64 : decode cX5_allows 64 = .ok (.iload 6, 2) := by decide +kernel
theorem dX5_allows_66 : decode cX5_allows 66 = .ok (.iadd, 1) := by decide +kernel
theorem dX5_allows_67 : decode cX5_allows 67 = .ok (.iaload, 1) := by decide +kernel
theorem dX5_allows_68 : decode cX5_allows 68 = .ok (.iload 6, 2) := by decide +kernel
theorem dX5_allows_70 : decode cX5_allows 70 = .ok (.iload_n 3, 1) := by decide +kernel
theorem dX5_allows_71 : decode cX5_allows 71 = .ok (.if_icmp .ne 8, 3) := by decide +kernel
theorem dX5_allows_74 : decode cX5_allows 74 = .ok (.iload 4, 2) := by decide +kernel
theorem dX5_allows_76 : decode cX5_allows 76 = .ok (.goto 4, 3) := by decide +kernel
theorem dX5_allows_79 : decode cX5_allows 79 = .ok (.iconst 0, 1) := by decide +kernel
theorem dX5_allows_80 : decode cX5_allows 80 = .ok (.iadd, 1) := by decide +kernel
theorem dX5_allows_81 : decode cX5_allows 81 = .ok (.istore 7, 2) := by decide +kernel
theorem dX5_allows_83 : decode cX5_allows 83 = .ok (.iload 5, 2) := by decide +kernel
theorem dX5_allows_85 : decode cX5_allows 85 = .ok (.iconst 2, 1) := by decide +kernel
theorem dX5_allows_86 : decode cX5_allows 86 = .ok (.if_icmp .ne 12, 3) := by decide +kernel
theorem dX5_allows_89 : decode cX5_allows 89 = .ok (.iload 7, 2) := by decide +kernel
theorem dX5_allows_91 : decode cX5_allows 91 = .ok (.iload_n 2, 1) := by decide +kernel
theorem dX5_allows_92 : decode cX5_allows 92 = .ok (.if_icmp .eq 18, 3) := by decide +kernel
theorem dX5_allows_95 : decode cX5_allows 95 = .ok (.goto 13, 3) := by decide +kernel
theorem dX5_allows_98 : decode cX5_allows 98 = .ok (.iload_n 2, 1) := by decide +kernel
theorem dX5_allows_99 : decode cX5_allows 99 = .ok (.iload 7, 2) := by decide +kernel
theorem dX5_allows_101 : decode cX5_allows 101 = .ok (.i2l, 1) := by decide +kernel
theorem dX5_allows_102 : decode cX5_allows 102 = .ok (.invokestatic 62, 3) := by decide +kernel
theorem dX5_allows_105 : decode cX5_allows 105 = .ok (.ifCond .ne 5, 3) := by decide +kernel
theorem dX5_allows_108 : decode cX5_allows 108 = .ok (.iconst 0, 1) := by decide +kernel
theorem dX5_allows_109 : decode cX5_allows 109 = .ok (.ireturn, 1) := by decide +kernel
theorem dX5_allows_110 : decode cX5_allows 110 = .ok (.iinc 6 1, 3) := by decide +kernel
theorem dX5_allows_113 : decode cX5_allows 113 = .ok (.goto (-73), 3) := by decide +kernel
theorem dX5_allows_116 : decode cX5_allows 116 = .ok (.iconst 1, 1) := by decide +kernel
theorem dX5_allows_117 : decode cX5_allows 117 = .ok (.ireturn, 1) := by decide +kernel
set_option maxRecDepth 20000 in
theorem ggX5_mayClimb_X5_allows : GoodIn wsX5_mayClimb wsX5_allows := goodIn_r _ [8, 9, 10, 11, 1, 12, 13, 14, 15, 16, 17, 18, 19, 28, 29, 30, 31, 32, 33, 20, 21, 22, 23, 24, 25, 26, 27] (by decide +kernel) (by decide +kernel)
set_option maxRecDepth 20000 in
theorem gX5_mayClimb_X5_allows : GoodIn wsX5_mayClimb (wsV RX5 69 RX5 yX5_allows wsX5_allows) := goodIn_app (goodIn_of _ (by decide +kernel)) ggX5_mayClimb_X5_allows
theorem dX5_mayClimb_0 : decode cX5_mayClimb 0 = .ok (.aload_n 0, 1) := by decide +kernel
theorem dX5_mayClimb_1 : decode cX5_mayClimb 1 = .ok (.iload_n 2, 1) := by decide +kernel
theorem dX5_mayClimb_2 : decode cX5_mayClimb 2 = .ok (.aload_n 0, 1) := by decide +kernel
theorem dX5_mayClimb_3 : decode cX5_mayClimb 3 = .ok (.getfield 21, 3) := by decide +kernel
theorem dX5_mayClimb_6 : decode cX5_mayClimb 6 = .ok (.getfield 66, 3) := by decide +kernel
theorem dX5_mayClimb_9 : decode cX5_mayClimb 9 = .ok (.iload_n 1, 1) := by decide +kernel
theorem dX5_mayClimb_10 : decode cX5_mayClimb 10 = .ok (.iaload, 1) := by decide +kernel
theorem dX5_mayClimb_11 : decode cX5_mayClimb 11 = .ok (.iconst (-1), 1) := by decide +kernel
theorem dX5_mayClimb_12 : decode cX5_mayClimb 12 = .ok (.iconst 0, 1) := by decide +kernel
theorem dX5_mayClimb_13 : decode cX5_mayClimb 13 = .ok (.invokevirtual 69, 3) := by decide +kernel
theorem dX5_mayClimb_16 : decode cX5_mayClimb 16 = .ok (.ifCond .ne 22, 3) := by decide +kernel
theorem dX5_mayClimb_19 : decode cX5_mayClimb 19 = .ok (.aload_n 0, 1) := by decide +kernel
theorem dX5_mayClimb_20 : decode cX5_mayClimb 20 = .ok (.iload_n 2, 1) := by decide +kernel
theorem dX5_mayClimb_21 : decode cX5_mayClimb 21 = .ok (.aload_n 0, 1) := by decide +kernel
theorem dX5_mayClimb_22 : decode cX5_mayClimb 22 = .ok (.getfield 21, 3) := by decide +kernel
theorem dX5_mayClimb_25 : decode cX5_mayClimb 25 = .ok (.getfield 73, 3) := by decide +kernel
theorem dX5_mayClimb_28 : decode cX5_mayClimb 28 = .ok (.iload_n 1, 1) := by decide +kernel
theorem dX5_mayClimb_29 : decode cX5_mayClimb 29 = .ok (.iaload, 1) := by decide +kernel
theorem dX5_mayClimb_30 : decode cX5_mayClimb 30 = .ok (.iconst (-1), 1) := by decide +kernel
theorem dX5_mayClimb_31 : decode cX5_mayClimb 31 = .ok (.iconst 0, 1) := by decide +kernel
theorem dX5_mayClimb_32 : decode cX5_mayClimb 32 = .ok (.invokevirtual 69, 3) := by decide +kernel
theorem dX5_mayClimb_35 : decode cX5_mayClimb 35 = .ok (.ifCond .eq 7, 3) := by decide +kernel
theorem dX5_mayClimb_38 : decode cX5_mayClimb 38 = .ok (.iconst 1, 1) := by decide +kernel
theorem dX5_mayClimb_39 : decode cX5_mayClimb 39 = .ok (.goto 4, 3) := by decide +kernel
theorem dX5_mayClimb_42 : decode cX5_mayClimb 42 = .ok (.iconst 0, 1) := by decide +kernel
theorem dX5_mayClimb_43 : decode cX5_mayClimb 43 = .ok (.ireturn, 1) := by decide +kernel
set_option maxRecDepth 20000 in
theorem ggX5_climbers_X5_allows : GoodIn wsX5_climbers wsX5_allows := goodIn_r _ [9, 10, 11, 12, 1, 13, 14, 15, 16, 17, 18, 19, 20, 29, 30, 31, 32, 33, 34, 21, 22, 23, 24, 25, 26, 27, 28] (by decide +kernel) (by decide +kernel)
set_option maxRecDepth 20000 in
theorem gX5_climbers_X5_allows : GoodIn wsX5_climbers (wsV RX5 69 RX5 yX5_allows wsX5_allows) := goodIn_app (goodIn_of _ (by decide +kernel)) ggX5_climbers_X5_allows
theorem dX5_climbers_0 : decode cX5_climbers 0 = .ok (.iconst 0, 1) := by decide +kernel
theorem dX5_climbers_1 : decode cX5_climbers 1 = .ok (.istore 4, 2) := by decide +kernel
theorem dX5_climbers_3 : decode cX5_climbers 3 = .ok (.iconst 0, 1) := by decide +kernel
theorem dX5_climbers_4 : decode cX5_climbers 4 = .ok (.istore 5, 2) := by decide +kernel
theorem dX5_climbers_6 : decode cX5_climbers 6 = .ok (.iload 5, 2) := by decide +kernel
theorem dX5_climbers_8 : decode cX5_climbers 8 = .ok (.aload_n 0, 1) := by decide +kernel
theorem dX5_climbers_9 : decode cX5_climbers 9 = .ok (.getfield 21, 3) := by decide +kernel
theorem dX5_climbers_12 : decode cX5_climbers 12 = .ok (.getfield 39, 3) := by decide +kernel
theorem dX5_climbers_15 : decode cX5_climbers 15 = .ok (.if_icmp .ge 58, 3) := by decide +kernel
theorem dX5_climbers_18 : decode cX5_climbers 18 = .ok (.aload_n 0, 1) := by decide +kernel
theorem dX5_climbers_19 : decode cX5_climbers 19 = .ok (.iload_n 1, 1) := by decide +kernel
theorem dX5_climbers_20 : decode cX5_climbers 20 = .ok (.aload_n 0, 1) := by decide +kernel
theorem dX5_climbers_21 : decode cX5_climbers 21 = .ok (.getfield 21, 3) := by decide +kernel
theorem dX5_climbers_24 : decode cX5_climbers 24 = .ok (.getfield 66, 3) := by decide +kernel
theorem dX5_climbers_27 : decode cX5_climbers 27 = .ok (.iload 5, 2) := by decide +kernel
theorem dX5_climbers_29 : decode cX5_climbers 29 = .ok (.iaload, 1) := by decide +kernel
theorem dX5_climbers_30 : decode cX5_climbers 30 = .ok (.iload_n 2, 1) := by decide +kernel
theorem dX5_climbers_31 : decode cX5_climbers 31 = .ok (.iload_n 3, 1) := by decide +kernel
theorem dX5_climbers_32 : decode cX5_climbers 32 = .ok (.invokevirtual 69, 3) := by decide +kernel
theorem dX5_climbers_35 : decode cX5_climbers 35 = .ok (.ifCond .ne 23, 3) := by decide +kernel
theorem dX5_climbers_38 : decode cX5_climbers 38 = .ok (.aload_n 0, 1) := by decide +kernel
theorem dX5_climbers_39 : decode cX5_climbers 39 = .ok (.iload_n 1, 1) := by decide +kernel
theorem dX5_climbers_40 : decode cX5_climbers 40 = .ok (.aload_n 0, 1) := by decide +kernel
theorem dX5_climbers_41 : decode cX5_climbers 41 = .ok (.getfield 21, 3) := by decide +kernel
theorem dX5_climbers_44 : decode cX5_climbers 44 = .ok (.getfield 73, 3) := by decide +kernel
theorem dX5_climbers_47 : decode cX5_climbers 47 = .ok (.iload 5, 2) := by decide +kernel
theorem dX5_climbers_49 : decode cX5_climbers 49 = .ok (.iaload, 1) := by decide +kernel
theorem dX5_climbers_50 : decode cX5_climbers 50 = .ok (.iload_n 2, 1) := by decide +kernel
theorem dX5_climbers_51 : decode cX5_climbers 51 = .ok (.iload_n 3, 1) := by decide +kernel
theorem dX5_climbers_52 : decode cX5_climbers 52 = .ok (.invokevirtual 69, 3) := by decide +kernel
theorem dX5_climbers_55 : decode cX5_climbers 55 = .ok (.ifCond .eq 12, 3) := by decide +kernel
theorem dX5_climbers_58 : decode cX5_climbers 58 = .ok (.iload 4, 2) := by decide +kernel
theorem dX5_climbers_60 : decode cX5_climbers 60 = .ok (.iconst 1, 1) := by decide +kernel
theorem dX5_climbers_61 : decode cX5_climbers 61 = .ok (.iload 5, 2) := by decide +kernel
theorem dX5_climbers_63 : decode cX5_climbers 63 = .ok (.ishl, 1) := by decide +kernel
theorem dX5_climbers_64 : decode cX5_climbers 64 = .ok (.ior, 1) := by decide +kernel
theorem dX5_climbers_65 : decode cX5_climbers 65 = .ok (.istore 4, 2) := by decide +kernel
theorem dX5_climbers_67 : decode cX5_climbers 67 = .ok (.iinc 5 1, 3) := by decide +kernel
theorem dX5_climbers_70 : decode cX5_climbers 70 = .ok (.goto (-64), 3) := by decide +kernel
theorem dX5_climbers_73 : decode cX5_climbers 73 = .ok (.iload 4, 2) := by decide +kernel
theorem dX5_climbers_75 : decode cX5_climbers 75 = .ok (.ireturn, 1) := by decide +kernel
set_option maxRecDepth 20000 in
theorem ggX5_shutOutByLess_X5_climbers : GoodIn wsX5_shutOutByLess wsX5_climbers := goodIn_r _ [7, 1, 8, 9, 10, 11, 12, 13, 6, 14, 15, 16, 17, 2, 18, 19, 20, 28, 29, 30, 31, 32, 33, 34, 35, 36, 37, 38, 39, 40, 41, 42, 43, 44, 45] (by decide +kernel) (by decide +kernel)
set_option maxRecDepth 20000 in
theorem gX5_shutOutByLess_X5_climbers : GoodIn wsX5_shutOutByLess (wsV RX5 76 RX5 yX5_climbers wsX5_climbers) := goodIn_app (goodIn_of _ (by decide +kernel)) ggX5_shutOutByLess_X5_climbers
set_option maxRecDepth 20000 in
theorem ggX5_shutOutByLess_J6_bitCount_0f7a4 : GoodIn wsX5_shutOutByLess wsJ6_bitCount_0f7a4 := goodIn_r _ [24, 25, 26, 27] (by decide +kernel) (by decide +kernel)
set_option maxRecDepth 20000 in
theorem gX5_shutOutByLess_J6_bitCount_0f7a4 : GoodIn wsX5_shutOutByLess (va_wsS RX5 80 yJ6_bitCount_0f7a4 wsJ6_bitCount_0f7a4) := goodIn_app (goodIn_of _ (by decide +kernel)) ggX5_shutOutByLess_J6_bitCount_0f7a4
theorem dX5_shutOutByLess_0 : decode cX5_shutOutByLess 0 = .ok (.aload_n 0, 1) := by decide +kernel
theorem dX5_shutOutByLess_1 : decode cX5_shutOutByLess 1 = .ok (.getfield 21, 3) := by decide +kernel
theorem dX5_shutOutByLess_4 : decode cX5_shutOutByLess 4 = .ok (.getfield 59, 3) := by decide +kernel
theorem dX5_shutOutByLess_7 : decode cX5_shutOutByLess 7 = .ok (.iconst 3, 1) := by decide +kernel
theorem dX5_shutOutByLess_8 : decode cX5_shutOutByLess 8 = .ok (.iload_n 1, 1) := by decide +kernel
theorem dX5_shutOutByLess_9 : decode cX5_shutOutByLess 9 = .ok (.imul, 1) := by decide +kernel
theorem dX5_shutOutByLess_10 : decode cX5_shutOutByLess 10 = .ok (.iload_n 2, 1) := by decide +kernel
theorem dX5_shutOutByLess_11 : decode cX5_shutOutByLess 11 = .ok (.iadd, 1) := by decide +kernel
theorem dX5_shutOutByLess_12 : decode cX5_shutOutByLess 12 = .ok (.iaload, 1) := by decide +kernel
theorem dX5_shutOutByLess_13 : decode cX5_shutOutByLess 13 = .ok (.iconst 2, 1) := by decide +kernel
theorem dX5_shutOutByLess_14 : decode cX5_shutOutByLess 14 = .ok (.if_icmp .ge 5, 3) := by decide +kernel
theorem dX5_shutOutByLess_17 : decode cX5_shutOutByLess 17 = .ok (.iconst 0, 1) := by decide +kernel
theorem dX5_shutOutByLess_18 : decode cX5_shutOutByLess 18 = .ok (.ireturn, 1) := by decide +kernel
theorem dX5_shutOutByLess_19 : decode cX5_shutOutByLess 19 = .ok (.aload_n 0, 1) := by decide +kernel
theorem dX5_shutOutByLess_20 : decode cX5_shutOutByLess 20 = .ok (.iload_n 1, 1) := by decide +kernel
theorem dX5_shutOutByLess_21 : decode cX5_shutOutByLess 21 = .ok (.iconst (-1), 1) := by decide +kernel
theorem dX5_shutOutByLess_22 : decode cX5_shutOutByLess 22 = .ok (.iconst 0, 1) := by decide +kernel
theorem dX5_shutOutByLess_23 : decode cX5_shutOutByLess 23 = .ok (.invokevirtual 76, 3) := by decide +kernel
theorem dX5_shutOutByLess_26 : decode cX5_shutOutByLess 26 = .ok (.aload_n 0, 1) := by decide +kernel
theorem dX5_shutOutByLess_27 : decode cX5_shutOutByLess 27 = .ok (.iload_n 1, 1) := by decide +kernel
theorem dX5_shutOutByLess_28 : decode cX5_shutOutByLess 28 = .ok (.iload_n 2, 1) := by decide +kernel
theorem dX5_shutOutByLess_29 : decode cX5_shutOutByLess 29 = .ok (.iconst (-1), 1) := by decide +kernel
theorem dX5_shutOutByLess_30 : decode cX5_shutOutByLess 30 = .ok (.invokevirtual 76, 3) := by decide +kernel
theorem dX5_shutOutByLess_33 : decode cX5_shutOutByLess 33 = .ok (.iconst (-1), 1) := by decide +kernel
theorem dX5_shutOutByLess_34 : decode cX5_shutOutByLess 34 = .ok (.ixor, 1) := by decide +kernel
theorem dX5_shutOutByLess_35 : decode cX5_shutOutByLess 35 = .ok (.iand, 1) := by decide +kernel
theorem dX5_shutOutByLess_36 : decode cX5_shutOutByLess 36 = .ok (.invokestatic 80, 3) := by decide +kernel
theorem dX5_shutOutByLess_39 : decode cX5_shutOutByLess 39 = .ok (.ireturn, 1) := by decide +kernel
set_option maxRecDepth 20000 in
theorem ggX5_stridesThatFit_X5_allows : GoodIn wsX5_stridesThatFit wsX5_allows := goodIn_r _ [5, 6, 7, 8, 9, 10, 11, 12, 13, 14, 15, 16, 17, 18, 19, 20, 21, 22, 23, 24, 25, 26, 27, 28, 29, 30, 31] (by decide +kernel) (by decide +kernel)
set_option maxRecDepth 20000 in
theorem gX5_stridesThatFit_X5_allows : GoodIn wsX5_stridesThatFit (wsV RX5 69 RX5 yX5_allows wsX5_allows) := goodIn_app (goodIn_of _ (by decide +kernel)) ggX5_stridesThatFit_X5_allows
theorem dX5_stridesThatFit_0 : decode cX5_stridesThatFit 0 = .ok (.iconst 0, 1) := by decide +kernel
theorem dX5_stridesThatFit_1 : decode cX5_stridesThatFit 1 = .ok (.istore_n 2, 1) := by decide +kernel
theorem dX5_stridesThatFit_2 : decode cX5_stridesThatFit 2 = .ok (.iconst 1, 1) := by decide +kernel
theorem dX5_stridesThatFit_3 : decode cX5_stridesThatFit 3 = .ok (.istore_n 3, 1) := by decide +kernel
theorem dX5_stridesThatFit_4 : decode cX5_stridesThatFit 4 = .ok (.iload_n 3, 1) := by decide +kernel
theorem dX5_stridesThatFit_5 : decode cX5_stridesThatFit 5 = .ok (.bipush 24, 2) := by decide +kernel
theorem dX5_stridesThatFit_7 : decode cX5_stridesThatFit 7 = .ok (.if_icmp .gt 28, 3) := by decide +kernel
theorem dX5_stridesThatFit_10 : decode cX5_stridesThatFit 10 = .ok (.aload_n 0, 1) := by decide +kernel
theorem dX5_stridesThatFit_11 : decode cX5_stridesThatFit 11 = .ok (.iload_n 1, 1) := by decide +kernel
theorem dX5_stridesThatFit_12 : decode cX5_stridesThatFit 12 = .ok (.iload_n 3, 1) := by decide +kernel
theorem dX5_stridesThatFit_13 : decode cX5_stridesThatFit 13 = .ok (.iconst (-1), 1) := by decide +kernel
theorem dX5_stridesThatFit_14 : decode cX5_stridesThatFit 14 = .ok (.iconst 0, 1) := by decide +kernel
theorem dX5_stridesThatFit_15 : decode cX5_stridesThatFit 15 = .ok (.invokevirtual 69, 3) := by decide +kernel
theorem dX5_stridesThatFit_18 : decode cX5_stridesThatFit 18 = .ok (.ifCond .eq 11, 3) := by decide +kernel
theorem dX5_stridesThatFit_21 : decode cX5_stridesThatFit 21 = .ok (.iload_n 2, 1) := by decide +kernel
theorem dX5_stridesThatFit_22 : decode cX5_stridesThatFit 22 = .ok (.iconst 1, 1) := by decide +kernel
theorem dX5_stridesThatFit_23 : decode cX5_stridesThatFit 23 = .ok (.iload_n 3, 1) := by decide +kernel
theorem dX5_stridesThatFit_24 : decode cX5_stridesThatFit 24 = .ok (.iconst 1, 1) := by decide +kernel
theorem dX5_stridesThatFit_25 : decode cX5_stridesThatFit 25 = .ok (.isub, 1) := by decide +kernel
theorem dX5_stridesThatFit_26 : decode cX5_stridesThatFit 26 = .ok (.ishl, 1) := by decide +kernel
theorem dX5_stridesThatFit_27 : decode cX5_stridesThatFit 27 = .ok (.ior, 1) := by decide +kernel
theorem dX5_stridesThatFit_28 : decode cX5_stridesThatFit 28 = .ok (.istore_n 2, 1) := by decide +kernel
theorem dX5_stridesThatFit_29 : decode cX5_stridesThatFit 29 = .ok (.iinc 3 1, 3) := by decide +kernel
theorem dX5_stridesThatFit_32 : decode cX5_stridesThatFit 32 = .ok (.goto (-28), 3) := by decide +kernel
theorem dX5_stridesThatFit_35 : decode cX5_stridesThatFit 35 = .ok (.iload_n 2, 1) := by decide +kernel
theorem dX5_stridesThatFit_36 : decode cX5_stridesThatFit 36 = .ok (.ireturn, 1) := by decide +kernel
set_option maxRecDepth 20000 in
theorem ggX5_upStairs_X5_allows : GoodIn wsX5_upStairs wsX5_allows := goodIn_r _ [7, 1, 8, 9, 10, 11, 12, 13, 14, 15, 16, 17, 18, 19, 20, 21, 22, 23, 24, 25, 26, 27, 28, 29, 30, 31, 32] (by decide +kernel) (by decide +kernel)
set_option maxRecDepth 20000 in
theorem gX5_upStairs_X5_allows : GoodIn wsX5_upStairs (wsV RX5 69 RX5 yX5_allows wsX5_allows) := goodIn_app (goodIn_of _ (by decide +kernel)) ggX5_upStairs_X5_allows
theorem dX5_upStairs_0 : decode cX5_upStairs 0 = .ok (.iconst 0, 1) := by decide +kernel
theorem dX5_upStairs_1 : decode cX5_upStairs 1 = .ok (.istore_n 3, 1) := by decide +kernel
theorem dX5_upStairs_2 : decode cX5_upStairs 2 = .ok (.iconst 0, 1) := by decide +kernel
theorem dX5_upStairs_3 : decode cX5_upStairs 3 = .ok (.istore 4, 2) := by decide +kernel
theorem dX5_upStairs_5 : decode cX5_upStairs 5 = .ok (.iload 4, 2) := by decide +kernel
theorem dX5_upStairs_7 : decode cX5_upStairs 7 = .ok (.aload_n 0, 1) := by decide +kernel
theorem dX5_upStairs_8 : decode cX5_upStairs 8 = .ok (.getfield 12, 3) := by decide +kernel
theorem dX5_upStairs_11 : decode cX5_upStairs 11 = .ok (.getfield 36, 3) := by decide +kernel
theorem dX5_upStairs_14 : decode cX5_upStairs 14 = .ok (.if_icmp .ge 40, 3) := by decide +kernel
theorem dX5_upStairs_17 : decode cX5_upStairs 17 = .ok (.aload_n 0, 1) := by decide +kernel
theorem dX5_upStairs_18 : decode cX5_upStairs 18 = .ok (.iload 4, 2) := by decide +kernel
theorem dX5_upStairs_20 : decode cX5_upStairs 20 = .ok (.iload_n 1, 1) := by decide +kernel
theorem dX5_upStairs_21 : decode cX5_upStairs 21 = .ok (.iconst (-1), 1) := by decide +kernel
theorem dX5_upStairs_22 : decode cX5_upStairs 22 = .ok (.iconst 0, 1) := by decide +kernel
theorem dX5_upStairs_23 : decode cX5_upStairs 23 = .ok (.invokevirtual 69, 3) := by decide +kernel
theorem dX5_upStairs_26 : decode cX5_upStairs 26 = .ok (.ifCond .ne 15, 3) := by decide +kernel
theorem dX5_upStairs_29 : decode cX5_upStairs 29 = .ok (.aload_n 0, 1) := by decide +kernel
theorem dX5_upStairs_30 : decode cX5_upStairs 30 = .ok (.iload 4, 2) := by decide +kernel
theorem dX5_upStairs_32 : decode cX5_upStairs 32 = .ok (.iload_n 2, 1) := by decide +kernel
theorem dX5_upStairs_33 : decode cX5_upStairs 33 = .ok (.iconst (-1), 1) := by decide +kernel
theorem dX5_upStairs_34 : decode cX5_upStairs 34 = .ok (.iconst 0, 1) := by decide +kernel
theorem dX5_upStairs_35 : decode cX5_upStairs 35 = .ok (.invokevirtual 69, 3) := by decide +kernel
theorem dX5_upStairs_38 : decode cX5_upStairs 38 = .ok (.ifCond .eq 10, 3) := by decide +kernel
theorem dX5_upStairs_41 : decode cX5_upStairs 41 = .ok (.iload_n 3, 1) := by decide +kernel
theorem dX5_upStairs_42 : decode cX5_upStairs 42 = .ok (.iconst 1, 1) := by decide +kernel
theorem dX5_upStairs_43 : decode cX5_upStairs 43 = .ok (.iload 4, 2) := by decide +kernel
theorem dX5_upStairs_45 : decode cX5_upStairs 45 = .ok (.ishl, 1) := by decide +kernel
theorem dX5_upStairs_46 : decode cX5_upStairs 46 = .ok (.ior, 1) := by decide +kernel
theorem dX5_upStairs_47 : decode cX5_upStairs 47 = .ok (.istore_n 3, 1) := by decide +kernel
theorem dX5_upStairs_48 : decode cX5_upStairs 48 = .ok (.iinc 4 1, 3) := by decide +kernel
theorem dX5_upStairs_51 : decode cX5_upStairs 51 = .ok (.goto (-46), 3) := by decide +kernel
theorem dX5_upStairs_54 : decode cX5_upStairs 54 = .ok (.iload_n 3, 1) := by decide +kernel
theorem dX5_upStairs_55 : decode cX5_upStairs 55 = .ok (.ireturn, 1) := by decide +kernel
theorem dX5_allStairs_0 : decode cX5_allStairs 0 = .ok (.iconst 1, 1) := by decide +kernel
theorem dX5_allStairs_1 : decode cX5_allStairs 1 = .ok (.aload_n 0, 1) := by decide +kernel
theorem dX5_allStairs_2 : decode cX5_allStairs 2 = .ok (.getfield 12, 3) := by decide +kernel
theorem dX5_allStairs_5 : decode cX5_allStairs 5 = .ok (.getfield 36, 3) := by decide +kernel
theorem dX5_allStairs_8 : decode cX5_allStairs 8 = .ok (.ishl, 1) := by decide +kernel
theorem dX5_allStairs_9 : decode cX5_allStairs 9 = .ok (.iconst 1, 1) := by decide +kernel
theorem dX5_allStairs_10 : decode cX5_allStairs 10 = .ok (.isub, 1) := by decide +kernel
theorem dX5_allStairs_11 : decode cX5_allStairs 11 = .ok (.ireturn, 1) := by decide +kernel
set_option maxRecDepth 20000 in
theorem ggX5_downStairs_X5_allStairs : GoodIn wsX5_downStairs wsX5_allStairs := goodIn_r _ [7, 8, 9, 10, 11, 12, 13, 22, 23, 24, 25, 26, 27] (by decide +kernel) (by decide +kernel)
set_option maxRecDepth 20000 in
theorem gX5_downStairs_X5_allStairs : GoodIn wsX5_downStairs (wsV RX5 89 RX5 yX5_allStairs wsX5_allStairs) := goodIn_app (goodIn_of _ (by decide +kernel)) ggX5_downStairs_X5_allStairs
theorem dX5_downStairs_0 : decode cX5_downStairs 0 = .ok (.aload_n 0, 1) := by decide +kernel
theorem dX5_downStairs_1 : decode cX5_downStairs 1 = .ok (.getfield 21, 3) := by decide +kernel
theorem dX5_downStairs_4 : decode cX5_downStairs 4 = .ok (.getfield 86, 3) := by decide +kernel
theorem dX5_downStairs_7 : decode cX5_downStairs 7 = .ok (.iconst 1, 1) := by decide +kernel
theorem dX5_downStairs_8 : decode cX5_downStairs 8 = .ok (.if_icmp .ne 10, 3) := by decide +kernel
theorem dX5_downStairs_11 : decode cX5_downStairs 11 = .ok (.aload_n 0, 1) := by decide +kernel
theorem dX5_downStairs_12 : decode cX5_downStairs 12 = .ok (.invokevirtual 89, 3) := by decide +kernel
theorem dX5_downStairs_15 : decode cX5_downStairs 15 = .ok (.goto 4, 3) := by decide +kernel
theorem dX5_downStairs_18 : decode cX5_downStairs 18 = .ok (.iload_n 1, 1) := by decide +kernel
theorem dX5_downStairs_19 : decode cX5_downStairs 19 = .ok (.ireturn, 1) := by decide +kernel
set_option maxRecDepth 20000 in
theorem ggX5_spread_X6_has : GoodIn wsX5_spread wsX6_has := goodIn_r _ [8] (by decide +kernel) (by decide +kernel)
set_option maxRecDepth 20000 in
theorem gX5_spread_X6_has_n93 : GoodIn wsX5_spread (wsX6_has) := ggX5_spread_X6_has
theorem dX5_spread_0 : decode cX5_spread 0 = .ok (.iconst 1, 1) := by decide +kernel
theorem dX5_spread_1 : decode cX5_spread 1 = .ok (.iload_n 1, 1) := by decide +kernel
theorem dX5_spread_2 : decode cX5_spread 2 = .ok (.ishl, 1) := by decide +kernel
theorem dX5_spread_3 : decode cX5_spread 3 = .ok (.istore 4, 2) := by decide +kernel
theorem dX5_spread_5 : decode cX5_spread 5 = .ok (.iconst 0, 1) := by decide +kernel
theorem dX5_spread_6 : decode cX5_spread 6 = .ok (.istore 5, 2) := by decide +kernel
theorem dX5_spread_8 : decode cX5_spread 8 = .ok (.iconst 0, 1) := by decide +kernel
theorem dX5_spread_9 : decode cX5_spread 9 = .ok (.istore 6, 2) := by decide +kernel
theorem dX5_spread_11 : decode cX5_spread 11 = .ok (.iload 6, 2) := by decide +kernel
theorem dX5_spread_13 : decode cX5_spread 13 = .ok (.aload_n 0, 1) := by decide +kernel
theorem dX5_spread_14 : decode cX5_spread 14 = .ok (.getfield 12, 3) := by decide +kernel
theorem dX5_spread_17 : decode cX5_spread 17 = .ok (.getfield 32, 3) := by decide +kernel
theorem dX5_spread_20 : decode cX5_spread 20 = .ok (.if_icmp .ge 129, 3) := by decide +kernel
theorem dX5_spread_23 : decode cX5_spread 23 = .ok (.iload 4, 2) := by decide +kernel
theorem dX5_spread_25 : decode cX5_spread 25 = .ok (.iload 5, 2) := by decide +kernel
theorem dX5_spread_27 : decode cX5_spread 27 = .ok (.if_icmp .eq 122, 3) := by decide +kernel
theorem dX5_spread_30 : decode cX5_spread 30 = .ok (.iload 4, 2) := by decide +kernel
theorem dX5_spread_32 : decode cX5_spread 32 = .ok (.istore 5, 2) := by decide +kernel
theorem dX5_spread_34 : decode cX5_spread 34 = .ok (.iconst 0, 1) := by decide +kernel
theorem dX5_spread_35 : decode cX5_spread 35 = .ok (.istore 7, 2) := by decide +kernel
theorem dX5_spread_37 : decode cX5_spread 37 = .ok (.iload 7, 2) := by decide +kernel
theorem dX5_spread_39 : decode cX5_spread 39 = .ok (.aload_n 0, 1) := by decide +kernel
theorem dX5_spread_40 : decode cX5_spread 40 = .ok (.getfield 12, 3) := by decide +kernel
theorem dX5_spread_43 : decode cX5_spread 43 = .ok (.getfield 36, 3) := by decide +kernel
theorem dX5_spread_46 : decode cX5_spread 46 = .ok (.if_icmp .ge 97, 3) := by decide +kernel
theorem dX5_spread_49 : decode cX5_spread 49 = .ok (.iload_n 2, 1) := by decide +kernel
theorem dX5_spread_50 : decode cX5_spread 50 = .ok (.iload 7, 2) := by decide +kernel
theorem dX5_spread_52 : decode cX5_spread 52 = .ok (.invokestatic 93, 3) := by decide +kernel
theorem dX5_spread_55 : decode cX5_spread 55 = .ok (.ifCond .eq 38, 3) := by decide +kernel
theorem dX5_spread_58 : decode cX5_spread 58 = .ok (.iload 4, 2) := by decide +kernel
theorem dX5_spread_60 : decode cX5_spread 60 = .ok (.aload_n 0, 1) := by decide +kernel
theorem dX5_spread_61 : decode cX5_spread 61 = .ok (.getfield 12, 3) := by decide +kernel
theorem dX5_spread_64 : decode cX5_spread 64 = .ok (.getfield 97, 3) := by decide +kernel
theorem dX5_spread_67 : decode cX5_spread 67 = .ok (.iload 7, 2) := by decide +kernel
theorem dX5_spread_69 : decode cX5_spread 69 = .ok (.iaload, 1) := by decide +kernel
theorem dX5_spread_70 : decode cX5_spread 70 = .ok (.invokestatic 93, 3) := by decide +kernel
theorem dX5_spread_73 : decode cX5_spread 73 = .ok (.ifCond .eq 20, 3) := by decide +kernel
theorem dX5_spread_76 : decode cX5_spread 76 = .ok (.iload 4, 2) := by decide +kernel
theorem dX5_spread_78 : decode cX5_spread 78 = .ok (.iconst 1, 1) := by decide +kernel
theorem dX5_spread_79 : decode cX5_spread 79 = .ok (.aload_n 0, 1) := by decide +kernel
theorem dX5_spread_80 : decode cX5_spread 80 = .ok (.getfield 12, 3) := by decide +kernel
theorem dX5_spread_83 : decode cX5_spread 83 = .ok (.getfield 100, 3) := by decide +kernel
theorem dX5_spread_86 : decode cX5_spread 86 = .ok (.iload 7, 2) := by decide +kernel
theorem dX5_spread_88 : decode cX5_spread 88 = .ok (.iaload, 1) := by decide +kernel
theorem dX5_spread_89 : decode cX5_spread 89 = .ok (.ishl, 1) := by decide +kernel
theorem dX5_spread_90 : decode cX5_spread 90 = .ok (.ior, 1) := by decide +kernel
theorem dX5_spread_91 : decode cX5_spread 91 = .ok (.istore 4, 2) := by decide +kernel
theorem dX5_spread_93 : decode cX5_spread 93 = .ok (.iload_n 3, 1) := by decide +kernel
theorem dX5_spread_94 : decode cX5_spread 94 = .ok (.iload 7, 2) := by decide +kernel
theorem dX5_spread_96 : decode cX5_spread 96 = .ok (.invokestatic 93, 3) := by decide +kernel
theorem dX5_spread_99 : decode cX5_spread 99 = .ok (.ifCond .eq 38, 3) := by decide +kernel
theorem dX5_spread_102 : decode cX5_spread 102 = .ok (.iload 4, 2) := by decide +kernel
theorem dX5_spread_104 : decode cX5_spread 104 = .ok (.aload_n 0, 1) := by decide +kernel
theorem dX5_spread_105 : decode cX5_spread 105 = .ok (.getfield 12, 3) := by decide +kernel
theorem dX5_spread_108 : decode cX5_spread 108 = .ok (.getfield 100, 3) := by decide +kernel
theorem dX5_spread_111 : decode cX5_spread 111 = .ok (.iload 7, 2) := by decide +kernel
theorem dX5_spread_113 : decode cX5_spread 113 = .ok (.iaload, 1) := by decide +kernel
theorem dX5_spread_114 : decode cX5_spread 114 = .ok (.invokestatic 93, 3) := by decide +kernel
theorem dX5_spread_117 : decode cX5_spread 117 = .ok (.ifCond .eq 20, 3) := by decide +kernel
theorem dX5_spread_120 : decode cX5_spread 120 = .ok (.iload 4, 2) := by decide +kernel
theorem dX5_spread_122 : decode cX5_spread 122 = .ok (.iconst 1, 1) := by decide +kernel
theorem dX5_spread_123 : decode cX5_spread 123 = .ok (.aload_n 0, 1) := by decide +kernel
theorem dX5_spread_124 : decode cX5_spread 124 = .ok (.getfield 12, 3) := by decide +kernel
theorem dX5_spread_127 : decode cX5_spread 127 = .ok (.getfield 97, 3) := by decide +kernel
theorem dX5_spread_130 : decode cX5_spread 130 = .ok (.iload 7, 2) := by decide +kernel
theorem dX5_spread_132 : decode cX5_spread 132 = .ok (.iaload, 1) := by decide +kernel
theorem dX5_spread_133 : decode cX5_spread 133 = .ok (.ishl, 1) := by decide +kernel
theorem dX5_spread_134 : decode cX5_spread 134 = .ok (.ior, 1) := by decide +kernel
theorem dX5_spread_135 : decode cX5_spread 135 = .ok (.istore 4, 2) := by decide +kernel
theorem dX5_spread_137 : decode cX5_spread 137 = .ok (.iinc 7 1, 3) := by decide +kernel
theorem dX5_spread_140 : decode cX5_spread 140 = .ok (.goto (-103), 3) := by decide +kernel
theorem dX5_spread_143 : decode cX5_spread 143 = .ok (.iinc 6 1, 3) := by decide +kernel
theorem dX5_spread_146 : decode cX5_spread 146 = .ok (.goto (-135), 3) := by decide +kernel
theorem dX5_spread_149 : decode cX5_spread 149 = .ok (.iload 4, 2) := by decide +kernel
theorem dX5_spread_151 : decode cX5_spread 151 = .ok (.ireturn, 1) := by decide +kernel
set_option maxRecDepth 20000 in
theorem ggX5_reachFrom_X5_upStairs : GoodIn wsX5_reachFrom wsX5_upStairs := goodIn_r _ [5, 6, 7, 8, 9, 10, 4, 11, 12, 13, 14, 15, 16, 17, 18, 37, 38, 39, 40, 41, 42, 43, 44, 45, 46, 47, 48, 49, 50, 51, 52, 53, 54] (by decide +kernel) (by decide +kernel)
set_option maxRecDepth 20000 in
theorem gX5_reachFrom_X5_upStairs : GoodIn wsX5_reachFrom (wsV RX5 103 RX5 yX5_upStairs wsX5_upStairs) := goodIn_app (goodIn_of _ (by decide +kernel)) ggX5_reachFrom_X5_upStairs
set_option maxRecDepth 20000 in
theorem ggX5_reachFrom_X5_downStairs : GoodIn wsX5_reachFrom wsX5_downStairs := goodIn_r _ [22, 14, 23, 24, 25, 26, 4, 27, 6, 7, 37, 38, 39, 40, 47, 48, 49, 50, 51, 52, 53, 54, 41, 42, 43, 44, 45, 46] (by decide +kernel) (by decide +kernel)
set_option maxRecDepth 20000 in
theorem gX5_reachFrom_X5_downStairs : GoodIn wsX5_reachFrom (wsV RX5 107 RX5 yX5_downStairs wsX5_downStairs) := goodIn_app (goodIn_of _ (by decide +kernel)) ggX5_reachFrom_X5_downStairs
set_option maxRecDepth 20000 in
theorem ggX5_reachFrom_X5_spread : GoodIn wsX5_reachFrom wsX5_spread := goodIn_r _ [31, 6, 32, 7, 33, 34, 35, 17, 36, 37, 38, 39, 40, 41, 42, 43, 44, 45, 46] (by decide +kernel) (by decide +kernel)
set_option maxRecDepth 20000 in
theorem gX5_reachFrom_X5_spread : GoodIn wsX5_reachFrom (wsV RX5 110 RX5 yX5_spread wsX5_spread) := goodIn_app (goodIn_of _ (by decide +kernel)) ggX5_reachFrom_X5_spread
theorem dX5_reachFrom_0 : decode cX5_reachFrom 0 = .ok (.aload_n 0, 1) := by decide +kernel
theorem dX5_reachFrom_1 : decode cX5_reachFrom 1 = .ok (.iload_n 2, 1) := by decide +kernel
theorem dX5_reachFrom_2 : decode cX5_reachFrom 2 = .ok (.iload_n 3, 1) := by decide +kernel
theorem dX5_reachFrom_3 : decode cX5_reachFrom 3 = .ok (.invokevirtual 103, 3) := by decide +kernel
theorem dX5_reachFrom_6 : decode cX5_reachFrom 6 = .ok (.istore 4, 2) := by decide +kernel
theorem dX5_reachFrom_8 : decode cX5_reachFrom 8 = .ok (.aload_n 0, 1) := by decide +kernel
theorem dX5_reachFrom_9 : decode cX5_reachFrom 9 = .ok (.iload_n 1, 1) := by decide +kernel
theorem dX5_reachFrom_10 : decode cX5_reachFrom 10 = .ok (.iload 4, 2) := by decide +kernel
theorem dX5_reachFrom_12 : decode cX5_reachFrom 12 = .ok (.aload_n 0, 1) := by decide +kernel
theorem dX5_reachFrom_13 : decode cX5_reachFrom 13 = .ok (.iload 4, 2) := by decide +kernel
theorem dX5_reachFrom_15 : decode cX5_reachFrom 15 = .ok (.invokevirtual 107, 3) := by decide +kernel
theorem dX5_reachFrom_18 : decode cX5_reachFrom 18 = .ok (.invokevirtual 110, 3) := by decide +kernel
theorem dX5_reachFrom_21 : decode cX5_reachFrom 21 = .ok (.ireturn, 1) := by decide +kernel
set_option maxRecDepth 20000 in
theorem ggX5_reachOfPerson_X5_reachFrom : GoodIn wsX5_reachOfPerson wsX5_reachFrom := goodIn_r _ [9, 10, 11, 12, 8, 13, 14, 15, 16, 17, 18, 19, 20, 21, 1, 22, 23, 24, 25, 26, 27, 28, 29, 30, 31, 32, 33, 34, 35, 36, 37, 38, 39, 40, 41, 42, 43, 44, 45, 46, 47, 56, 57, 58, 59, 60, 61, 48, 49, 50, 51, 52, 53, 54, 55] (by decide +kernel) (by decide +kernel)
set_option maxRecDepth 20000 in
theorem gX5_reachOfPerson_X5_reachFrom : GoodIn wsX5_reachOfPerson (wsV RX5 116 RX5 yX5_reachFrom wsX5_reachFrom) := goodIn_app (goodIn_of _ (by decide +kernel)) ggX5_reachOfPerson_X5_reachFrom
theorem dX5_reachOfPerson_0 : decode cX5_reachOfPerson 0 = .ok (.aload_n 0, 1) := by decide +kernel
theorem dX5_reachOfPerson_1 : decode cX5_reachOfPerson 1 = .ok (.aload_n 0, 1) := by decide +kernel
theorem dX5_reachOfPerson_2 : decode cX5_reachOfPerson 2 = .ok (.getfield 21, 3) := by decide +kernel
theorem dX5_reachOfPerson_5 : decode cX5_reachOfPerson 5 = .ok (.getfield 113, 3) := by decide +kernel
theorem dX5_reachOfPerson_8 : decode cX5_reachOfPerson 8 = .ok (.iload_n 1, 1) := by decide +kernel
theorem dX5_reachOfPerson_9 : decode cX5_reachOfPerson 9 = .ok (.iaload, 1) := by decide +kernel
theorem dX5_reachOfPerson_10 : decode cX5_reachOfPerson 10 = .ok (.aload_n 0, 1) := by decide +kernel
theorem dX5_reachOfPerson_11 : decode cX5_reachOfPerson 11 = .ok (.getfield 21, 3) := by decide +kernel
theorem dX5_reachOfPerson_14 : decode cX5_reachOfPerson 14 = .ok (.getfield 66, 3) := by decide +kernel
theorem dX5_reachOfPerson_17 : decode cX5_reachOfPerson 17 = .ok (.iload_n 1, 1) := by decide +kernel
theorem dX5_reachOfPerson_18 : decode cX5_reachOfPerson 18 = .ok (.iaload, 1) := by decide +kernel
theorem dX5_reachOfPerson_19 : decode cX5_reachOfPerson 19 = .ok (.aload_n 0, 1) := by decide +kernel
theorem dX5_reachOfPerson_20 : decode cX5_reachOfPerson 20 = .ok (.getfield 21, 3) := by decide +kernel
theorem dX5_reachOfPerson_23 : decode cX5_reachOfPerson 23 = .ok (.getfield 73, 3) := by decide +kernel
theorem dX5_reachOfPerson_26 : decode cX5_reachOfPerson 26 = .ok (.iload_n 1, 1) := by decide +kernel
theorem dX5_reachOfPerson_27 : decode cX5_reachOfPerson 27 = .ok (.iaload, 1) := by decide +kernel
theorem dX5_reachOfPerson_28 : decode cX5_reachOfPerson 28 = .ok (.invokevirtual 116, 3) := by decide +kernel
theorem dX5_reachOfPerson_31 : decode cX5_reachOfPerson 31 = .ok (.ireturn, 1) := by decide +kernel
set_option maxRecDepth 20000 in
theorem ggX5_otherEnd_X5_mayClimb : GoodIn wsX5_otherEnd wsX5_mayClimb := goodIn_r _ [10, 4, 11, 12, 13, 14, 15, 9, 16, 1, 17, 18, 19, 20, 21, 22, 23, 24, 25, 26, 33, 34, 35, 36, 37, 38, 39, 40, 27, 28, 29, 30, 31, 32] (by decide +kernel) (by decide +kernel)
set_option maxRecDepth 20000 in
theorem gX5_otherEnd_X5_mayClimb : GoodIn wsX5_otherEnd (wsV RX5 119 RX5 yX5_mayClimb wsX5_mayClimb) := goodIn_app (goodIn_of _ (by decide +kernel)) ggX5_otherEnd_X5_mayClimb
theorem dX5_otherEnd_0 : decode cX5_otherEnd 0 = .ok (.iload_n 3, 1) := by decide +kernel
theorem dX5_otherEnd_1 : decode cX5_otherEnd 1 = .ok (.aload_n 0, 1) := by decide +kernel
theorem dX5_otherEnd_2 : decode cX5_otherEnd 2 = .ok (.getfield 12, 3) := by decide +kernel
theorem dX5_otherEnd_5 : decode cX5_otherEnd 5 = .ok (.getfield 97, 3) := by decide +kernel
theorem dX5_otherEnd_8 : decode cX5_otherEnd 8 = .ok (.iload_n 2, 1) := by decide +kernel
theorem dX5_otherEnd_9 : decode cX5_otherEnd 9 = .ok (.iaload, 1) := by decide +kernel
theorem dX5_otherEnd_10 : decode cX5_otherEnd 10 = .ok (.if_icmp .ne 26, 3) := by decide +kernel
theorem dX5_otherEnd_13 : decode cX5_otherEnd 13 = .ok (.aload_n 0, 1) := by decide +kernel
theorem dX5_otherEnd_14 : decode cX5_otherEnd 14 = .ok (.iload_n 1, 1) := by decide +kernel
theorem dX5_otherEnd_15 : decode cX5_otherEnd 15 = .ok (.iload_n 2, 1) := by decide +kernel
theorem dX5_otherEnd_16 : decode cX5_otherEnd 16 = .ok (.invokevirtual 119, 3) := by decide +kernel
theorem dX5_otherEnd_19 : decode cX5_otherEnd 19 = .ok (.ifCond .eq 15, 3) := by decide +kernel
theorem dX5_otherEnd_22 : decode cX5_otherEnd 22 = .ok (.aload_n 0, 1) := by decide +kernel
theorem dX5_otherEnd_23 : decode cX5_otherEnd 23 = .ok (.getfield 12, 3) := by decide +kernel
theorem dX5_otherEnd_26 : decode cX5_otherEnd 26 = .ok (.getfield 100, 3) := by decide +kernel
theorem dX5_otherEnd_29 : decode cX5_otherEnd 29 = .ok (.iload_n 2, 1) := by decide +kernel
theorem dX5_otherEnd_30 : decode cX5_otherEnd 30 = .ok (.iaload, 1) := by decide +kernel
theorem dX5_otherEnd_31 : decode cX5_otherEnd 31 = .ok (.goto 4, 3) := by decide +kernel
theorem dX5_otherEnd_34 : decode cX5_otherEnd 34 = .ok (.iconst (-1), 1) := by decide +kernel
theorem dX5_otherEnd_35 : decode cX5_otherEnd 35 = .ok (.ireturn, 1) := by decide +kernel
theorem dX5_otherEnd_36 : decode cX5_otherEnd 36 = .ok (.iload_n 3, 1) := by decide +kernel
theorem dX5_otherEnd_37 : decode cX5_otherEnd 37 = .ok (.aload_n 0, 1) := by decide +kernel
theorem dX5_otherEnd_38 : decode cX5_otherEnd 38 = .ok (.getfield 12, 3) := by decide +kernel
theorem dX5_otherEnd_41 : decode cX5_otherEnd 41 = .ok (.getfield 100, 3) := by decide +kernel
theorem dX5_otherEnd_44 : decode cX5_otherEnd 44 = .ok (.iload_n 2, 1) := by decide +kernel
theorem dX5_otherEnd_45 : decode cX5_otherEnd 45 = .ok (.iaload, 1) := by decide +kernel
theorem dX5_otherEnd_46 : decode cX5_otherEnd 46 = .ok (.if_icmp .ne 37, 3) := by decide +kernel
theorem dX5_otherEnd_49 : decode cX5_otherEnd 49 = .ok (.aload_n 0, 1) := by decide +kernel
theorem dX5_otherEnd_50 : decode cX5_otherEnd 50 = .ok (.getfield 21, 3) := by decide +kernel
theorem dX5_otherEnd_53 : decode cX5_otherEnd 53 = .ok (.getfield 86, 3) := by decide +kernel
theorem dX5_otherEnd_56 : decode cX5_otherEnd 56 = .ok (.iconst 1, 1) := by decide +kernel
theorem dX5_otherEnd_57 : decode cX5_otherEnd 57 = .ok (.if_icmp .eq 12, 3) := by decide +kernel
theorem dX5_otherEnd_60 : decode cX5_otherEnd 60 = .ok (.aload_n 0, 1) := by decide +kernel
theorem dX5_otherEnd_61 : decode cX5_otherEnd 61 = .ok (.iload_n 1, 1) := by decide +kernel
theorem dX5_otherEnd_62 : decode cX5_otherEnd 62 = .ok (.iload_n 2, 1) := by decide +kernel
theorem dX5_otherEnd_63 : decode cX5_otherEnd 63 = .ok (.invokevirtual 119, 3) := by decide +kernel
theorem dX5_otherEnd_66 : decode cX5_otherEnd 66 = .ok (.ifCond .eq 15, 3) := by decide +kernel
theorem dX5_otherEnd_69 : decode cX5_otherEnd 69 = .ok (.aload_n 0, 1) := by decide +kernel
theorem dX5_otherEnd_70 : decode cX5_otherEnd 70 = .ok (.getfield 12, 3) := by decide +kernel
theorem dX5_otherEnd_73 : decode cX5_otherEnd 73 = .ok (.getfield 97, 3) := by decide +kernel
theorem dX5_otherEnd_76 : decode cX5_otherEnd 76 = .ok (.iload_n 2, 1) := by decide +kernel
theorem dX5_otherEnd_77 : decode cX5_otherEnd 77 = .ok (.iaload, 1) := by decide +kernel
theorem dX5_otherEnd_78 : decode cX5_otherEnd 78 = .ok (.goto 4, 3) := by decide +kernel
theorem dX5_otherEnd_81 : decode cX5_otherEnd 81 = .ok (.iconst (-1), 1) := by decide +kernel
theorem dX5_otherEnd_82 : decode cX5_otherEnd 82 = .ok (.ireturn, 1) := by decide +kernel
theorem dX5_otherEnd_83 : decode cX5_otherEnd 83 = .ok (.iconst (-1), 1) := by decide +kernel
theorem dX5_otherEnd_84 : decode cX5_otherEnd 84 = .ok (.ireturn, 1) := by decide +kernel
set_option maxRecDepth 20000 in
theorem ggX5_strideOn_X5_allows : GoodIn wsX5_strideOn wsX5_allows := goodIn_r _ [12, 13, 14, 15, 1, 16, 17, 18, 19, 20, 21, 22, 23, 32, 33, 34, 35, 36, 37, 24, 25, 26, 27, 28, 29, 30, 31] (by decide +kernel) (by decide +kernel)
set_option maxRecDepth 20000 in
theorem gX5_strideOn_X5_allows : GoodIn wsX5_strideOn (wsV RX5 69 RX5 yX5_allows wsX5_allows) := goodIn_app (goodIn_of _ (by decide +kernel)) ggX5_strideOn_X5_allows
theorem dX5_strideOn_0 : decode cX5_strideOn 0 = .ok (.aload_n 0, 1) := by decide +kernel
theorem dX5_strideOn_1 : decode cX5_strideOn 1 = .ok (.getfield 21, 3) := by decide +kernel
theorem dX5_strideOn_4 : decode cX5_strideOn 4 = .ok (.getfield 66, 3) := by decide +kernel
theorem dX5_strideOn_7 : decode cX5_strideOn 7 = .ok (.iload_n 1, 1) := by decide +kernel
theorem dX5_strideOn_8 : decode cX5_strideOn 8 = .ok (.iaload, 1) := by decide +kernel
theorem dX5_strideOn_9 : decode cX5_strideOn 9 = .ok (.istore_n 3, 1) := by decide +kernel
theorem dX5_strideOn_10 : decode cX5_strideOn 10 = .ok (.aload_n 0, 1) := by decide +kernel
theorem dX5_strideOn_11 : decode cX5_strideOn 11 = .ok (.getfield 21, 3) := by decide +kernel
theorem dX5_strideOn_14 : decode cX5_strideOn 14 = .ok (.getfield 73, 3) := by decide +kernel
theorem dX5_strideOn_17 : decode cX5_strideOn 17 = .ok (.iload_n 1, 1) := by decide +kernel
theorem dX5_strideOn_18 : decode cX5_strideOn 18 = .ok (.iaload, 1) := by decide +kernel
theorem dX5_strideOn_19 : decode cX5_strideOn 19 = .ok (.istore 4, 2) := by decide +kernel
theorem dX5_strideOn_21 : decode cX5_strideOn 21 = .ok (.aload_n 0, 1) := by decide +kernel
theorem dX5_strideOn_22 : decode cX5_strideOn 22 = .ok (.iload_n 2, 1) := by decide +kernel
theorem dX5_strideOn_23 : decode cX5_strideOn 23 = .ok (.iload 4, 2) := by decide +kernel
theorem dX5_strideOn_25 : decode cX5_strideOn 25 = .ok (.iconst (-1), 1) := by decide +kernel
theorem dX5_strideOn_26 : decode cX5_strideOn 26 = .ok (.iconst 0, 1) := by decide +kernel
theorem dX5_strideOn_27 : decode cX5_strideOn 27 = .ok (.invokevirtual 69, 3) := by decide +kernel
theorem dX5_strideOn_30 : decode cX5_strideOn 30 = .ok (.ifCond .ne 5, 3) := by decide +kernel
theorem dX5_strideOn_33 : decode cX5_strideOn 33 = .ok (.iload_n 3, 1) := by decide +kernel
theorem dX5_strideOn_34 : decode cX5_strideOn 34 = .ok (.ireturn, 1) := by decide +kernel
theorem dX5_strideOn_35 : decode cX5_strideOn 35 = .ok (.aload_n 0, 1) := by decide +kernel
theorem dX5_strideOn_36 : decode cX5_strideOn 36 = .ok (.iload_n 2, 1) := by decide +kernel
theorem dX5_strideOn_37 : decode cX5_strideOn 37 = .ok (.iload_n 3, 1) := by decide +kernel
theorem dX5_strideOn_38 : decode cX5_strideOn 38 = .ok (.iconst (-1), 1) := by decide +kernel
theorem dX5_strideOn_39 : decode cX5_strideOn 39 = .ok (.iconst 0, 1) := by decide +kernel
theorem dX5_strideOn_40 : decode cX5_strideOn 40 = .ok (.invokevirtual 69, 3) := by decide +kernel
theorem dX5_strideOn_43 : decode cX5_strideOn 43 = .ok (.ifCond .eq 12, 3) := by decide +kernel
theorem dX5_strideOn_46 : decode cX5_strideOn 46 = .ok (.iload_n 3, 1) := by decide +kernel
theorem dX5_strideOn_47 : decode cX5_strideOn 47 = .ok (.iload 4, 2) := by decide +kernel
theorem dX5_strideOn_49 : decode cX5_strideOn 49 = .ok (.invokestatic 122, 3) := by decide +kernel
theorem dX5_strideOn_52 : decode cX5_strideOn 52 = .ok (.goto 5, 3) := by decide +kernel
theorem dX5_strideOn_55 : decode cX5_strideOn 55 = .ok (.iload 4, 2) := by decide +kernel
theorem dX5_strideOn_57 : decode cX5_strideOn 57 = .ok (.ireturn, 1) := by decide +kernel
theorem dX5_stepsTaken_0 : decode cX5_stepsTaken 0 = .ok (.iconst 0, 1) := by decide +kernel
theorem dX5_stepsTaken_1 : decode cX5_stepsTaken 1 = .ok (.istore_n 3, 1) := by decide +kernel
theorem dX5_stepsTaken_2 : decode cX5_stepsTaken 2 = .ok (.iconst 0, 1) := by decide +kernel
theorem dX5_stepsTaken_3 : decode cX5_stepsTaken 3 = .ok (.istore 4, 2) := by decide +kernel
theorem dX5_stepsTaken_5 : decode cX5_stepsTaken 5 = .ok (.iload 4, 2) := by decide +kernel
theorem dX5_stepsTaken_7 : decode cX5_stepsTaken 7 = .ok (.aload_n 0, 1) := by decide +kernel
theorem dX5_stepsTaken_8 : decode cX5_stepsTaken 8 = .ok (.getfield 12, 3) := by decide +kernel
theorem dX5_stepsTaken_11 : decode cX5_stepsTaken 11 = .ok (.getfield 56, 3) := by decide +kernel
theorem dX5_stepsTaken_14 : decode cX5_stepsTaken 14 = .ok (.iload_n 1, 1) := by decide +kernel
theorem dX5_stepsTaken_15 : decode cX5_stepsTaken 15 = .ok (.iaload, 1) := by decide +kernel
theorem dX5_stepsTaken_16 : decode cX5_stepsTaken 16 = .ok (.if_icmp .ge 44, 3) := by decide +kernel
theorem dX5_stepsTaken_19 : decode cX5_stepsTaken 19 = .ok (.aload_n 0, 1) := by decide +kernel
theorem dX5_stepsTaken_20 : decode cX5_stepsTaken 20 = .ok (.getfield 21, 3) := by decide +kernel
theorem dX5_stepsTaken_23 : decode cX5_stepsTaken 23 = .ok (.getfield 59, 3) := by decide +kernel
theorem dX5_stepsTaken_26 : decode cX5_stepsTaken 26 = .ok (.iconst 3, 1) := by decide +kernel
theorem dX5_stepsTaken_27 : decode cX5_stepsTaken 27 = .ok (.iload_n 1, 1) := by decide +kernel
theorem dX5_stepsTaken_28 : decode cX5_stepsTaken 28 = .ok (.imul, 1) := by decide +kernel
theorem dX5_stepsTaken_29 : decode cX5_stepsTaken 29 = .ok (.iload 4, 2) := by decide +kernel
theorem dX5_stepsTaken_31 : decode cX5_stepsTaken 31 = .ok (.iadd, 1) := by decide +kernel
theorem dX5_stepsTaken_32 : decode cX5_stepsTaken 32 = .ok (.iaload, 1) := by decide +kernel
theorem dX5_stepsTaken_33 : decode cX5_stepsTaken 33 = .ok (.istore 5, 2) := by decide +kernel
theorem dX5_stepsTaken_35 : decode cX5_stepsTaken 35 = .ok (.iload_n 3, 1) := by decide +kernel
theorem dX5_stepsTaken_36 : decode cX5_stepsTaken 36 = .ok (.iload_n 2, 1) := by decide +kernel
theorem dX5_stepsTaken_37 : decode cX5_stepsTaken 37 = .ok (.ifCond .le 14, 3) := by decide +kernel
theorem dX5_stepsTaken_40 : decode cX5_stepsTaken 40 = .ok (.iload 5, 2) := by decide +kernel
theorem dX5_stepsTaken_42 : decode cX5_stepsTaken 42 = .ok (.iload_n 2, 1) := by decide +kernel
theorem dX5_stepsTaken_43 : decode cX5_stepsTaken 43 = .ok (.iadd, 1) := by decide +kernel
theorem dX5_stepsTaken_44 : decode cX5_stepsTaken 44 = .ok (.iconst 1, 1) := by decide +kernel
theorem dX5_stepsTaken_45 : decode cX5_stepsTaken 45 = .ok (.isub, 1) := by decide +kernel
theorem dX5_stepsTaken_46 : decode cX5_stepsTaken 46 = .ok (.iload_n 2, 1) := by decide +kernel
theorem dX5_stepsTaken_47 : decode cX5_stepsTaken 47 = .ok (.idiv, 1) := by decide +kernel
theorem dX5_stepsTaken_48 : decode cX5_stepsTaken 48 = .ok (.goto 4, 3) := by decide +kernel
theorem dX5_stepsTaken_51 : decode cX5_stepsTaken 51 = .ok (.iconst 0, 1) := by decide +kernel
theorem dX5_stepsTaken_52 : decode cX5_stepsTaken 52 = .ok (.iadd, 1) := by decide +kernel
theorem dX5_stepsTaken_53 : decode cX5_stepsTaken 53 = .ok (.istore_n 3, 1) := by decide +kernel
theorem dX5_stepsTaken_54 : decode cX5_stepsTaken 54 = .ok (.iinc 4 1, 3) := by decide +kernel
theorem dX5_stepsTaken_57 : decode cX5_stepsTaken 57 = .ok (.goto (-52), 3) := by decide +kernel
theorem dX5_stepsTaken_60 : decode cX5_stepsTaken 60 = .ok (.iload_n 3, 1) := by decide +kernel
theorem dX5_stepsTaken_61 : decode cX5_stepsTaken 61 = .ok (.ireturn, 1) := by decide +kernel
set_option maxRecDepth 20000 in
theorem ggX5_travel_X5_otherEnd : GoodIn wsX5_travel wsX5_otherEnd := goodIn_r _ [8, 9, 10, 11, 1, 12, 13, 14, 15, 7, 16, 17, 18, 19, 20, 21, 22, 23, 24, 25, 26, 27, 28, 41, 42, 43, 44, 53, 54, 55, 56, 57, 58, 45, 46, 47, 48, 49, 50, 51, 52] (by decide +kernel) (by decide +kernel)
set_option maxRecDepth 20000 in
theorem gX5_travel_X5_otherEnd : GoodIn wsX5_travel (wsV RX5 127 RX5 yX5_otherEnd wsX5_otherEnd) := goodIn_app (goodIn_of _ (by decide +kernel)) ggX5_travel_X5_otherEnd
set_option maxRecDepth 20000 in
theorem ggX5_travel_X5_strideOn : GoodIn wsX5_travel wsX5_strideOn := goodIn_r _ [32, 1, 17, 18, 33, 34, 35, 36, 19, 20, 21, 7, 22, 9, 23, 24, 25, 26, 27, 28, 41, 42, 43, 44, 45, 46, 47, 48, 49, 50, 51, 52, 53, 54, 55, 56, 57, 58] (by decide +kernel) (by decide +kernel)
set_option maxRecDepth 20000 in
theorem gX5_travel_X5_strideOn : GoodIn wsX5_travel (wsV RX5 130 RX5 yX5_strideOn wsX5_strideOn) := goodIn_app (goodIn_of _ (by decide +kernel)) ggX5_travel_X5_strideOn
set_option maxRecDepth 20000 in
theorem ggX5_travel_X5_stepsTaken : GoodIn wsX5_travel wsX5_stepsTaken := goodIn_r _ [40, 9, 24, 1, 25, 41, 42, 43, 44, 53, 54, 55, 56, 57, 58, 45, 46, 47, 48, 49, 50, 51, 52] (by decide +kernel) (by decide +kernel)
set_option maxRecDepth 20000 in
theorem gX5_travel_X5_stepsTaken : GoodIn wsX5_travel (wsV RX5 133 RX5 yX5_stepsTaken wsX5_stepsTaken) := goodIn_app (goodIn_of _ (by decide +kernel)) ggX5_travel_X5_stepsTaken
theorem dX5_travel_0 : decode cX5_travel 0 = .ok (.aload_n 0, 1) := by decide +kernel
theorem dX5_travel_1 : decode cX5_travel 1 = .ok (.iload_n 1, 1) := by decide +kernel
theorem dX5_travel_2 : decode cX5_travel 2 = .ok (.iload_n 2, 1) := by decide +kernel
theorem dX5_travel_3 : decode cX5_travel 3 = .ok (.aload_n 0, 1) := by decide +kernel
theorem dX5_travel_4 : decode cX5_travel 4 = .ok (.getfield 21, 3) := by decide +kernel
theorem dX5_travel_7 : decode cX5_travel 7 = .ok (.getfield 113, 3) := by decide +kernel
theorem dX5_travel_10 : decode cX5_travel 10 = .ok (.iload_n 1, 1) := by decide +kernel
theorem dX5_travel_11 : decode cX5_travel 11 = .ok (.iaload, 1) := by decide +kernel
theorem dX5_travel_12 : decode cX5_travel 12 = .ok (.invokevirtual 127, 3) := by decide +kernel
theorem dX5_travel_15 : decode cX5_travel 15 = .ok (.istore_n 3, 1) := by decide +kernel
theorem dX5_travel_16 : decode cX5_travel 16 = .ok (.iload_n 3, 1) := by decide +kernel
theorem dX5_travel_17 : decode cX5_travel 17 = .ok (.iconst (-1), 1) := by decide +kernel
theorem dX5_travel_18 : decode cX5_travel 18 = .ok (.if_icmp .ne 5, 3) := by decide +kernel
theorem dX5_travel_21 : decode cX5_travel 21 = .ok (.iconst 0, 1) := by decide +kernel
theorem dX5_travel_22 : decode cX5_travel 22 = .ok (.ireturn, 1) := by decide +kernel
theorem dX5_travel_23 : decode cX5_travel 23 = .ok (.aload_n 0, 1) := by decide +kernel
theorem dX5_travel_24 : decode cX5_travel 24 = .ok (.getfield 21, 3) := by decide +kernel
theorem dX5_travel_27 : decode cX5_travel 27 = .ok (.getfield 50, 3) := by decide +kernel
theorem dX5_travel_30 : decode cX5_travel 30 = .ok (.iload_n 2, 1) := by decide +kernel
theorem dX5_travel_31 : decode cX5_travel 31 = .ok (.dup2, 1) := by decide +kernel
theorem dX5_travel_32 : decode cX5_travel 32 = .ok (.iaload, 1) := by decide +kernel
theorem dX5_travel_33 : decode cX5_travel 33 = .ok (.aload_n 0, 1) := by decide +kernel
theorem dX5_travel_34 : decode cX5_travel 34 = .ok (.iload_n 2, 1) := by decide +kernel
theorem dX5_travel_35 : decode cX5_travel 35 = .ok (.aload_n 0, 1) := by decide +kernel
theorem dX5_travel_36 : decode cX5_travel 36 = .ok (.iload_n 1, 1) := by decide +kernel
theorem dX5_travel_37 : decode cX5_travel 37 = .ok (.iload_n 2, 1) := by decide +kernel
theorem dX5_travel_38 : decode cX5_travel 38 = .ok (.invokevirtual 130, 3) := by decide +kernel
theorem dX5_travel_41 : decode cX5_travel 41 = .ok (.invokevirtual 133, 3) := by decide +kernel
theorem dX5_travel_44 : decode cX5_travel 44 = .ok (.iadd, 1) := by decide +kernel
theorem dX5_travel_45 : decode cX5_travel 45 = .ok (.iastore, 1) := by decide +kernel
theorem dX5_travel_46 : decode cX5_travel 46 = .ok (.aload_n 0, 1) := by decide +kernel
theorem dX5_travel_47 : decode cX5_travel 47 = .ok (.getfield 21, 3) := by decide +kernel
theorem dX5_travel_50 : decode cX5_travel 50 = .ok (.getfield 113, 3) := by decide +kernel
theorem dX5_travel_53 : decode cX5_travel 53 = .ok (.iload_n 1, 1) := by decide +kernel
theorem dX5_travel_54 : decode cX5_travel 54 = .ok (.iload_n 3, 1) := by decide +kernel
theorem dX5_travel_55 : decode cX5_travel 55 = .ok (.iastore, 1) := by decide +kernel
theorem dX5_travel_56 : decode cX5_travel 56 = .ok (.iconst 1, 1) := by decide +kernel
theorem dX5_travel_57 : decode cX5_travel 57 = .ok (.ireturn, 1) := by decide +kernel
set_option maxRecDepth 20000 in
theorem ggX5_liveDay_X3_draw : GoodIn wsX5_liveDay wsX3_draw := goodIn_r _ [11, 12, 13, 14, 15, 16, 69, 70, 71, 72, 73, 74, 75, 76] (by decide +kernel) (by decide +kernel)
set_option maxRecDepth 20000 in
theorem gX5_liveDay_X3_draw : GoodIn wsX5_liveDay (wsV RX5 136 RX3 yX3_draw wsX3_draw) := goodIn_app (goodIn_of _ (by decide +kernel)) ggX5_liveDay_X3_draw
set_option maxRecDepth 20000 in
theorem ggX5_liveDay_X5_travel : GoodIn wsX5_liveDay wsX5_travel := goodIn_r _ [21, 1, 6, 22, 23, 24, 25, 20, 26, 3, 27, 28, 29, 30, 31, 32, 33, 5, 34, 35, 36, 37, 38, 39, 40, 41, 42, 43, 44, 45, 46, 47, 48, 49, 50, 51, 52, 53, 54, 55, 56, 65, 66, 67, 68, 69, 70, 71, 72, 73, 74, 75, 76, 77, 78, 79, 80, 81, 82] (by decide +kernel) (by decide +kernel)
set_option maxRecDepth 20000 in
theorem gX5_liveDay_X5_travel : GoodIn wsX5_liveDay (wsV RX5 139 RX5 yX5_travel wsX5_travel) := goodIn_app (goodIn_of _ (by decide +kernel)) ggX5_liveDay_X5_travel
set_option maxRecDepth 20000 in
theorem ggX5_liveDay_X3_addPerson : GoodIn wsX5_liveDay wsX3_addPerson := goodIn_r _ [60, 61, 62, 63, 64, 69, 70, 71, 72, 73, 74, 75, 76] (by decide +kernel) (by decide +kernel)
set_option maxRecDepth 20000 in
theorem gX5_liveDay_X3_addPerson : GoodIn wsX5_liveDay (wsV RX5 142 RX3 yX3_addPerson wsX3_addPerson) := goodIn_app (goodIn_of _ (by decide +kernel)) ggX5_liveDay_X3_addPerson
theorem dX5_liveDay_0 : decode cX5_liveDay 0 = .ok (.aload_n 0, 1) := by decide +kernel
theorem dX5_liveDay_1 : decode cX5_liveDay 1 = .ok (.getfield 21, 3) := by decide +kernel
theorem dX5_liveDay_4 : decode cX5_liveDay 4 = .ok (.aload_n 0, 1) := by decide +kernel
theorem dX5_liveDay_5 : decode cX5_liveDay 5 = .ok (.getfield 21, 3) := by decide +kernel
theorem dX5_liveDay_8 : decode cX5_liveDay 8 = .ok (.getfield 39, 3) := by decide +kernel
theorem dX5_liveDay_11 : decode cX5_liveDay 11 = .ok (.invokevirtual 136, 3) := by decide +kernel
theorem dX5_liveDay_14 : decode cX5_liveDay 14 = .ok (.istore_n 1, 1) := by decide +kernel
theorem dX5_liveDay_15 : decode cX5_liveDay 15 = .ok (.aload_n 0, 1) := by decide +kernel
theorem dX5_liveDay_16 : decode cX5_liveDay 16 = .ok (.getfield 21, 3) := by decide +kernel
theorem dX5_liveDay_19 : decode cX5_liveDay 19 = .ok (.aload_n 0, 1) := by decide +kernel
theorem dX5_liveDay_20 : decode cX5_liveDay 20 = .ok (.getfield 12, 3) := by decide +kernel
theorem dX5_liveDay_23 : decode cX5_liveDay 23 = .ok (.getfield 36, 3) := by decide +kernel
theorem dX5_liveDay_26 : decode cX5_liveDay 26 = .ok (.invokevirtual 136, 3) := by decide +kernel
theorem dX5_liveDay_29 : decode cX5_liveDay 29 = .ok (.istore_n 2, 1) := by decide +kernel
theorem dX5_liveDay_30 : decode cX5_liveDay 30 = .ok (.aload_n 0, 1) := by decide +kernel
theorem dX5_liveDay_31 : decode cX5_liveDay 31 = .ok (.iload_n 1, 1) := by decide +kernel
theorem dX5_liveDay_32 : decode cX5_liveDay 32 = .ok (.iload_n 2, 1) := by decide +kernel
theorem dX5_liveDay_33 : decode cX5_liveDay 33 = .ok (.invokevirtual 139, 3) := by decide +kernel
theorem dX5_liveDay_36 : decode cX5_liveDay 36 = .ok (.pop, 1) := by decide +kernel
theorem dX5_liveDay_37 : decode cX5_liveDay 37 = .ok (.aload_n 0, 1) := by decide +kernel
theorem dX5_liveDay_38 : decode cX5_liveDay 38 = .ok (.getfield 21, 3) := by decide +kernel
theorem dX5_liveDay_41 : decode cX5_liveDay 41 = .ok (.bipush 16, 2) := by decide +kernel
theorem dX5_liveDay_43 : decode cX5_liveDay 43 = .ok (.invokevirtual 136, 3) := by decide +kernel
theorem dX5_liveDay_46 : decode cX5_liveDay 46 = .ok (.ifCond .ne 7, 3) := by decide +kernel
theorem dX5_liveDay_49 : decode cX5_liveDay 49 = .ok (.iconst 1, 1) := by decide +kernel
theorem dX5_liveDay_50 : decode cX5_liveDay 50 = .ok (.goto 4, 3) := by decide +kernel
theorem dX5_liveDay_53 : decode cX5_liveDay 53 = .ok (.iconst 0, 1) := by decide +kernel
theorem dX5_liveDay_54 : decode cX5_liveDay 54 = .ok (.istore_n 3, 1) := by decide +kernel
theorem dX5_liveDay_55 : decode cX5_liveDay 55 = .ok (.iload_n 3, 1) := by decide +kernel
theorem dX5_liveDay_56 : decode cX5_liveDay 56 = .ok (.ifCond .eq 70, 3) := by decide +kernel
theorem dX5_liveDay_59 : decode cX5_liveDay 59 = .ok (.aload_n 0, 1) := by decide +kernel
theorem dX5_liveDay_60 : decode cX5_liveDay 60 = .ok (.getfield 21, 3) := by decide +kernel
theorem dX5_liveDay_63 : decode cX5_liveDay 63 = .ok (.getfield 39, 3) := by decide +kernel
theorem dX5_liveDay_66 : decode cX5_liveDay 66 = .ok (.bipush 8, 2) := by decide +kernel
theorem dX5_liveDay_68 : decode cX5_liveDay 68 = .ok (.if_icmp .ge 58, 3) := by decide +kernel
theorem dX5_liveDay_71 : decode cX5_liveDay 71 = .ok (.aload_n 0, 1) := by decide +kernel
theorem dX5_liveDay_72 : decode cX5_liveDay 72 = .ok (.getfield 21, 3) := by decide +kernel
theorem dX5_liveDay_75 : decode cX5_liveDay 75 = .ok (.iconst 2, 1) := by decide +kernel
theorem dX5_liveDay_76 : decode cX5_liveDay 76 = .ok (.invokevirtual 136, 3) := by decide +kernel
theorem dX5_liveDay_79 : decode cX5_liveDay 79 = .ok (.ifCond .ne 15, 3) := by decide +kernel
theorem dX5_liveDay_82 : decode cX5_liveDay 82 = .ok (.aload_n 0, 1) := by decide +kernel
theorem dX5_liveDay_83 : decode cX5_liveDay 83 = .ok (.getfield 21, 3) := by decide +kernel
theorem dX5_liveDay_86 : decode cX5_liveDay 86 = .ok (.getfield 66, 3) := by decide +kernel
theorem dX5_liveDay_89 : decode cX5_liveDay 89 = .ok (.iload_n 1, 1) := by decide +kernel
theorem dX5_liveDay_90 : decode cX5_liveDay 90 = .ok (.iaload, 1) := by decide +kernel
theorem dX5_liveDay_91 : decode cX5_liveDay 91 = .ok (.goto 14, 3) := by decide +kernel
theorem dX5_liveDay_94 : decode cX5_liveDay 94 = .ok (.aload_n 0, 1) := by decide +kernel
theorem dX5_liveDay_95 : decode cX5_liveDay 95 = .ok (.getfield 21, 3) := by decide +kernel
theorem dX5_liveDay_98 : decode cX5_liveDay 98 = .ok (.bipush 24, 2) := by decide +kernel
theorem dX5_liveDay_100 : decode cX5_liveDay 100 = .ok (.invokevirtual 136, 3) := by decide +kernel
theorem dX5_liveDay_103 : decode cX5_liveDay 103 = .ok (.iconst 1, 1) := by decide +kernel
theorem dX5_liveDay_104 : decode cX5_liveDay 104 = .ok (.iadd, 1) := by decide +kernel
theorem dX5_liveDay_105 : decode cX5_liveDay 105 = .ok (.istore 4, 2) := by decide +kernel
theorem dX5_liveDay_107 : decode cX5_liveDay 107 = .ok (.aload_n 0, 1) := by decide +kernel
theorem dX5_liveDay_108 : decode cX5_liveDay 108 = .ok (.getfield 21, 3) := by decide +kernel
theorem dX5_liveDay_111 : decode cX5_liveDay 111 = .ok (.aload_n 0, 1) := by decide +kernel
theorem dX5_liveDay_112 : decode cX5_liveDay 112 = .ok (.getfield 21, 3) := by decide +kernel
theorem dX5_liveDay_115 : decode cX5_liveDay 115 = .ok (.getfield 113, 3) := by decide +kernel
theorem dX5_liveDay_118 : decode cX5_liveDay 118 = .ok (.iload_n 1, 1) := by decide +kernel
theorem dX5_liveDay_119 : decode cX5_liveDay 119 = .ok (.iaload, 1) := by decide +kernel
theorem dX5_liveDay_120 : decode cX5_liveDay 120 = .ok (.iload 4, 2) := by decide +kernel
theorem dX5_liveDay_122 : decode cX5_liveDay 122 = .ok (.iconst 0, 1) := by decide +kernel
theorem dX5_liveDay_123 : decode cX5_liveDay 123 = .ok (.invokevirtual 142, 3) := by decide +kernel
theorem dX5_liveDay_126 : decode cX5_liveDay 126 = .ok (.return_, 1) := by decide +kernel
set_option maxRecDepth 20000 in
theorem ggX5_fewestCarriers_X5_findLifts : GoodIn wsX5_fewestCarriers wsX5_findLifts := goodIn_r _ [12, 1, 4, 2, 3, 7, 5, 6, 13, 14, 15, 16, 17, 18, 19, 11, 20, 21, 22, 23, 24, 25, 26, 27, 28, 29, 30, 31, 32, 33, 34, 35, 36, 37, 38, 39, 40, 41, 42, 43, 44, 45, 46, 61, 62, 63, 64, 65, 66, 67, 68, 69, 70, 71, 72, 73, 74, 75, 76, 77, 78] (by decide +kernel) (by decide +kernel)
set_option maxRecDepth 20000 in
theorem gX5_fewestCarriers_X5_findLifts : GoodIn wsX5_fewestCarriers (wsV RX5 146 RX5 yX5_findLifts wsX5_findLifts) := goodIn_app (goodIn_of _ (by decide +kernel)) ggX5_fewestCarriers_X5_findLifts
set_option maxRecDepth 20000 in
theorem ggX5_fewestCarriers_X5_upStairs : GoodIn wsX5_fewestCarriers wsX5_upStairs := goodIn_r _ [20, 13, 14, 21, 22, 23, 11, 24, 25, 26, 1, 27, 28, 29, 30, 61, 62, 63, 64, 73, 74, 75, 76, 77, 78, 65, 66, 67, 68, 69, 70, 71, 72] (by decide +kernel) (by decide +kernel)
set_option maxRecDepth 20000 in
theorem gX5_fewestCarriers_X5_upStairs : GoodIn wsX5_fewestCarriers (wsV RX5 103 RX5 yX5_upStairs wsX5_upStairs) := goodIn_app (goodIn_of _ (by decide +kernel)) ggX5_fewestCarriers_X5_upStairs
set_option maxRecDepth 20000 in
theorem ggX5_fewestCarriers_X5_downStairs : GoodIn wsX5_fewestCarriers wsX5_downStairs := goodIn_r _ [34, 1, 35, 36, 37, 38, 11, 39, 13, 14, 61, 62, 63, 64, 65, 66, 67, 68, 69, 70, 71, 72, 73, 74, 75, 76, 77, 78] (by decide +kernel) (by decide +kernel)
set_option maxRecDepth 20000 in
theorem gX5_fewestCarriers_X5_downStairs : GoodIn wsX5_fewestCarriers (wsV RX5 107 RX5 yX5_downStairs wsX5_downStairs) := goodIn_app (goodIn_of _ (by decide +kernel)) ggX5_fewestCarriers_X5_downStairs
set_option maxRecDepth 20000 in
theorem ggX5_fewestCarriers_X5_isFewer : GoodIn wsX5_fewestCarriers wsX5_isFewer := goodIn_r _ [49, 50, 51, 52, 53, 54, 55, 56] (by decide +kernel) (by decide +kernel)
set_option maxRecDepth 20000 in
theorem gX5_fewestCarriers_X5_isFewer : GoodIn wsX5_fewestCarriers (va_wsS RX5 149 yX5_isFewer wsX5_isFewer) := goodIn_app (goodIn_of _ (by decide +kernel)) ggX5_fewestCarriers_X5_isFewer
set_option maxRecDepth 20000 in
theorem ggX5_fewestCarriers_X5_union : GoodIn wsX5_fewestCarriers wsX5_union := goodIn_r _ [60, 1, 4, 45, 29, 46, 61, 62, 63, 64, 65, 66, 67, 68, 69, 70, 71, 72] (by decide +kernel) (by decide +kernel)
set_option maxRecDepth 20000 in
theorem gX5_fewestCarriers_X5_union : GoodIn wsX5_fewestCarriers (wsV RX5 152 RX5 yX5_union wsX5_union) := goodIn_app (goodIn_of _ (by decide +kernel)) ggX5_fewestCarriers_X5_union
set_option maxRecDepth 20000 in
theorem ggX5_fewestCarriers_X5_spread : GoodIn wsX5_fewestCarriers wsX5_spread := goodIn_r _ [43, 13, 44, 14, 15, 16, 45, 29, 46, 61, 62, 63, 64, 73, 74, 75, 76, 77, 78] (by decide +kernel) (by decide +kernel)
set_option maxRecDepth 20000 in
theorem gX5_fewestCarriers_X5_spread : GoodIn wsX5_fewestCarriers (wsV RX5 110 RX5 yX5_spread wsX5_spread) := goodIn_app (goodIn_of _ (by decide +kernel)) ggX5_fewestCarriers_X5_spread
set_option maxRecDepth 20000 in
theorem ggX5_fewestCarriers_X6_has : GoodIn wsX5_fewestCarriers wsX6_has := goodIn_r _ [46] (by decide +kernel) (by decide +kernel)
set_option maxRecDepth 20000 in
theorem gX5_fewestCarriers_X6_has_n93 : GoodIn wsX5_fewestCarriers (wsX6_has) := ggX5_fewestCarriers_X6_has
theorem dX5_fewestCarriers_0 : decode cX5_fewestCarriers 0 = .ok (.aload_n 0, 1) := by decide +kernel
theorem dX5_fewestCarriers_1 : decode cX5_fewestCarriers 1 = .ok (.invokevirtual 146, 3) := by decide +kernel
theorem dX5_fewestCarriers_4 : decode cX5_fewestCarriers 4 = .ok (.aload_n 0, 1) := by decide +kernel
theorem dX5_fewestCarriers_5 : decode cX5_fewestCarriers 5 = .ok (.aload_n 0, 1) := by decide +kernel
theorem dX5_fewestCarriers_6 : decode cX5_fewestCarriers 6 = .ok (.getfield 21, 3) := by decide +kernel
theorem dX5_fewestCarriers_9 : decode cX5_fewestCarriers 9 = .ok (.getfield 66, 3) := by decide +kernel
theorem dX5_fewestCarriers_12 : decode cX5_fewestCarriers 12 = .ok (.iload_n 1, 1) := by decide +kernel
theorem dX5_fewestCarriers_13 : decode cX5_fewestCarriers 13 = .ok (.iaload, 1) := by decide +kernel
theorem dX5_fewestCarriers_14 : decode cX5_fewestCarriers 14 = .ok (.aload_n 0, 1) := by decide +kernel
theorem dX5_fewestCarriers_15 : decode cX5_fewestCarriers 15 = .ok (.getfield 21, 3) := by decide +kernel
theorem dX5_fewestCarriers_18 : decode cX5_fewestCarriers 18 = .ok (.getfield 73, 3) := by decide +kernel
theorem dX5_fewestCarriers_21 : decode cX5_fewestCarriers 21 = .ok (.iload_n 1, 1) := by decide +kernel
theorem dX5_fewestCarriers_22 : decode cX5_fewestCarriers 22 = .ok (.iaload, 1) := by decide +kernel
theorem dX5_fewestCarriers_23 : decode cX5_fewestCarriers 23 = .ok (.invokevirtual 103, 3) := by decide +kernel
theorem dX5_fewestCarriers_26 : decode cX5_fewestCarriers 26 = .ok (.istore_n 3, 1) := by decide +kernel
theorem dX5_fewestCarriers_27 : decode cX5_fewestCarriers 27 = .ok (.aload_n 0, 1) := by decide +kernel
theorem dX5_fewestCarriers_28 : decode cX5_fewestCarriers 28 = .ok (.iload_n 3, 1) := by decide +kernel
theorem dX5_fewestCarriers_29 : decode cX5_fewestCarriers 29 = .ok (.invokevirtual 107, 3) := by decide +kernel
theorem dX5_fewestCarriers_32 : decode cX5_fewestCarriers 32 = .ok (.istore 4, 2) := by decide +kernel
theorem dX5_fewestCarriers_34 : decode cX5_fewestCarriers 34 = .ok (.iconst (-1), 1) := by decide +kernel
theorem dX5_fewestCarriers_35 : decode cX5_fewestCarriers 35 = .ok (.istore 5, 2) := by decide +kernel
theorem dX5_fewestCarriers_37 : decode cX5_fewestCarriers 37 = .ok (.iconst 0, 1) := by decide +kernel
theorem dX5_fewestCarriers_38 : decode cX5_fewestCarriers 38 = .ok (.istore 6, 2) := by decide +kernel
theorem dX5_fewestCarriers_40 : decode cX5_fewestCarriers 40 = .ok (.iload 6, 2) := by decide +kernel
theorem dX5_fewestCarriers_42 : decode cX5_fewestCarriers 42 = .ok (.iconst 1, 1) := by decide +kernel
theorem dX5_fewestCarriers_43 : decode cX5_fewestCarriers 43 = .ok (.aload_n 0, 1) := by decide +kernel
theorem dX5_fewestCarriers_44 : decode cX5_fewestCarriers 44 = .ok (.getfield 21, 3) := by decide +kernel
theorem dX5_fewestCarriers_47 : decode cX5_fewestCarriers 47 = .ok (.getfield 39, 3) := by decide +kernel
theorem dX5_fewestCarriers_50 : decode cX5_fewestCarriers 50 = .ok (.ishl, 1) := by decide +kernel
theorem dX5_fewestCarriers_51 : decode cX5_fewestCarriers 51 = .ok (.if_icmp .ge 81, 3) := by decide +kernel
theorem dX5_fewestCarriers_54 : decode cX5_fewestCarriers 54 = .ok (.iload 6, 2) := by decide +kernel
theorem dX5_fewestCarriers_56 : decode cX5_fewestCarriers 56 = .ok (.iload 5, 2) := by decide +kernel
theorem dX5_fewestCarriers_58 : decode cX5_fewestCarriers 58 = .ok (.invokestatic 149, 3) := by decide +kernel
theorem dX5_fewestCarriers_61 : decode cX5_fewestCarriers 61 = .ok (.ifCond .eq 65, 3) := by decide +kernel
theorem dX5_fewestCarriers_64 : decode cX5_fewestCarriers 64 = .ok (.iload_n 3, 1) := by decide +kernel
theorem dX5_fewestCarriers_65 : decode cX5_fewestCarriers 65 = .ok (.aload_n 0, 1) := by decide +kernel
theorem dX5_fewestCarriers_66 : decode cX5_fewestCarriers 66 = .ok (.aload_n 0, 1) := by decide +kernel
theorem dX5_fewestCarriers_67 : decode cX5_fewestCarriers 67 = .ok (.getfield 25, 3) := by decide +kernel
theorem dX5_fewestCarriers_70 : decode cX5_fewestCarriers 70 = .ok (.iload 6, 2) := by decide +kernel
theorem dX5_fewestCarriers_72 : decode cX5_fewestCarriers 72 = .ok (.invokevirtual 152, 3) := by decide +kernel
theorem dX5_fewestCarriers_75 : decode cX5_fewestCarriers 75 = .ok (.ior, 1) := by decide +kernel
theorem dX5_fewestCarriers_76 : decode cX5_fewestCarriers 76 = .ok (.istore 7, 2) := by decide +kernel
theorem dX5_fewestCarriers_78 : decode cX5_fewestCarriers 78 = .ok (.iload 4, 2) := by decide +kernel
theorem dX5_fewestCarriers_80 : decode cX5_fewestCarriers 80 = .ok (.aload_n 0, 1) := by decide +kernel
theorem dX5_fewestCarriers_81 : decode cX5_fewestCarriers 81 = .ok (.aload_n 0, 1) := by decide +kernel
theorem dX5_fewestCarriers_82 : decode cX5_fewestCarriers 82 = .ok (.getfield 29, 3) := by decide +kernel
theorem dX5_fewestCarriers_85 : decode cX5_fewestCarriers 85 = .ok (.iload 6, 2) := by decide +kernel
theorem dX5_fewestCarriers_87 : decode cX5_fewestCarriers 87 = .ok (.invokevirtual 152, 3) := by decide +kernel
theorem dX5_fewestCarriers_90 : decode cX5_fewestCarriers 90 = .ok (.ior, 1) := by decide +kernel
theorem dX5_fewestCarriers_91 : decode cX5_fewestCarriers 91 = .ok (.istore 8, 2) := by decide +kernel
theorem dX5_fewestCarriers_93 : decode cX5_fewestCarriers 93 = .ok (.aload_n 0, 1) := by decide +kernel
theorem dX5_fewestCarriers_94 : decode cX5_fewestCarriers 94 = .ok (.aload_n 0, 1) := by decide +kernel
theorem dX5_fewestCarriers_95 : decode cX5_fewestCarriers 95 = .ok (.getfield 21, 3) := by decide +kernel
theorem dX5_fewestCarriers_98 : decode cX5_fewestCarriers 98 = .ok (.getfield 113, 3) := by decide +kernel
theorem dX5_fewestCarriers_101 : decode cX5_fewestCarriers 101 = .ok (.iload_n 1, 1) := by decide +kernel
theorem dX5_fewestCarriers_102 : decode cX5_fewestCarriers 102 = .ok (.iaload, 1) := by decide +kernel
theorem dX5_fewestCarriers_103 : decode cX5_fewestCarriers 103 = .ok (.iload 7, 2) := by decide +kernel
theorem dX5_fewestCarriers_105 : decode cX5_fewestCarriers 105 = .ok (.iload 8, 2) := by decide +kernel
theorem dX5_fewestCarriers_107 : decode cX5_fewestCarriers 107 = .ok (.invokevirtual 110, 3) := by decide +kernel
theorem dX5_fewestCarriers_110 : decode cX5_fewestCarriers 110 = .ok (.iload_n 2, 1) := by decide +kernel
theorem dX5_fewestCarriers_111 : decode cX5_fewestCarriers 111 = .ok (.invokestatic 93, 3) := by decide +kernel
theorem dX5_fewestCarriers_114 : decode cX5_fewestCarriers 114 = .ok (.ifCond .eq 8, 3) := by decide +kernel
theorem dX5_fewestCarriers_117 : decode cX5_fewestCarriers 117 = .ok (.iload 6, 2) := by decide +kernel
theorem dX5_fewestCarriers_119 : decode cX5_fewestCarriers 119 = .ok (.goto 5, 3) := by decide +kernel
theorem dX5_fewestCarriers_122 : decode cX5_fewestCarriers 122 = .ok (.iload 5, 2) := by decide +kernel
theorem dX5_fewestCarriers_124 : decode cX5_fewestCarriers 124 = .ok (.istore 5, 2) := by decide +kernel
theorem dX5_fewestCarriers_126 : decode cX5_fewestCarriers 126 = .ok (.iinc 6 1, 3) := by decide +kernel
theorem dX5_fewestCarriers_129 : decode cX5_fewestCarriers 129 = .ok (.goto (-89), 3) := by decide +kernel
theorem dX5_fewestCarriers_132 : decode cX5_fewestCarriers 132 = .ok (.iload 5, 2) := by decide +kernel
theorem dX5_fewestCarriers_134 : decode cX5_fewestCarriers 134 = .ok (.ireturn, 1) := by decide +kernel
set_option maxRecDepth 20000 in
theorem ggX5_findLifts_X5_upStairs : GoodIn wsX5_findLifts wsX5_upStairs := goodIn_r _ [16, 8, 9, 17, 18, 19, 15, 20, 21, 22, 1, 23, 24, 25, 26, 43, 44, 45, 46, 55, 56, 57, 58, 59, 60, 47, 48, 49, 50, 51, 52, 53, 54] (by decide +kernel) (by decide +kernel)
set_option maxRecDepth 20000 in
theorem gX5_findLifts_X5_upStairs : GoodIn wsX5_findLifts (wsV RX5 103 RX5 yX5_upStairs wsX5_upStairs) := goodIn_app (goodIn_of _ (by decide +kernel)) ggX5_findLifts_X5_upStairs
set_option maxRecDepth 20000 in
theorem ggX5_findLifts_X5_downStairs : GoodIn wsX5_findLifts wsX5_downStairs := goodIn_r _ [30, 1, 31, 32, 33, 34, 15, 35, 8, 9, 43, 44, 45, 46, 47, 48, 49, 50, 51, 52, 53, 54, 55, 56, 57, 58, 59, 60] (by decide +kernel) (by decide +kernel)
set_option maxRecDepth 20000 in
theorem gX5_findLifts_X5_downStairs : GoodIn wsX5_findLifts (wsV RX5 107 RX5 yX5_downStairs wsX5_downStairs) := goodIn_app (goodIn_of _ (by decide +kernel)) ggX5_findLifts_X5_downStairs
set_option maxRecDepth 20000 in
theorem ggX5_findLifts_X5_spread : GoodIn wsX5_findLifts wsX5_spread := goodIn_r _ [39, 8, 40, 9, 10, 11, 41, 25, 42, 43, 44, 45, 46, 55, 56, 57, 58, 59, 60] (by decide +kernel) (by decide +kernel)
set_option maxRecDepth 20000 in
theorem gX5_findLifts_X5_spread : GoodIn wsX5_findLifts (wsV RX5 110 RX5 yX5_spread wsX5_spread) := goodIn_app (goodIn_of _ (by decide +kernel)) ggX5_findLifts_X5_spread
set_option maxRecDepth 20000 in
theorem ggX5_findLifts_X6_has : GoodIn wsX5_findLifts wsX6_has := goodIn_r _ [42] (by decide +kernel) (by decide +kernel)
set_option maxRecDepth 20000 in
theorem gX5_findLifts_X6_has_n93 : GoodIn wsX5_findLifts (wsX6_has) := ggX5_findLifts_X6_has
theorem dX5_findLifts_0 : decode cX5_findLifts 0 = .ok (.iconst 0, 1) := by decide +kernel
theorem dX5_findLifts_1 : decode cX5_findLifts 1 = .ok (.istore_n 1, 1) := by decide +kernel
theorem dX5_findLifts_2 : decode cX5_findLifts 2 = .ok (.iload_n 1, 1) := by decide +kernel
theorem dX5_findLifts_3 : decode cX5_findLifts 3 = .ok (.aload_n 0, 1) := by decide +kernel
theorem dX5_findLifts_4 : decode cX5_findLifts 4 = .ok (.getfield 21, 3) := by decide +kernel
theorem dX5_findLifts_7 : decode cX5_findLifts 7 = .ok (.getfield 39, 3) := by decide +kernel
theorem dX5_findLifts_10 : decode cX5_findLifts 10 = .ok (.if_icmp .ge 170, 3) := by decide +kernel
theorem dX5_findLifts_13 : decode cX5_findLifts 13 = .ok (.aload_n 0, 1) := by decide +kernel
theorem dX5_findLifts_14 : decode cX5_findLifts 14 = .ok (.aload_n 0, 1) := by decide +kernel
theorem dX5_findLifts_15 : decode cX5_findLifts 15 = .ok (.getfield 21, 3) := by decide +kernel
theorem dX5_findLifts_18 : decode cX5_findLifts 18 = .ok (.getfield 66, 3) := by decide +kernel
theorem dX5_findLifts_21 : decode cX5_findLifts 21 = .ok (.iload_n 1, 1) := by decide +kernel
theorem dX5_findLifts_22 : decode cX5_findLifts 22 = .ok (.iaload, 1) := by decide +kernel
theorem dX5_findLifts_23 : decode cX5_findLifts 23 = .ok (.aload_n 0, 1) := by decide +kernel
theorem dX5_findLifts_24 : decode cX5_findLifts 24 = .ok (.getfield 21, 3) := by decide +kernel
theorem dX5_findLifts_27 : decode cX5_findLifts 27 = .ok (.getfield 73, 3) := by decide +kernel
theorem dX5_findLifts_30 : decode cX5_findLifts 30 = .ok (.iload_n 1, 1) := by decide +kernel
theorem dX5_findLifts_31 : decode cX5_findLifts 31 = .ok (.iaload, 1) := by decide +kernel
theorem dX5_findLifts_32 : decode cX5_findLifts 32 = .ok (.invokevirtual 103, 3) := by decide +kernel
theorem dX5_findLifts_35 : decode cX5_findLifts 35 = .ok (.istore_n 2, 1) := by decide +kernel
theorem dX5_findLifts_36 : decode cX5_findLifts 36 = .ok (.aload_n 0, 1) := by decide +kernel
theorem dX5_findLifts_37 : decode cX5_findLifts 37 = .ok (.iload_n 2, 1) := by decide +kernel
theorem dX5_findLifts_38 : decode cX5_findLifts 38 = .ok (.invokevirtual 107, 3) := by decide +kernel
theorem dX5_findLifts_41 : decode cX5_findLifts 41 = .ok (.istore_n 3, 1) := by decide +kernel
theorem dX5_findLifts_42 : decode cX5_findLifts 42 = .ok (.aload_n 0, 1) := by decide +kernel
theorem dX5_findLifts_43 : decode cX5_findLifts 43 = .ok (.aload_n 0, 1) := by decide +kernel
theorem dX5_findLifts_44 : decode cX5_findLifts 44 = .ok (.getfield 21, 3) := by decide +kernel
theorem dX5_findLifts_47 : decode cX5_findLifts 47 = .ok (.getfield 113, 3) := by decide +kernel
theorem dX5_findLifts_50 : decode cX5_findLifts 50 = .ok (.iload_n 1, 1) := by decide +kernel
theorem dX5_findLifts_51 : decode cX5_findLifts 51 = .ok (.iaload, 1) := by decide +kernel
theorem dX5_findLifts_52 : decode cX5_findLifts 52 = .ok (.iload_n 2, 1) := by decide +kernel
theorem dX5_findLifts_53 : decode cX5_findLifts 53 = .ok (.iload_n 3, 1) := by decide +kernel
theorem dX5_findLifts_54 : decode cX5_findLifts 54 = .ok (.invokevirtual 110, 3) := by decide +kernel
theorem dX5_findLifts_57 : decode cX5_findLifts 57 = .ok (.istore 4, 2) := by decide +kernel
theorem dX5_findLifts_59 : decode cX5_findLifts 59 = .ok (.aload_n 0, 1) := by decide +kernel
theorem dX5_findLifts_60 : decode cX5_findLifts 60 = .ok (.getfield 25, 3) := by decide +kernel
theorem dX5_findLifts_63 : decode cX5_findLifts 63 = .ok (.iload_n 1, 1) := by decide +kernel
theorem dX5_findLifts_64 : decode cX5_findLifts 64 = .ok (.iconst 0, 1) := by decide +kernel
theorem dX5_findLifts_65 : decode cX5_findLifts 65 = .ok (.iastore, 1) := by decide +kernel
theorem dX5_findLifts_66 : decode cX5_findLifts 66 = .ok (.aload_n 0, 1) := by decide +kernel
theorem dX5_findLifts_67 : decode cX5_findLifts 67 = .ok (.getfield 29, 3) := by decide +kernel
theorem dX5_findLifts_70 : decode cX5_findLifts 70 = .ok (.iload_n 1, 1) := by decide +kernel
theorem dX5_findLifts_71 : decode cX5_findLifts 71 = .ok (.iconst 0, 1) := by decide +kernel
theorem dX5_findLifts_72 : decode cX5_findLifts 72 = .ok (.iastore, 1) := by decide +kernel
theorem dX5_findLifts_73 : decode cX5_findLifts 73 = .ok (.iconst 0, 1) := by decide +kernel
theorem dX5_findLifts_74 : decode cX5_findLifts 74 = .ok (.istore 5, 2) := by decide +kernel
theorem dX5_findLifts_76 : decode cX5_findLifts 76 = .ok (.iload 5, 2) := by decide +kernel
theorem dX5_findLifts_78 : decode cX5_findLifts 78 = .ok (.aload_n 0, 1) := by decide +kernel
theorem dX5_findLifts_79 : decode cX5_findLifts 79 = .ok (.getfield 12, 3) := by decide +kernel
theorem dX5_findLifts_82 : decode cX5_findLifts 82 = .ok (.getfield 36, 3) := by decide +kernel
theorem dX5_findLifts_85 : decode cX5_findLifts 85 = .ok (.if_icmp .ge 89, 3) := by decide +kernel
theorem dX5_findLifts_88 : decode cX5_findLifts 88 = .ok (.iload_n 2, 1) := by decide +kernel
theorem dX5_findLifts_89 : decode cX5_findLifts 89 = .ok (.iload 5, 2) := by decide +kernel
theorem dX5_findLifts_91 : decode cX5_findLifts 91 = .ok (.invokestatic 93, 3) := by decide +kernel
theorem dX5_findLifts_94 : decode cX5_findLifts 94 = .ok (.ifCond .eq 34, 3) := by decide +kernel
theorem dX5_findLifts_97 : decode cX5_findLifts 97 = .ok (.iload 4, 2) := by decide +kernel
theorem dX5_findLifts_99 : decode cX5_findLifts 99 = .ok (.aload_n 0, 1) := by decide +kernel
theorem dX5_findLifts_100 : decode cX5_findLifts 100 = .ok (.getfield 12, 3) := by decide +kernel
theorem dX5_findLifts_103 : decode cX5_findLifts 103 = .ok (.getfield 97, 3) := by decide +kernel
theorem dX5_findLifts_106 : decode cX5_findLifts 106 = .ok (.iload 5, 2) := by decide +kernel
theorem dX5_findLifts_108 : decode cX5_findLifts 108 = .ok (.iaload, 1) := by decide +kernel
theorem dX5_findLifts_109 : decode cX5_findLifts 109 = .ok (.invokestatic 93, 3) := by decide +kernel
theorem dX5_findLifts_112 : decode cX5_findLifts 112 = .ok (.ifCond .eq 16, 3) := by decide +kernel
theorem dX5_findLifts_115 : decode cX5_findLifts 115 = .ok (.aload_n 0, 1) := by decide +kernel
theorem dX5_findLifts_116 : decode cX5_findLifts 116 = .ok (.getfield 25, 3) := by decide +kernel
theorem dX5_findLifts_119 : decode cX5_findLifts 119 = .ok (.iload_n 1, 1) := by decide +kernel
theorem dX5_findLifts_120 : decode cX5_findLifts 120 = .ok (.dup2, 1) := by decide +kernel
theorem dX5_findLifts_121 : decode cX5_findLifts 121 = .ok (.iaload, 1) := by decide +kernel
theorem dX5_findLifts_122 : decode cX5_findLifts 122 = .ok (.iconst 1, 1) := by decide +kernel
theorem dX5_findLifts_123 : decode cX5_findLifts 123 = .ok (.iload 5, 2) := by decide +kernel
theorem dX5_findLifts_125 : decode cX5_findLifts 125 = .ok (.ishl, 1) := by decide +kernel
theorem dX5_findLifts_126 : decode cX5_findLifts 126 = .ok (.ior, 1) := by decide +kernel
theorem dX5_findLifts_127 : decode cX5_findLifts 127 = .ok (.iastore, 1) := by decide +kernel
theorem dX5_findLifts_128 : decode cX5_findLifts 128 = .ok (.iload_n 3, 1) := by decide +kernel
theorem dX5_findLifts_129 : decode cX5_findLifts 129 = .ok (.iload 5, 2) := by decide +kernel
theorem dX5_findLifts_131 : decode cX5_findLifts 131 = .ok (.invokestatic 93, 3) := by decide +kernel
theorem dX5_findLifts_134 : decode cX5_findLifts 134 = .ok (.ifCond .eq 34, 3) := by decide +kernel
theorem dX5_findLifts_137 : decode cX5_findLifts 137 = .ok (.iload 4, 2) := by decide +kernel
theorem dX5_findLifts_139 : decode cX5_findLifts 139 = .ok (.aload_n 0, 1) := by decide +kernel
theorem dX5_findLifts_140 : decode cX5_findLifts 140 = .ok (.getfield 12, 3) := by decide +kernel
theorem dX5_findLifts_143 : decode cX5_findLifts 143 = .ok (.getfield 100, 3) := by decide +kernel
theorem dX5_findLifts_146 : decode cX5_findLifts 146 = .ok (.iload 5, 2) := by decide +kernel
theorem dX5_findLifts_148 : decode cX5_findLifts 148 = .ok (.iaload, 1) := by decide +kernel
theorem dX5_findLifts_149 : decode cX5_findLifts 149 = .ok (.invokestatic 93, 3) := by decide +kernel
theorem dX5_findLifts_152 : decode cX5_findLifts 152 = .ok (.ifCond .eq 16, 3) := by decide +kernel
theorem dX5_findLifts_155 : decode cX5_findLifts 155 = .ok (.aload_n 0, 1) := by decide +kernel
theorem dX5_findLifts_156 : decode cX5_findLifts 156 = .ok (.getfield 29, 3) := by decide +kernel
theorem dX5_findLifts_159 : decode cX5_findLifts 159 = .ok (.iload_n 1, 1) := by decide +kernel
theorem dX5_findLifts_160 : decode cX5_findLifts 160 = .ok (.dup2, 1) := by decide +kernel
theorem dX5_findLifts_161 : decode cX5_findLifts 161 = .ok (.iaload, 1) := by decide +kernel
theorem dX5_findLifts_162 : decode cX5_findLifts 162 = .ok (.iconst 1, 1) := by decide +kernel
theorem dX5_findLifts_163 : decode cX5_findLifts 163 = .ok (.iload 5, 2) := by decide +kernel
theorem dX5_findLifts_165 : decode cX5_findLifts 165 = .ok (.ishl, 1) := by decide +kernel
theorem dX5_findLifts_166 : decode cX5_findLifts 166 = .ok (.ior, 1) := by decide +kernel
theorem dX5_findLifts_167 : decode cX5_findLifts 167 = .ok (.iastore, 1) := by decide +kernel
theorem dX5_findLifts_168 : decode cX5_findLifts 168 = .ok (.iinc 5 1, 3) := by decide +kernel
theorem dX5_findLifts_171 : decode cX5_findLifts 171 = .ok (.goto (-95), 3) := by decide +kernel
theorem dX5_findLifts_174 : decode cX5_findLifts 174 = .ok (.iinc 1 1, 3) := by decide +kernel
theorem dX5_findLifts_177 : decode cX5_findLifts 177 = .ok (.goto (-175), 3) := by decide +kernel
theorem dX5_findLifts_180 : decode cX5_findLifts 180 = .ok (.return_, 1) := by decide +kernel
set_option maxRecDepth 20000 in
theorem ggX5_union_X6_has : GoodIn wsX5_union wsX6_has := goodIn_r _ [5] (by decide +kernel) (by decide +kernel)
set_option maxRecDepth 20000 in
theorem gX5_union_X6_has_n93 : GoodIn wsX5_union (wsX6_has) := ggX5_union_X6_has
theorem dX5_union_0 : decode cX5_union 0 = .ok (.iconst 0, 1) := by decide +kernel
theorem dX5_union_1 : decode cX5_union 1 = .ok (.istore_n 3, 1) := by decide +kernel
theorem dX5_union_2 : decode cX5_union 2 = .ok (.iconst 0, 1) := by decide +kernel
theorem dX5_union_3 : decode cX5_union 3 = .ok (.istore 4, 2) := by decide +kernel
theorem dX5_union_5 : decode cX5_union 5 = .ok (.iload 4, 2) := by decide +kernel
theorem dX5_union_7 : decode cX5_union 7 = .ok (.aload_n 0, 1) := by decide +kernel
theorem dX5_union_8 : decode cX5_union 8 = .ok (.getfield 21, 3) := by decide +kernel
theorem dX5_union_11 : decode cX5_union 11 = .ok (.getfield 39, 3) := by decide +kernel
theorem dX5_union_14 : decode cX5_union 14 = .ok (.if_icmp .ge 25, 3) := by decide +kernel
theorem dX5_union_17 : decode cX5_union 17 = .ok (.iload_n 2, 1) := by decide +kernel
theorem dX5_union_18 : decode cX5_union 18 = .ok (.iload 4, 2) := by decide +kernel
theorem dX5_union_20 : decode cX5_union 20 = .ok (.invokestatic 93, 3) := by decide +kernel
theorem dX5_union_23 : decode cX5_union 23 = .ok (.ifCond .eq 10, 3) := by decide +kernel
theorem dX5_union_26 : decode cX5_union 26 = .ok (.iload_n 3, 1) := by decide +kernel
theorem dX5_union_27 : decode cX5_union 27 = .ok (.aload_n 1, 1) := by decide +kernel
theorem dX5_union_28 : decode cX5_union 28 = .ok (.iload 4, 2) := by decide +kernel
theorem dX5_union_30 : decode cX5_union 30 = .ok (.iaload, 1) := by decide +kernel
theorem dX5_union_31 : decode cX5_union 31 = .ok (.ior, 1) := by decide +kernel
theorem dX5_union_32 : decode cX5_union 32 = .ok (.istore_n 3, 1) := by decide +kernel
theorem dX5_union_33 : decode cX5_union 33 = .ok (.iinc 4 1, 3) := by decide +kernel
theorem dX5_union_36 : decode cX5_union 36 = .ok (.goto (-31), 3) := by decide +kernel
theorem dX5_union_39 : decode cX5_union 39 = .ok (.iload_n 3, 1) := by decide +kernel
theorem dX5_union_40 : decode cX5_union 40 = .ok (.ireturn, 1) := by decide +kernel
set_option maxRecDepth 20000 in
theorem ggX5_fewestClimbers_X5_upStairs : GoodIn wsX5_fewestClimbers wsX5_upStairs := goodIn_r _ [10, 11, 12, 13, 14, 15, 9, 16, 17, 18, 1, 19, 20, 21, 22, 43, 44, 45, 46, 55, 56, 57, 58, 59, 60, 47, 48, 49, 50, 51, 52, 53, 54] (by decide +kernel) (by decide +kernel)
set_option maxRecDepth 20000 in
theorem gX5_fewestClimbers_X5_upStairs : GoodIn wsX5_fewestClimbers (wsV RX5 103 RX5 yX5_upStairs wsX5_upStairs) := goodIn_app (goodIn_of _ (by decide +kernel)) ggX5_fewestClimbers_X5_upStairs
set_option maxRecDepth 20000 in
theorem ggX5_fewestClimbers_X5_isFewer : GoodIn wsX5_fewestClimbers wsX5_isFewer := goodIn_r _ [25, 26, 27, 28, 29, 30, 31, 32] (by decide +kernel) (by decide +kernel)
set_option maxRecDepth 20000 in
theorem gX5_fewestClimbers_X5_isFewer : GoodIn wsX5_fewestClimbers (va_wsS RX5 149 yX5_isFewer wsX5_isFewer) := goodIn_app (goodIn_of _ (by decide +kernel)) ggX5_fewestClimbers_X5_isFewer
set_option maxRecDepth 20000 in
theorem ggX5_fewestClimbers_X5_union : GoodIn wsX5_fewestClimbers wsX5_union := goodIn_r _ [36, 1, 2, 37, 21, 38, 43, 44, 45, 46, 47, 48, 49, 50, 51, 52, 53, 54] (by decide +kernel) (by decide +kernel)
set_option maxRecDepth 20000 in
theorem gX5_fewestClimbers_X5_union : GoodIn wsX5_fewestClimbers (wsV RX5 152 RX5 yX5_union wsX5_union) := goodIn_app (goodIn_of _ (by decide +kernel)) ggX5_fewestClimbers_X5_union
set_option maxRecDepth 20000 in
theorem ggX5_fewestClimbers_X5_allStairs : GoodIn wsX5_fewestClimbers wsX5_allStairs := goodIn_r _ [42, 11, 12, 43, 44, 45, 46, 55, 56, 57, 58, 59, 60] (by decide +kernel) (by decide +kernel)
set_option maxRecDepth 20000 in
theorem gX5_fewestClimbers_X5_allStairs : GoodIn wsX5_fewestClimbers (wsV RX5 89 RX5 yX5_allStairs wsX5_allStairs) := goodIn_app (goodIn_of _ (by decide +kernel)) ggX5_fewestClimbers_X5_allStairs
theorem dX5_fewestClimbers_0 : decode cX5_fewestClimbers 0 = .ok (.iconst 0, 1) := by decide +kernel
theorem dX5_fewestClimbers_1 : decode cX5_fewestClimbers 1 = .ok (.istore_n 1, 1) := by decide +kernel
theorem dX5_fewestClimbers_2 : decode cX5_fewestClimbers 2 = .ok (.iload_n 1, 1) := by decide +kernel
theorem dX5_fewestClimbers_3 : decode cX5_fewestClimbers 3 = .ok (.aload_n 0, 1) := by decide +kernel
theorem dX5_fewestClimbers_4 : decode cX5_fewestClimbers 4 = .ok (.getfield 21, 3) := by decide +kernel
theorem dX5_fewestClimbers_7 : decode cX5_fewestClimbers 7 = .ok (.getfield 39, 3) := by decide +kernel
theorem dX5_fewestClimbers_10 : decode cX5_fewestClimbers 10 = .ok (.if_icmp .ge 37, 3) := by decide +kernel
theorem dX5_fewestClimbers_13 : decode cX5_fewestClimbers 13 = .ok (.aload_n 0, 1) := by decide +kernel
theorem dX5_fewestClimbers_14 : decode cX5_fewestClimbers 14 = .ok (.getfield 25, 3) := by decide +kernel
theorem dX5_fewestClimbers_17 : decode cX5_fewestClimbers 17 = .ok (.iload_n 1, 1) := by decide +kernel
theorem dX5_fewestClimbers_18 : decode cX5_fewestClimbers 18 = .ok (.aload_n 0, 1) := by decide +kernel
theorem dX5_fewestClimbers_19 : decode cX5_fewestClimbers 19 = .ok (.aload_n 0, 1) := by decide +kernel
theorem dX5_fewestClimbers_20 : decode cX5_fewestClimbers 20 = .ok (.getfield 21, 3) := by decide +kernel
theorem dX5_fewestClimbers_23 : decode cX5_fewestClimbers 23 = .ok (.getfield 66, 3) := by decide +kernel
theorem dX5_fewestClimbers_26 : decode cX5_fewestClimbers 26 = .ok (.iload_n 1, 1) := by decide +kernel
theorem dX5_fewestClimbers_27 : decode cX5_fewestClimbers 27 = .ok (.iaload, 1) := by decide +kernel
theorem dX5_fewestClimbers_28 : decode cX5_fewestClimbers 28 = .ok (.aload_n 0, 1) := by decide +kernel
theorem dX5_fewestClimbers_29 : decode cX5_fewestClimbers 29 = .ok (.getfield 21, 3) := by decide +kernel
theorem dX5_fewestClimbers_32 : decode cX5_fewestClimbers 32 = .ok (.getfield 73, 3) := by decide +kernel
theorem dX5_fewestClimbers_35 : decode cX5_fewestClimbers 35 = .ok (.iload_n 1, 1) := by decide +kernel
theorem dX5_fewestClimbers_36 : decode cX5_fewestClimbers 36 = .ok (.iaload, 1) := by decide +kernel
theorem dX5_fewestClimbers_37 : decode cX5_fewestClimbers 37 = .ok (.invokevirtual 103, 3) := by decide +kernel
theorem dX5_fewestClimbers_40 : decode cX5_fewestClimbers 40 = .ok (.iastore, 1) := by decide +kernel
theorem dX5_fewestClimbers_41 : decode cX5_fewestClimbers 41 = .ok (.iinc 1 1, 3) := by decide +kernel
theorem dX5_fewestClimbers_44 : decode cX5_fewestClimbers 44 = .ok (.goto (-42), 3) := by decide +kernel
theorem dX5_fewestClimbers_47 : decode cX5_fewestClimbers 47 = .ok (.iconst (-1), 1) := by decide +kernel
theorem dX5_fewestClimbers_48 : decode cX5_fewestClimbers 48 = .ok (.istore_n 1, 1) := by decide +kernel
theorem dX5_fewestClimbers_49 : decode cX5_fewestClimbers 49 = .ok (.iconst 0, 1) := by decide +kernel
theorem dX5_fewestClimbers_50 : decode cX5_fewestClimbers 50 = .ok (.istore_n 2, 1) := by decide +kernel
theorem dX5_fewestClimbers_51 : decode cX5_fewestClimbers 51 = .ok (.iload_n 2, 1) := by decide +kernel
theorem dX5_fewestClimbers_52 : decode cX5_fewestClimbers 52 = .ok (.iconst 1, 1) := by decide +kernel
theorem dX5_fewestClimbers_53 : decode cX5_fewestClimbers 53 = .ok (.aload_n 0, 1) := by decide +kernel
theorem dX5_fewestClimbers_54 : decode cX5_fewestClimbers 54 = .ok (.getfield 21, 3) := by decide +kernel
theorem dX5_fewestClimbers_57 : decode cX5_fewestClimbers 57 = .ok (.getfield 39, 3) := by decide +kernel
theorem dX5_fewestClimbers_60 : decode cX5_fewestClimbers 60 = .ok (.ishl, 1) := by decide +kernel
theorem dX5_fewestClimbers_61 : decode cX5_fewestClimbers 61 = .ok (.if_icmp .ge 35, 3) := by decide +kernel
theorem dX5_fewestClimbers_64 : decode cX5_fewestClimbers 64 = .ok (.iload_n 2, 1) := by decide +kernel
theorem dX5_fewestClimbers_65 : decode cX5_fewestClimbers 65 = .ok (.iload_n 1, 1) := by decide +kernel
theorem dX5_fewestClimbers_66 : decode cX5_fewestClimbers 66 = .ok (.invokestatic 149, 3) := by decide +kernel
theorem dX5_fewestClimbers_69 : decode cX5_fewestClimbers 69 = .ok (.ifCond .eq 21, 3) := by decide +kernel
theorem dX5_fewestClimbers_72 : decode cX5_fewestClimbers 72 = .ok (.aload_n 0, 1) := by decide +kernel
theorem dX5_fewestClimbers_73 : decode cX5_fewestClimbers 73 = .ok (.aload_n 0, 1) := by decide +kernel
theorem dX5_fewestClimbers_74 : decode cX5_fewestClimbers 74 = .ok (.getfield 25, 3) := by decide +kernel
theorem dX5_fewestClimbers_77 : decode cX5_fewestClimbers 77 = .ok (.iload_n 2, 1) := by decide +kernel
theorem dX5_fewestClimbers_78 : decode cX5_fewestClimbers 78 = .ok (.invokevirtual 152, 3) := by decide +kernel
theorem dX5_fewestClimbers_81 : decode cX5_fewestClimbers 81 = .ok (.aload_n 0, 1) := by decide +kernel
theorem dX5_fewestClimbers_82 : decode cX5_fewestClimbers 82 = .ok (.invokevirtual 89, 3) := by decide +kernel
theorem dX5_fewestClimbers_85 : decode cX5_fewestClimbers 85 = .ok (.if_icmp .ne 5, 3) := by decide +kernel
theorem dX5_fewestClimbers_88 : decode cX5_fewestClimbers 88 = .ok (.iload_n 2, 1) := by decide +kernel
theorem dX5_fewestClimbers_89 : decode cX5_fewestClimbers 89 = .ok (.istore_n 1, 1) := by decide +kernel
theorem dX5_fewestClimbers_90 : decode cX5_fewestClimbers 90 = .ok (.iinc 2 1, 3) := by decide +kernel
theorem dX5_fewestClimbers_93 : decode cX5_fewestClimbers 93 = .ok (.goto (-42), 3) := by decide +kernel
theorem dX5_fewestClimbers_96 : decode cX5_fewestClimbers 96 = .ok (.iload_n 1, 1) := by decide +kernel
theorem dX5_fewestClimbers_97 : decode cX5_fewestClimbers 97 = .ok (.ireturn, 1) := by decide +kernel
set_option maxRecDepth 20000 in
theorem ggX5_isFewer_J6_bitCount_0f7a4 : GoodIn wsX5_isFewer wsJ6_bitCount_0f7a4 := goodIn_r _ [4, 5, 6, 7] (by decide +kernel) (by decide +kernel)
set_option maxRecDepth 20000 in
theorem gX5_isFewer_J6_bitCount_0f7a4 : GoodIn wsX5_isFewer (va_wsS RX5 80 yJ6_bitCount_0f7a4 wsJ6_bitCount_0f7a4) := goodIn_app (goodIn_of _ (by decide +kernel)) ggX5_isFewer_J6_bitCount_0f7a4
theorem dX5_isFewer_0 : decode cX5_isFewer 0 = .ok (.iload_n 1, 1) := by decide +kernel
theorem dX5_isFewer_1 : decode cX5_isFewer 1 = .ok (.iconst (-1), 1) := by decide +kernel
theorem dX5_isFewer_2 : decode cX5_isFewer 2 = .ok (.if_icmp .eq 14, 3) := by decide +kernel
theorem dX5_isFewer_5 : decode cX5_isFewer 5 = .ok (.iload_n 0, 1) := by decide +kernel
theorem dX5_isFewer_6 : decode cX5_isFewer 6 = .ok (.invokestatic 80, 3) := by decide +kernel
theorem dX5_isFewer_9 : decode cX5_isFewer 9 = .ok (.iload_n 1, 1) := by decide +kernel
theorem dX5_isFewer_10 : decode cX5_isFewer 10 = .ok (.invokestatic 80, 3) := by decide +kernel
theorem dX5_isFewer_13 : decode cX5_isFewer 13 = .ok (.if_icmp .ge 7, 3) := by decide +kernel
theorem dX5_isFewer_16 : decode cX5_isFewer 16 = .ok (.iconst 1, 1) := by decide +kernel
theorem dX5_isFewer_17 : decode cX5_isFewer 17 = .ok (.goto 4, 3) := by decide +kernel
theorem dX5_isFewer_20 : decode cX5_isFewer 20 = .ok (.iconst 0, 1) := by decide +kernel
theorem dX5_isFewer_21 : decode cX5_isFewer 21 = .ok (.ireturn, 1) := by decide +kernel
