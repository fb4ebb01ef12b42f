theorem dX7_town_257 : decode cX7_town 257 = .ok (.ireturn, 1) := by decide +kernel
theorem dX7_fault_0 : decode cX7_fault 0 = .ok (.aload_n 0, 1) := by decide +kernel
theorem dX7_fault_1 : decode cX7_fault 1 = .ok (.getfield 40, 3) := by decide +kernel
theorem dX7_fault_4 : decode cX7_fault 4 = .ok (.ireturn, 1) := by decide +kernel
theorem dX7_allWorn_0 : decode cX7_allWorn 0 = .ok (.iconst 0, 1) := by decide +kernel
theorem dX7_allWorn_1 : decode cX7_allWorn 1 = .ok (.istore_n 1, 1) := by decide +kernel
theorem dX7_allWorn_2 : decode cX7_allWorn 2 = .ok (.iconst 0, 1) := by decide +kernel
theorem dX7_allWorn_3 : decode cX7_allWorn 3 = .ok (.istore_n 2, 1) := by decide +kernel
theorem dX7_allWorn_4 : decode cX7_allWorn 4 = .ok (.iload_n 2, 1) := by decide +kernel
theorem dX7_allWorn_5 : decode cX7_allWorn 5 = .ok (.aload_n 0, 1) := by decide +kernel
theorem dX7_allWorn_6 : decode cX7_allWorn 6 = .ok (.getfield 103, 3) := by decide +kernel
theorem dX7_allWorn_9 : decode cX7_allWorn 9 = .ok (.if_icmp .ge 18, 3) := by decide +kernel
theorem dX7_allWorn_12 : decode cX7_allWorn 12 = .ok (.iload_n 1, 1) := by decide +kernel
theorem dX7_allWorn_13 : decode cX7_allWorn 13 = .ok (.aload_n 0, 1) := by decide +kernel
theorem dX7_allWorn_14 : decode cX7_allWorn 14 = .ok (.getfield 25, 3) := by decide +kernel
theorem dX7_allWorn_17 : decode cX7_allWorn 17 = .ok (.iload_n 2, 1) := by decide +kernel
theorem dX7_allWorn_18 : decode cX7_allWorn 18 = .ok (.iaload, 1) := by decide +kernel
theorem dX7_allWorn_19 : decode cX7_allWorn 19 = .ok (.iadd, 1) := by decide +kernel
theorem dX7_allWorn_20 : decode cX7_allWorn 20 = .ok (.istore_n 1, 1) := by decide +kernel
theorem dX7_allWorn_21 : decode cX7_allWorn 21 = .ok (.iinc 2 1, 3) := by decide +kernel
theorem dX7_allWorn_24 : decode cX7_allWorn 24 = .ok (.goto (-20), 3) := by decide +kernel
theorem dX7_allWorn_27 : decode cX7_allWorn 27 = .ok (.iload_n 1, 1) := by decide +kernel
theorem dX7_allWorn_28 : decode cX7_allWorn 28 = .ok (.ireturn, 1) := by decide +kernel
set_option maxRecDepth 20000 in
theorem ggX7_told_X7_allWorn : GoodIn wsX7_told wsX7_allWorn := goodIn_r _ [13, 2, 14, 15, 16, 17, 18, 19, 20, 21, 22, 23, 24, 25, 26, 27, 28, 29, 30, 31, 32, 33, 34, 35, 36, 37, 38, 39, 40, 41, 42, 43, 44, 45, 46, 47, 48, 49, 50, 51, 52, 53, 54, 55, 56, 57, 58] (by decide +kernel) (by decide +kernel)
set_option maxRecDepth 20000 in
theorem gX7_told_X7_allWorn : GoodIn wsX7_told (wsV RX7 207 RX7 yX7_allWorn wsX7_allWorn) := goodIn_app (goodIn_of _ (by decide +kernel)) ggX7_told_X7_allWorn
theorem dX7_told_0 : decode cX7_told 0 = .ok (.iload_n 1, 1) := by decide +kernel
theorem dX7_told_1 : decode cX7_told 1 = .ok (.tableswitch 87 0 7 #[47, 52, 57, 62, 67, 72, 77, 82], 47) := by decide +kernel
theorem dX7_told_48 : decode cX7_told 48 = .ok (.aload_n 0, 1) := by decide +kernel
theorem dX7_told_49 : decode cX7_told 49 = .ok (.getfield 96, 3) := by decide +kernel
theorem dX7_told_52 : decode cX7_told 52 = .ok (.ireturn, 1) := by decide +kernel
theorem dX7_told_53 : decode cX7_told 53 = .ok (.aload_n 0, 1) := by decide +kernel
theorem dX7_told_54 : decode cX7_told 54 = .ok (.getfield 103, 3) := by decide +kernel
theorem dX7_told_57 : decode cX7_told 57 = .ok (.ireturn, 1) := by decide +kernel
theorem dX7_told_58 : decode cX7_told 58 = .ok (.aload_n 0, 1) := by decide +kernel
theorem dX7_told_59 : decode cX7_told 59 = .ok (.getfield 106, 3) := by decide +kernel
theorem dX7_told_62 : decode cX7_told 62 = .ok (.ireturn, 1) := by decide +kernel
theorem dX7_told_63 : decode cX7_told 63 = .ok (.aload_n 0, 1) := by decide +kernel
theorem dX7_told_64 : decode cX7_told 64 = .ok (.getfield 112, 3) := by decide +kernel
theorem dX7_told_67 : decode cX7_told 67 = .ok (.ireturn, 1) := by decide +kernel
theorem dX7_told_68 : decode cX7_told 68 = .ok (.aload_n 0, 1) := by decide +kernel
theorem dX7_told_69 : decode cX7_told 69 = .ok (.getfield 204, 3) := by decide +kernel
theorem dX7_told_72 : decode cX7_told 72 = .ok (.ireturn, 1) := by decide +kernel
theorem dX7_told_73 : decode cX7_told 73 = .ok (.aload_n 0, 1) := by decide +kernel
theorem dX7_told_74 : decode cX7_told 74 = .ok (.getfield 198, 3) := by decide +kernel
theorem dX7_told_77 : decode cX7_told 77 = .ok (.ireturn, 1) := by decide +kernel
theorem dX7_told_78 : decode cX7_told 78 = .ok (.aload_n 0, 1) := by decide +kernel
theorem dX7_told_79 : decode cX7_told 79 = .ok (.getfield 201, 3) := by decide +kernel
theorem dX7_told_82 : decode cX7_told 82 = .ok (.ireturn, 1) := by decide +kernel
theorem dX7_told_83 : decode cX7_told 83 = .ok (.aload_n 0, 1) := by decide +kernel
theorem dX7_told_84 : decode cX7_told 84 = .ok (.invokevirtual 207, 3) := by decide +kernel
theorem dX7_told_87 : decode cX7_told 87 = .ok (.ireturn, 1) := by decide +kernel
theorem dX7_told_88 : decode cX7_told 88 = .ok (.ldc 111, 2) := by decide +kernel
theorem dX7_told_90 : decode cX7_told 90 = .ok (.ireturn, 1) := by decide +kernel
theorem dX7_isFit_0 : decode cX7_isFit 0 = .ok (.iload_n 2, 1) := by decide +kernel
theorem dX7_isFit_1 : decode cX7_isFit 1 = .ok (.ifCond .ne 5, 3) := by decide +kernel
theorem dX7_isFit_4 : decode cX7_isFit 4 = .ok (.iconst 0, 1) := by decide +kernel
theorem dX7_isFit_5 : decode cX7_isFit 5 = .ok (.ireturn, 1) := by decide +kernel
theorem dX7_isFit_6 : decode cX7_isFit 6 = .ok (.iconst 1, 1) := by decide +kernel
theorem dX7_isFit_7 : decode cX7_isFit 7 = .ok (.istore_n 3, 1) := by decide +kernel
theorem dX7_isFit_8 : decode cX7_isFit 8 = .ok (.iconst 0, 1) := by decide +kernel
theorem dX7_isFit_9 : decode cX7_isFit 9 = .ok (.istore 4, 2) := by decide +kernel
theorem dX7_isFit_11 : decode cX7_isFit 11 = .ok (.iload 4, 2) := by decide +kernel
theorem dX7_isFit_13 : decode cX7_isFit 13 = .ok (.aload_n 0, 1) := by decide +kernel
theorem dX7_isFit_14 : decode cX7_isFit 14 = .ok (.getfield 19, 3) := by decide +kernel
theorem dX7_isFit_17 : decode cX7_isFit 17 = .ok (.iload_n 1, 1) := by decide +kernel
theorem dX7_isFit_18 : decode cX7_isFit 18 = .ok (.iaload, 1) := by decide +kernel
theorem dX7_isFit_19 : decode cX7_isFit 19 = .ok (.if_icmp .ge 72, 3) := by decide +kernel
theorem dX7_isFit_22 : decode cX7_isFit 22 = .ok (.aload_n 0, 1) := by decide +kernel
theorem dX7_isFit_23 : decode cX7_isFit 23 = .ok (.getfield 22, 3) := by decide +kernel
theorem dX7_isFit_26 : decode cX7_isFit 26 = .ok (.iconst 3, 1) := by decide +kernel
theorem dX7_isFit_27 : decode cX7_isFit 27 = .ok (.iload_n 1, 1) := by decide +kernel
theorem dX7_isFit_28 : decode cX7_isFit 28 = .ok (.imul, 1) := by decide +kernel
theorem dX7_isFit_29 : decode cX7_isFit 29 = .ok (.iload 4, 2) := by decide +kernel
theorem dX7_isFit_31 : decode cX7_isFit 31 = .ok (.iadd, 1) := by decide +kernel
theorem dX7_isFit_32 : decode cX7_isFit 32 = .ok (.iaload, 1) := by decide +kernel
theorem dX7_isFit_33 : decode cX7_isFit 33 = .ok (.istore 5, 2) := by decide +kernel
theorem dX7_isFit_35 : decode cX7_isFit 35 = .ok (.iload_n 3, 1) := by decide +kernel
theorem dX7_isFit_36 : decode cX7_isFit 36 = .ok (.ifCond .eq 47, 3) := by decide +kernel
theorem dX7_isFit_39 : decode cX7_isFit 39 = .ok (.aload_n 0, 1) := by decide +kernel
theorem dX7_isFit_40 : decode cX7_isFit 40 = .ok (.getfield 7, 3) := by decide +kernel
theorem dX7_isFit_43 : decode cX7_isFit 43 = .ok (.iload_n 1, 1) := by decide +kernel
theorem dX7_isFit_44 : decode cX7_isFit 44 = .ok (.iaload, 1) := by decide +kernel
theorem dX7_isFit_45 : decode cX7_isFit 45 = .ok (.iconst 1, 1) := by decide +kernel
theorem dX7_isFit_46 : decode cX7_isFit 46 = .ok (.if_icmp .eq 33, 3) := by decide +kernel
theorem dX7_isFit_49 : decode cX7_isFit 49 = .ok (.aload_n 0, 1) := by decide +kernel
theorem dX7_isFit_50 : decode cX7_isFit 50 = .ok (.getfield 7, 3) := by decide +kernel
theorem dX7_isFit_53 : decode cX7_isFit 53 = .ok (.iload_n 1, 1) := by decide +kernel
theorem dX7_isFit_54 : decode cX7_isFit 54 = .ok (.iaload, 1) := by decide +kernel
theorem dX7_isFit_55 : decode cX7_isFit 55 = .ok (.ifCond .ne 13, 3) := by decide +kernel
theorem dX7_isFit_58 : decode cX7_isFit 58 = .ok (.iload 5, 2) := by decide +kernel
theorem dX7_isFit_60 : decode cX7_isFit 60 = .ok (.iload_n 2, 1) := by decide +kernel
theorem dX7_isFit_61 : decode cX7_isFit 61 = .ok (.irem, 1) := by decide +kernel
theorem dX7_isFit_62 : decode cX7_isFit 62 = .ok (.ifCond .ne 21, 3) := by decide +kernel
theorem dX7_isFit_65 : decode cX7_isFit 65 = .ok (.goto 14, 3) := by decide +kernel
theorem dX7_isFit_68 : decode cX7_isFit 68 = .ok (.iload_n 2, 1) := by decide +kernel
theorem dX7_isFit_69 : decode cX7_isFit 69 = .ok (.iconst 1, 1) := by decide +kernel
theorem dX7_isFit_70 : decode cX7_isFit 70 = .ok (.if_icmp .eq 9, 3) := by decide +kernel
theorem dX7_isFit_73 : decode cX7_isFit 73 = .ok (.iload_n 2, 1) := by decide +kernel
theorem dX7_isFit_74 : decode cX7_isFit 74 = .ok (.iload 5, 2) := by decide +kernel
theorem dX7_isFit_76 : decode cX7_isFit 76 = .ok (.if_icmp .ne 7, 3) := by decide +kernel
theorem dX7_isFit_79 : decode cX7_isFit 79 = .ok (.iconst 1, 1) := by decide +kernel
theorem dX7_isFit_80 : decode cX7_isFit 80 = .ok (.goto 4, 3) := by decide +kernel
theorem dX7_isFit_83 : decode cX7_isFit 83 = .ok (.iconst 0, 1) := by decide +kernel
theorem dX7_isFit_84 : decode cX7_isFit 84 = .ok (.istore_n 3, 1) := by decide +kernel
theorem dX7_isFit_85 : decode cX7_isFit 85 = .ok (.iinc 4 1, 3) := by decide +kernel
theorem dX7_isFit_88 : decode cX7_isFit 88 = .ok (.goto (-77), 3) := by decide +kernel
theorem dX7_isFit_91 : decode cX7_isFit 91 = .ok (.iload_n 3, 1) := by decide +kernel
theorem dX7_isFit_92 : decode cX7_isFit 92 = .ok (.ireturn, 1) := by decide +kernel
set_option maxRecDepth 20000 in
theorem ggX7_mayClimb_X7_isFit : GoodIn wsX7_mayClimb wsX7_isFit := goodIn_r _ [7, 8, 9, 10, 11, 12, 13, 14, 15, 16, 17, 18, 19, 20, 21, 22, 23, 24, 25, 26, 27, 28, 29, 30, 31, 32, 33, 34, 35, 36, 37, 38, 39, 40, 41, 42, 43, 44, 45, 46, 47, 48, 49, 50, 51, 52, 53, 54] (by decide +kernel) (by decide +kernel)
set_option maxRecDepth 20000 in
theorem gX7_mayClimb_X7_isFit : GoodIn wsX7_mayClimb (wsV RX7 210 RX7 yX7_isFit wsX7_isFit) := goodIn_app (goodIn_of _ (by decide +kernel)) ggX7_mayClimb_X7_isFit
theorem dX7_mayClimb_0 : decode cX7_mayClimb 0 = .ok (.aload_n 0, 1) := by decide +kernel
theorem dX7_mayClimb_1 : decode cX7_mayClimb 1 = .ok (.iload_n 2, 1) := by decide +kernel
theorem dX7_mayClimb_2 : decode cX7_mayClimb 2 = .ok (.aload_n 0, 1) := by decide +kernel
theorem dX7_mayClimb_3 : decode cX7_mayClimb 3 = .ok (.getfield 31, 3) := by decide +kernel
theorem dX7_mayClimb_6 : decode cX7_mayClimb 6 = .ok (.iload_n 1, 1) := by decide +kernel
theorem dX7_mayClimb_7 : decode cX7_mayClimb 7 = .ok (.iaload, 1) := by decide +kernel
theorem dX7_mayClimb_8 : decode cX7_mayClimb 8 = .ok (.invokevirtual 210, 3) := by decide +kernel
theorem dX7_mayClimb_11 : decode cX7_mayClimb 11 = .ok (.ifCond .ne 17, 3) := by decide +kernel
theorem dX7_mayClimb_14 : decode cX7_mayClimb 14 = .ok (.aload_n 0, 1) := by decide +kernel
theorem dX7_mayClimb_15 : decode cX7_mayClimb 15 = .ok (.iload_n 2, 1) := by decide +kernel
theorem dX7_mayClimb_16 : decode cX7_mayClimb 16 = .ok (.aload_n 0, 1) := by decide +kernel
theorem dX7_mayClimb_17 : decode cX7_mayClimb 17 = .ok (.getfield 34, 3) := by decide +kernel
theorem dX7_mayClimb_20 : decode cX7_mayClimb 20 = .ok (.iload_n 1, 1) := by decide +kernel
theorem dX7_mayClimb_21 : decode cX7_mayClimb 21 = .ok (.iaload, 1) := by decide +kernel
theorem dX7_mayClimb_22 : decode cX7_mayClimb 22 = .ok (.invokevirtual 210, 3) := by decide +kernel
theorem dX7_mayClimb_25 : decode cX7_mayClimb 25 = .ok (.ifCond .eq 7, 3) := by decide +kernel
theorem dX7_mayClimb_28 : decode cX7_mayClimb 28 = .ok (.iconst 1, 1) := by decide +kernel
theorem dX7_mayClimb_29 : decode cX7_mayClimb 29 = .ok (.goto 4, 3) := by decide +kernel
theorem dX7_mayClimb_32 : decode cX7_mayClimb 32 = .ok (.iconst 0, 1) := by decide +kernel
theorem dX7_mayClimb_33 : decode cX7_mayClimb 33 = .ok (.ireturn, 1) := by decide +kernel
set_option maxRecDepth 20000 in
theorem ggX7_climbers_X7_mayClimb : GoodIn wsX7_climbers wsX7_mayClimb := goodIn_r _ [6, 7, 8, 9, 10, 11, 5, 12, 13, 14, 15, 16, 17, 18, 19, 20, 21, 22, 23, 24, 25, 26, 27, 28, 29, 30, 31, 32, 33, 34, 35, 36, 37, 38, 39, 40, 41, 42, 43, 44, 45, 46, 47, 48, 49, 50, 51, 52, 53, 54, 55, 56, 57, 58, 59] (by decide +kernel) (by decide +kernel)
set_option maxRecDepth 20000 in
theorem gX7_climbers_X7_mayClimb : GoodIn wsX7_climbers (wsV RX7 214 RX7 yX7_mayClimb wsX7_mayClimb) := goodIn_app (goodIn_of _ (by decide +kernel)) ggX7_climbers_X7_mayClimb
theorem dX7_climbers_0 : decode cX7_climbers 0 = .ok (.iconst 0, 1) := by decide +kernel
theorem dX7_climbers_1 : decode cX7_climbers 1 = .ok (.istore_n 2, 1) := by decide +kernel
theorem dX7_climbers_2 : decode cX7_climbers 2 = .ok (.iconst 0, 1) := by decide +kernel
theorem dX7_climbers_3 : decode cX7_climbers 3 = .ok (.istore_n 3, 1) := by decide +kernel
theorem dX7_climbers_4 : decode cX7_climbers 4 = .ok (.iload_n 3, 1) := by decide +kernel
theorem dX7_climbers_5 : decode cX7_climbers 5 = .ok (.aload_n 0, 1) := by decide +kernel
theorem dX7_climbers_6 : decode cX7_climbers 6 = .ok (.getfield 106, 3) := by decide +kernel
theorem dX7_climbers_9 : decode cX7_climbers 9 = .ok (.if_icmp .ge 28, 3) := by decide +kernel
theorem dX7_climbers_12 : decode cX7_climbers 12 = .ok (.iload_n 2, 1) := by decide +kernel
theorem dX7_climbers_13 : decode cX7_climbers 13 = .ok (.aload_n 0, 1) := by decide +kernel
theorem dX7_climbers_14 : decode cX7_climbers 14 = .ok (.iload_n 3, 1) := by decide +kernel
theorem dX7_climbers_15 : decode cX7_climbers 15 = .ok (.iload_n 1, 1) := by decide +kernel
theorem dX7_climbers_16 : decode cX7_climbers 16 = .ok (.invokevirtual 214, 3) := by decide +kernel
theorem dX7_climbers_19 : decode cX7_climbers 19 = .ok (.ifCond .eq 9, 3) := by decide +kernel
theorem dX7_climbers_22 : decode cX7_climbers 22 = .ok (.iconst 1, 1) := by decide +kernel
theorem dX7_climbers_23 : decode cX7_climbers 23 = .ok (.iload_n 3, 1) := by decide +kernel
theorem dX7_climbers_24 : decode cX7_climbers 24 = .ok (.ishl, 1) := by decide +kernel
theorem dX7_climbers_25 : decode cX7_climbers 25 = .ok (.goto 4, 3) := by decide +kernel
theorem dX7_climbers_28 : decode cX7_climbers 28 = .ok (.iconst 0, 1) := by decide +kernel
theorem dX7_climbers_29 : decode cX7_climbers 29 = .ok (.ior, 1) := by decide +kernel
theorem dX7_climbers_30 : decode cX7_climbers 30 = .ok (.istore_n 2, 1) := by decide +kernel
theorem dX7_climbers_31 : decode cX7_climbers 31 = .ok (.iinc 3 1, 3) := by decide +kernel
theorem dX7_climbers_34 : decode cX7_climbers 34 = .ok (.goto (-30), 3) := by decide +kernel
theorem dX7_climbers_37 : decode cX7_climbers 37 = .ok (.iload_n 2, 1) := by decide +kernel
theorem dX7_climbers_38 : decode cX7_climbers 38 = .ok (.ireturn, 1) := by decide +kernel
set_option maxRecDepth 20000 in
theorem ggX7_stair_X7_isStair : GoodIn wsX7_stair wsX7_isStair := goodIn_r _ [13, 14, 15, 16, 12, 17, 33, 34, 35, 36, 37, 38, 39, 40, 41, 42, 43, 44, 45, 46, 47, 48, 49, 50, 51, 52, 53, 54, 55, 56, 57, 58, 59, 60, 61, 62, 63, 64, 65, 66, 67, 68, 69, 70, 71, 72, 73, 74, 75, 76] (by decide +kernel) (by decide +kernel)
set_option maxRecDepth 20000 in
theorem gX7_stair_X7_isStair : GoodIn wsX7_stair (wsV RX7 217 RX7 yX7_isStair wsX7_isStair) := goodIn_app (goodIn_of _ (by decide +kernel)) ggX7_stair_X7_isStair
set_option maxRecDepth 20000 in
theorem ggX7_stair_X7_climbers : GoodIn wsX7_stair wsX7_climbers := goodIn_r _ [21, 22, 23, 24, 25, 12, 26, 27, 28, 29, 30, 31, 32, 5, 6, 2, 33, 34, 35, 36, 37, 38, 39, 40, 41, 42, 43, 44, 45, 46, 47, 48, 49, 50, 51, 52, 53, 54, 55, 56, 57, 58, 59, 60, 61, 62, 63, 64, 65, 66, 67, 68, 69, 70, 71, 72, 73, 74, 75, 76] (by decide +kernel) (by decide +kernel)
set_option maxRecDepth 20000 in
theorem gX7_stair_X7_climbers : GoodIn wsX7_stair (wsV RX7 222 RX7 yX7_climbers wsX7_climbers) := goodIn_app (goodIn_of _ (by decide +kernel)) ggX7_stair_X7_climbers
theorem dX7_stair_0 : decode cX7_stair 0 = .ok (.aload_n 0, 1) := by decide +kernel
theorem dX7_stair_1 : decode cX7_stair 1 = .ok (.iload_n 1, 1) := by decide +kernel
theorem dX7_stair_2 : decode cX7_stair 2 = .ok (.invokevirtual 217, 3) := by decide +kernel
theorem dX7_stair_5 : decode cX7_stair 5 = .ok (.ifCond .ne 6, 3) := by decide +kernel
theorem dX7_stair_8 : decode cX7_stair 8 = .ok (.ldc 221, 2) := by decide +kernel
theorem dX7_stair_10 : decode cX7_stair 10 = .ok (.ireturn, 1) := by decide +kernel
theorem dX7_stair_11 : decode cX7_stair 11 = .ok (.iload_n 2, 1) := by decide +kernel
theorem dX7_stair_12 : decode cX7_stair 12 = .ok (.tableswitch 152 0 8 #[52, 59, 66, 73, 80, 89, 114, 139, 146], 52) := by decide +kernel
theorem dX7_stair_64 : decode cX7_stair 64 = .ok (.aload_n 0, 1) := by decide +kernel
theorem dX7_stair_65 : decode cX7_stair 65 = .ok (.getfield 7, 3) := by decide +kernel
theorem dX7_stair_68 : decode cX7_stair 68 = .ok (.iload_n 1, 1) := by decide +kernel
theorem dX7_stair_69 : decode cX7_stair 69 = .ok (.iaload, 1) := by decide +kernel
theorem dX7_stair_70 : decode cX7_stair 70 = .ok (.ireturn, 1) := by decide +kernel
theorem dX7_stair_71 : decode cX7_stair 71 = .ok (.aload_n 0, 1) := by decide +kernel
theorem dX7_stair_72 : decode cX7_stair 72 = .ok (.getfield 13, 3) := by decide +kernel
theorem dX7_stair_75 : decode cX7_stair 75 = .ok (.iload_n 1, 1) := by decide +kernel
theorem dX7_stair_76 : decode cX7_stair 76 = .ok (.iaload, 1) := by decide +kernel
theorem dX7_stair_77 : decode cX7_stair 77 = .ok (.ireturn, 1) := by decide +kernel
theorem dX7_stair_78 : decode cX7_stair 78 = .ok (.aload_n 0, 1) := by decide +kernel
theorem dX7_stair_79 : decode cX7_stair 79 = .ok (.getfield 16, 3) := by decide +kernel
theorem dX7_stair_82 : decode cX7_stair 82 = .ok (.iload_n 1, 1) := by decide +kernel
theorem dX7_stair_83 : decode cX7_stair 83 = .ok (.iaload, 1) := by decide +kernel
theorem dX7_stair_84 : decode cX7_stair 84 = .ok (.ireturn, 1) := by decide +kernel
theorem dX7_stair_85 : decode cX7_stair 85 = .ok (.aload_n 0, 1) := by decide +kernel
theorem dX7_stair_86 : decode cX7_stair 86 = .ok (.getfield 19, 3) := by decide +kernel
theorem dX7_stair_89 : decode cX7_stair 89 = .ok (.iload_n 1, 1) := by decide +kernel
theorem dX7_stair_90 : decode cX7_stair 90 = .ok (.iaload, 1) := by decide +kernel
theorem dX7_stair_91 : decode cX7_stair 91 = .ok (.ireturn, 1) := by decide +kernel
theorem dX7_stair_92 : decode cX7_stair 92 = .ok (.aload_n 0, 1) := by decide +kernel
theorem dX7_stair_93 : decode cX7_stair 93 = .ok (.getfield 22, 3) := by decide +kernel
theorem dX7_stair_96 : decode cX7_stair 96 = .ok (.iconst 3, 1) := by decide +kernel
theorem dX7_stair_97 : decode cX7_stair 97 = .ok (.iload_n 1, 1) := by decide +kernel
theorem dX7_stair_98 : decode cX7_stair 98 = .ok (.imul, 1) := by decide +kernel
theorem dX7_stair_99 : decode cX7_stair 99 = .ok (.iaload, 1) := by decide +kernel
theorem dX7_stair_100 : decode cX7_stair 100 = .ok (.ireturn, 1) := by decide +kernel
theorem dX7_stair_101 : decode cX7_stair 101 = .ok (.aload_n 0, 1) := by decide +kernel
theorem dX7_stair_102 : decode cX7_stair 102 = .ok (.getfield 19, 3) := by decide +kernel
theorem dX7_stair_105 : decode cX7_stair 105 = .ok (.iload_n 1, 1) := by decide +kernel
theorem dX7_stair_106 : decode cX7_stair 106 = .ok (.iaload, 1) := by decide +kernel
theorem dX7_stair_107 : decode cX7_stair 107 = .ok (.iconst 1, 1) := by decide +kernel
theorem dX7_stair_108 : decode cX7_stair 108 = .ok (.if_icmp .le 16, 3) := by decide +kernel
theorem dX7_stair_111 : decode cX7_stair 111 = .ok (.aload_n 0, 1) := by decide +kernel
theorem dX7_stair_112 : decode cX7_stair 112 = .ok (.getfield 22, 3) := by decide +kernel
theorem dX7_stair_115 : decode cX7_stair 115 = .ok (.iconst 3, 1) := by decide +kernel
theorem dX7_stair_116 : decode cX7_stair 116 = .ok (.iload_n 1, 1) := by decide +kernel
theorem dX7_stair_117 : decode cX7_stair 117 = .ok (.imul, 1) := by decide +kernel
theorem dX7_stair_118 : decode cX7_stair 118 = .ok (.iconst 1, 1) := by decide +kernel
theorem dX7_stair_119 : decode cX7_stair 119 = .ok (.iadd, 1) := by decide +kernel
theorem dX7_stair_120 : decode cX7_stair 120 = .ok (.iaload, 1) := by decide +kernel
theorem dX7_stair_121 : decode cX7_stair 121 = .ok (.goto 4, 3) := by decide +kernel
theorem dX7_stair_124 : decode cX7_stair 124 = .ok (.iconst 0, 1) := by decide +kernel
theorem dX7_stair_125 : decode cX7_stair 125 = .ok (.ireturn, 1) := by decide +kernel
theorem dX7_stair_126 : decode cX7_stair 126 = .ok (.aload_n 0, 1) := by decide +kernel
theorem dX7_stair_127 : decode cX7_stair 127 = .ok (.getfield 19, 3) := by decide +kernel
theorem dX7_stair_130 : decode cX7_stair 130 = .ok (.iload_n 1, 1) := by decide +kernel
theorem dX7_stair_131 : decode cX7_stair 131 = .ok (.iaload, 1) := by decide +kernel
theorem dX7_stair_132 : decode cX7_stair 132 = .ok (.iconst 2, 1) := by decide +kernel
theorem dX7_stair_133 : decode cX7_stair 133 = .ok (.if_icmp .le 16, 3) := by decide +kernel
theorem dX7_stair_136 : decode cX7_stair 136 = .ok (.aload_n 0, 1) := by decide +kernel
theorem dX7_stair_137 : decode cX7_stair 137 = .ok (.getfield 22, 3) := by decide +kernel
theorem dX7_stair_140 : decode cX7_stair 140 = .ok (.iconst 3, 1) := by decide +kernel
theorem dX7_stair_141 : decode cX7_stair 141 = .ok (.iload_n 1, 1) := by decide +kernel
theorem dX7_stair_142 : decode cX7_stair 142 = .ok (.imul, 1) := by decide +kernel
theorem dX7_stair_143 : decode cX7_stair 143 = .ok (.iconst 2, 1) := by decide +kernel
theorem dX7_stair_144 : decode cX7_stair 144 = .ok (.iadd, 1) := by decide +kernel
theorem dX7_stair_145 : decode cX7_stair 145 = .ok (.iaload, 1) := by decide +kernel
theorem dX7_stair_146 : decode cX7_stair 146 = .ok (.goto 4, 3) := by decide +kernel
theorem dX7_stair_149 : decode cX7_stair 149 = .ok (.iconst 0, 1) := by decide +kernel
theorem dX7_stair_150 : decode cX7_stair 150 = .ok (.ireturn, 1) := by decide +kernel
theorem dX7_stair_151 : decode cX7_stair 151 = .ok (.aload_n 0, 1) := by decide +kernel
theorem dX7_stair_152 : decode cX7_stair 152 = .ok (.getfield 25, 3) := by decide +kernel
theorem dX7_stair_155 : decode cX7_stair 155 = .ok (.iload_n 1, 1) := by decide +kernel
theorem dX7_stair_156 : decode cX7_stair 156 = .ok (.iaload, 1) := by decide +kernel
theorem dX7_stair_157 : decode cX7_stair 157 = .ok (.ireturn, 1) := by decide +kernel
theorem dX7_stair_158 : decode cX7_stair 158 = .ok (.aload_n 0, 1) := by decide +kernel
theorem dX7_stair_159 : decode cX7_stair 159 = .ok (.iload_n 1, 1) := by decide +kernel
theorem dX7_stair_160 : decode cX7_stair 160 = .ok (.invokevirtual 222, 3) := by decide +kernel
theorem dX7_stair_163 : decode cX7_stair 163 = .ok (.ireturn, 1) := by decide +kernel
theorem dX7_stair_164 : decode cX7_stair 164 = .ok (.ldc 111, 2) := by decide +kernel
theorem dX7_stair_166 : decode cX7_stair 166 = .ok (.ireturn, 1) := by decide +kernel
set_option maxRecDepth 20000 in
theorem ggX7_reachOf_X7_isFit : GoodIn wsX7_reachOf wsX7_isFit := goodIn_r _ [9, 10, 11, 12, 16, 17, 18, 19, 20, 21, 22, 23, 24, 25, 26, 27, 28, 29, 30, 31, 32, 33, 34, 35, 36, 37, 38, 39, 40, 41, 42, 43, 44, 45, 46, 47, 48, 49, 50, 51, 52, 53, 54, 55, 56, 57, 58, 59] (by decide +kernel) (by decide +kernel)
set_option maxRecDepth 20000 in
theorem gX7_reachOf_X7_isFit : GoodIn wsX7_reachOf (wsV RX7 210 RX7 yX7_isFit wsX7_isFit) := goodIn_app (goodIn_of _ (by decide +kernel)) ggX7_reachOf_X7_isFit
set_option maxRecDepth 20000 in
theorem ggX7_reachOf_X7_has : GoodIn wsX7_reachOf wsX7_has := goodIn_r _ [15] (by decide +kernel) (by decide +kernel)
set_option maxRecDepth 20000 in
theorem gX7_reachOf_X7_has : GoodIn wsX7_reachOf (va_wsS RX7 225 yX7_has wsX7_has) := goodIn_app (goodIn_of _ (by decide +kernel)) ggX7_reachOf_X7_has
theorem dX7_reachOf_0 : decode cX7_reachOf 0 = .ok (.iconst 1, 1) := by decide +kernel
theorem dX7_reachOf_1 : decode cX7_reachOf 1 = .ok (.iload_n 1, 1) := by decide +kernel
theorem dX7_reachOf_2 : decode cX7_reachOf 2 = .ok (.ishl, 1) := by decide +kernel
theorem dX7_reachOf_3 : decode cX7_reachOf 3 = .ok (.istore 4, 2) := by decide +kernel
theorem dX7_reachOf_5 : decode cX7_reachOf 5 = .ok (.iconst 0, 1) := by decide +kernel
theorem dX7_reachOf_6 : decode cX7_reachOf 6 = .ok (.istore 5, 2) := by decide +kernel
theorem dX7_reachOf_8 : decode cX7_reachOf 8 = .ok (.iload 5, 2) := by decide +kernel
theorem dX7_reachOf_10 : decode cX7_reachOf 10 = .ok (.iload 4, 2) := by decide +kernel
theorem dX7_reachOf_12 : decode cX7_reachOf 12 = .ok (.if_icmp .eq 139, 3) := by decide +kernel
theorem dX7_reachOf_15 : decode cX7_reachOf 15 = .ok (.iload 4, 2) := by decide +kernel
theorem dX7_reachOf_17 : decode cX7_reachOf 17 = .ok (.istore 5, 2) := by decide +kernel
theorem dX7_reachOf_19 : decode cX7_reachOf 19 = .ok (.iconst 0, 1) := by decide +kernel
theorem dX7_reachOf_20 : decode cX7_reachOf 20 = .ok (.istore 6, 2) := by decide +kernel
theorem dX7_reachOf_22 : decode cX7_reachOf 22 = .ok (.iload 6, 2) := by decide +kernel
theorem dX7_reachOf_24 : decode cX7_reachOf 24 = .ok (.aload_n 0, 1) := by decide +kernel
theorem dX7_reachOf_25 : decode cX7_reachOf 25 = .ok (.getfield 103, 3) := by decide +kernel
theorem dX7_reachOf_28 : decode cX7_reachOf 28 = .ok (.if_icmp .ge 120, 3) := by decide +kernel
theorem dX7_reachOf_31 : decode cX7_reachOf 31 = .ok (.aload_n 0, 1) := by decide +kernel
theorem dX7_reachOf_32 : decode cX7_reachOf 32 = .ok (.iload 6, 2) := by decide +kernel
theorem dX7_reachOf_34 : decode cX7_reachOf 34 = .ok (.iload_n 2, 1) := by decide +kernel
theorem dX7_reachOf_35 : decode cX7_reachOf 35 = .ok (.invokevirtual 210, 3) := by decide +kernel
theorem dX7_reachOf_38 : decode cX7_reachOf 38 = .ok (.ifCond .ne 13, 3) := by decide +kernel
theorem dX7_reachOf_41 : decode cX7_reachOf 41 = .ok (.aload_n 0, 1) := by decide +kernel
theorem dX7_reachOf_42 : decode cX7_reachOf 42 = .ok (.iload 6, 2) := by decide +kernel
theorem dX7_reachOf_44 : decode cX7_reachOf 44 = .ok (.iload_n 3, 1) := by decide +kernel
theorem dX7_reachOf_45 : decode cX7_reachOf 45 = .ok (.invokevirtual 210, 3) := by decide +kernel
theorem dX7_reachOf_48 : decode cX7_reachOf 48 = .ok (.ifCond .eq 7, 3) := by decide +kernel
theorem dX7_reachOf_51 : decode cX7_reachOf 51 = .ok (.iconst 1, 1) := by decide +kernel
theorem dX7_reachOf_52 : decode cX7_reachOf 52 = .ok (.goto 4, 3) := by decide +kernel
theorem dX7_reachOf_55 : decode cX7_reachOf 55 = .ok (.iconst 0, 1) := by decide +kernel
theorem dX7_reachOf_56 : decode cX7_reachOf 56 = .ok (.istore 7, 2) := by decide +kernel
theorem dX7_reachOf_58 : decode cX7_reachOf 58 = .ok (.iload 4, 2) := by decide +kernel
theorem dX7_reachOf_60 : decode cX7_reachOf 60 = .ok (.iload 7, 2) := by decide +kernel
theorem dX7_reachOf_62 : decode cX7_reachOf 62 = .ok (.ifCond .eq 30, 3) := by decide +kernel
theorem dX7_reachOf_65 : decode cX7_reachOf 65 = .ok (.iload 4, 2) := by decide +kernel
theorem dX7_reachOf_67 : decode cX7_reachOf 67 = .ok (.aload_n 0, 1) := by decide +kernel
theorem dX7_reachOf_68 : decode cX7_reachOf 68 = .ok (.getfield 13, 3) := by decide +kernel
theorem dX7_reachOf_71 : decode cX7_reachOf 71 = .ok (.iload 6, 2) := by decide +kernel
theorem dX7_reachOf_73 : decode cX7_reachOf 73 = .ok (.iaload, 1) := by decide +kernel
theorem dX7_reachOf_74 : decode cX7_reachOf 74 = .ok (.invokestatic 225, 3) := by decide +kernel
theorem dX7_reachOf_77 : decode cX7_reachOf 77 = .ok (.ifCond .eq 15, 3) := by decide +kernel
theorem dX7_reachOf_80 : decode cX7_reachOf 80 = .ok (.iconst 1, 1) := by decide +kernel
theorem dX7_reachOf_81 : decode cX7_reachOf 81 = .ok (.aload_n 0, 1) := by decide +kernel
theorem dX7_reachOf_82 : decode cX7_reachOf 82 = .ok (.getfield 16, 3) := by decide +kernel
theorem dX7_reachOf_85 : decode cX7_reachOf 85 = .ok (.iload 6, 2) := by decide +kernel
theorem dX7_reachOf_87 : decode cX7_reachOf 87 = .ok (.iaload, 1) := by decide +kernel
theorem dX7_reachOf_88 : decode cX7_reachOf 88 = .ok (.ishl, 1) := by decide +kernel
theorem dX7_reachOf_89 : decode cX7_reachOf 89 = .ok (.goto 4, 3) := by decide +kernel
theorem dX7_reachOf_92 : decode cX7_reachOf 92 = .ok (.iconst 0, 1) := by decide +kernel
theorem dX7_reachOf_93 : decode cX7_reachOf 93 = .ok (.ior, 1) := by decide +kernel
theorem dX7_reachOf_94 : decode cX7_reachOf 94 = .ok (.istore 4, 2) := by decide +kernel
theorem dX7_reachOf_96 : decode cX7_reachOf 96 = .ok (.iload 4, 2) := by decide +kernel
theorem dX7_reachOf_98 : decode cX7_reachOf 98 = .ok (.iload 7, 2) := by decide +kernel
theorem dX7_reachOf_100 : decode cX7_reachOf 100 = .ok (.ifCond .ne 11, 3) := by decide +kernel
theorem dX7_reachOf_103 : decode cX7_reachOf 103 = .ok (.aload_n 0, 1) := by decide +kernel
theorem dX7_reachOf_104 : decode cX7_reachOf 104 = .ok (.getfield 204, 3) := by decide +kernel
theorem dX7_reachOf_107 : decode cX7_reachOf 107 = .ok (.iconst 1, 1) := by decide +kernel
theorem dX7_reachOf_108 : decode cX7_reachOf 108 = .ok (.if_icmp .ne 30, 3) := by decide +kernel
theorem dX7_reachOf_111 : decode cX7_reachOf 111 = .ok (.iload 4, 2) := by decide +kernel
theorem dX7_reachOf_113 : decode cX7_reachOf 113 = .ok (.aload_n 0, 1) := by decide +kernel
theorem dX7_reachOf_114 : decode cX7_reachOf 114 = .ok (.getfield 16, 3) := by decide +kernel
theorem dX7_reachOf_117 : decode cX7_reachOf 117 = .ok (.iload 6, 2) := by decide +kernel
theorem dX7_reachOf_119 : decode cX7_reachOf 119 = .ok (.iaload, 1) := by decide +kernel
theorem dX7_reachOf_120 : decode cX7_reachOf 120 = .ok (.invokestatic 225, 3) := by decide +kernel
theorem dX7_reachOf_123 : decode cX7_reachOf 123 = .ok (.ifCond .eq 15, 3) := by decide +kernel
theorem dX7_reachOf_126 : decode cX7_reachOf 126 = .ok (.iconst 1, 1) := by decide +kernel
theorem dX7_reachOf_127 : decode cX7_reachOf 127 = .ok (.aload_n 0, 1) := by decide +kernel
theorem dX7_reachOf_128 : decode cX7_reachOf 128 = .ok (.getfield 13, 3) := by decide +kernel
theorem dX7_reachOf_131 : decode cX7_reachOf 131 = .ok (.iload 6, 2) := by decide +kernel
theorem dX7_reachOf_133 : decode cX7_reachOf 133 = .ok (.iaload, 1) := by decide +kernel
theorem dX7_reachOf_134 : decode cX7_reachOf 134 = .ok (.ishl, 1) := by decide +kernel
theorem dX7_reachOf_135 : decode cX7_reachOf 135 = .ok (.goto 4, 3) := by decide +kernel
theorem dX7_reachOf_138 : decode cX7_reachOf 138 = .ok (.iconst 0, 1) := by decide +kernel
theorem dX7_reachOf_139 : decode cX7_reachOf 139 = .ok (.ior, 1) := by decide +kernel
theorem dX7_reachOf_140 : decode cX7_reachOf 140 = .ok (.istore 4, 2) := by decide +kernel
theorem dX7_reachOf_142 : decode cX7_reachOf 142 = .ok (.iinc 6 1, 3) := by decide +kernel
theorem dX7_reachOf_145 : decode cX7_reachOf 145 = .ok (.goto (-123), 3) := by decide +kernel
theorem dX7_reachOf_148 : decode cX7_reachOf 148 = .ok (.goto (-140), 3) := by decide +kernel
theorem dX7_reachOf_151 : decode cX7_reachOf 151 = .ok (.iload 4, 2) := by decide +kernel
theorem dX7_reachOf_153 : decode cX7_reachOf 153 = .ok (.ireturn, 1) := by decide +kernel
set_option maxRecDepth 20000 in
theorem ggX7_reachOfPerson_X7_reachOf : GoodIn wsX7_reachOfPerson wsX7_reachOf := goodIn_r _ [8, 9, 10, 11, 12, 13, 14, 15, 7, 16, 17, 18, 19, 20, 21, 22, 23, 24, 25, 26, 27, 28, 29, 30, 31, 32, 33, 34, 35, 36, 37, 38, 39, 40, 41, 42, 43, 44, 45, 46, 47, 48, 49, 50, 51, 52, 53, 54, 55, 56, 57, 58, 59, 60, 61, 62, 63, 64, 65, 66] (by decide +kernel) (by decide +kernel)
set_option maxRecDepth 20000 in
theorem gX7_reachOfPerson_X7_reachOf : GoodIn wsX7_reachOfPerson (wsV RX7 228 RX7 yX7_reachOf wsX7_reachOf) := goodIn_app (goodIn_of _ (by decide +kernel)) ggX7_reachOfPerson_X7_reachOf
theorem dX7_reachOfPerson_0 : decode cX7_reachOfPerson 0 = .ok (.aload_n 0, 1) := by decide +kernel
theorem dX7_reachOfPerson_1 : decode cX7_reachOfPerson 1 = .ok (.aload_n 0, 1) := by decide +kernel
theorem dX7_reachOfPerson_2 : decode cX7_reachOfPerson 2 = .ok (.getfield 28, 3) := by decide +kernel
theorem dX7_reachOfPerson_5 : decode cX7_reachOfPerson 5 = .ok (.iload_n 1, 1) := by decide +kernel
theorem dX7_reachOfPerson_6 : decode cX7_reachOfPerson 6 = .ok (.iaload, 1) := by decide +kernel
theorem dX7_reachOfPerson_7 : decode cX7_reachOfPerson 7 = .ok (.aload_n 0, 1) := by decide +kernel
theorem dX7_reachOfPerson_8 : decode cX7_reachOfPerson 8 = .ok (.getfield 31, 3) := by decide +kernel
theorem dX7_reachOfPerson_11 : decode cX7_reachOfPerson 11 = .ok (.iload_n 1, 1) := by decide +kernel
theorem dX7_reachOfPerson_12 : decode cX7_reachOfPerson 12 = .ok (.iaload, 1) := by decide +kernel
theorem dX7_reachOfPerson_13 : decode cX7_reachOfPerson 13 = .ok (.aload_n 0, 1) := by decide +kernel
theorem dX7_reachOfPerson_14 : decode cX7_reachOfPerson 14 = .ok (.getfield 34, 3) := by decide +kernel
theorem dX7_reachOfPerson_17 : decode cX7_reachOfPerson 17 = .ok (.iload_n 1, 1) := by decide +kernel
theorem dX7_reachOfPerson_18 : decode cX7_reachOfPerson 18 = .ok (.iaload, 1) := by decide +kernel
theorem dX7_reachOfPerson_19 : decode cX7_reachOfPerson 19 = .ok (.invokevirtual 228, 3) := by decide +kernel
theorem dX7_reachOfPerson_22 : decode cX7_reachOfPerson 22 = .ok (.ireturn, 1) := by decide +kernel
set_option maxRecDepth 20000 in
theorem ggX7_person_X7_isPerson : GoodIn wsX7_person wsX7_isPerson := goodIn_r _ [10, 11, 12, 13, 9, 14, 37, 38, 39, 40, 41, 42, 43, 44, 45, 46, 47, 48, 49, 50, 51, 52, 53, 54, 55, 56, 57, 58, 59, 60, 61, 62, 63, 64, 65, 66, 67, 68, 69, 70, 71, 72, 73, 74, 75, 76, 77, 78, 79, 80] (by decide +kernel) (by decide +kernel)
set_option maxRecDepth 20000 in
theorem gX7_person_X7_isPerson : GoodIn wsX7_person (wsV RX7 232 RX7 yX7_isPerson wsX7_isPerson) := goodIn_app (goodIn_of _ (by decide +kernel)) ggX7_person_X7_isPerson
set_option maxRecDepth 20000 in
theorem ggX7_person_X7_reachOfPerson : GoodIn wsX7_person wsX7_reachOfPerson := goodIn_r _ [18, 2, 3, 4, 19, 20, 21, 9, 22, 23, 24, 25, 26, 27, 28, 29, 30, 31, 32, 33, 34, 35, 36, 37, 38, 39, 40, 41, 42, 43, 44, 45, 46, 47, 48, 49, 50, 51, 52, 53, 54, 55, 56, 57, 58, 59, 60, 61, 62, 63, 64, 65, 66, 67, 68, 69, 70, 71, 72, 73, 74, 75, 76, 77, 78, 79, 80] (by decide +kernel) (by decide +kernel)
set_option maxRecDepth 20000 in
theorem gX7_person_X7_reachOfPerson : GoodIn wsX7_person (wsV RX7 235 RX7 yX7_reachOfPerson wsX7_reachOfPerson) := goodIn_app (goodIn_of _ (by decide +kernel)) ggX7_person_X7_reachOfPerson
theorem dX7_person_0 : decode cX7_person 0 = .ok (.aload_n 0, 1) := by decide +kernel
theorem dX7_person_1 : decode cX7_person 1 = .ok (.iload_n 1, 1) := by decide +kernel
theorem dX7_person_2 : decode cX7_person 2 = .ok (.invokevirtual 232, 3) := by decide +kernel
theorem dX7_person_5 : decode cX7_person 5 = .ok (.ifCond .ne 6, 3) := by decide +kernel
theorem dX7_person_8 : decode cX7_person 8 = .ok (.ldc 221, 2) := by decide +kernel
theorem dX7_person_10 : decode cX7_person 10 = .ok (.ireturn, 1) := by decide +kernel
theorem dX7_person_11 : decode cX7_person 11 = .ok (.iload_n 2, 1) := by decide +kernel
theorem dX7_person_12 : decode cX7_person 12 = .ok (.ifCond .ne 12, 3) := by decide +kernel
theorem dX7_person_15 : decode cX7_person 15 = .ok (.aload_n 0, 1) := by decide +kernel
theorem dX7_person_16 : decode cX7_person 16 = .ok (.getfield 28, 3) := by decide +kernel
theorem dX7_person_19 : decode cX7_person 19 = .ok (.iload_n 1, 1) := by decide +kernel
theorem dX7_person_20 : decode cX7_person 20 = .ok (.iaload, 1) := by decide +kernel
theorem dX7_person_21 : decode cX7_person 21 = .ok (.goto 46, 3) := by decide +kernel
theorem dX7_person_24 : decode cX7_person 24 = .ok (.iload_n 2, 1) := by decide +kernel
theorem dX7_person_25 : decode cX7_person 25 = .ok (.iconst 1, 1) := by decide +kernel
theorem dX7_person_26 : decode cX7_person 26 = .ok (.if_icmp .ne 12, 3) := by decide +kernel
theorem dX7_person_29 : decode cX7_person 29 = .ok (.aload_n 0, 1) := by decide +kernel
theorem dX7_person_30 : decode cX7_person 30 = .ok (.getfield 31, 3) := by decide +kernel
theorem dX7_person_33 : decode cX7_person 33 = .ok (.iload_n 1, 1) := by decide +kernel
theorem dX7_person_34 : decode cX7_person 34 = .ok (.iaload, 1) := by decide +kernel
theorem dX7_person_35 : decode cX7_person 35 = .ok (.goto 32, 3) := by decide +kernel
theorem dX7_person_38 : decode cX7_person 38 = .ok (.iload_n 2, 1) := by decide +kernel
theorem dX7_person_39 : decode cX7_person 39 = .ok (.iconst 2, 1) := by decide +kernel
theorem dX7_person_40 : decode cX7_person 40 = .ok (.if_icmp .ne 12, 3) := by decide +kernel
theorem dX7_person_43 : decode cX7_person 43 = .ok (.aload_n 0, 1) := by decide +kernel
theorem dX7_person_44 : decode cX7_person 44 = .ok (.getfield 34, 3) := by decide +kernel
theorem dX7_person_47 : decode cX7_person 47 = .ok (.iload_n 1, 1) := by decide +kernel
theorem dX7_person_48 : decode cX7_person 48 = .ok (.iaload, 1) := by decide +kernel
theorem dX7_person_49 : decode cX7_person 49 = .ok (.goto 18, 3) := by decide +kernel
theorem dX7_person_52 : decode cX7_person 52 = .ok (.iload_n 2, 1) := by decide +kernel
theorem dX7_person_53 : decode cX7_person 53 = .ok (.iconst 3, 1) := by decide +kernel
theorem dX7_person_54 : decode cX7_person 54 = .ok (.if_icmp .ne 11, 3) := by decide +kernel
theorem dX7_person_57 : decode cX7_person 57 = .ok (.aload_n 0, 1) := by decide +kernel
theorem dX7_person_58 : decode cX7_person 58 = .ok (.iload_n 1, 1) := by decide +kernel
theorem dX7_person_59 : decode cX7_person 59 = .ok (.invokevirtual 235, 3) := by decide +kernel
theorem dX7_person_62 : decode cX7_person 62 = .ok (.goto 5, 3) := by decide +kernel
theorem dX7_person_65 : decode cX7_person 65 = .ok (.ldc 111, 2) := by decide +kernel
theorem dX7_person_67 : decode cX7_person 67 = .ok (.ireturn, 1) := by decide +kernel
set_option maxRecDepth 20000 in
theorem ggX7_fit_X7_isStair : GoodIn wsX7_fit wsX7_isStair := goodIn_r _ [8, 9, 10, 11, 7, 12, 20, 21, 22, 23, 24, 25, 26, 27, 28, 29, 30, 31, 32, 33, 34, 35, 36, 37, 38, 39, 40, 41, 42, 43, 44, 45, 46, 47, 48, 49, 50, 51, 52, 53, 54, 55, 56, 57, 58, 59, 60, 61, 62, 63] (by decide +kernel) (by decide +kernel)
set_option maxRecDepth 20000 in
theorem gX7_fit_X7_isStair : GoodIn wsX7_fit (wsV RX7 217 RX7 yX7_isStair wsX7_isStair) := goodIn_app (goodIn_of _ (by decide +kernel)) ggX7_fit_X7_isStair
set_option maxRecDepth 20000 in
theorem ggX7_fit_X7_in : GoodIn wsX7_fit wsX7_in := goodIn_r _ [12] (by decide +kernel) (by decide +kernel)
set_option maxRecDepth 20000 in
theorem gX7_fit_X7_in : GoodIn wsX7_fit (va_wsS RX7 99 yX7_in wsX7_in) := goodIn_app (goodIn_of _ (by decide +kernel)) ggX7_fit_X7_in
set_option maxRecDepth 20000 in
theorem ggX7_fit_X7_isFit : GoodIn wsX7_fit wsX7_isFit := goodIn_r _ [16, 17, 18, 19, 20, 21, 22, 23, 24, 25, 26, 27, 28, 29, 30, 31, 32, 33, 34, 35, 36, 37, 38, 39, 40, 41, 42, 43, 44, 45, 46, 47, 48, 49, 50, 51, 52, 53, 54, 55, 56, 57, 58, 59, 60, 61, 62, 63] (by decide +kernel) (by decide +kernel)
set_option maxRecDepth 20000 in
theorem gX7_fit_X7_isFit : GoodIn wsX7_fit (wsV RX7 210 RX7 yX7_isFit wsX7_isFit) := goodIn_app (goodIn_of _ (by decide +kernel)) ggX7_fit_X7_isFit
theorem dX7_fit_0 : decode cX7_fit 0 = .ok (.aload_n 0, 1) := by decide +kernel
theorem dX7_fit_1 : decode cX7_fit 1 = .ok (.iload_n 1, 1) := by decide +kernel
theorem dX7_fit_2 : decode cX7_fit 2 = .ok (.invokevirtual 217, 3) := by decide +kernel
theorem dX7_fit_5 : decode cX7_fit 5 = .ok (.ifCond .ne 6, 3) := by decide +kernel
theorem dX7_fit_8 : decode cX7_fit 8 = .ok (.ldc 221, 2) := by decide +kernel
theorem dX7_fit_10 : decode cX7_fit 10 = .ok (.ireturn, 1) := by decide +kernel
theorem dX7_fit_11 : decode cX7_fit 11 = .ok (.iload_n 2, 1) := by decide +kernel
theorem dX7_fit_12 : decode cX7_fit 12 = .ok (.i2l, 1) := by decide +kernel
theorem dX7_fit_13 : decode cX7_fit 13 = .ok (.lconst 1, 1) := by decide +kernel
theorem dX7_fit_14 : decode cX7_fit 14 = .ok (.ldc2_w 238, 3) := by decide +kernel
theorem dX7_fit_17 : decode cX7_fit 17 = .ok (.invokestatic 99, 3) := by decide +kernel
theorem dX7_fit_20 : decode cX7_fit 20 = .ok (.ifCond .ne 8, 3) := by decide +kernel
theorem dX7_fit_23 : decode cX7_fit 23 = .ok (.ldc 111, 2) := by decide +kernel
theorem dX7_fit_25 : decode cX7_fit 25 = .ok (.goto 17, 3) := by decide +kernel
theorem dX7_fit_28 : decode cX7_fit 28 = .ok (.aload_n 0, 1) := by decide +kernel
theorem dX7_fit_29 : decode cX7_fit 29 = .ok (.iload_n 1, 1) := by decide +kernel
theorem dX7_fit_30 : decode cX7_fit 30 = .ok (.iload_n 2, 1) := by decide +kernel
theorem dX7_fit_31 : decode cX7_fit 31 = .ok (.invokevirtual 210, 3) := by decide +kernel
theorem dX7_fit_34 : decode cX7_fit 34 = .ok (.ifCond .eq 7, 3) := by decide +kernel
theorem dX7_fit_37 : decode cX7_fit 37 = .ok (.iconst 1, 1) := by decide +kernel
theorem dX7_fit_38 : decode cX7_fit 38 = .ok (.goto 4, 3) := by decide +kernel
theorem dX7_fit_41 : decode cX7_fit 41 = .ok (.iconst 0, 1) := by decide +kernel
theorem dX7_fit_42 : decode cX7_fit 42 = .ok (.ireturn, 1) := by decide +kernel
set_option maxRecDepth 20000 in
theorem ggX7_canGo_X7_mayClimb : GoodIn wsX7_canGo wsX7_mayClimb := goodIn_r _ [9, 10, 11, 12, 13, 14, 8, 15, 16, 17, 18, 19, 20, 21, 22, 23, 24, 25, 26, 27, 28, 29, 30, 31, 32, 33, 34, 35, 36, 37, 38, 39, 40, 41, 42, 43, 44, 45, 46, 47, 48, 49, 50, 51, 52, 53, 54, 55, 56, 57, 58, 59, 60, 61, 62] (by decide +kernel) (by decide +kernel)
set_option maxRecDepth 20000 in
theorem gX7_canGo_X7_mayClimb : GoodIn wsX7_canGo (wsV RX7 214 RX7 yX7_mayClimb wsX7_mayClimb) := goodIn_app (goodIn_of _ (by decide +kernel)) ggX7_canGo_X7_mayClimb
theorem dX7_canGo_0 : decode cX7_canGo 0 = .ok (.aload_n 0, 1) := by decide +kernel
theorem dX7_canGo_1 : decode cX7_canGo 1 = .ok (.getfield 28, 3) := by decide +kernel
theorem dX7_canGo_4 : decode cX7_canGo 4 = .ok (.iload_n 1, 1) := by decide +kernel
theorem dX7_canGo_5 : decode cX7_canGo 5 = .ok (.iaload, 1) := by decide +kernel
theorem dX7_canGo_6 : decode cX7_canGo 6 = .ok (.aload_n 0, 1) := by decide +kernel
theorem dX7_canGo_7 : decode cX7_canGo 7 = .ok (.getfield 13, 3) := by decide +kernel
theorem dX7_canGo_10 : decode cX7_canGo 10 = .ok (.iload_n 2, 1) := by decide +kernel
theorem dX7_canGo_11 : decode cX7_canGo 11 = .ok (.iaload, 1) := by decide +kernel
theorem dX7_canGo_12 : decode cX7_canGo 12 = .ok (.if_icmp .ne 12, 3) := by decide +kernel
theorem dX7_canGo_15 : decode cX7_canGo 15 = .ok (.aload_n 0, 1) := by decide +kernel
theorem dX7_canGo_16 : decode cX7_canGo 16 = .ok (.iload_n 1, 1) := by decide +kernel
theorem dX7_canGo_17 : decode cX7_canGo 17 = .ok (.iload_n 2, 1) := by decide +kernel
theorem dX7_canGo_18 : decode cX7_canGo 18 = .ok (.invokevirtual 214, 3) := by decide +kernel
theorem dX7_canGo_21 : decode cX7_canGo 21 = .ok (.ifCond .ne 35, 3) := by decide +kernel
theorem dX7_canGo_24 : decode cX7_canGo 24 = .ok (.aload_n 0, 1) := by decide +kernel
theorem dX7_canGo_25 : decode cX7_canGo 25 = .ok (.getfield 28, 3) := by decide +kernel
theorem dX7_canGo_28 : decode cX7_canGo 28 = .ok (.iload_n 1, 1) := by decide +kernel
theorem dX7_canGo_29 : decode cX7_canGo 29 = .ok (.iaload, 1) := by decide +kernel
theorem dX7_canGo_30 : decode cX7_canGo 30 = .ok (.aload_n 0, 1) := by decide +kernel
theorem dX7_canGo_31 : decode cX7_canGo 31 = .ok (.getfield 16, 3) := by decide +kernel
theorem dX7_canGo_34 : decode cX7_canGo 34 = .ok (.iload_n 2, 1) := by decide +kernel
theorem dX7_canGo_35 : decode cX7_canGo 35 = .ok (.iaload, 1) := by decide +kernel
theorem dX7_canGo_36 : decode cX7_canGo 36 = .ok (.if_icmp .ne 24, 3) := by decide +kernel
theorem dX7_canGo_39 : decode cX7_canGo 39 = .ok (.aload_n 0, 1) := by decide +kernel
theorem dX7_canGo_40 : decode cX7_canGo 40 = .ok (.getfield 204, 3) := by decide +kernel
theorem dX7_canGo_43 : decode cX7_canGo 43 = .ok (.iconst 1, 1) := by decide +kernel
theorem dX7_canGo_44 : decode cX7_canGo 44 = .ok (.if_icmp .eq 12, 3) := by decide +kernel
theorem dX7_canGo_47 : decode cX7_canGo 47 = .ok (.aload_n 0, 1) := by decide +kernel
theorem dX7_canGo_48 : decode cX7_canGo 48 = .ok (.iload_n 1, 1) := by decide +kernel
theorem dX7_canGo_49 : decode cX7_canGo 49 = .ok (.iload_n 2, 1) := by decide +kernel
theorem dX7_canGo_50 : decode cX7_canGo 50 = .ok (.invokevirtual 214, 3) := by decide +kernel
theorem dX7_canGo_53 : decode cX7_canGo 53 = .ok (.ifCond .eq 7, 3) := by decide +kernel
theorem dX7_canGo_56 : decode cX7_canGo 56 = .ok (.iconst 1, 1) := by decide +kernel
theorem dX7_canGo_57 : decode cX7_canGo 57 = .ok (.goto 4, 3) := by decide +kernel
theorem dX7_canGo_60 : decode cX7_canGo 60 = .ok (.iconst 0, 1) := by decide +kernel
theorem dX7_canGo_61 : decode cX7_canGo 61 = .ok (.ireturn, 1) := by decide +kernel
set_option maxRecDepth 20000 in
theorem ggX7_goNow_X7_isFit : GoodIn wsX7_goNow wsX7_isFit := goodIn_r _ [13, 3, 5, 14, 15, 16, 17, 18, 19, 20, 21, 22, 23, 24, 25, 26, 27, 28, 29, 30, 31, 32, 33, 34, 35, 36, 37, 38, 39, 40, 41, 42, 43, 44, 45, 46, 47, 48, 49, 50, 51, 52, 53, 54, 55, 56, 57, 58] (by decide +kernel) (by decide +kernel)
set_option maxRecDepth 20000 in
theorem gX7_goNow_X7_isFit : GoodIn wsX7_goNow (wsV RX7 210 RX7 yX7_isFit wsX7_isFit) := goodIn_app (goodIn_of _ (by decide +kernel)) ggX7_goNow_X7_isFit
theorem dX7_goNow_0 : decode cX7_goNow 0 = .ok (.aload_n 0, 1) := by decide +kernel
theorem dX7_goNow_1 : decode cX7_goNow 1 = .ok (.iload_n 2, 1) := by decide +kernel
theorem dX7_goNow_2 : decode cX7_goNow 2 = .ok (.aload_n 0, 1) := by decide +kernel
theorem dX7_goNow_3 : decode cX7_goNow 3 = .ok (.getfield 31, 3) := by decide +kernel
theorem dX7_goNow_6 : decode cX7_goNow 6 = .ok (.iload_n 1, 1) := by decide +kernel
theorem dX7_goNow_7 : decode cX7_goNow 7 = .ok (.iaload, 1) := by decide +kernel
theorem dX7_goNow_8 : decode cX7_goNow 8 = .ok (.invokevirtual 210, 3) := by decide +kernel
theorem dX7_goNow_11 : decode cX7_goNow 11 = .ok (.istore_n 3, 1) := by decide +kernel
theorem dX7_goNow_12 : decode cX7_goNow 12 = .ok (.aload_n 0, 1) := by decide +kernel
theorem dX7_goNow_13 : decode cX7_goNow 13 = .ok (.iload_n 2, 1) := by decide +kernel
theorem dX7_goNow_14 : decode cX7_goNow 14 = .ok (.aload_n 0, 1) := by decide +kernel
theorem dX7_goNow_15 : decode cX7_goNow 15 = .ok (.getfield 34, 3) := by decide +kernel
theorem dX7_goNow_18 : decode cX7_goNow 18 = .ok (.iload_n 1, 1) := by decide +kernel
theorem dX7_goNow_19 : decode cX7_goNow 19 = .ok (.iaload, 1) := by decide +kernel
theorem dX7_goNow_20 : decode cX7_goNow 20 = .ok (.invokevirtual 210, 3) := by decide +kernel
theorem dX7_goNow_23 : decode cX7_goNow 23 = .ok (.istore 4, 2) := by decide +kernel
theorem dX7_goNow_25 : decode cX7_goNow 25 = .ok (.iload 4, 2) := by decide +kernel
theorem dX7_goNow_27 : decode cX7_goNow 27 = .ok (.ifCond .eq 31, 3) := by decide +kernel
theorem dX7_goNow_30 : decode cX7_goNow 30 = .ok (.iload_n 3, 1) := by decide +kernel
theorem dX7_goNow_31 : decode cX7_goNow 31 = .ok (.ifCond .eq 18, 3) := by decide +kernel
theorem dX7_goNow_34 : decode cX7_goNow 34 = .ok (.aload_n 0, 1) := by decide +kernel
theorem dX7_goNow_35 : decode cX7_goNow 35 = .ok (.getfield 34, 3) := by decide +kernel
theorem dX7_goNow_38 : decode cX7_goNow 38 = .ok (.iload_n 1, 1) := by decide +kernel
theorem dX7_goNow_39 : decode cX7_goNow 39 = .ok (.iaload, 1) := by decide +kernel
theorem dX7_goNow_40 : decode cX7_goNow 40 = .ok (.aload_n 0, 1) := by decide +kernel
theorem dX7_goNow_41 : decode cX7_goNow 41 = .ok (.getfield 31, 3) := by decide +kernel
theorem dX7_goNow_44 : decode cX7_goNow 44 = .ok (.iload_n 1, 1) := by decide +kernel
theorem dX7_goNow_45 : decode cX7_goNow 45 = .ok (.iaload, 1) := by decide +kernel
theorem dX7_goNow_46 : decode cX7_goNow 46 = .ok (.if_icmp .le 12, 3) := by decide +kernel
theorem dX7_goNow_49 : decode cX7_goNow 49 = .ok (.aload_n 0, 1) := by decide +kernel
theorem dX7_goNow_50 : decode cX7_goNow 50 = .ok (.getfield 34, 3) := by decide +kernel
theorem dX7_goNow_53 : decode cX7_goNow 53 = .ok (.iload_n 1, 1) := by decide +kernel
theorem dX7_goNow_54 : decode cX7_goNow 54 = .ok (.iaload, 1) := by decide +kernel
theorem dX7_goNow_55 : decode cX7_goNow 55 = .ok (.goto 9, 3) := by decide +kernel
theorem dX7_goNow_58 : decode cX7_goNow 58 = .ok (.aload_n 0, 1) := by decide +kernel
theorem dX7_goNow_59 : decode cX7_goNow 59 = .ok (.getfield 31, 3) := by decide +kernel
theorem dX7_goNow_62 : decode cX7_goNow 62 = .ok (.iload_n 1, 1) := by decide +kernel
theorem dX7_goNow_63 : decode cX7_goNow 63 = .ok (.iaload, 1) := by decide +kernel
theorem dX7_goNow_64 : decode cX7_goNow 64 = .ok (.istore 5, 2) := by decide +kernel
theorem dX7_goNow_66 : decode cX7_goNow 66 = .ok (.iconst 0, 1) := by decide +kernel
theorem dX7_goNow_67 : decode cX7_goNow 67 = .ok (.istore 6, 2) := by decide +kernel
theorem dX7_goNow_69 : decode cX7_goNow 69 = .ok (.iload 6, 2) := by decide +kernel
theorem dX7_goNow_71 : decode cX7_goNow 71 = .ok (.aload_n 0, 1) := by decide +kernel
theorem dX7_goNow_72 : decode cX7_goNow 72 = .ok (.getfield 19, 3) := by decide +kernel
theorem dX7_goNow_75 : decode cX7_goNow 75 = .ok (.iload_n 2, 1) := by decide +kernel
theorem dX7_goNow_76 : decode cX7_goNow 76 = .ok (.iaload, 1) := by decide +kernel
theorem dX7_goNow_77 : decode cX7_goNow 77 = .ok (.if_icmp .ge 37, 3) := by decide +kernel
theorem dX7_goNow_80 : decode cX7_goNow 80 = .ok (.aload_n 0, 1) := by decide +kernel
theorem dX7_goNow_81 : decode cX7_goNow 81 = .ok (.getfield 25, 3) := by decide +kernel
theorem dX7_goNow_84 : decode cX7_goNow 84 = .ok (.iload_n 2, 1) := by decide +kernel
theorem dX7_goNow_85 : decode cX7_goNow 85 = .ok (.dup2, 1) := by decide +kernel
theorem dX7_goNow_86 : decode cX7_goNow 86 = .ok (.iaload, 1) := by decide +kernel
theorem dX7_goNow_87 : decode cX7_goNow 87 = .ok (.aload_n 0, 1) := by decide +kernel
theorem dX7_goNow_88 : decode cX7_goNow 88 = .ok (.getfield 22, 3) := by decide +kernel
theorem dX7_goNow_91 : decode cX7_goNow 91 = .ok (.iconst 3, 1) := by decide +kernel
theorem dX7_goNow_92 : decode cX7_goNow 92 = .ok (.iload_n 2, 1) := by decide +kernel
theorem dX7_goNow_93 : decode cX7_goNow 93 = .ok (.imul, 1) := by decide +kernel
theorem dX7_goNow_94 : decode cX7_goNow 94 = .ok (.iload 6, 2) := by decide +kernel
theorem dX7_goNow_96 : decode cX7_goNow 96 = .ok (.iadd, 1) := by decide +kernel
theorem dX7_goNow_97 : decode cX7_goNow 97 = .ok (.iaload, 1) := by decide +kernel
theorem dX7_goNow_98 : decode cX7_goNow 98 = .ok (.iload 5, 2) := by decide +kernel
theorem dX7_goNow_100 : decode cX7_goNow 100 = .ok (.iadd, 1) := by decide +kernel
theorem dX7_goNow_101 : decode cX7_goNow 101 = .ok (.iconst 1, 1) := by decide +kernel
theorem dX7_goNow_102 : decode cX7_goNow 102 = .ok (.isub, 1) := by decide +kernel
theorem dX7_goNow_103 : decode cX7_goNow 103 = .ok (.iload 5, 2) := by decide +kernel
theorem dX7_goNow_105 : decode cX7_goNow 105 = .ok (.idiv, 1) := by decide +kernel
theorem dX7_goNow_106 : decode cX7_goNow 106 = .ok (.iadd, 1) := by decide +kernel
theorem dX7_goNow_107 : decode cX7_goNow 107 = .ok (.iastore, 1) := by decide +kernel
theorem dX7_goNow_108 : decode cX7_goNow 108 = .ok (.iinc 6 1, 3) := by decide +kernel
theorem dX7_goNow_111 : decode cX7_goNow 111 = .ok (.goto (-42), 3) := by decide +kernel
theorem dX7_goNow_114 : decode cX7_goNow 114 = .ok (.aload_n 0, 1) := by decide +kernel
theorem dX7_goNow_115 : decode cX7_goNow 115 = .ok (.getfield 28, 3) := by decide +kernel
theorem dX7_goNow_118 : decode cX7_goNow 118 = .ok (.iload_n 1, 1) := by decide +kernel
theorem dX7_goNow_119 : decode cX7_goNow 119 = .ok (.aload_n 0, 1) := by decide +kernel
theorem dX7_goNow_120 : decode cX7_goNow 120 = .ok (.getfield 28, 3) := by decide +kernel
theorem dX7_goNow_123 : decode cX7_goNow 123 = .ok (.iload_n 1, 1) := by decide +kernel
theorem dX7_goNow_124 : decode cX7_goNow 124 = .ok (.iaload, 1) := by decide +kernel
theorem dX7_goNow_125 : decode cX7_goNow 125 = .ok (.aload_n 0, 1) := by decide +kernel
theorem dX7_goNow_126 : decode cX7_goNow 126 = .ok (.getfield 13, 3) := by decide +kernel
theorem dX7_goNow_129 : decode cX7_goNow 129 = .ok (.iload_n 2, 1) := by decide +kernel
theorem dX7_goNow_130 : decode cX7_goNow 130 = .ok (.iaload, 1) := by decide +kernel
theorem dX7_goNow_131 : decode cX7_goNow 131 = .ok (.if_icmp .ne 12, 3) := by decide +kernel
theorem dX7_goNow_134 : decode cX7_goNow 134 = .ok (.aload_n 0, 1) := by decide +kernel
theorem dX7_goNow_135 : decode cX7_goNow 135 = .ok (.getfield 16, 3) := by decide +kernel
theorem dX7_goNow_138 : decode cX7_goNow 138 = .ok (.iload_n 2, 1) := by decide +kernel
theorem dX7_goNow_139 : decode cX7_goNow 139 = .ok (.iaload, 1) := by decide +kernel
theorem dX7_goNow_140 : decode cX7_goNow 140 = .ok (.goto 9, 3) := by decide +kernel
theorem dX7_goNow_143 : decode cX7_goNow 143 = .ok (.aload_n 0, 1) := by decide +kernel
theorem dX7_goNow_144 : decode cX7_goNow 144 = .ok (.getfield 13, 3) := by decide +kernel
theorem dX7_goNow_147 : decode cX7_goNow 147 = .ok (.iload_n 2, 1) := by decide +kernel
theorem dX7_goNow_148 : decode cX7_goNow 148 = .ok (.iaload, 1) := by decide +kernel
theorem dX7_goNow_149 : decode cX7_goNow 149 = .ok (.iastore, 1) := by decide +kernel
theorem dX7_goNow_150 : decode cX7_goNow 150 = .ok (.return_, 1) := by decide +kernel
set_option maxRecDepth 20000 in
theorem ggX7_go_X7_isPerson : GoodIn wsX7_go wsX7_isPerson := goodIn_r _ [8, 9, 10, 11, 7, 12, 43, 44, 45, 46, 47, 48, 49, 50, 51, 52, 53, 54, 55, 56, 57, 58, 59, 60, 61, 62, 63, 64, 65, 66, 67, 68, 69, 70, 71, 72, 73, 74, 75, 76, 77, 78, 79, 80, 81, 82, 83, 84, 85, 86] (by decide +kernel) (by decide +kernel)
set_option maxRecDepth 20000 in
theorem gX7_go_X7_isPerson : GoodIn wsX7_go (wsV RX7 232 RX7 yX7_isPerson wsX7_isPerson) := goodIn_app (goodIn_of _ (by decide +kernel)) ggX7_go_X7_isPerson
set_option maxRecDepth 20000 in
theorem ggX7_go_X7_isStair : GoodIn wsX7_go wsX7_isStair := goodIn_r _ [16, 17, 10, 11, 7, 12, 43, 44, 45, 46, 47, 48, 49, 50, 51, 52, 53, 54, 55, 56, 57, 58, 59, 60, 61, 62, 63, 64, 65, 66, 67, 68, 69, 70, 71, 72, 73, 74, 75, 76, 77, 78, 79, 80, 81, 82, 83, 84, 85, 86] (by decide +kernel) (by decide +kernel)
set_option maxRecDepth 20000 in
theorem gX7_go_X7_isStair : GoodIn wsX7_go (wsV RX7 217 RX7 yX7_isStair wsX7_isStair) := goodIn_app (goodIn_of _ (by decide +kernel)) ggX7_go_X7_isStair
set_option maxRecDepth 20000 in
theorem ggX7_go_X7_canGo : GoodIn wsX7_go wsX7_canGo := goodIn_r _ [21, 3, 22, 23, 24, 25, 26, 27, 7, 28, 29, 30, 31, 32, 33, 34, 35, 36, 37, 43, 44, 45, 46, 47, 48, 49, 50, 51, 52, 53, 54, 55, 56, 57, 58, 59, 60, 61, 62, 63, 64, 65, 66, 67, 68, 69, 70, 71, 72, 73, 74, 75, 76, 77, 78, 79, 80, 81, 82, 83, 84, 85, 86] (by decide +kernel) (by decide +kernel)
set_option maxRecDepth 20000 in
theorem gX7_go_X7_canGo : GoodIn wsX7_go (wsV RX7 240 RX7 yX7_canGo wsX7_canGo) := goodIn_app (goodIn_of _ (by decide +kernel)) ggX7_go_X7_canGo
set_option maxRecDepth 20000 in
theorem ggX7_go_X7_goNow : GoodIn wsX7_go wsX7_goNow := goodIn_r _ [41, 29, 30, 35, 42, 36, 3, 22, 23, 31, 32, 33, 7, 34, 37, 43, 44, 45, 46, 47, 48, 49, 50, 51, 52, 53, 54, 55, 56, 57, 58, 59, 60, 61, 62, 63, 64, 65, 66, 67, 68, 69, 70, 71, 72, 73, 74, 75, 76, 77, 78, 79, 80, 81, 82, 83, 84, 85, 86] (by decide +kernel) (by decide +kernel)
set_option maxRecDepth 20000 in
theorem gX7_go_X7_goNow : GoodIn wsX7_go (wsV RX7 244 RX7 yX7_goNow wsX7_goNow) := goodIn_app (goodIn_of _ (by decide +kernel)) ggX7_go_X7_goNow
theorem dX7_go_0 : decode cX7_go 0 = .ok (.aload_n 0, 1) := by decide +kernel
theorem dX7_go_1 : decode cX7_go 1 = .ok (.iload_n 1, 1) := by decide +kernel
theorem dX7_go_2 : decode cX7_go 2 = .ok (.invokevirtual 232, 3) := by decide +kernel
theorem dX7_go_5 : decode cX7_go 5 = .ok (.ifCond .eq 11, 3) := by decide +kernel
theorem dX7_go_8 : decode cX7_go 8 = .ok (.aload_n 0, 1) := by decide +kernel
theorem dX7_go_9 : decode cX7_go 9 = .ok (.iload_n 2, 1) := by decide +kernel
theorem dX7_go_10 : decode cX7_go 10 = .ok (.invokevirtual 217, 3) := by decide +kernel
theorem dX7_go_13 : decode cX7_go 13 = .ok (.ifCond .ne 6, 3) := by decide +kernel
theorem dX7_go_16 : decode cX7_go 16 = .ok (.ldc 221, 2) := by decide +kernel
theorem dX7_go_18 : decode cX7_go 18 = .ok (.ireturn, 1) := by decide +kernel
theorem dX7_go_19 : decode cX7_go 19 = .ok (.aload_n 0, 1) := by decide +kernel
theorem dX7_go_20 : decode cX7_go 20 = .ok (.iload_n 1, 1) := by decide +kernel
theorem dX7_go_21 : decode cX7_go 21 = .ok (.iload_n 2, 1) := by decide +kernel
theorem dX7_go_22 : decode cX7_go 22 = .ok (.invokevirtual 240, 3) := by decide +kernel
theorem dX7_go_25 : decode cX7_go 25 = .ok (.ifCond .ne 6, 3) := by decide +kernel
theorem dX7_go_28 : decode cX7_go 28 = .ok (.ldc 243, 2) := by decide +kernel
theorem dX7_go_30 : decode cX7_go 30 = .ok (.ireturn, 1) := by decide +kernel
theorem dX7_go_31 : decode cX7_go 31 = .ok (.aload_n 0, 1) := by decide +kernel
theorem dX7_go_32 : decode cX7_go 32 = .ok (.iload_n 1, 1) := by decide +kernel
theorem dX7_go_33 : decode cX7_go 33 = .ok (.iload_n 2, 1) := by decide +kernel
theorem dX7_go_34 : decode cX7_go 34 = .ok (.invokevirtual 244, 3) := by decide +kernel
theorem dX7_go_37 : decode cX7_go 37 = .ok (.aload_n 0, 1) := by decide +kernel
theorem dX7_go_38 : decode cX7_go 38 = .ok (.getfield 28, 3) := by decide +kernel
theorem dX7_go_41 : decode cX7_go 41 = .ok (.iload_n 1, 1) := by decide +kernel
theorem dX7_go_42 : decode cX7_go 42 = .ok (.iaload, 1) := by decide +kernel
theorem dX7_go_43 : decode cX7_go 43 = .ok (.ireturn, 1) := by decide +kernel
set_option maxRecDepth 20000 in
theorem ggX7_build_X7_isStair : GoodIn wsX7_build wsX7_isStair := goodIn_r _ [10, 11, 12, 13, 9, 14, 15, 16, 17, 18, 19, 20, 21, 22, 23, 24, 25, 26, 27, 28, 29, 30, 31, 32, 33, 34, 35, 36, 37, 38, 39, 40, 41, 42, 43, 44, 45, 46, 47, 48, 49, 50, 51, 52, 53, 54, 55, 56, 57, 58] (by decide +kernel) (by decide +kernel)
set_option maxRecDepth 20000 in
theorem gX7_build_X7_isStair : GoodIn wsX7_build (wsV RX7 217 RX7 yX7_isStair wsX7_isStair) := goodIn_app (goodIn_of _ (by decide +kernel)) ggX7_build_X7_isStair
set_option maxRecDepth 20000 in
theorem ggX7_build_X7_in : GoodIn wsX7_build wsX7_in := goodIn_r _ [14] (by decide +kernel) (by decide +kernel)
set_option maxRecDepth 20000 in
theorem gX7_build_X7_in : GoodIn wsX7_build (va_wsS RX7 99 yX7_in wsX7_in) := goodIn_app (goodIn_of _ (by decide +kernel)) ggX7_build_X7_in
theorem dX7_build_0 : decode cX7_build 0 = .ok (.aload_n 0, 1) := by decide +kernel
theorem dX7_build_1 : decode cX7_build 1 = .ok (.iload_n 1, 1) := by decide +kernel
theorem dX7_build_2 : decode cX7_build 2 = .ok (.invokevirtual 217, 3) := by decide +kernel
theorem dX7_build_5 : decode cX7_build 5 = .ok (.ifCond .eq 21, 3) := by decide +kernel
theorem dX7_build_8 : decode cX7_build 8 = .ok (.iload_n 2, 1) := by decide +kernel
theorem dX7_build_9 : decode cX7_build 9 = .ok (.i2l, 1) := by decide +kernel
theorem dX7_build_10 : decode cX7_build 10 = .ok (.lconst 0, 1) := by decide +kernel
theorem dX7_build_11 : decode cX7_build 11 = .ok (.aload_n 0, 1) := by decide +kernel
theorem dX7_build_12 : decode cX7_build 12 = .ok (.getfield 19, 3) := by decide +kernel
theorem dX7_build_15 : decode cX7_build 15 = .ok (.iload_n 1, 1) := by decide +kernel
theorem dX7_build_16 : decode cX7_build 16 = .ok (.iaload, 1) := by decide +kernel
theorem dX7_build_17 : decode cX7_build 17 = .ok (.iconst 1, 1) := by decide +kernel
theorem dX7_build_18 : decode cX7_build 18 = .ok (.isub, 1) := by decide +kernel
theorem dX7_build_19 : decode cX7_build 19 = .ok (.i2l, 1) := by decide +kernel
theorem dX7_build_20 : decode cX7_build 20 = .ok (.invokestatic 99, 3) := by decide +kernel
theorem dX7_build_23 : decode cX7_build 23 = .ok (.ifCond .ne 6, 3) := by decide +kernel
theorem dX7_build_26 : decode cX7_build 26 = .ok (.ldc 221, 2) := by decide +kernel
theorem dX7_build_28 : decode cX7_build 28 = .ok (.ireturn, 1) := by decide +kernel
theorem dX7_build_29 : decode cX7_build 29 = .ok (.iload_n 3, 1) := by decide +kernel
theorem dX7_build_30 : decode cX7_build 30 = .ok (.i2l, 1) := by decide +kernel
theorem dX7_build_31 : decode cX7_build 31 = .ok (.lconst 1, 1) := by decide +kernel
theorem dX7_build_32 : decode cX7_build 32 = .ok (.ldc2_w 248, 3) := by decide +kernel
theorem dX7_build_35 : decode cX7_build 35 = .ok (.invokestatic 99, 3) := by decide +kernel
theorem dX7_build_38 : decode cX7_build 38 = .ok (.ifCond .ne 6, 3) := by decide +kernel
theorem dX7_build_41 : decode cX7_build 41 = .ok (.ldc 111, 2) := by decide +kernel
theorem dX7_build_43 : decode cX7_build 43 = .ok (.ireturn, 1) := by decide +kernel
theorem dX7_build_44 : decode cX7_build 44 = .ok (.aload_n 0, 1) := by decide +kernel
theorem dX7_build_45 : decode cX7_build 45 = .ok (.getfield 22, 3) := by decide +kernel
theorem dX7_build_48 : decode cX7_build 48 = .ok (.iconst 3, 1) := by decide +kernel
theorem dX7_build_49 : decode cX7_build 49 = .ok (.iload_n 1, 1) := by decide +kernel
theorem dX7_build_50 : decode cX7_build 50 = .ok (.imul, 1) := by decide +kernel
theorem dX7_build_51 : decode cX7_build 51 = .ok (.iload_n 2, 1) := by decide +kernel
theorem dX7_build_52 : decode cX7_build 52 = .ok (.iadd, 1) := by decide +kernel
theorem dX7_build_53 : decode cX7_build 53 = .ok (.iaload, 1) := by decide +kernel
theorem dX7_build_54 : decode cX7_build 54 = .ok (.istore 4, 2) := by decide +kernel
theorem dX7_build_56 : decode cX7_build 56 = .ok (.aload_n 0, 1) := by decide +kernel
theorem dX7_build_57 : decode cX7_build 57 = .ok (.getfield 22, 3) := by decide +kernel
theorem dX7_build_60 : decode cX7_build 60 = .ok (.iconst 3, 1) := by decide +kernel
theorem dX7_build_61 : decode cX7_build 61 = .ok (.iload_n 1, 1) := by decide +kernel
theorem dX7_build_62 : decode cX7_build 62 = .ok (.imul, 1) := by decide +kernel
theorem dX7_build_63 : decode cX7_build 63 = .ok (.iload_n 2, 1) := by decide +kernel
theorem dX7_build_64 : decode cX7_build 64 = .ok (.iadd, 1) := by decide +kernel
theorem dX7_build_65 : decode cX7_build 65 = .ok (.iload_n 3, 1) := by decide +kernel
theorem dX7_build_66 : decode cX7_build 66 = .ok (.iastore, 1) := by decide +kernel
theorem dX7_build_67 : decode cX7_build 67 = .ok (.iload 4, 2) := by decide +kernel
theorem dX7_build_69 : decode cX7_build 69 = .ok (.ireturn, 1) := by decide +kernel
set_option maxRecDepth 20000 in
theorem ggX7_law_X7_in : GoodIn wsX7_law wsX7_in := goodIn_r _ [6] (by decide +kernel) (by decide +kernel)
set_option maxRecDepth 20000 in
theorem gX7_law_X7_in : GoodIn wsX7_law (va_wsS RX7 99 yX7_in wsX7_in) := goodIn_app (goodIn_of _ (by decide +kernel)) ggX7_law_X7_in
theorem dX7_law_0 : decode cX7_law 0 = .ok (.iload_n 1, 1) := by decide +kernel
theorem dX7_law_1 : decode cX7_law 1 = .ok (.i2l, 1) := by decide +kernel
theorem dX7_law_2 : decode cX7_law 2 = .ok (.lconst 0, 1) := by decide +kernel
theorem dX7_law_3 : decode cX7_law 3 = .ok (.lconst 1, 1) := by decide +kernel
theorem dX7_law_4 : decode cX7_law 4 = .ok (.invokestatic 99, 3) := by decide +kernel
theorem dX7_law_7 : decode cX7_law 7 = .ok (.ifCond .ne 6, 3) := by decide +kernel
theorem dX7_law_10 : decode cX7_law 10 = .ok (.ldc 111, 2) := by decide +kernel
theorem dX7_law_12 : decode cX7_law 12 = .ok (.ireturn, 1) := by decide +kernel
theorem dX7_law_13 : decode cX7_law 13 = .ok (.aload_n 0, 1) := by decide +kernel
theorem dX7_law_14 : decode cX7_law 14 = .ok (.getfield 204, 3) := by decide +kernel
theorem dX7_law_17 : decode cX7_law 17 = .ok (.istore_n 2, 1) := by decide +kernel
theorem dX7_law_18 : decode cX7_law 18 = .ok (.aload_n 0, 1) := by decide +kernel
theorem dX7_law_19 : decode cX7_law 19 = .ok (.iload_n 1, 1) := by decide +kernel
theorem dX7_law_20 : decode cX7_law 20 = .ok (.putfield 204, 3) := by decide +kernel
theorem dX7_law_23 : decode cX7_law 23 = .ok (.iload_n 2, 1) := by decide +kernel
theorem dX7_law_24 : decode cX7_law 24 = .ok (.ireturn, 1) := by decide +kernel
theorem dX7_draw_0 : decode cX7_draw 0 = .ok (.aload_n 0, 1) := by decide +kernel
theorem dX7_draw_1 : decode cX7_draw 1 = .ok (.aload_n 0, 1) := by decide +kernel
theorem dX7_draw_2 : decode cX7_draw 2 = .ok (.getfield 250, 3) := by decide +kernel
theorem dX7_draw_5 : decode cX7_draw 5 = .ok (.i2l, 1) := by decide +kernel
theorem dX7_draw_6 : decode cX7_draw 6 = .ok (.ldc2_w 253, 3) := by decide +kernel
theorem dX7_draw_9 : decode cX7_draw 9 = .ok (.lmul, 1) := by decide +kernel
theorem dX7_draw_10 : decode cX7_draw 10 = .ok (.ldc2_w 255, 3) := by decide +kernel
theorem dX7_draw_13 : decode cX7_draw 13 = .ok (.ladd, 1) := by decide +kernel
theorem dX7_draw_14 : decode cX7_draw 14 = .ok (.ldc2_w 257, 3) := by decide +kernel
theorem dX7_draw_17 : decode cX7_draw 17 = .ok (.lrem, 1) := by decide +kernel
theorem dX7_draw_18 : decode cX7_draw 18 = .ok (.l2i, 1) := by decide +kernel
theorem dX7_draw_19 : decode cX7_draw 19 = .ok (.putfield 250, 3) := by decide +kernel
theorem dX7_draw_22 : decode cX7_draw 22 = .ok (.aload_n 0, 1) := by decide +kernel
theorem dX7_draw_23 : decode cX7_draw 23 = .ok (.getfield 250, 3) := by decide +kernel
theorem dX7_draw_26 : decode cX7_draw 26 = .ok (.ldc_w 259, 3) := by decide +kernel
theorem dX7_draw_29 : decode cX7_draw 29 = .ok (.idiv, 1) := by decide +kernel
theorem dX7_draw_30 : decode cX7_draw 30 = .ok (.iload_n 1, 1) := by decide +kernel
theorem dX7_draw_31 : decode cX7_draw 31 = .ok (.irem, 1) := by decide +kernel
theorem dX7_draw_32 : decode cX7_draw 32 = .ok (.ireturn, 1) := by decide +kernel
set_option maxRecDepth 20000 in
theorem ggX7_dayNow_X7_draw : GoodIn wsX7_dayNow wsX7_draw := goodIn_r _ [10, 11, 12, 13, 14, 15, 39, 40, 41, 42, 43, 44, 45, 46, 47, 48, 49, 50, 51, 52, 53, 54, 55, 56, 57, 58, 59, 60, 61, 62, 63, 64, 65, 66, 67, 68, 69, 70, 71, 72, 73, 74, 75, 76, 77, 78, 79, 80, 81, 82] (by decide +kernel) (by decide +kernel)
set_option maxRecDepth 20000 in
theorem gX7_dayNow_X7_draw : GoodIn wsX7_dayNow (wsV RX7 260 RX7 yX7_draw wsX7_draw) := goodIn_app (goodIn_of _ (by decide +kernel)) ggX7_dayNow_X7_draw
set_option maxRecDepth 20000 in
theorem ggX7_dayNow_X7_canGo : GoodIn wsX7_dayNow wsX7_canGo := goodIn_r _ [19, 3, 20, 21, 22, 23, 24, 25, 9, 26, 4, 5, 27, 28, 29, 30, 31, 32, 33, 39, 40, 41, 42, 43, 44, 45, 46, 47, 48, 49, 50, 51, 52, 53, 54, 55, 56, 57, 58, 59, 60, 61, 62, 63, 64, 65, 66, 67, 68, 69, 70, 71, 72, 73, 74, 75, 76, 77, 78, 79, 80, 81, 82] (by decide +kernel) (by decide +kernel)
set_option maxRecDepth 20000 in
theorem gX7_dayNow_X7_canGo : GoodIn wsX7_dayNow (wsV RX7 240 RX7 yX7_canGo wsX7_canGo) := goodIn_app (goodIn_of _ (by decide +kernel)) ggX7_dayNow_X7_canGo
set_option maxRecDepth 20000 in
theorem ggX7_dayNow_X7_goNow : GoodIn wsX7_dayNow wsX7_goNow := goodIn_r _ [37, 4, 5, 31, 38, 32, 3, 20, 21, 27, 28, 29, 9, 30, 33, 39, 40, 41, 42, 43, 44, 45, 46, 47, 48, 49, 50, 51, 52, 53, 54, 55, 56, 57, 58, 59, 60, 61, 62, 63, 64, 65, 66, 67, 68, 69, 70, 71, 72, 73, 74, 75, 76, 77, 78, 79, 80, 81, 82] (by decide +kernel) (by decide +kernel)
set_option maxRecDepth 20000 in
theorem gX7_dayNow_X7_goNow : GoodIn wsX7_dayNow (wsV RX7 244 RX7 yX7_goNow wsX7_goNow) := goodIn_app (goodIn_of _ (by decide +kernel)) ggX7_dayNow_X7_goNow
theorem dX7_dayNow_0 : decode cX7_dayNow 0 = .ok (.aload_n 0, 1) := by decide +kernel
theorem dX7_dayNow_1 : decode cX7_dayNow 1 = .ok (.aload_n 0, 1) := by decide +kernel
theorem dX7_dayNow_2 : decode cX7_dayNow 2 = .ok (.getfield 106, 3) := by decide +kernel
theorem dX7_dayNow_5 : decode cX7_dayNow 5 = .ok (.invokevirtual 260, 3) := by decide +kernel
theorem dX7_dayNow_8 : decode cX7_dayNow 8 = .ok (.istore_n 1, 1) := by decide +kernel
theorem dX7_dayNow_9 : decode cX7_dayNow 9 = .ok (.aload_n 0, 1) := by decide +kernel
theorem dX7_dayNow_10 : decode cX7_dayNow 10 = .ok (.aload_n 0, 1) := by decide +kernel
theorem dX7_dayNow_11 : decode cX7_dayNow 11 = .ok (.getfield 103, 3) := by decide +kernel
theorem dX7_dayNow_14 : decode cX7_dayNow 14 = .ok (.invokevirtual 260, 3) := by decide +kernel
theorem dX7_dayNow_17 : decode cX7_dayNow 17 = .ok (.istore_n 2, 1) := by decide +kernel
theorem dX7_dayNow_18 : decode cX7_dayNow 18 = .ok (.aload_n 0, 1) := by decide +kernel
theorem dX7_dayNow_19 : decode cX7_dayNow 19 = .ok (.iload_n 1, 1) := by decide +kernel
theorem dX7_dayNow_20 : decode cX7_dayNow 20 = .ok (.iload_n 2, 1) := by decide +kernel
theorem dX7_dayNow_21 : decode cX7_dayNow 21 = .ok (.invokevirtual 240, 3) := by decide +kernel
theorem dX7_dayNow_24 : decode cX7_dayNow 24 = .ok (.ifCond .eq 9, 3) := by decide +kernel
theorem dX7_dayNow_27 : decode cX7_dayNow 27 = .ok (.aload_n 0, 1) := by decide +kernel
theorem dX7_dayNow_28 : decode cX7_dayNow 28 = .ok (.iload_n 1, 1) := by decide +kernel
theorem dX7_dayNow_29 : decode cX7_dayNow 29 = .ok (.iload_n 2, 1) := by decide +kernel
theorem dX7_dayNow_30 : decode cX7_dayNow 30 = .ok (.invokevirtual 244, 3) := by decide +kernel
theorem dX7_dayNow_33 : decode cX7_dayNow 33 = .ok (.aload_n 0, 1) := by decide +kernel
theorem dX7_dayNow_34 : decode cX7_dayNow 34 = .ok (.bipush 16, 2) := by decide +kernel
theorem dX7_dayNow_36 : decode cX7_dayNow 36 = .ok (.invokevirtual 260, 3) := by decide +kernel
theorem dX7_dayNow_39 : decode cX7_dayNow 39 = .ok (.ifCond .ne 81, 3) := by decide +kernel
theorem dX7_dayNow_42 : decode cX7_dayNow 42 = .ok (.aload_n 0, 1) := by decide +kernel
theorem dX7_dayNow_43 : decode cX7_dayNow 43 = .ok (.getfield 106, 3) := by decide +kernel
theorem dX7_dayNow_46 : decode cX7_dayNow 46 = .ok (.bipush 8, 2) := by decide +kernel
theorem dX7_dayNow_48 : decode cX7_dayNow 48 = .ok (.if_icmp .ge 72, 3) := by decide +kernel
theorem dX7_dayNow_51 : decode cX7_dayNow 51 = .ok (.aload_n 0, 1) := by decide +kernel
theorem dX7_dayNow_52 : decode cX7_dayNow 52 = .ok (.getfield 28, 3) := by decide +kernel
theorem dX7_dayNow_55 : decode cX7_dayNow 55 = .ok (.aload_n 0, 1) := by decide +kernel
theorem dX7_dayNow_56 : decode cX7_dayNow 56 = .ok (.getfield 106, 3) := by decide +kernel
theorem dX7_dayNow_59 : decode cX7_dayNow 59 = .ok (.aload_n 0, 1) := by decide +kernel
theorem dX7_dayNow_60 : decode cX7_dayNow 60 = .ok (.getfield 28, 3) := by decide +kernel
theorem dX7_dayNow_63 : decode cX7_dayNow 63 = .ok (.iload_n 1, 1) := by decide +kernel
theorem dX7_dayNow_64 : decode cX7_dayNow 64 = .ok (.iaload, 1) := by decide +kernel
theorem dX7_dayNow_65 : decode cX7_dayNow 65 = .ok (.iastore, 1) := by decide +kernel
theorem dX7_dayNow_66 : decode cX7_dayNow 66 = .ok (.aload_n 0, 1) := by decide +kernel
theorem dX7_dayNow_67 : decode cX7_dayNow 67 = .ok (.getfield 31, 3) := by decide +kernel
theorem dX7_dayNow_70 : decode cX7_dayNow 70 = .ok (.aload_n 0, 1) := by decide +kernel
theorem dX7_dayNow_71 : decode cX7_dayNow 71 = .ok (.getfield 106, 3) := by decide +kernel
theorem dX7_dayNow_74 : decode cX7_dayNow 74 = .ok (.aload_n 0, 1) := by decide +kernel
theorem dX7_dayNow_75 : decode cX7_dayNow 75 = .ok (.iconst 2, 1) := by decide +kernel
theorem dX7_dayNow_76 : decode cX7_dayNow 76 = .ok (.invokevirtual 260, 3) := by decide +kernel
theorem dX7_dayNow_79 : decode cX7_dayNow 79 = .ok (.ifCond .ne 12, 3) := by decide +kernel
theorem dX7_dayNow_82 : decode cX7_dayNow 82 = .ok (.aload_n 0, 1) := by decide +kernel
theorem dX7_dayNow_83 : decode cX7_dayNow 83 = .ok (.getfield 31, 3) := by decide +kernel
theorem dX7_dayNow_86 : decode cX7_dayNow 86 = .ok (.iload_n 1, 1) := by decide +kernel
theorem dX7_dayNow_87 : decode cX7_dayNow 87 = .ok (.iaload, 1) := by decide +kernel
theorem dX7_dayNow_88 : decode cX7_dayNow 88 = .ok (.goto 11, 3) := by decide +kernel
theorem dX7_dayNow_91 : decode cX7_dayNow 91 = .ok (.aload_n 0, 1) := by decide +kernel
theorem dX7_dayNow_92 : decode cX7_dayNow 92 = .ok (.bipush 24, 2) := by decide +kernel
theorem dX7_dayNow_94 : decode cX7_dayNow 94 = .ok (.invokevirtual 260, 3) := by decide +kernel
theorem dX7_dayNow_97 : decode cX7_dayNow 97 = .ok (.iconst 1, 1) := by decide +kernel
theorem dX7_dayNow_98 : decode cX7_dayNow 98 = .ok (.iadd, 1) := by decide +kernel
theorem dX7_dayNow_99 : decode cX7_dayNow 99 = .ok (.iastore, 1) := by decide +kernel
theorem dX7_dayNow_100 : decode cX7_dayNow 100 = .ok (.aload_n 0, 1) := by decide +kernel
theorem dX7_dayNow_101 : decode cX7_dayNow 101 = .ok (.getfield 34, 3) := by decide +kernel
theorem dX7_dayNow_104 : decode cX7_dayNow 104 = .ok (.aload_n 0, 1) := by decide +kernel
theorem dX7_dayNow_105 : decode cX7_dayNow 105 = .ok (.getfield 106, 3) := by decide +kernel
theorem dX7_dayNow_108 : decode cX7_dayNow 108 = .ok (.iconst 0, 1) := by decide +kernel
theorem dX7_dayNow_109 : decode cX7_dayNow 109 = .ok (.iastore, 1) := by decide +kernel
theorem dX7_dayNow_110 : decode cX7_dayNow 110 = .ok (.aload_n 0, 1) := by decide +kernel
theorem dX7_dayNow_111 : decode cX7_dayNow 111 = .ok (.dup, 1) := by decide +kernel
theorem dX7_dayNow_112 : decode cX7_dayNow 112 = .ok (.getfield 106, 3) := by decide +kernel
theorem dX7_dayNow_115 : decode cX7_dayNow 115 = .ok (.iconst 1, 1) := by decide +kernel
theorem dX7_dayNow_116 : decode cX7_dayNow 116 = .ok (.iadd, 1) := by decide +kernel
theorem dX7_dayNow_117 : decode cX7_dayNow 117 = .ok (.putfield 106, 3) := by decide +kernel
theorem dX7_dayNow_120 : decode cX7_dayNow 120 = .ok (.return_, 1) := by decide +kernel
set_option maxRecDepth 20000 in
theorem ggX7_drift_X7_in : GoodIn wsX7_drift wsX7_in := goodIn_r _ [9] (by decide +kernel) (by decide +kernel)
set_option maxRecDepth 20000 in
theorem gX7_drift_X7_in : GoodIn wsX7_drift (va_wsS RX7 99 yX7_in wsX7_in) := goodIn_app (goodIn_of _ (by decide +kernel)) ggX7_drift_X7_in
set_option maxRecDepth 20000 in
theorem ggX7_drift_X7_dayNow : GoodIn wsX7_drift wsX7_dayNow := goodIn_r _ [13, 3, 4, 14, 15, 16, 17, 18, 19, 8, 20, 21, 22, 23, 24, 25, 26, 27, 28, 29, 30, 31, 32, 33, 34, 35, 36, 37, 38, 39, 40, 41, 42, 43, 44, 45, 46, 47, 48, 49, 50, 51, 52, 53, 54, 55, 56, 57, 58, 59, 60, 61, 62, 63, 64, 65, 66, 67, 68, 69, 70, 71, 72, 73, 74, 75, 76, 77, 78, 79, 80, 81, 82, 83, 84, 85, 86, 87, 88, 89, 90, 91, 92] (by decide +kernel) (by decide +kernel)
set_option maxRecDepth 20000 in
theorem gX7_drift_X7_dayNow : GoodIn wsX7_drift (wsV RX7 265 RX7 yX7_dayNow wsX7_dayNow) := goodIn_app (goodIn_of _ (by decide +kernel)) ggX7_drift_X7_dayNow
theorem dX7_drift_0 : decode cX7_drift 0 = .ok (.iload_n 1, 1) := by decide +kernel
theorem dX7_drift_1 : decode cX7_drift 1 = .ok (.i2l, 1) := by decide +kernel
theorem dX7_drift_2 : decode cX7_drift 2 = .ok (.lconst 1, 1) := by decide +kernel
theorem dX7_drift_3 : decode cX7_drift 3 = .ok (.ldc2_w 263, 3) := by decide +kernel
theorem dX7_drift_6 : decode cX7_drift 6 = .ok (.invokestatic 99, 3) := by decide +kernel
theorem dX7_drift_9 : decode cX7_drift 9 = .ok (.ifCond .ne 6, 3) := by decide +kernel
theorem dX7_drift_12 : decode cX7_drift 12 = .ok (.ldc 111, 2) := by decide +kernel
theorem dX7_drift_14 : decode cX7_drift 14 = .ok (.ireturn, 1) := by decide +kernel
theorem dX7_drift_15 : decode cX7_drift 15 = .ok (.aload_n 0, 1) := by decide +kernel
theorem dX7_drift_16 : decode cX7_drift 16 = .ok (.getfield 106, 3) := by decide +kernel
theorem dX7_drift_19 : decode cX7_drift 19 = .ok (.ifCond .eq 10, 3) := by decide +kernel
theorem dX7_drift_22 : decode cX7_drift 22 = .ok (.aload_n 0, 1) := by decide +kernel
theorem dX7_drift_23 : decode cX7_drift 23 = .ok (.getfield 103, 3) := by decide +kernel
theorem dX7_drift_26 : decode cX7_drift 26 = .ok (.ifCond .ne 6, 3) := by decide +kernel
theorem dX7_drift_29 : decode cX7_drift 29 = .ok (.ldc 243, 2) := by decide +kernel
theorem dX7_drift_31 : decode cX7_drift 31 = .ok (.ireturn, 1) := by decide +kernel
theorem dX7_drift_32 : decode cX7_drift 32 = .ok (.iconst 0, 1) := by decide +kernel
theorem dX7_drift_33 : decode cX7_drift 33 = .ok (.istore_n 2, 1) := by decide +kernel
theorem dX7_drift_34 : decode cX7_drift 34 = .ok (.iload_n 2, 1) := by decide +kernel
theorem dX7_drift_35 : decode cX7_drift 35 = .ok (.iload_n 1, 1) := by decide +kernel
theorem dX7_drift_36 : decode cX7_drift 36 = .ok (.if_icmp .ge 13, 3) := by decide +kernel
theorem dX7_drift_39 : decode cX7_drift 39 = .ok (.aload_n 0, 1) := by decide +kernel
theorem dX7_drift_40 : decode cX7_drift 40 = .ok (.invokevirtual 265, 3) := by decide +kernel
theorem dX7_drift_43 : decode cX7_drift 43 = .ok (.iinc 2 1, 3) := by decide +kernel
theorem dX7_drift_46 : decode cX7_drift 46 = .ok (.goto (-12), 3) := by decide +kernel
theorem dX7_drift_49 : decode cX7_drift 49 = .ok (.aload_n 0, 1) := by decide +kernel
theorem dX7_drift_50 : decode cX7_drift 50 = .ok (.getfield 106, 3) := by decide +kernel
theorem dX7_drift_53 : decode cX7_drift 53 = .ok (.ireturn, 1) := by decide +kernel
set_option maxRecDepth 20000 in
theorem ggX7_reach_X7_isPlace : GoodIn wsX7_reach wsX7_isPlace := goodIn_r _ [8, 9, 10, 11, 7, 12, 31, 32, 33, 34, 35, 36, 37, 38, 39, 40, 41, 42, 43, 44, 45, 46, 47, 48, 49, 50, 51, 52, 53, 54, 55, 56, 57, 58, 59, 60, 61, 62, 63, 64, 65, 66, 67, 68, 69, 70, 71, 72, 73, 74] (by decide +kernel) (by decide +kernel)
set_option maxRecDepth 20000 in
theorem gX7_reach_X7_isPlace : GoodIn wsX7_reach (wsV RX7 268 RX7 yX7_isPlace wsX7_isPlace) := goodIn_app (goodIn_of _ (by decide +kernel)) ggX7_reach_X7_isPlace
set_option maxRecDepth 20000 in
theorem ggX7_reach_X7_in : GoodIn wsX7_reach wsX7_in := goodIn_r _ [12] (by decide +kernel) (by decide +kernel)
set_option maxRecDepth 20000 in
theorem gX7_reach_X7_in : GoodIn wsX7_reach (va_wsS RX7 99 yX7_in wsX7_in) := goodIn_app (goodIn_of _ (by decide +kernel)) ggX7_reach_X7_in
set_option maxRecDepth 20000 in
theorem ggX7_reach_X7_reachOf : GoodIn wsX7_reach wsX7_reachOf := goodIn_r _ [16, 17, 18, 19, 20, 21, 22, 23, 7, 24, 25, 26, 27, 28, 29, 30, 31, 32, 33, 34, 35, 36, 37, 38, 39, 40, 41, 42, 43, 44, 45, 46, 47, 48, 49, 50, 51, 52, 53, 54, 55, 56, 57, 58, 59, 60, 61, 62, 63, 64, 65, 66, 67, 68, 69, 70, 71, 72, 73, 74] (by decide +kernel) (by decide +kernel)
set_option maxRecDepth 20000 in
theorem gX7_reach_X7_reachOf : GoodIn wsX7_reach (wsV RX7 228 RX7 yX7_reachOf wsX7_reachOf) := goodIn_app (goodIn_of _ (by decide +kernel)) ggX7_reach_X7_reachOf
theorem dX7_reach_0 : decode cX7_reach 0 = .ok (.aload_n 0, 1) := by decide +kernel
theorem dX7_reach_1 : decode cX7_reach 1 = .ok (.iload_n 1, 1) := by decide +kernel
theorem dX7_reach_2 : decode cX7_reach 2 = .ok (.invokevirtual 268, 3) := by decide +kernel
theorem dX7_reach_5 : decode cX7_reach 5 = .ok (.ifCond .ne 6, 3) := by decide +kernel
theorem dX7_reach_8 : decode cX7_reach 8 = .ok (.ldc 221, 2) := by decide +kernel
theorem dX7_reach_10 : decode cX7_reach 10 = .ok (.ireturn, 1) := by decide +kernel
theorem dX7_reach_11 : decode cX7_reach 11 = .ok (.iload_n 2, 1) := by decide +kernel
theorem dX7_reach_12 : decode cX7_reach 12 = .ok (.i2l, 1) := by decide +kernel
theorem dX7_reach_13 : decode cX7_reach 13 = .ok (.lconst 1, 1) := by decide +kernel
theorem dX7_reach_14 : decode cX7_reach 14 = .ok (.ldc2_w 238, 3) := by decide +kernel
theorem dX7_reach_17 : decode cX7_reach 17 = .ok (.invokestatic 99, 3) := by decide +kernel
theorem dX7_reach_20 : decode cX7_reach 20 = .ok (.ifCond .eq 13, 3) := by decide +kernel
theorem dX7_reach_23 : decode cX7_reach 23 = .ok (.aload_n 0, 1) := by decide +kernel
theorem dX7_reach_24 : decode cX7_reach 24 = .ok (.iload_n 1, 1) := by decide +kernel
theorem dX7_reach_25 : decode cX7_reach 25 = .ok (.iload_n 2, 1) := by decide +kernel
theorem dX7_reach_26 : decode cX7_reach 26 = .ok (.iconst 0, 1) := by decide +kernel
theorem dX7_reach_27 : decode cX7_reach 27 = .ok (.invokevirtual 228, 3) := by decide +kernel
theorem dX7_reach_30 : decode cX7_reach 30 = .ok (.goto 5, 3) := by decide +kernel
theorem dX7_reach_33 : decode cX7_reach 33 = .ok (.ldc 111, 2) := by decide +kernel
theorem dX7_reach_35 : decode cX7_reach 35 = .ok (.ireturn, 1) := by decide +kernel
set_option maxRecDepth 20000 in
theorem ggX7_guests_X7_isPerson : GoodIn wsX7_guests wsX7_isPerson := goodIn_r _ [8, 2, 9, 10, 7, 11, 36, 37, 38, 39, 40, 41, 42, 43, 44, 45, 46, 47, 48, 49, 50, 51, 52, 53, 54, 55, 56, 57, 58, 59, 60, 61, 62, 63, 64, 65, 66, 67, 68, 69, 70, 71, 72, 73, 74, 75, 76, 77, 78, 79] (by decide +kernel) (by decide +kernel)
set_option maxRecDepth 20000 in
theorem gX7_guests_X7_isPerson : GoodIn wsX7_guests (wsV RX7 232 RX7 yX7_isPerson wsX7_isPerson) := goodIn_app (goodIn_of _ (by decide +kernel)) ggX7_guests_X7_isPerson
set_option maxRecDepth 20000 in
theorem ggX7_guests_X7_reachOfPerson : GoodIn wsX7_guests wsX7_reachOfPerson := goodIn_r _ [15, 3, 16, 17, 18, 19, 20, 7, 21, 22, 23, 24, 25, 26, 27, 28, 29, 30, 31, 32, 33, 34, 35, 36, 37, 38, 39, 40, 41, 42, 43, 44, 45, 46, 47, 48, 49, 50, 51, 52, 53, 54, 55, 56, 57, 58, 59, 60, 61, 62, 63, 64, 65, 66, 67, 68, 69, 70, 71, 72, 73, 74, 75, 76, 77, 78, 79] (by decide +kernel) (by decide +kernel)
set_option maxRecDepth 20000 in
theorem gX7_guests_X7_reachOfPerson : GoodIn wsX7_guests (wsV RX7 235 RX7 yX7_reachOfPerson wsX7_reachOfPerson) := goodIn_app (goodIn_of _ (by decide +kernel)) ggX7_guests_X7_reachOfPerson
set_option maxRecDepth 20000 in
theorem ggX7_guests_X7_has : GoodIn wsX7_guests wsX7_has := goodIn_r _ [35] (by decide +kernel) (by decide +kernel)
set_option maxRecDepth 20000 in
theorem gX7_guests_X7_has : GoodIn wsX7_guests (va_wsS RX7 225 yX7_has wsX7_has) := goodIn_app (goodIn_of _ (by decide +kernel)) ggX7_guests_X7_has
theorem dX7_guests_0 : decode cX7_guests 0 = .ok (.aload_n 0, 1) := by decide +kernel
theorem dX7_guests_1 : decode cX7_guests 1 = .ok (.iload_n 1, 1) := by decide +kernel
theorem dX7_guests_2 : decode cX7_guests 2 = .ok (.invokevirtual 232, 3) := by decide +kernel
theorem dX7_guests_5 : decode cX7_guests 5 = .ok (.ifCond .ne 6, 3) := by decide +kernel
theorem dX7_guests_8 : decode cX7_guests 8 = .ok (.ldc 221, 2) := by decide +kernel
theorem dX7_guests_10 : decode cX7_guests 10 = .ok (.ireturn, 1) := by decide +kernel
theorem dX7_guests_11 : decode cX7_guests 11 = .ok (.iconst 0, 1) := by decide +kernel
theorem dX7_guests_12 : decode cX7_guests 12 = .ok (.istore_n 2, 1) := by decide +kernel
theorem dX7_guests_13 : decode cX7_guests 13 = .ok (.iconst 0, 1) := by decide +kernel
theorem dX7_guests_14 : decode cX7_guests 14 = .ok (.istore_n 3, 1) := by decide +kernel
theorem dX7_guests_15 : decode cX7_guests 15 = .ok (.iload_n 3, 1) := by decide +kernel
theorem dX7_guests_16 : decode cX7_guests 16 = .ok (.aload_n 0, 1) := by decide +kernel
theorem dX7_guests_17 : decode cX7_guests 17 = .ok (.getfield 106, 3) := by decide +kernel
theorem dX7_guests_20 : decode cX7_guests 20 = .ok (.if_icmp .ge 41, 3) := by decide +kernel
theorem dX7_guests_23 : decode cX7_guests 23 = .ok (.iload_n 2, 1) := by decide +kernel
theorem dX7_guests_24 : decode cX7_guests 24 = .ok (.iload_n 3, 1) := by decide +kernel
theorem dX7_guests_25 : decode cX7_guests 25 = .ok (.iload_n 1, 1) := by decide +kernel
theorem dX7_guests_26 : decode cX7_guests 26 = .ok (.if_icmp .eq 26, 3) := by decide +kernel
theorem dX7_guests_29 : decode cX7_guests 29 = .ok (.aload_n 0, 1) := by decide +kernel
theorem dX7_guests_30 : decode cX7_guests 30 = .ok (.iload_n 3, 1) := by decide +kernel
theorem dX7_guests_31 : decode cX7_guests 31 = .ok (.invokevirtual 235, 3) := by decide +kernel
theorem dX7_guests_34 : decode cX7_guests 34 = .ok (.aload_n 0, 1) := by decide +kernel
theorem dX7_guests_35 : decode cX7_guests 35 = .ok (.getfield 28, 3) := by decide +kernel
theorem dX7_guests_38 : decode cX7_guests 38 = .ok (.iload_n 1, 1) := by decide +kernel
theorem dX7_guests_39 : decode cX7_guests 39 = .ok (.iaload, 1) := by decide +kernel
theorem dX7_guests_40 : decode cX7_guests 40 = .ok (.invokestatic 225, 3) := by decide +kernel
theorem dX7_guests_43 : decode cX7_guests 43 = .ok (.ifCond .eq 9, 3) := by decide +kernel
theorem dX7_guests_46 : decode cX7_guests 46 = .ok (.iconst 1, 1) := by decide +kernel
theorem dX7_guests_47 : decode cX7_guests 47 = .ok (.iload_n 3, 1) := by decide +kernel
theorem dX7_guests_48 : decode cX7_guests 48 = .ok (.ishl, 1) := by decide +kernel
theorem dX7_guests_49 : decode cX7_guests 49 = .ok (.goto 4, 3) := by decide +kernel
theorem dX7_guests_52 : decode cX7_guests 52 = .ok (.iconst 0, 1) := by decide +kernel
theorem dX7_guests_53 : decode cX7_guests 53 = .ok (.ior, 1) := by decide +kernel
theorem dX7_guests_54 : decode cX7_guests 54 = .ok (.istore_n 2, 1) := by decide +kernel
theorem dX7_guests_55 : decode cX7_guests 55 = .ok (.iinc 3 1, 3) := by decide +kernel
theorem dX7_guests_58 : decode cX7_guests 58 = .ok (.goto (-43), 3) := by decide +kernel
theorem dX7_guests_61 : decode cX7_guests 61 = .ok (.iload_n 2, 1) := by decide +kernel
theorem dX7_guests_62 : decode cX7_guests 62 = .ok (.ireturn, 1) := by decide +kernel
set_option maxRecDepth 20000 in
theorem ggX7_isWish_X7_has : GoodIn wsX7_isWish wsX7_has := goodIn_r _ [7] (by decide +kernel) (by decide +kernel)
set_option maxRecDepth 20000 in
theorem gX7_isWish_X7_has : GoodIn wsX7_isWish (va_wsS RX7 225 yX7_has wsX7_has) := goodIn_app (goodIn_of _ (by decide +kernel)) ggX7_isWish_X7_has
theorem dX7_isWish_0 : decode cX7_isWish 0 = .ok (.iconst 1, 1) := by decide +kernel
theorem dX7_isWish_1 : decode cX7_isWish 1 = .ok (.istore 4, 2) := by decide +kernel
theorem dX7_isWish_3 : decode cX7_isWish 3 = .ok (.iconst 0, 1) := by decide +kernel
theorem dX7_isWish_4 : decode cX7_isWish 4 = .ok (.istore 5, 2) := by decide +kernel
theorem dX7_isWish_6 : decode cX7_isWish 6 = .ok (.iload 5, 2) := by decide +kernel
theorem dX7_isWish_8 : decode cX7_isWish 8 = .ok (.aload_n 0, 1) := by decide +kernel
theorem dX7_isWish_9 : decode cX7_isWish 9 = .ok (.getfield 106, 3) := by decide +kernel
theorem dX7_isWish_12 : decode cX7_isWish 12 = .ok (.if_icmp .ge 102, 3) := by decide +kernel
theorem dX7_isWish_15 : decode cX7_isWish 15 = .ok (.iload_n 1, 1) := by decide +kernel
theorem dX7_isWish_16 : decode cX7_isWish 16 = .ok (.aload_n 0, 1) := by decide +kernel
theorem dX7_isWish_17 : decode cX7_isWish 17 = .ok (.getfield 31, 3) := by decide +kernel
theorem dX7_isWish_20 : decode cX7_isWish 20 = .ok (.iload 5, 2) := by decide +kernel
theorem dX7_isWish_22 : decode cX7_isWish 22 = .ok (.iaload, 1) := by decide +kernel
theorem dX7_isWish_23 : decode cX7_isWish 23 = .ok (.irem, 1) := by decide +kernel
theorem dX7_isWish_24 : decode cX7_isWish 24 = .ok (.ifCond .ne 7, 3) := by decide +kernel
theorem dX7_isWish_27 : decode cX7_isWish 27 = .ok (.iconst 1, 1) := by decide +kernel
theorem dX7_isWish_28 : decode cX7_isWish 28 = .ok (.goto 4, 3) := by decide +kernel
theorem dX7_isWish_31 : decode cX7_isWish 31 = .ok (.iconst 0, 1) := by decide +kernel
theorem dX7_isWish_32 : decode cX7_isWish 32 = .ok (.istore 6, 2) := by decide +kernel
theorem dX7_isWish_34 : decode cX7_isWish 34 = .ok (.iload 6, 2) := by decide +kernel
theorem dX7_isWish_36 : decode cX7_isWish 36 = .ok (.ifCond .ne 25, 3) := by decide +kernel
theorem dX7_isWish_39 : decode cX7_isWish 39 = .ok (.aload_n 0, 1) := by decide +kernel
theorem dX7_isWish_40 : decode cX7_isWish 40 = .ok (.getfield 34, 3) := by decide +kernel
theorem dX7_isWish_43 : decode cX7_isWish 43 = .ok (.iload 5, 2) := by decide +kernel
theorem dX7_isWish_45 : decode cX7_isWish 45 = .ok (.iaload, 1) := by decide +kernel
theorem dX7_isWish_46 : decode cX7_isWish 46 = .ok (.ifCond .le 19, 3) := by decide +kernel
theorem dX7_isWish_49 : decode cX7_isWish 49 = .ok (.iload_n 1, 1) := by decide +kernel
theorem dX7_isWish_50 : decode cX7_isWish 50 = .ok (.aload_n 0, 1) := by decide +kernel
theorem dX7_isWish_51 : decode cX7_isWish 51 = .ok (.getfield 34, 3) := by decide +kernel
theorem dX7_isWish_54 : decode cX7_isWish 54 = .ok (.iload 5, 2) := by decide +kernel
theorem dX7_isWish_56 : decode cX7_isWish 56 = .ok (.iaload, 1) := by decide +kernel
theorem dX7_isWish_57 : decode cX7_isWish 57 = .ok (.irem, 1) := by decide +kernel
theorem dX7_isWish_58 : decode cX7_isWish 58 = .ok (.ifCond .ne 7, 3) := by decide +kernel
theorem dX7_isWish_61 : decode cX7_isWish 61 = .ok (.iconst 1, 1) := by decide +kernel
theorem dX7_isWish_62 : decode cX7_isWish 62 = .ok (.goto 4, 3) := by decide +kernel
theorem dX7_isWish_65 : decode cX7_isWish 65 = .ok (.iconst 0, 1) := by decide +kernel
theorem dX7_isWish_66 : decode cX7_isWish 66 = .ok (.istore 7, 2) := by decide +kernel
theorem dX7_isWish_68 : decode cX7_isWish 68 = .ok (.iload 4, 2) := by decide +kernel
theorem dX7_isWish_70 : decode cX7_isWish 70 = .ok (.ifCond .eq 35, 3) := by decide +kernel
theorem dX7_isWish_73 : decode cX7_isWish 73 = .ok (.iload_n 2, 1) := by decide +kernel
theorem dX7_isWish_74 : decode cX7_isWish 74 = .ok (.iload 5, 2) := by decide +kernel
theorem dX7_isWish_76 : decode cX7_isWish 76 = .ok (.invokestatic 225, 3) := by decide +kernel
theorem dX7_isWish_79 : decode cX7_isWish 79 = .ok (.ifCond .eq 8, 3) := by decide +kernel
theorem dX7_isWish_82 : decode cX7_isWish 82 = .ok (.iload 6, 2) := by decide +kernel
theorem dX7_isWish_84 : decode cX7_isWish 84 = .ok (.ifCond .eq 21, 3) := by decide +kernel
theorem dX7_isWish_87 : decode cX7_isWish 87 = .ok (.iload_n 3, 1) := by decide +kernel
theorem dX7_isWish_88 : decode cX7_isWish 88 = .ok (.iload 5, 2) := by decide +kernel
theorem dX7_isWish_90 : decode cX7_isWish 90 = .ok (.invokestatic 225, 3) := by decide +kernel
theorem dX7_isWish_93 : decode cX7_isWish 93 = .ok (.ifCond .eq 8, 3) := by decide +kernel
theorem dX7_isWish_96 : decode cX7_isWish 96 = .ok (.iload 7, 2) := by decide +kernel
theorem dX7_isWish_98 : decode cX7_isWish 98 = .ok (.ifCond .ne 7, 3) := by decide +kernel
theorem dX7_isWish_101 : decode cX7_isWish 101 = .ok (.iconst 1, 1) := by decide +kernel
theorem dX7_isWish_102 : decode cX7_isWish 102 = .ok (.goto 4, 3) := by decide +kernel
theorem dX7_isWish_105 : decode cX7_isWish 105 = .ok (.iconst 0, 1) := by decide +kernel
theorem dX7_isWish_106 : decode cX7_isWish 106 = .ok (.istore 4, 2) := by decide +kernel
theorem dX7_isWish_108 : decode cX7_isWish 108 = .ok (.iinc 5 1, 3) := by decide +kernel
theorem dX7_isWish_111 : decode cX7_isWish 111 = .ok (.goto (-105), 3) := by decide +kernel
theorem dX7_isWish_114 : decode cX7_isWish 114 = .ok (.iload 4, 2) := by decide +kernel
theorem dX7_isWish_116 : decode cX7_isWish 116 = .ok (.ireturn, 1) := by decide +kernel
set_option maxRecDepth 20000 in
theorem ggX7_wish_X7_in : GoodIn wsX7_wish wsX7_in := goodIn_r _ [7] (by decide +kernel) (by decide +kernel)
set_option maxRecDepth 20000 in
theorem gX7_wish_X7_in : GoodIn wsX7_wish (va_wsS RX7 99 yX7_in wsX7_in) := goodIn_app (goodIn_of _ (by decide +kernel)) ggX7_wish_X7_in
set_option maxRecDepth 20000 in
theorem ggX7_wish_X7_isWish : GoodIn wsX7_wish wsX7_isWish := goodIn_r _ [11, 1, 12, 13, 14, 15, 6, 16, 17, 18, 19, 20, 21, 22, 23, 24, 25, 26, 27, 28, 29, 30, 31, 32, 33, 34, 35, 36, 37, 38, 39, 40, 41, 42, 43, 44, 45, 46, 47, 48, 49, 50, 51, 52, 53, 54, 55, 56, 57, 58, 59, 60] (by decide +kernel) (by decide +kernel)
set_option maxRecDepth 20000 in
theorem gX7_wish_X7_isWish : GoodIn wsX7_wish (wsV RX7 272 RX7 yX7_isWish wsX7_isWish) := goodIn_app (goodIn_of _ (by decide +kernel)) ggX7_wish_X7_isWish
theorem dX7_wish_0 : decode cX7_wish 0 = .ok (.iconst 1, 1) := by decide +kernel
theorem dX7_wish_1 : decode cX7_wish 1 = .ok (.aload_n 0, 1) := by decide +kernel
theorem dX7_wish_2 : decode cX7_wish 2 = .ok (.getfield 106, 3) := by decide +kernel
theorem dX7_wish_5 : decode cX7_wish 5 = .ok (.ishl, 1) := by decide +kernel
theorem dX7_wish_6 : decode cX7_wish 6 = .ok (.iconst 1, 1) := by decide +kernel
theorem dX7_wish_7 : decode cX7_wish 7 = .ok (.isub, 1) := by decide +kernel
theorem dX7_wish_8 : decode cX7_wish 8 = .ok (.istore_n 3, 1) := by decide +kernel
theorem dX7_wish_9 : decode cX7_wish 9 = .ok (.iload_n 1, 1) := by decide +kernel
theorem dX7_wish_10 : decode cX7_wish 10 = .ok (.i2l, 1) := by decide +kernel
theorem dX7_wish_11 : decode cX7_wish 11 = .ok (.lconst 0, 1) := by decide +kernel
theorem dX7_wish_12 : decode cX7_wish 12 = .ok (.iload_n 3, 1) := by decide +kernel
theorem dX7_wish_13 : decode cX7_wish 13 = .ok (.i2l, 1) := by decide +kernel
theorem dX7_wish_14 : decode cX7_wish 14 = .ok (.invokestatic 99, 3) := by decide +kernel
theorem dX7_wish_17 : decode cX7_wish 17 = .ok (.ifCond .eq 14, 3) := by decide +kernel
theorem dX7_wish_20 : decode cX7_wish 20 = .ok (.iload_n 2, 1) := by decide +kernel
theorem dX7_wish_21 : decode cX7_wish 21 = .ok (.i2l, 1) := by decide +kernel
theorem dX7_wish_22 : decode cX7_wish 22 = .ok (.lconst 0, 1) := by decide +kernel
theorem dX7_wish_23 : decode cX7_wish 23 = .ok (.iload_n 3, 1) := by decide +kernel
theorem dX7_wish_24 : decode cX7_wish 24 = .ok (.i2l, 1) := by decide +kernel
theorem dX7_wish_25 : decode cX7_wish 25 = .ok (.invokestatic 99, 3) := by decide +kernel
theorem dX7_wish_28 : decode cX7_wish 28 = .ok (.ifCond .ne 6, 3) := by decide +kernel
theorem dX7_wish_31 : decode cX7_wish 31 = .ok (.ldc 221, 2) := by decide +kernel
theorem dX7_wish_33 : decode cX7_wish 33 = .ok (.ireturn, 1) := by decide +kernel
theorem dX7_wish_34 : decode cX7_wish 34 = .ok (.iconst 1, 1) := by decide +kernel
theorem dX7_wish_35 : decode cX7_wish 35 = .ok (.istore 4, 2) := by decide +kernel
theorem dX7_wish_37 : decode cX7_wish 37 = .ok (.iload 4, 2) := by decide +kernel
theorem dX7_wish_39 : decode cX7_wish 39 = .ok (.ldc_w 271, 3) := by decide +kernel
theorem dX7_wish_42 : decode cX7_wish 42 = .ok (.if_icmp .gt 23, 3) := by decide +kernel
theorem dX7_wish_45 : decode cX7_wish 45 = .ok (.aload_n 0, 1) := by decide +kernel
theorem dX7_wish_46 : decode cX7_wish 46 = .ok (.iload 4, 2) := by decide +kernel
theorem dX7_wish_48 : decode cX7_wish 48 = .ok (.iload_n 1, 1) := by decide +kernel
theorem dX7_wish_49 : decode cX7_wish 49 = .ok (.iload_n 2, 1) := by decide +kernel
theorem dX7_wish_50 : decode cX7_wish 50 = .ok (.invokevirtual 272, 3) := by decide +kernel
theorem dX7_wish_53 : decode cX7_wish 53 = .ok (.ifCond .eq 6, 3) := by decide +kernel
theorem dX7_wish_56 : decode cX7_wish 56 = .ok (.iload 4, 2) := by decide +kernel
theorem dX7_wish_58 : decode cX7_wish 58 = .ok (.ireturn, 1) := by decide +kernel
theorem dX7_wish_59 : decode cX7_wish 59 = .ok (.iinc 4 1, 3) := by decide +kernel
theorem dX7_wish_62 : decode cX7_wish 62 = .ok (.goto (-25), 3) := by decide +kernel
theorem dX7_wish_65 : decode cX7_wish 65 = .ok (.iconst (-1), 1) := by decide +kernel
theorem dX7_wish_66 : decode cX7_wish 66 = .ok (.ireturn, 1) := by decide +kernel
set_option maxRecDepth 20000 in
theorem ggX7_pair_X7_isPerson : GoodIn wsX7_pair wsX7_isPerson := goodIn_r _ [8, 9, 10, 11, 7, 12, 37, 38, 39, 40, 41, 42, 43, 44, 45, 46, 47, 48, 49, 50, 51, 52, 53, 54, 55, 56, 57, 58, 59, 60, 61, 62, 63, 64, 65, 66, 67, 68, 69, 70, 71, 72, 73, 74, 75, 76, 77, 78, 79, 80] (by decide +kernel) (by decide +kernel)
set_option maxRecDepth 20000 in
theorem gX7_pair_X7_isPerson : GoodIn wsX7_pair (wsV RX7 232 RX7 yX7_isPerson wsX7_isPerson) := goodIn_app (goodIn_of _ (by decide +kernel)) ggX7_pair_X7_isPerson
set_option maxRecDepth 20000 in
theorem ggX7_pair_X7_in : GoodIn wsX7_pair wsX7_in := goodIn_r _ [12] (by decide +kernel) (by decide +kernel)
set_option maxRecDepth 20000 in
theorem gX7_pair_X7_in : GoodIn wsX7_pair (va_wsS RX7 99 yX7_in wsX7_in) := goodIn_app (goodIn_of _ (by decide +kernel)) ggX7_pair_X7_in
set_option maxRecDepth 20000 in
theorem ggX7_pair_X7_reachOfPerson : GoodIn wsX7_pair wsX7_reachOfPerson := goodIn_r _ [16, 17, 3, 18, 19, 20, 21, 7, 22, 23, 24, 25, 26, 27, 28, 29, 30, 31, 32, 33, 34, 35, 36, 37, 38, 39, 40, 41, 42, 43, 44, 45, 46, 47, 48, 49, 50, 51, 52, 53, 54, 55, 56, 57, 58, 59, 60, 61, 62, 63, 64, 65, 66, 67, 68, 69, 70, 71, 72, 73, 74, 75, 76, 77, 78, 79, 80] (by decide +kernel) (by decide +kernel)
set_option maxRecDepth 20000 in
theorem gX7_pair_X7_reachOfPerson : GoodIn wsX7_pair (wsV RX7 235 RX7 yX7_reachOfPerson wsX7_reachOfPerson) := goodIn_app (goodIn_of _ (by decide +kernel)) ggX7_pair_X7_reachOfPerson
theorem dX7_pair_0 : decode cX7_pair 0 = .ok (.aload_n 0, 1) := by decide +kernel
theorem dX7_pair_1 : decode cX7_pair 1 = .ok (.iload_n 1, 1) := by decide +kernel
theorem dX7_pair_2 : decode cX7_pair 2 = .ok (.invokevirtual 232, 3) := by decide +kernel
theorem dX7_pair_5 : decode cX7_pair 5 = .ok (.ifCond .eq 16, 3) := by decide +kernel
theorem dX7_pair_8 : decode cX7_pair 8 = .ok (.aload_n 0, 1) := by decide +kernel
theorem dX7_pair_9 : decode cX7_pair 9 = .ok (.iload_n 2, 1) := by decide +kernel
theorem dX7_pair_10 : decode cX7_pair 10 = .ok (.invokevirtual 232, 3) := by decide +kernel
theorem dX7_pair_13 : decode cX7_pair 13 = .ok (.ifCond .eq 8, 3) := by decide +kernel
theorem dX7_pair_16 : decode cX7_pair 16 = .ok (.iload_n 1, 1) := by decide +kernel
theorem dX7_pair_17 : decode cX7_pair 17 = .ok (.iload_n 2, 1) := by decide +kernel
theorem dX7_pair_18 : decode cX7_pair 18 = .ok (.if_icmp .ne 6, 3) := by decide +kernel
theorem dX7_pair_21 : decode cX7_pair 21 = .ok (.ldc 221, 2) := by decide +kernel
theorem dX7_pair_23 : decode cX7_pair 23 = .ok (.ireturn, 1) := by decide +kernel
theorem dX7_pair_24 : decode cX7_pair 24 = .ok (.iload_n 3, 1) := by decide +kernel
theorem dX7_pair_25 : decode cX7_pair 25 = .ok (.i2l, 1) := by decide +kernel
theorem dX7_pair_26 : decode cX7_pair 26 = .ok (.lconst 0, 1) := by decide +kernel
theorem dX7_pair_27 : decode cX7_pair 27 = .ok (.lconst 1, 1) := by decide +kernel
theorem dX7_pair_28 : decode cX7_pair 28 = .ok (.invokestatic 99, 3) := by decide +kernel
theorem dX7_pair_31 : decode cX7_pair 31 = .ok (.ifCond .ne 6, 3) := by decide +kernel
theorem dX7_pair_34 : decode cX7_pair 34 = .ok (.ldc 111, 2) := by decide +kernel
theorem dX7_pair_36 : decode cX7_pair 36 = .ok (.ireturn, 1) := by decide +kernel
theorem dX7_pair_37 : decode cX7_pair 37 = .ok (.iload_n 3, 1) := by decide +kernel
theorem dX7_pair_38 : decode cX7_pair 38 = .ok (.ifCond .ne 15, 3) := by decide +kernel
theorem dX7_pair_41 : decode cX7_pair 41 = .ok (.aload_n 0, 1) := by decide +kernel
theorem dX7_pair_42 : decode cX7_pair 42 = .ok (.iload_n 1, 1) := by decide +kernel
theorem dX7_pair_43 : decode cX7_pair 43 = .ok (.invokevirtual 235, 3) := by decide +kernel
theorem dX7_pair_46 : decode cX7_pair 46 = .ok (.aload_n 0, 1) := by decide +kernel
theorem dX7_pair_47 : decode cX7_pair 47 = .ok (.iload_n 2, 1) := by decide +kernel
theorem dX7_pair_48 : decode cX7_pair 48 = .ok (.invokevirtual 235, 3) := by decide +kernel
theorem dX7_pair_51 : decode cX7_pair 51 = .ok (.iand, 1) := by decide +kernel
theorem dX7_pair_52 : decode cX7_pair 52 = .ok (.ireturn, 1) := by decide +kernel
theorem dX7_pair_53 : decode cX7_pair 53 = .ok (.iconst 1, 1) := by decide +kernel
theorem dX7_pair_54 : decode cX7_pair 54 = .ok (.istore 4, 2) := by decide +kernel
theorem dX7_pair_56 : decode cX7_pair 56 = .ok (.iload 4, 2) := by decide +kernel
theorem dX7_pair_58 : decode cX7_pair 58 = .ok (.aload_n 0, 1) := by decide +kernel
theorem dX7_pair_59 : decode cX7_pair 59 = .ok (.getfield 31, 3) := by decide +kernel
theorem dX7_pair_62 : decode cX7_pair 62 = .ok (.iload_n 1, 1) := by decide +kernel
theorem dX7_pair_63 : decode cX7_pair 63 = .ok (.iaload, 1) := by decide +kernel
theorem dX7_pair_64 : decode cX7_pair 64 = .ok (.irem, 1) := by decide +kernel
theorem dX7_pair_65 : decode cX7_pair 65 = .ok (.ifCond .ne 15, 3) := by decide +kernel
theorem dX7_pair_68 : decode cX7_pair 68 = .ok (.iload 4, 2) := by decide +kernel
theorem dX7_pair_70 : decode cX7_pair 70 = .ok (.aload_n 0, 1) := by decide +kernel
theorem dX7_pair_71 : decode cX7_pair 71 = .ok (.getfield 31, 3) := by decide +kernel
theorem dX7_pair_74 : decode cX7_pair 74 = .ok (.iload_n 2, 1) := by decide +kernel
theorem dX7_pair_75 : decode cX7_pair 75 = .ok (.iaload, 1) := by decide +kernel
theorem dX7_pair_76 : decode cX7_pair 76 = .ok (.irem, 1) := by decide +kernel
theorem dX7_pair_77 : decode cX7_pair 77 = .ok (.ifCond .eq 9, 3) := by decide +kernel
theorem dX7_pair_80 : decode cX7_pair 80 = .ok (.iinc 4 1, 3) := by decide +kernel
theorem dX7_pair_83 : decode cX7_pair 83 = .ok (.goto (-27), 3) := by decide +kernel
theorem dX7_pair_86 : decode cX7_pair 86 = .ok (.iload 4, 2) := by decide +kernel
theorem dX7_pair_88 : decode cX7_pair 88 = .ok (.ireturn, 1) := by decide +kernel
set_option maxRecDepth 20000 in
theorem ggX7_isCarried_X7_mayClimb : GoodIn wsX7_isCarried wsX7_mayClimb := goodIn_r _ [9, 10, 11, 12, 13, 14, 8, 15, 16, 17, 18, 22, 23, 24, 25, 26, 27, 28, 29, 30, 31, 32, 33, 34, 35, 36, 37, 38, 39, 40, 41, 42, 43, 44, 45, 46, 47, 48, 49, 50, 51, 52, 53, 54, 55, 56, 57, 58, 59, 60, 61, 62, 63, 64, 65] (by decide +kernel) (by decide +kernel)
set_option maxRecDepth 20000 in
theorem gX7_isCarried_X7_mayClimb : GoodIn wsX7_isCarried (wsV RX7 214 RX7 yX7_mayClimb wsX7_mayClimb) := goodIn_app (goodIn_of _ (by decide +kernel)) ggX7_isCarried_X7_mayClimb
set_option maxRecDepth 20000 in
theorem ggX7_isCarried_X7_has : GoodIn wsX7_isCarried wsX7_has := goodIn_r _ [21] (by decide +kernel) (by decide +kernel)
set_option maxRecDepth 20000 in
theorem gX7_isCarried_X7_has : GoodIn wsX7_isCarried (va_wsS RX7 225 yX7_has wsX7_has) := goodIn_app (goodIn_of _ (by decide +kernel)) ggX7_isCarried_X7_has
theorem dX7_isCarried_0 : decode cX7_isCarried 0 = .ok (.iload 4, 2) := by decide +kernel
theorem dX7_isCarried_2 : decode cX7_isCarried 2 = .ok (.aload_n 0, 1) := by decide +kernel
theorem dX7_isCarried_3 : decode cX7_isCarried 3 = .ok (.getfield 13, 3) := by decide +kernel
theorem dX7_isCarried_6 : decode cX7_isCarried 6 = .ok (.iload_n 3, 1) := by decide +kernel
theorem dX7_isCarried_7 : decode cX7_isCarried 7 = .ok (.iaload, 1) := by decide +kernel
theorem dX7_isCarried_8 : decode cX7_isCarried 8 = .ok (.if_icmp .ne 7, 3) := by decide +kernel
theorem dX7_isCarried_11 : decode cX7_isCarried 11 = .ok (.iconst 1, 1) := by decide +kernel
theorem dX7_isCarried_12 : decode cX7_isCarried 12 = .ok (.goto 4, 3) := by decide +kernel
theorem dX7_isCarried_15 : decode cX7_isCarried 15 = .ok (.iconst 0, 1) := by decide +kernel
theorem dX7_isCarried_16 : decode cX7_isCarried 16 = .ok (.istore 5, 2) := by decide +kernel
theorem dX7_isCarried_18 : decode cX7_isCarried 18 = .ok (.aload_n 0, 1) := by decide +kernel
theorem dX7_isCarried_19 : decode cX7_isCarried 19 = .ok (.iload_n 1, 1) := by decide +kernel
theorem dX7_isCarried_20 : decode cX7_isCarried 20 = .ok (.iload_n 3, 1) := by decide +kernel
theorem dX7_isCarried_21 : decode cX7_isCarried 21 = .ok (.invokevirtual 214, 3) := by decide +kernel
theorem dX7_isCarried_24 : decode cX7_isCarried 24 = .ok (.ifCond .ne 16, 3) := by decide +kernel
theorem dX7_isCarried_27 : decode cX7_isCarried 27 = .ok (.iload 5, 2) := by decide +kernel
theorem dX7_isCarried_29 : decode cX7_isCarried 29 = .ok (.ifCond .ne 15, 3) := by decide +kernel
theorem dX7_isCarried_32 : decode cX7_isCarried 32 = .ok (.aload_n 0, 1) := by decide +kernel
theorem dX7_isCarried_33 : decode cX7_isCarried 33 = .ok (.getfield 204, 3) := by decide +kernel
theorem dX7_isCarried_36 : decode cX7_isCarried 36 = .ok (.iconst 1, 1) := by decide +kernel
theorem dX7_isCarried_37 : decode cX7_isCarried 37 = .ok (.if_icmp .ne 7, 3) := by decide +kernel
theorem dX7_isCarried_40 : decode cX7_isCarried 40 = .ok (.iconst 1, 1) := by decide +kernel
theorem dX7_isCarried_41 : decode cX7_isCarried 41 = .ok (.goto 4, 3) := by decide +kernel
theorem dX7_isCarried_44 : decode cX7_isCarried 44 = .ok (.iconst 0, 1) := by decide +kernel
theorem dX7_isCarried_45 : decode cX7_isCarried 45 = .ok (.istore 6, 2) := by decide +kernel
theorem dX7_isCarried_47 : decode cX7_isCarried 47 = .ok (.iconst 0, 1) := by decide +kernel
theorem dX7_isCarried_48 : decode cX7_isCarried 48 = .ok (.istore 7, 2) := by decide +kernel
theorem dX7_isCarried_50 : decode cX7_isCarried 50 = .ok (.iload 7, 2) := by decide +kernel
theorem dX7_isCarried_52 : decode cX7_isCarried 52 = .ok (.aload_n 0, 1) := by decide +kernel
theorem dX7_isCarried_53 : decode cX7_isCarried 53 = .ok (.getfield 106, 3) := by decide +kernel
theorem dX7_isCarried_56 : decode cX7_isCarried 56 = .ok (.if_icmp .ge 68, 3) := by decide +kernel
theorem dX7_isCarried_59 : decode cX7_isCarried 59 = .ok (.iload 6, 2) := by decide +kernel
theorem dX7_isCarried_61 : decode cX7_isCarried 61 = .ok (.ifCond .ne 50, 3) := by decide +kernel
theorem dX7_isCarried_64 : decode cX7_isCarried 64 = .ok (.iload_n 2, 1) := by decide +kernel
theorem dX7_isCarried_65 : decode cX7_isCarried 65 = .ok (.iload 7, 2) := by decide +kernel
theorem dX7_isCarried_67 : decode cX7_isCarried 67 = .ok (.invokestatic 225, 3) := by decide +kernel
theorem dX7_isCarried_70 : decode cX7_isCarried 70 = .ok (.ifCond .eq 45, 3) := by decide +kernel
theorem dX7_isCarried_73 : decode cX7_isCarried 73 = .ok (.aload_n 0, 1) := by decide +kernel
theorem dX7_isCarried_74 : decode cX7_isCarried 74 = .ok (.getfield 68, 3) := by decide +kernel
theorem dX7_isCarried_77 : decode cX7_isCarried 77 = .ok (.iload 7, 2) := by decide +kernel
theorem dX7_isCarried_79 : decode cX7_isCarried 79 = .ok (.iaload, 1) := by decide +kernel
theorem dX7_isCarried_80 : decode cX7_isCarried 80 = .ok (.iload 4, 2) := by decide +kernel
theorem dX7_isCarried_82 : decode cX7_isCarried 82 = .ok (.invokestatic 225, 3) := by decide +kernel
theorem dX7_isCarried_85 : decode cX7_isCarried 85 = .ok (.ifCond .eq 30, 3) := by decide +kernel
theorem dX7_isCarried_88 : decode cX7_isCarried 88 = .ok (.aload_n 0, 1) := by decide +kernel
theorem dX7_isCarried_89 : decode cX7_isCarried 89 = .ok (.iload 7, 2) := by decide +kernel
theorem dX7_isCarried_91 : decode cX7_isCarried 91 = .ok (.iload_n 3, 1) := by decide +kernel
theorem dX7_isCarried_92 : decode cX7_isCarried 92 = .ok (.invokevirtual 214, 3) := by decide +kernel
theorem dX7_isCarried_95 : decode cX7_isCarried 95 = .ok (.ifCond .ne 16, 3) := by decide +kernel
theorem dX7_isCarried_98 : decode cX7_isCarried 98 = .ok (.iload 5, 2) := by decide +kernel
theorem dX7_isCarried_100 : decode cX7_isCarried 100 = .ok (.ifCond .ne 15, 3) := by decide +kernel
theorem dX7_isCarried_103 : decode cX7_isCarried 103 = .ok (.aload_n 0, 1) := by decide +kernel
theorem dX7_isCarried_104 : decode cX7_isCarried 104 = .ok (.getfield 204, 3) := by decide +kernel
theorem dX7_isCarried_107 : decode cX7_isCarried 107 = .ok (.iconst 1, 1) := by decide +kernel
theorem dX7_isCarried_108 : decode cX7_isCarried 108 = .ok (.if_icmp .ne 7, 3) := by decide +kernel
theorem dX7_isCarried_111 : decode cX7_isCarried 111 = .ok (.iconst 1, 1) := by decide +kernel
theorem dX7_isCarried_112 : decode cX7_isCarried 112 = .ok (.goto 4, 3) := by decide +kernel
theorem dX7_isCarried_115 : decode cX7_isCarried 115 = .ok (.iconst 0, 1) := by decide +kernel
theorem dX7_isCarried_116 : decode cX7_isCarried 116 = .ok (.istore 6, 2) := by decide +kernel
theorem dX7_isCarried_118 : decode cX7_isCarried 118 = .ok (.iinc 7 1, 3) := by decide +kernel
theorem dX7_isCarried_121 : decode cX7_isCarried 121 = .ok (.goto (-71), 3) := by decide +kernel
theorem dX7_isCarried_124 : decode cX7_isCarried 124 = .ok (.iload 6, 2) := by decide +kernel
theorem dX7_isCarried_126 : decode cX7_isCarried 126 = .ok (.ireturn, 1) := by decide +kernel
set_option maxRecDepth 20000 in
theorem ggX7_comesBy_X7_has : GoodIn wsX7_comesBy wsX7_has := goodIn_r _ [8] (by decide +kernel) (by decide +kernel)
set_option maxRecDepth 20000 in
theorem gX7_comesBy_X7_has : GoodIn wsX7_comesBy (va_wsS RX7 225 yX7_has wsX7_has) := goodIn_app (goodIn_of _ (by decide +kernel)) ggX7_comesBy_X7_has
set_option maxRecDepth 20000 in
theorem ggX7_comesBy_X7_isCarried : GoodIn wsX7_comesBy wsX7_isCarried := goodIn_r _ [12, 3, 13, 14, 15, 16, 17, 18, 7, 19, 20, 21, 22, 23, 24, 25, 26, 27, 28, 5, 6, 8, 29, 30, 31, 32, 33, 34, 35, 36, 37, 38, 39, 40, 41, 42, 43, 44, 45, 46, 47, 48, 49, 50, 51, 52, 53, 54, 55, 56, 57, 58, 59, 60, 61, 62, 63, 64, 65, 66, 67, 68, 69, 70, 71, 72] (by decide +kernel) (by decide +kernel)
set_option maxRecDepth 20000 in
theorem gX7_comesBy_X7_isCarried : GoodIn wsX7_comesBy (wsV RX7 276 RX7 yX7_isCarried wsX7_isCarried) := goodIn_app (goodIn_of _ (by decide +kernel)) ggX7_comesBy_X7_isCarried
theorem dX7_comesBy_0 : decode cX7_comesBy 0 = .ok (.iconst 1, 1) := by decide +kernel
theorem dX7_comesBy_1 : decode cX7_comesBy 1 = .ok (.aload_n 0, 1) := by decide +kernel
