theorem dX7_comesBy_2 : decode cX7_comesBy 2 = .ok (.getfield 28, 3) := by decide +kernel
theorem dX7_comesBy_5 : decode cX7_comesBy 5 = .ok (.iload_n 1, 1) := by decide +kernel
theorem dX7_comesBy_6 : decode cX7_comesBy 6 = .ok (.iaload, 1) := by decide +kernel
theorem dX7_comesBy_7 : decode cX7_comesBy 7 = .ok (.ishl, 1) := by decide +kernel
theorem dX7_comesBy_8 : decode cX7_comesBy 8 = .ok (.istore 4, 2) := by decide +kernel
theorem dX7_comesBy_10 : decode cX7_comesBy 10 = .ok (.iconst 0, 1) := by decide +kernel
theorem dX7_comesBy_11 : decode cX7_comesBy 11 = .ok (.istore 5, 2) := by decide +kernel
theorem dX7_comesBy_13 : decode cX7_comesBy 13 = .ok (.iload 5, 2) := by decide +kernel
theorem dX7_comesBy_15 : decode cX7_comesBy 15 = .ok (.iload 4, 2) := by decide +kernel
theorem dX7_comesBy_17 : decode cX7_comesBy 17 = .ok (.if_icmp .eq 130, 3) := by decide +kernel
theorem dX7_comesBy_20 : decode cX7_comesBy 20 = .ok (.iload 4, 2) := by decide +kernel
theorem dX7_comesBy_22 : decode cX7_comesBy 22 = .ok (.istore 5, 2) := by decide +kernel
theorem dX7_comesBy_24 : decode cX7_comesBy 24 = .ok (.iconst 0, 1) := by decide +kernel
theorem dX7_comesBy_25 : decode cX7_comesBy 25 = .ok (.istore 6, 2) := by decide +kernel
theorem dX7_comesBy_27 : decode cX7_comesBy 27 = .ok (.iload 6, 2) := by decide +kernel
theorem dX7_comesBy_29 : decode cX7_comesBy 29 = .ok (.aload_n 0, 1) := by decide +kernel
theorem dX7_comesBy_30 : decode cX7_comesBy 30 = .ok (.getfield 103, 3) := by decide +kernel
theorem dX7_comesBy_33 : decode cX7_comesBy 33 = .ok (.if_icmp .ge 111, 3) := by decide +kernel
theorem dX7_comesBy_36 : decode cX7_comesBy 36 = .ok (.iload 4, 2) := by decide +kernel
theorem dX7_comesBy_38 : decode cX7_comesBy 38 = .ok (.iload 4, 2) := by decide +kernel
theorem dX7_comesBy_40 : decode cX7_comesBy 40 = .ok (.aload_n 0, 1) := by decide +kernel
theorem dX7_comesBy_41 : decode cX7_comesBy 41 = .ok (.getfield 13, 3) := by decide +kernel
theorem dX7_comesBy_44 : decode cX7_comesBy 44 = .ok (.iload 6, 2) := by decide +kernel
theorem dX7_comesBy_46 : decode cX7_comesBy 46 = .ok (.iaload, 1) := by decide +kernel
theorem dX7_comesBy_47 : decode cX7_comesBy 47 = .ok (.invokestatic 225, 3) := by decide +kernel
theorem dX7_comesBy_50 : decode cX7_comesBy 50 = .ok (.ifCond .eq 33, 3) := by decide +kernel
theorem dX7_comesBy_53 : decode cX7_comesBy 53 = .ok (.aload_n 0, 1) := by decide +kernel
theorem dX7_comesBy_54 : decode cX7_comesBy 54 = .ok (.iload_n 1, 1) := by decide +kernel
theorem dX7_comesBy_55 : decode cX7_comesBy 55 = .ok (.iload_n 2, 1) := by decide +kernel
theorem dX7_comesBy_56 : decode cX7_comesBy 56 = .ok (.iload 6, 2) := by decide +kernel
theorem dX7_comesBy_58 : decode cX7_comesBy 58 = .ok (.aload_n 0, 1) := by decide +kernel
theorem dX7_comesBy_59 : decode cX7_comesBy 59 = .ok (.getfield 13, 3) := by decide +kernel
theorem dX7_comesBy_62 : decode cX7_comesBy 62 = .ok (.iload 6, 2) := by decide +kernel
theorem dX7_comesBy_64 : decode cX7_comesBy 64 = .ok (.iaload, 1) := by decide +kernel
theorem dX7_comesBy_65 : decode cX7_comesBy 65 = .ok (.invokevirtual 276, 3) := by decide +kernel
theorem dX7_comesBy_68 : decode cX7_comesBy 68 = .ok (.ifCond .eq 15, 3) := by decide +kernel
theorem dX7_comesBy_71 : decode cX7_comesBy 71 = .ok (.iconst 1, 1) := by decide +kernel
theorem dX7_comesBy_72 : decode cX7_comesBy 72 = .ok (.aload_n 0, 1) := by decide +kernel
theorem dX7_comesBy_73 : decode cX7_comesBy 73 = .ok (.getfield 16, 3) := by decide +kernel
theorem dX7_comesBy_76 : decode cX7_comesBy 76 = .ok (.iload 6, 2) := by decide +kernel
theorem dX7_comesBy_78 : decode cX7_comesBy 78 = .ok (.iaload, 1) := by decide +kernel
theorem dX7_comesBy_79 : decode cX7_comesBy 79 = .ok (.ishl, 1) := by decide +kernel
theorem dX7_comesBy_80 : decode cX7_comesBy 80 = .ok (.goto 4, 3) := by decide +kernel
theorem dX7_comesBy_83 : decode cX7_comesBy 83 = .ok (.iconst 0, 1) := by decide +kernel
theorem dX7_comesBy_84 : decode cX7_comesBy 84 = .ok (.ior, 1) := by decide +kernel
theorem dX7_comesBy_85 : decode cX7_comesBy 85 = .ok (.istore 4, 2) := by decide +kernel
theorem dX7_comesBy_87 : decode cX7_comesBy 87 = .ok (.iload 4, 2) := by decide +kernel
theorem dX7_comesBy_89 : decode cX7_comesBy 89 = .ok (.iload 4, 2) := by decide +kernel
theorem dX7_comesBy_91 : decode cX7_comesBy 91 = .ok (.aload_n 0, 1) := by decide +kernel
theorem dX7_comesBy_92 : decode cX7_comesBy 92 = .ok (.getfield 16, 3) := by decide +kernel
theorem dX7_comesBy_95 : decode cX7_comesBy 95 = .ok (.iload 6, 2) := by decide +kernel
theorem dX7_comesBy_97 : decode cX7_comesBy 97 = .ok (.iaload, 1) := by decide +kernel
theorem dX7_comesBy_98 : decode cX7_comesBy 98 = .ok (.invokestatic 225, 3) := by decide +kernel
theorem dX7_comesBy_101 : decode cX7_comesBy 101 = .ok (.ifCond .eq 33, 3) := by decide +kernel
theorem dX7_comesBy_104 : decode cX7_comesBy 104 = .ok (.aload_n 0, 1) := by decide +kernel
theorem dX7_comesBy_105 : decode cX7_comesBy 105 = .ok (.iload_n 1, 1) := by decide +kernel
theorem dX7_comesBy_106 : decode cX7_comesBy 106 = .ok (.iload_n 2, 1) := by decide +kernel
theorem dX7_comesBy_107 : decode cX7_comesBy 107 = .ok (.iload 6, 2) := by decide +kernel
theorem dX7_comesBy_109 : decode cX7_comesBy 109 = .ok (.aload_n 0, 1) := by decide +kernel
theorem dX7_comesBy_110 : decode cX7_comesBy 110 = .ok (.getfield 16, 3) := by decide +kernel
theorem dX7_comesBy_113 : decode cX7_comesBy 113 = .ok (.iload 6, 2) := by decide +kernel
theorem dX7_comesBy_115 : decode cX7_comesBy 115 = .ok (.iaload, 1) := by decide +kernel
theorem dX7_comesBy_116 : decode cX7_comesBy 116 = .ok (.invokevirtual 276, 3) := by decide +kernel
theorem dX7_comesBy_119 : decode cX7_comesBy 119 = .ok (.ifCond .eq 15, 3) := by decide +kernel
theorem dX7_comesBy_122 : decode cX7_comesBy 122 = .ok (.iconst 1, 1) := by decide +kernel
theorem dX7_comesBy_123 : decode cX7_comesBy 123 = .ok (.aload_n 0, 1) := by decide +kernel
theorem dX7_comesBy_124 : decode cX7_comesBy 124 = .ok (.getfield 13, 3) := by decide +kernel
theorem dX7_comesBy_127 : decode cX7_comesBy 127 = .ok (.iload 6, 2) := by decide +kernel
theorem dX7_comesBy_129 : decode cX7_comesBy 129 = .ok (.iaload, 1) := by decide +kernel
theorem dX7_comesBy_130 : decode cX7_comesBy 130 = .ok (.ishl, 1) := by decide +kernel
theorem dX7_comesBy_131 : decode cX7_comesBy 131 = .ok (.goto 4, 3) := by decide +kernel
theorem dX7_comesBy_134 : decode cX7_comesBy 134 = .ok (.iconst 0, 1) := by decide +kernel
theorem dX7_comesBy_135 : decode cX7_comesBy 135 = .ok (.ior, 1) := by decide +kernel
theorem dX7_comesBy_136 : decode cX7_comesBy 136 = .ok (.istore 4, 2) := by decide +kernel
theorem dX7_comesBy_138 : decode cX7_comesBy 138 = .ok (.iinc 6 1, 3) := by decide +kernel
theorem dX7_comesBy_141 : decode cX7_comesBy 141 = .ok (.goto (-114), 3) := by decide +kernel
theorem dX7_comesBy_144 : decode cX7_comesBy 144 = .ok (.goto (-131), 3) := by decide +kernel
theorem dX7_comesBy_147 : decode cX7_comesBy 147 = .ok (.iload 4, 2) := by decide +kernel
theorem dX7_comesBy_149 : decode cX7_comesBy 149 = .ok (.iload_n 3, 1) := by decide +kernel
theorem dX7_comesBy_150 : decode cX7_comesBy 150 = .ok (.invokestatic 225, 3) := by decide +kernel
theorem dX7_comesBy_153 : decode cX7_comesBy 153 = .ok (.ireturn, 1) := by decide +kernel
set_option maxRecDepth 20000 in
theorem ggX7_carried_X7_isPerson : GoodIn wsX7_carried wsX7_isPerson := goodIn_r _ [9, 3, 10, 11, 8, 12, 58, 59, 60, 61, 62, 63, 64, 65, 66, 67, 68, 69, 70, 71, 72, 73, 74, 75, 76, 77, 78, 79, 80, 81, 82, 83, 84, 85, 86, 87, 88, 89, 90, 91, 92, 93, 94, 95, 96, 97, 98, 99, 100, 101] (by decide +kernel) (by decide +kernel)
set_option maxRecDepth 20000 in
theorem gX7_carried_X7_isPerson : GoodIn wsX7_carried (wsV RX7 232 RX7 yX7_isPerson wsX7_isPerson) := goodIn_app (goodIn_of _ (by decide +kernel)) ggX7_carried_X7_isPerson
set_option maxRecDepth 20000 in
theorem ggX7_carried_X7_isPlace : GoodIn wsX7_carried wsX7_isPlace := goodIn_r _ [16, 17, 10, 11, 8, 12, 58, 59, 60, 61, 62, 63, 64, 65, 66, 67, 68, 69, 70, 71, 72, 73, 74, 75, 76, 77, 78, 79, 80, 81, 82, 83, 84, 85, 86, 87, 88, 89, 90, 91, 92, 93, 94, 95, 96, 97, 98, 99, 100, 101] (by decide +kernel) (by decide +kernel)
set_option maxRecDepth 20000 in
theorem gX7_carried_X7_isPlace : GoodIn wsX7_carried (wsV RX7 268 RX7 yX7_isPlace wsX7_isPlace) := goodIn_app (goodIn_of _ (by decide +kernel)) ggX7_carried_X7_isPlace
set_option maxRecDepth 20000 in
theorem ggX7_carried_X7_in : GoodIn wsX7_carried wsX7_in := goodIn_r _ [12] (by decide +kernel) (by decide +kernel)
set_option maxRecDepth 20000 in
theorem gX7_carried_X7_in : GoodIn wsX7_carried (va_wsS RX7 99 yX7_in wsX7_in) := goodIn_app (goodIn_of _ (by decide +kernel)) ggX7_carried_X7_in
set_option maxRecDepth 20000 in
theorem ggX7_carried_X7_reachOfPerson : GoodIn wsX7_carried wsX7_reachOfPerson := goodIn_r _ [21, 22, 23, 24, 25, 26, 27, 8, 28, 29, 30, 31, 32, 33, 34, 35, 36, 37, 38, 39, 40, 41, 42, 58, 59, 60, 61, 62, 63, 64, 65, 66, 67, 68, 69, 70, 71, 72, 73, 74, 75, 76, 77, 78, 79, 80, 81, 82, 83, 84, 85, 86, 87, 88, 89, 90, 91, 92, 93, 94, 95, 96, 97, 98, 99, 100, 101] (by decide +kernel) (by decide +kernel)
set_option maxRecDepth 20000 in
theorem gX7_carried_X7_reachOfPerson : GoodIn wsX7_carried (wsV RX7 235 RX7 yX7_reachOfPerson wsX7_reachOfPerson) := goodIn_app (goodIn_of _ (by decide +kernel)) ggX7_carried_X7_reachOfPerson
set_option maxRecDepth 20000 in
theorem ggX7_carried_X7_has : GoodIn wsX7_carried wsX7_has := goodIn_r _ [42] (by decide +kernel) (by decide +kernel)
set_option maxRecDepth 20000 in
theorem gX7_carried_X7_has : GoodIn wsX7_carried (va_wsS RX7 225 yX7_has wsX7_has) := goodIn_app (goodIn_of _ (by decide +kernel)) ggX7_carried_X7_has
set_option maxRecDepth 20000 in
theorem ggX7_carried_X7_bits : GoodIn wsX7_carried wsX7_bits := goodIn_r _ [45] (by decide +kernel) (by decide +kernel)
set_option maxRecDepth 20000 in
theorem gX7_carried_X7_bits : GoodIn wsX7_carried (va_wsS RX7 280 yX7_bits wsX7_bits) := goodIn_app (goodIn_of _ (by decide +kernel)) ggX7_carried_X7_bits
set_option maxRecDepth 20000 in
theorem ggX7_carried_X7_comesBy : GoodIn wsX7_carried wsX7_comesBy := goodIn_r _ [49, 22, 29, 30, 31, 40, 41, 8, 42, 50, 51, 52, 53, 32, 3, 4, 54, 55, 56, 57, 23, 24, 33, 34, 35, 36, 37, 38, 39, 58, 59, 60, 61, 62, 63, 64, 65, 66, 67, 68, 69, 70, 71, 72, 73, 74, 75, 76, 77, 78, 79, 80, 81, 82, 83, 84, 85, 86, 87, 88, 89, 90, 91, 92, 93, 94, 95, 96, 97, 98, 99, 100, 101] (by decide +kernel) (by decide +kernel)
set_option maxRecDepth 20000 in
theorem gX7_carried_X7_comesBy : GoodIn wsX7_carried (wsV RX7 283 RX7 yX7_comesBy wsX7_comesBy) := goodIn_app (goodIn_of _ (by decide +kernel)) ggX7_carried_X7_comesBy
theorem dX7_carried_0 : decode cX7_carried 0 = .ok (.aload_n 0, 1) := by decide +kernel
theorem dX7_carried_1 : decode cX7_carried 1 = .ok (.iload_n 1, 1) := by decide +kernel
theorem dX7_carried_2 : decode cX7_carried 2 = .ok (.invokevirtual 232, 3) := by decide +kernel
theorem dX7_carried_5 : decode cX7_carried 5 = .ok (.ifCond .eq 11, 3) := by decide +kernel
theorem dX7_carried_8 : decode cX7_carried 8 = .ok (.aload_n 0, 1) := by decide +kernel
theorem dX7_carried_9 : decode cX7_carried 9 = .ok (.iload_n 2, 1) := by decide +kernel
theorem dX7_carried_10 : decode cX7_carried 10 = .ok (.invokevirtual 268, 3) := by decide +kernel
theorem dX7_carried_13 : decode cX7_carried 13 = .ok (.ifCond .ne 6, 3) := by decide +kernel
theorem dX7_carried_16 : decode cX7_carried 16 = .ok (.ldc 221, 2) := by decide +kernel
theorem dX7_carried_18 : decode cX7_carried 18 = .ok (.ireturn, 1) := by decide +kernel
theorem dX7_carried_19 : decode cX7_carried 19 = .ok (.iload_n 3, 1) := by decide +kernel
theorem dX7_carried_20 : decode cX7_carried 20 = .ok (.i2l, 1) := by decide +kernel
theorem dX7_carried_21 : decode cX7_carried 21 = .ok (.lconst 0, 1) := by decide +kernel
theorem dX7_carried_22 : decode cX7_carried 22 = .ok (.lconst 1, 1) := by decide +kernel
theorem dX7_carried_23 : decode cX7_carried 23 = .ok (.invokestatic 99, 3) := by decide +kernel
theorem dX7_carried_26 : decode cX7_carried 26 = .ok (.ifCond .ne 6, 3) := by decide +kernel
theorem dX7_carried_29 : decode cX7_carried 29 = .ok (.ldc 111, 2) := by decide +kernel
theorem dX7_carried_31 : decode cX7_carried 31 = .ok (.ireturn, 1) := by decide +kernel
theorem dX7_carried_32 : decode cX7_carried 32 = .ok (.iconst 0, 1) := by decide +kernel
theorem dX7_carried_33 : decode cX7_carried 33 = .ok (.istore 4, 2) := by decide +kernel
theorem dX7_carried_35 : decode cX7_carried 35 = .ok (.iload 4, 2) := by decide +kernel
theorem dX7_carried_37 : decode cX7_carried 37 = .ok (.aload_n 0, 1) := by decide +kernel
theorem dX7_carried_38 : decode cX7_carried 38 = .ok (.getfield 106, 3) := by decide +kernel
theorem dX7_carried_41 : decode cX7_carried 41 = .ok (.if_icmp .ge 22, 3) := by decide +kernel
theorem dX7_carried_44 : decode cX7_carried 44 = .ok (.aload_n 0, 1) := by decide +kernel
theorem dX7_carried_45 : decode cX7_carried 45 = .ok (.getfield 68, 3) := by decide +kernel
theorem dX7_carried_48 : decode cX7_carried 48 = .ok (.iload 4, 2) := by decide +kernel
theorem dX7_carried_50 : decode cX7_carried 50 = .ok (.aload_n 0, 1) := by decide +kernel
theorem dX7_carried_51 : decode cX7_carried 51 = .ok (.iload 4, 2) := by decide +kernel
theorem dX7_carried_53 : decode cX7_carried 53 = .ok (.invokevirtual 235, 3) := by decide +kernel
theorem dX7_carried_56 : decode cX7_carried 56 = .ok (.iastore, 1) := by decide +kernel
theorem dX7_carried_57 : decode cX7_carried 57 = .ok (.iinc 4 1, 3) := by decide +kernel
theorem dX7_carried_60 : decode cX7_carried 60 = .ok (.goto (-25), 3) := by decide +kernel
theorem dX7_carried_63 : decode cX7_carried 63 = .ok (.iconst (-1), 1) := by decide +kernel
theorem dX7_carried_64 : decode cX7_carried 64 = .ok (.istore 4, 2) := by decide +kernel
theorem dX7_carried_66 : decode cX7_carried 66 = .ok (.iconst 0, 1) := by decide +kernel
theorem dX7_carried_67 : decode cX7_carried 67 = .ok (.istore 5, 2) := by decide +kernel
theorem dX7_carried_69 : decode cX7_carried 69 = .ok (.iload 5, 2) := by decide +kernel
theorem dX7_carried_71 : decode cX7_carried 71 = .ok (.iconst 1, 1) := by decide +kernel
theorem dX7_carried_72 : decode cX7_carried 72 = .ok (.aload_n 0, 1) := by decide +kernel
theorem dX7_carried_73 : decode cX7_carried 73 = .ok (.getfield 106, 3) := by decide +kernel
theorem dX7_carried_76 : decode cX7_carried 76 = .ok (.ishl, 1) := by decide +kernel
theorem dX7_carried_77 : decode cX7_carried 77 = .ok (.if_icmp .ge 68, 3) := by decide +kernel
theorem dX7_carried_80 : decode cX7_carried 80 = .ok (.iload 5, 2) := by decide +kernel
theorem dX7_carried_82 : decode cX7_carried 82 = .ok (.iload_n 1, 1) := by decide +kernel
theorem dX7_carried_83 : decode cX7_carried 83 = .ok (.invokestatic 225, 3) := by decide +kernel
theorem dX7_carried_86 : decode cX7_carried 86 = .ok (.ifCond .ne 25, 3) := by decide +kernel
theorem dX7_carried_89 : decode cX7_carried 89 = .ok (.iload 4, 2) := by decide +kernel
theorem dX7_carried_91 : decode cX7_carried 91 = .ok (.ifCond .lt 16, 3) := by decide +kernel
theorem dX7_carried_94 : decode cX7_carried 94 = .ok (.iload 5, 2) := by decide +kernel
theorem dX7_carried_96 : decode cX7_carried 96 = .ok (.invokestatic 280, 3) := by decide +kernel
theorem dX7_carried_99 : decode cX7_carried 99 = .ok (.iload 4, 2) := by decide +kernel
theorem dX7_carried_101 : decode cX7_carried 101 = .ok (.invokestatic 280, 3) := by decide +kernel
theorem dX7_carried_104 : decode cX7_carried 104 = .ok (.if_icmp .ge 7, 3) := by decide +kernel
theorem dX7_carried_107 : decode cX7_carried 107 = .ok (.iconst 1, 1) := by decide +kernel
theorem dX7_carried_108 : decode cX7_carried 108 = .ok (.goto 4, 3) := by decide +kernel
theorem dX7_carried_111 : decode cX7_carried 111 = .ok (.iconst 0, 1) := by decide +kernel
theorem dX7_carried_112 : decode cX7_carried 112 = .ok (.istore 6, 2) := by decide +kernel
theorem dX7_carried_114 : decode cX7_carried 114 = .ok (.iload 6, 2) := by decide +kernel
theorem dX7_carried_116 : decode cX7_carried 116 = .ok (.ifCond .eq 19, 3) := by decide +kernel
theorem dX7_carried_119 : decode cX7_carried 119 = .ok (.aload_n 0, 1) := by decide +kernel
theorem dX7_carried_120 : decode cX7_carried 120 = .ok (.iload_n 1, 1) := by decide +kernel
theorem dX7_carried_121 : decode cX7_carried 121 = .ok (.iload 5, 2) := by decide +kernel
theorem dX7_carried_123 : decode cX7_carried 123 = .ok (.iload_n 2, 1) := by decide +kernel
theorem dX7_carried_124 : decode cX7_carried 124 = .ok (.invokevirtual 283, 3) := by decide +kernel
theorem dX7_carried_127 : decode cX7_carried 127 = .ok (.ifCond .eq 8, 3) := by decide +kernel
theorem dX7_carried_130 : decode cX7_carried 130 = .ok (.iload 5, 2) := by decide +kernel
theorem dX7_carried_132 : decode cX7_carried 132 = .ok (.goto 5, 3) := by decide +kernel
theorem dX7_carried_135 : decode cX7_carried 135 = .ok (.iload 4, 2) := by decide +kernel
theorem dX7_carried_137 : decode cX7_carried 137 = .ok (.istore 4, 2) := by decide +kernel
theorem dX7_carried_139 : decode cX7_carried 139 = .ok (.iinc 5 1, 3) := by decide +kernel
theorem dX7_carried_142 : decode cX7_carried 142 = .ok (.goto (-73), 3) := by decide +kernel
theorem dX7_carried_145 : decode cX7_carried 145 = .ok (.iload 4, 2) := by decide +kernel
theorem dX7_carried_147 : decode cX7_carried 147 = .ok (.ifCond .lt 8, 3) := by decide +kernel
theorem dX7_carried_150 : decode cX7_carried 150 = .ok (.iload_n 3, 1) := by decide +kernel
theorem dX7_carried_151 : decode cX7_carried 151 = .ok (.iconst 1, 1) := by decide +kernel
theorem dX7_carried_152 : decode cX7_carried 152 = .ok (.if_icmp .ne 8, 3) := by decide +kernel
theorem dX7_carried_155 : decode cX7_carried 155 = .ok (.iload 4, 2) := by decide +kernel
theorem dX7_carried_157 : decode cX7_carried 157 = .ok (.goto 8, 3) := by decide +kernel
theorem dX7_carried_160 : decode cX7_carried 160 = .ok (.iload 4, 2) := by decide +kernel
theorem dX7_carried_162 : decode cX7_carried 162 = .ok (.invokestatic 280, 3) := by decide +kernel
theorem dX7_carried_165 : decode cX7_carried 165 = .ok (.ireturn, 1) := by decide +kernel
set_option maxRecDepth 20000 in
theorem ggX7_step_X7_isStair : GoodIn wsX7_step wsX7_isStair := goodIn_r _ [10, 11, 12, 13, 9, 14, 34, 35, 36, 37, 38, 39, 40, 41, 42, 43, 44, 45, 46, 47, 48, 49, 50, 51, 52, 53, 54, 55, 56, 57, 58, 59, 60, 61, 62, 63, 64, 65, 66, 67, 68, 69, 70, 71, 72, 73, 74, 75, 76, 77] (by decide +kernel) (by decide +kernel)
set_option maxRecDepth 20000 in
theorem gX7_step_X7_isStair : GoodIn wsX7_step (wsV RX7 217 RX7 yX7_isStair wsX7_isStair) := goodIn_app (goodIn_of _ (by decide +kernel)) ggX7_step_X7_isStair
set_option maxRecDepth 20000 in
theorem ggX7_step_X7_in : GoodIn wsX7_step wsX7_in := goodIn_r _ [14] (by decide +kernel) (by decide +kernel)
set_option maxRecDepth 20000 in
theorem gX7_step_X7_in : GoodIn wsX7_step (va_wsS RX7 99 yX7_in wsX7_in) := goodIn_app (goodIn_of _ (by decide +kernel)) ggX7_step_X7_in
set_option maxRecDepth 20000 in
theorem ggX7_step_X7_climbers : GoodIn wsX7_step wsX7_climbers := goodIn_r _ [18, 19, 20, 21, 22, 9, 23, 24, 25, 26, 27, 28, 29, 1, 3, 30, 34, 35, 36, 37, 38, 39, 40, 41, 42, 43, 44, 45, 46, 47, 48, 49, 50, 51, 52, 53, 54, 55, 56, 57, 58, 59, 60, 61, 62, 63, 64, 65, 66, 67, 68, 69, 70, 71, 72, 73, 74, 75, 76, 77] (by decide +kernel) (by decide +kernel)
set_option maxRecDepth 20000 in
theorem gX7_step_X7_climbers : GoodIn wsX7_step (wsV RX7 222 RX7 yX7_climbers wsX7_climbers) := goodIn_app (goodIn_of _ (by decide +kernel)) ggX7_step_X7_climbers
set_option maxRecDepth 20000 in
theorem ggX7_step_X7_bits : GoodIn wsX7_step wsX7_bits := goodIn_r _ [33] (by decide +kernel) (by decide +kernel)
set_option maxRecDepth 20000 in
theorem gX7_step_X7_bits : GoodIn wsX7_step (va_wsS RX7 280 yX7_bits wsX7_bits) := goodIn_app (goodIn_of _ (by decide +kernel)) ggX7_step_X7_bits
theorem dX7_step_0 : decode cX7_step 0 = .ok (.aload_n 0, 1) := by decide +kernel
theorem dX7_step_1 : decode cX7_step 1 = .ok (.iload_n 1, 1) := by decide +kernel
theorem dX7_step_2 : decode cX7_step 2 = .ok (.invokevirtual 217, 3) := by decide +kernel
theorem dX7_step_5 : decode cX7_step 5 = .ok (.ifCond .eq 21, 3) := by decide +kernel
theorem dX7_step_8 : decode cX7_step 8 = .ok (.iload_n 2, 1) := by decide +kernel
theorem dX7_step_9 : decode cX7_step 9 = .ok (.i2l, 1) := by decide +kernel
theorem dX7_step_10 : decode cX7_step 10 = .ok (.lconst 0, 1) := by decide +kernel
theorem dX7_step_11 : decode cX7_step 11 = .ok (.aload_n 0, 1) := by decide +kernel
theorem dX7_step_12 : decode cX7_step 12 = .ok (.getfield 19, 3) := by decide +kernel
theorem dX7_step_15 : decode cX7_step 15 = .ok (.iload_n 1, 1) := by decide +kernel
theorem dX7_step_16 : decode cX7_step 16 = .ok (.iaload, 1) := by decide +kernel
theorem dX7_step_17 : decode cX7_step 17 = .ok (.iconst 1, 1) := by decide +kernel
theorem dX7_step_18 : decode cX7_step 18 = .ok (.isub, 1) := by decide +kernel
theorem dX7_step_19 : decode cX7_step 19 = .ok (.i2l, 1) := by decide +kernel
theorem dX7_step_20 : decode cX7_step 20 = .ok (.invokestatic 99, 3) := by decide +kernel
theorem dX7_step_23 : decode cX7_step 23 = .ok (.ifCond .ne 6, 3) := by decide +kernel
theorem dX7_step_26 : decode cX7_step 26 = .ok (.ldc 221, 2) := by decide +kernel
theorem dX7_step_28 : decode cX7_step 28 = .ok (.ireturn, 1) := by decide +kernel
theorem dX7_step_29 : decode cX7_step 29 = .ok (.iload_n 3, 1) := by decide +kernel
theorem dX7_step_30 : decode cX7_step 30 = .ok (.iconst 1, 1) := by decide +kernel
theorem dX7_step_31 : decode cX7_step 31 = .ok (.if_icmp .eq 8, 3) := by decide +kernel
theorem dX7_step_34 : decode cX7_step 34 = .ok (.iload_n 3, 1) := by decide +kernel
theorem dX7_step_35 : decode cX7_step 35 = .ok (.iconst (-1), 1) := by decide +kernel
theorem dX7_step_36 : decode cX7_step 36 = .ok (.if_icmp .ne 37, 3) := by decide +kernel
theorem dX7_step_39 : decode cX7_step 39 = .ok (.iload 4, 2) := by decide +kernel
theorem dX7_step_41 : decode cX7_step 41 = .ok (.i2l, 1) := by decide +kernel
theorem dX7_step_42 : decode cX7_step 42 = .ok (.lconst 0, 1) := by decide +kernel
theorem dX7_step_43 : decode cX7_step 43 = .ok (.lconst 1, 1) := by decide +kernel
theorem dX7_step_44 : decode cX7_step 44 = .ok (.invokestatic 99, 3) := by decide +kernel
theorem dX7_step_47 : decode cX7_step 47 = .ok (.ifCond .eq 26, 3) := by decide +kernel
theorem dX7_step_50 : decode cX7_step 50 = .ok (.aload_n 0, 1) := by decide +kernel
theorem dX7_step_51 : decode cX7_step 51 = .ok (.getfield 22, 3) := by decide +kernel
theorem dX7_step_54 : decode cX7_step 54 = .ok (.iconst 3, 1) := by decide +kernel
theorem dX7_step_55 : decode cX7_step 55 = .ok (.iload_n 1, 1) := by decide +kernel
theorem dX7_step_56 : decode cX7_step 56 = .ok (.imul, 1) := by decide +kernel
theorem dX7_step_57 : decode cX7_step 57 = .ok (.iload_n 2, 1) := by decide +kernel
theorem dX7_step_58 : decode cX7_step 58 = .ok (.iadd, 1) := by decide +kernel
theorem dX7_step_59 : decode cX7_step 59 = .ok (.iaload, 1) := by decide +kernel
theorem dX7_step_60 : decode cX7_step 60 = .ok (.iload_n 3, 1) := by decide +kernel
theorem dX7_step_61 : decode cX7_step 61 = .ok (.iadd, 1) := by decide +kernel
theorem dX7_step_62 : decode cX7_step 62 = .ok (.i2l, 1) := by decide +kernel
theorem dX7_step_63 : decode cX7_step 63 = .ok (.lconst 1, 1) := by decide +kernel
theorem dX7_step_64 : decode cX7_step 64 = .ok (.ldc2_w 248, 3) := by decide +kernel
theorem dX7_step_67 : decode cX7_step 67 = .ok (.invokestatic 99, 3) := by decide +kernel
theorem dX7_step_70 : decode cX7_step 70 = .ok (.ifCond .ne 6, 3) := by decide +kernel
theorem dX7_step_73 : decode cX7_step 73 = .ok (.ldc 111, 2) := by decide +kernel
theorem dX7_step_75 : decode cX7_step 75 = .ok (.ireturn, 1) := by decide +kernel
theorem dX7_step_76 : decode cX7_step 76 = .ok (.aload_n 0, 1) := by decide +kernel
theorem dX7_step_77 : decode cX7_step 77 = .ok (.iload_n 1, 1) := by decide +kernel
theorem dX7_step_78 : decode cX7_step 78 = .ok (.invokevirtual 222, 3) := by decide +kernel
theorem dX7_step_81 : decode cX7_step 81 = .ok (.istore 5, 2) := by decide +kernel
theorem dX7_step_83 : decode cX7_step 83 = .ok (.aload_n 0, 1) := by decide +kernel
theorem dX7_step_84 : decode cX7_step 84 = .ok (.getfield 22, 3) := by decide +kernel
theorem dX7_step_87 : decode cX7_step 87 = .ok (.iconst 3, 1) := by decide +kernel
theorem dX7_step_88 : decode cX7_step 88 = .ok (.iload_n 1, 1) := by decide +kernel
theorem dX7_step_89 : decode cX7_step 89 = .ok (.imul, 1) := by decide +kernel
theorem dX7_step_90 : decode cX7_step 90 = .ok (.iload_n 2, 1) := by decide +kernel
theorem dX7_step_91 : decode cX7_step 91 = .ok (.iadd, 1) := by decide +kernel
theorem dX7_step_92 : decode cX7_step 92 = .ok (.dup2, 1) := by decide +kernel
theorem dX7_step_93 : decode cX7_step 93 = .ok (.iaload, 1) := by decide +kernel
theorem dX7_step_94 : decode cX7_step 94 = .ok (.iload_n 3, 1) := by decide +kernel
theorem dX7_step_95 : decode cX7_step 95 = .ok (.iadd, 1) := by decide +kernel
theorem dX7_step_96 : decode cX7_step 96 = .ok (.iastore, 1) := by decide +kernel
theorem dX7_step_97 : decode cX7_step 97 = .ok (.aload_n 0, 1) := by decide +kernel
theorem dX7_step_98 : decode cX7_step 98 = .ok (.iload_n 1, 1) := by decide +kernel
theorem dX7_step_99 : decode cX7_step 99 = .ok (.invokevirtual 222, 3) := by decide +kernel
theorem dX7_step_102 : decode cX7_step 102 = .ok (.istore 6, 2) := by decide +kernel
theorem dX7_step_104 : decode cX7_step 104 = .ok (.aload_n 0, 1) := by decide +kernel
theorem dX7_step_105 : decode cX7_step 105 = .ok (.getfield 22, 3) := by decide +kernel
theorem dX7_step_108 : decode cX7_step 108 = .ok (.iconst 3, 1) := by decide +kernel
theorem dX7_step_109 : decode cX7_step 109 = .ok (.iload_n 1, 1) := by decide +kernel
theorem dX7_step_110 : decode cX7_step 110 = .ok (.imul, 1) := by decide +kernel
theorem dX7_step_111 : decode cX7_step 111 = .ok (.iload_n 2, 1) := by decide +kernel
theorem dX7_step_112 : decode cX7_step 112 = .ok (.iadd, 1) := by decide +kernel
theorem dX7_step_113 : decode cX7_step 113 = .ok (.dup2, 1) := by decide +kernel
theorem dX7_step_114 : decode cX7_step 114 = .ok (.iaload, 1) := by decide +kernel
theorem dX7_step_115 : decode cX7_step 115 = .ok (.iload_n 3, 1) := by decide +kernel
theorem dX7_step_116 : decode cX7_step 116 = .ok (.isub, 1) := by decide +kernel
theorem dX7_step_117 : decode cX7_step 117 = .ok (.iastore, 1) := by decide +kernel
theorem dX7_step_118 : decode cX7_step 118 = .ok (.iload 4, 2) := by decide +kernel
theorem dX7_step_120 : decode cX7_step 120 = .ok (.ifCond .ne 16, 3) := by decide +kernel
theorem dX7_step_123 : decode cX7_step 123 = .ok (.iload 6, 2) := by decide +kernel
theorem dX7_step_125 : decode cX7_step 125 = .ok (.iload 5, 2) := by decide +kernel
theorem dX7_step_127 : decode cX7_step 127 = .ok (.iconst (-1), 1) := by decide +kernel
theorem dX7_step_128 : decode cX7_step 128 = .ok (.ixor, 1) := by decide +kernel
theorem dX7_step_129 : decode cX7_step 129 = .ok (.iand, 1) := by decide +kernel
theorem dX7_step_130 : decode cX7_step 130 = .ok (.invokestatic 280, 3) := by decide +kernel
theorem dX7_step_133 : decode cX7_step 133 = .ok (.goto 13, 3) := by decide +kernel
theorem dX7_step_136 : decode cX7_step 136 = .ok (.iload 5, 2) := by decide +kernel
theorem dX7_step_138 : decode cX7_step 138 = .ok (.iload 6, 2) := by decide +kernel
theorem dX7_step_140 : decode cX7_step 140 = .ok (.iconst (-1), 1) := by decide +kernel
theorem dX7_step_141 : decode cX7_step 141 = .ok (.ixor, 1) := by decide +kernel
theorem dX7_step_142 : decode cX7_step 142 = .ok (.iand, 1) := by decide +kernel
theorem dX7_step_143 : decode cX7_step 143 = .ok (.invokestatic 280, 3) := by decide +kernel
theorem dX7_step_146 : decode cX7_step 146 = .ok (.ireturn, 1) := by decide +kernel
set_option maxRecDepth 20000 in
theorem ggX7_worst_X7_in : GoodIn wsX7_worst wsX7_in := goodIn_r _ [9] (by decide +kernel) (by decide +kernel)
set_option maxRecDepth 20000 in
theorem gX7_worst_X7_in : GoodIn wsX7_worst (va_wsS RX7 99 yX7_in wsX7_in) := goodIn_app (goodIn_of _ (by decide +kernel)) ggX7_worst_X7_in
set_option maxRecDepth 20000 in
theorem ggX7_worst_X7_step : GoodIn wsX7_worst wsX7_step := goodIn_r _ [13, 4, 14, 5, 15, 2, 16, 17, 18, 8, 19, 3, 6, 7, 9, 20, 21, 22, 23, 24, 25, 26, 27, 28, 29, 30, 31, 32, 33, 34, 35, 36, 37, 38, 39, 40, 41, 42, 43, 44, 45, 46, 47, 48, 49, 50, 51, 52, 53, 54, 55, 56, 57, 58, 59, 60, 61, 62, 63, 64, 65, 66, 67, 68, 69, 70, 71, 72, 73, 74, 75, 76, 77, 78, 79, 80, 81, 82] (by decide +kernel) (by decide +kernel)
set_option maxRecDepth 20000 in
theorem gX7_worst_X7_step : GoodIn wsX7_worst (wsV RX7 288 RX7 yX7_step wsX7_step) := goodIn_app (goodIn_of _ (by decide +kernel)) ggX7_worst_X7_step
theorem dX7_worst_0 : decode cX7_worst 0 = .ok (.iload_n 1, 1) := by decide +kernel
theorem dX7_worst_1 : decode cX7_worst 1 = .ok (.i2l, 1) := by decide +kernel
theorem dX7_worst_2 : decode cX7_worst 2 = .ok (.lconst 0, 1) := by decide +kernel
theorem dX7_worst_3 : decode cX7_worst 3 = .ok (.ldc2_w 286, 3) := by decide +kernel
theorem dX7_worst_6 : decode cX7_worst 6 = .ok (.invokestatic 99, 3) := by decide +kernel
theorem dX7_worst_9 : decode cX7_worst 9 = .ok (.ifCond .ne 6, 3) := by decide +kernel
theorem dX7_worst_12 : decode cX7_worst 12 = .ok (.ldc 111, 2) := by decide +kernel
theorem dX7_worst_14 : decode cX7_worst 14 = .ok (.ireturn, 1) := by decide +kernel
theorem dX7_worst_15 : decode cX7_worst 15 = .ok (.iconst (-1), 1) := by decide +kernel
theorem dX7_worst_16 : decode cX7_worst 16 = .ok (.istore_n 2, 1) := by decide +kernel
theorem dX7_worst_17 : decode cX7_worst 17 = .ok (.iconst 0, 1) := by decide +kernel
theorem dX7_worst_18 : decode cX7_worst 18 = .ok (.istore_n 3, 1) := by decide +kernel
theorem dX7_worst_19 : decode cX7_worst 19 = .ok (.iconst 0, 1) := by decide +kernel
theorem dX7_worst_20 : decode cX7_worst 20 = .ok (.istore 4, 2) := by decide +kernel
theorem dX7_worst_22 : decode cX7_worst 22 = .ok (.iload 4, 2) := by decide +kernel
theorem dX7_worst_24 : decode cX7_worst 24 = .ok (.aload_n 0, 1) := by decide +kernel
theorem dX7_worst_25 : decode cX7_worst 25 = .ok (.getfield 103, 3) := by decide +kernel
theorem dX7_worst_28 : decode cX7_worst 28 = .ok (.if_icmp .ge 93, 3) := by decide +kernel
theorem dX7_worst_31 : decode cX7_worst 31 = .ok (.iconst 0, 1) := by decide +kernel
theorem dX7_worst_32 : decode cX7_worst 32 = .ok (.istore 5, 2) := by decide +kernel
theorem dX7_worst_34 : decode cX7_worst 34 = .ok (.iload 5, 2) := by decide +kernel
theorem dX7_worst_36 : decode cX7_worst 36 = .ok (.aload_n 0, 1) := by decide +kernel
theorem dX7_worst_37 : decode cX7_worst 37 = .ok (.getfield 19, 3) := by decide +kernel
theorem dX7_worst_40 : decode cX7_worst 40 = .ok (.iload 4, 2) := by decide +kernel
theorem dX7_worst_42 : decode cX7_worst 42 = .ok (.iaload, 1) := by decide +kernel
theorem dX7_worst_43 : decode cX7_worst 43 = .ok (.if_icmp .ge 72, 3) := by decide +kernel
theorem dX7_worst_46 : decode cX7_worst 46 = .ok (.aload_n 0, 1) := by decide +kernel
theorem dX7_worst_47 : decode cX7_worst 47 = .ok (.getfield 22, 3) := by decide +kernel
theorem dX7_worst_50 : decode cX7_worst 50 = .ok (.iconst 3, 1) := by decide +kernel
theorem dX7_worst_51 : decode cX7_worst 51 = .ok (.iload 4, 2) := by decide +kernel
theorem dX7_worst_53 : decode cX7_worst 53 = .ok (.imul, 1) := by decide +kernel
theorem dX7_worst_54 : decode cX7_worst 54 = .ok (.iload 5, 2) := by decide +kernel
theorem dX7_worst_56 : decode cX7_worst 56 = .ok (.iadd, 1) := by decide +kernel
theorem dX7_worst_57 : decode cX7_worst 57 = .ok (.iaload, 1) := by decide +kernel
theorem dX7_worst_58 : decode cX7_worst 58 = .ok (.iconst 1, 1) := by decide +kernel
theorem dX7_worst_59 : decode cX7_worst 59 = .ok (.if_icmp .le 16, 3) := by decide +kernel
theorem dX7_worst_62 : decode cX7_worst 62 = .ok (.aload_n 0, 1) := by decide +kernel
theorem dX7_worst_63 : decode cX7_worst 63 = .ok (.iload 4, 2) := by decide +kernel
theorem dX7_worst_65 : decode cX7_worst 65 = .ok (.iload 5, 2) := by decide +kernel
theorem dX7_worst_67 : decode cX7_worst 67 = .ok (.iconst (-1), 1) := by decide +kernel
theorem dX7_worst_68 : decode cX7_worst 68 = .ok (.iconst 1, 1) := by decide +kernel
theorem dX7_worst_69 : decode cX7_worst 69 = .ok (.invokevirtual 288, 3) := by decide +kernel
theorem dX7_worst_72 : decode cX7_worst 72 = .ok (.goto 4, 3) := by decide +kernel
theorem dX7_worst_75 : decode cX7_worst 75 = .ok (.iconst 0, 1) := by decide +kernel
theorem dX7_worst_76 : decode cX7_worst 76 = .ok (.istore 6, 2) := by decide +kernel
theorem dX7_worst_78 : decode cX7_worst 78 = .ok (.iload 6, 2) := by decide +kernel
theorem dX7_worst_80 : decode cX7_worst 80 = .ok (.iload_n 3, 1) := by decide +kernel
theorem dX7_worst_81 : decode cX7_worst 81 = .ok (.if_icmp .le 13, 3) := by decide +kernel
theorem dX7_worst_84 : decode cX7_worst 84 = .ok (.iconst 3, 1) := by decide +kernel
theorem dX7_worst_85 : decode cX7_worst 85 = .ok (.iload 4, 2) := by decide +kernel
theorem dX7_worst_87 : decode cX7_worst 87 = .ok (.imul, 1) := by decide +kernel
theorem dX7_worst_88 : decode cX7_worst 88 = .ok (.iload 5, 2) := by decide +kernel
theorem dX7_worst_90 : decode cX7_worst 90 = .ok (.iadd, 1) := by decide +kernel
theorem dX7_worst_91 : decode cX7_worst 91 = .ok (.goto 4, 3) := by decide +kernel
theorem dX7_worst_94 : decode cX7_worst 94 = .ok (.iload_n 2, 1) := by decide +kernel
theorem dX7_worst_95 : decode cX7_worst 95 = .ok (.istore_n 2, 1) := by decide +kernel
theorem dX7_worst_96 : decode cX7_worst 96 = .ok (.iload 6, 2) := by decide +kernel
theorem dX7_worst_98 : decode cX7_worst 98 = .ok (.iload_n 3, 1) := by decide +kernel
theorem dX7_worst_99 : decode cX7_worst 99 = .ok (.if_icmp .le 8, 3) := by decide +kernel
theorem dX7_worst_102 : decode cX7_worst 102 = .ok (.iload 6, 2) := by decide +kernel
theorem dX7_worst_104 : decode cX7_worst 104 = .ok (.goto 4, 3) := by decide +kernel
theorem dX7_worst_107 : decode cX7_worst 107 = .ok (.iload_n 3, 1) := by decide +kernel
theorem dX7_worst_108 : decode cX7_worst 108 = .ok (.istore_n 3, 1) := by decide +kernel
theorem dX7_worst_109 : decode cX7_worst 109 = .ok (.iinc 5 1, 3) := by decide +kernel
theorem dX7_worst_112 : decode cX7_worst 112 = .ok (.goto (-78), 3) := by decide +kernel
theorem dX7_worst_115 : decode cX7_worst 115 = .ok (.iinc 4 1, 3) := by decide +kernel
theorem dX7_worst_118 : decode cX7_worst 118 = .ok (.goto (-96), 3) := by decide +kernel
theorem dX7_worst_121 : decode cX7_worst 121 = .ok (.iload_n 2, 1) := by decide +kernel
theorem dX7_worst_122 : decode cX7_worst 122 = .ok (.ifCond .ge 7, 3) := by decide +kernel
theorem dX7_worst_125 : decode cX7_worst 125 = .ok (.iconst (-1), 1) := by decide +kernel
theorem dX7_worst_126 : decode cX7_worst 126 = .ok (.goto 25, 3) := by decide +kernel
theorem dX7_worst_129 : decode cX7_worst 129 = .ok (.iload_n 1, 1) := by decide +kernel
theorem dX7_worst_130 : decode cX7_worst 130 = .ok (.ifCond .ne 9, 3) := by decide +kernel
theorem dX7_worst_133 : decode cX7_worst 133 = .ok (.iload_n 2, 1) := by decide +kernel
theorem dX7_worst_134 : decode cX7_worst 134 = .ok (.iconst 3, 1) := by decide +kernel
theorem dX7_worst_135 : decode cX7_worst 135 = .ok (.idiv, 1) := by decide +kernel
theorem dX7_worst_136 : decode cX7_worst 136 = .ok (.goto 15, 3) := by decide +kernel
theorem dX7_worst_139 : decode cX7_worst 139 = .ok (.iload_n 1, 1) := by decide +kernel
theorem dX7_worst_140 : decode cX7_worst 140 = .ok (.iconst 1, 1) := by decide +kernel
theorem dX7_worst_141 : decode cX7_worst 141 = .ok (.if_icmp .ne 9, 3) := by decide +kernel
theorem dX7_worst_144 : decode cX7_worst 144 = .ok (.iload_n 2, 1) := by decide +kernel
theorem dX7_worst_145 : decode cX7_worst 145 = .ok (.iconst 3, 1) := by decide +kernel
theorem dX7_worst_146 : decode cX7_worst 146 = .ok (.irem, 1) := by decide +kernel
theorem dX7_worst_147 : decode cX7_worst 147 = .ok (.goto 4, 3) := by decide +kernel
theorem dX7_worst_150 : decode cX7_worst 150 = .ok (.iload_n 3, 1) := by decide +kernel
theorem dX7_worst_151 : decode cX7_worst 151 = .ok (.ireturn, 1) := by decide +kernel
set_option maxRecDepth 20000 in
theorem ggX7_best_X7_isPlace : GoodIn wsX7_best wsX7_isPlace := goodIn_r _ [6, 7, 8, 9, 5, 10, 32, 33, 34, 35, 36, 37, 38, 39, 40, 41, 42, 43, 44, 45, 46, 47, 48, 49, 50, 51, 52, 53, 54, 55, 56, 57, 58, 59, 60, 61, 62, 63, 64, 65, 66, 67, 68, 69, 70, 71, 72, 73, 74, 75] (by decide +kernel) (by decide +kernel)
set_option maxRecDepth 20000 in
theorem gX7_best_X7_isPlace : GoodIn wsX7_best (wsV RX7 268 RX7 yX7_isPlace wsX7_isPlace) := goodIn_app (goodIn_of _ (by decide +kernel)) ggX7_best_X7_isPlace
set_option maxRecDepth 20000 in
theorem ggX7_best_X7_reachOf : GoodIn wsX7_best wsX7_reachOf := goodIn_r _ [14, 15, 16, 17, 18, 19, 20, 21, 5, 22, 23, 24, 25, 26, 27, 28, 32, 33, 34, 35, 36, 37, 38, 39, 40, 41, 42, 43, 44, 45, 46, 47, 48, 49, 50, 51, 52, 53, 54, 55, 56, 57, 58, 59, 60, 61, 62, 63, 64, 65, 66, 67, 68, 69, 70, 71, 72, 73, 74, 75] (by decide +kernel) (by decide +kernel)
set_option maxRecDepth 20000 in
theorem gX7_best_X7_reachOf : GoodIn wsX7_best (wsV RX7 228 RX7 yX7_reachOf wsX7_reachOf) := goodIn_app (goodIn_of _ (by decide +kernel)) ggX7_best_X7_reachOf
set_option maxRecDepth 20000 in
theorem ggX7_best_X7_bits : GoodIn wsX7_best wsX7_bits := goodIn_r _ [31] (by decide +kernel) (by decide +kernel)
set_option maxRecDepth 20000 in
theorem gX7_best_X7_bits : GoodIn wsX7_best (va_wsS RX7 280 yX7_bits wsX7_bits) := goodIn_app (goodIn_of _ (by decide +kernel)) ggX7_best_X7_bits
theorem dX7_best_0 : decode cX7_best 0 = .ok (.aload_n 0, 1) := by decide +kernel
theorem dX7_best_1 : decode cX7_best 1 = .ok (.iload_n 1, 1) := by decide +kernel
theorem dX7_best_2 : decode cX7_best 2 = .ok (.invokevirtual 268, 3) := by decide +kernel
theorem dX7_best_5 : decode cX7_best 5 = .ok (.ifCond .ne 6, 3) := by decide +kernel
theorem dX7_best_8 : decode cX7_best 8 = .ok (.ldc 221, 2) := by decide +kernel
theorem dX7_best_10 : decode cX7_best 10 = .ok (.ireturn, 1) := by decide +kernel
theorem dX7_best_11 : decode cX7_best 11 = .ok (.iconst 0, 1) := by decide +kernel
theorem dX7_best_12 : decode cX7_best 12 = .ok (.istore_n 2, 1) := by decide +kernel
theorem dX7_best_13 : decode cX7_best 13 = .ok (.iconst 0, 1) := by decide +kernel
theorem dX7_best_14 : decode cX7_best 14 = .ok (.istore_n 3, 1) := by decide +kernel
theorem dX7_best_15 : decode cX7_best 15 = .ok (.iconst 1, 1) := by decide +kernel
theorem dX7_best_16 : decode cX7_best 16 = .ok (.istore 4, 2) := by decide +kernel
theorem dX7_best_18 : decode cX7_best 18 = .ok (.iload 4, 2) := by decide +kernel
theorem dX7_best_20 : decode cX7_best 20 = .ok (.bipush 24, 2) := by decide +kernel
theorem dX7_best_22 : decode cX7_best 22 = .ok (.if_icmp .gt 48, 3) := by decide +kernel
theorem dX7_best_25 : decode cX7_best 25 = .ok (.aload_n 0, 1) := by decide +kernel
theorem dX7_best_26 : decode cX7_best 26 = .ok (.iload_n 1, 1) := by decide +kernel
theorem dX7_best_27 : decode cX7_best 27 = .ok (.iload 4, 2) := by decide +kernel
theorem dX7_best_29 : decode cX7_best 29 = .ok (.iconst 0, 1) := by decide +kernel
theorem dX7_best_30 : decode cX7_best 30 = .ok (.invokevirtual 228, 3) := by decide +kernel
theorem dX7_best_33 : decode cX7_best 33 = .ok (.invokestatic 280, 3) := by decide +kernel
theorem dX7_best_36 : decode cX7_best 36 = .ok (.istore 5, 2) := by decide +kernel
theorem dX7_best_38 : decode cX7_best 38 = .ok (.iload 5, 2) := by decide +kernel
theorem dX7_best_40 : decode cX7_best 40 = .ok (.iload_n 3, 1) := by decide +kernel
theorem dX7_best_41 : decode cX7_best 41 = .ok (.if_icmp .lt 8, 3) := by decide +kernel
theorem dX7_best_44 : decode cX7_best 44 = .ok (.iload 4, 2) := by decide +kernel
theorem dX7_best_46 : decode cX7_best 46 = .ok (.goto 4, 3) := by decide +kernel
theorem dX7_best_49 : decode cX7_best 49 = .ok (.iload_n 2, 1) := by decide +kernel
theorem dX7_best_50 : decode cX7_best 50 = .ok (.istore_n 2, 1) := by decide +kernel
theorem dX7_best_51 : decode cX7_best 51 = .ok (.iload 5, 2) := by decide +kernel
theorem dX7_best_53 : decode cX7_best 53 = .ok (.iload_n 3, 1) := by decide +kernel
theorem dX7_best_54 : decode cX7_best 54 = .ok (.if_icmp .lt 8, 3) := by decide +kernel
theorem dX7_best_57 : decode cX7_best 57 = .ok (.iload 5, 2) := by decide +kernel
theorem dX7_best_59 : decode cX7_best 59 = .ok (.goto 4, 3) := by decide +kernel
theorem dX7_best_62 : decode cX7_best 62 = .ok (.iload_n 3, 1) := by decide +kernel
theorem dX7_best_63 : decode cX7_best 63 = .ok (.istore_n 3, 1) := by decide +kernel
theorem dX7_best_64 : decode cX7_best 64 = .ok (.iinc 4 1, 3) := by decide +kernel
theorem dX7_best_67 : decode cX7_best 67 = .ok (.goto (-49), 3) := by decide +kernel
theorem dX7_best_70 : decode cX7_best 70 = .ok (.iload_n 2, 1) := by decide +kernel
theorem dX7_best_71 : decode cX7_best 71 = .ok (.ireturn, 1) := by decide +kernel
set_option maxRecDepth 20000 in
theorem ggX7_cover_X7_bits : GoodIn wsX7_cover wsX7_bits := goodIn_r _ [6] (by decide +kernel) (by decide +kernel)
set_option maxRecDepth 20000 in
theorem gX7_cover_X7_bits : GoodIn wsX7_cover (va_wsS RX7 280 yX7_bits wsX7_bits) := goodIn_app (goodIn_of _ (by decide +kernel)) ggX7_cover_X7_bits
set_option maxRecDepth 20000 in
theorem ggX7_cover_X7_climbers : GoodIn wsX7_cover wsX7_climbers := goodIn_r _ [10, 1, 11, 12, 13, 5, 14, 15, 16, 17, 18, 19, 20, 21, 22, 23, 24, 25, 26, 27, 28, 29, 30, 31, 32, 33, 34, 35, 36, 37, 38, 39, 40, 41, 42, 43, 44, 45, 46, 47, 48, 49, 50, 51, 52, 53, 54, 55, 56, 57, 58, 59, 60, 61, 62, 63, 64, 65, 66, 67] (by decide +kernel) (by decide +kernel)
set_option maxRecDepth 20000 in
theorem gX7_cover_X7_climbers : GoodIn wsX7_cover (wsV RX7 222 RX7 yX7_climbers wsX7_climbers) := goodIn_app (goodIn_of _ (by decide +kernel)) ggX7_cover_X7_climbers
theorem dX7_cover_0 : decode cX7_cover 0 = .ok (.iconst (-1), 1) := by decide +kernel
theorem dX7_cover_1 : decode cX7_cover 1 = .ok (.istore_n 1, 1) := by decide +kernel
theorem dX7_cover_2 : decode cX7_cover 2 = .ok (.iconst 0, 1) := by decide +kernel
theorem dX7_cover_3 : decode cX7_cover 3 = .ok (.istore_n 2, 1) := by decide +kernel
theorem dX7_cover_4 : decode cX7_cover 4 = .ok (.iload_n 2, 1) := by decide +kernel
theorem dX7_cover_5 : decode cX7_cover 5 = .ok (.iconst 1, 1) := by decide +kernel
theorem dX7_cover_6 : decode cX7_cover 6 = .ok (.aload_n 0, 1) := by decide +kernel
theorem dX7_cover_7 : decode cX7_cover 7 = .ok (.getfield 106, 3) := by decide +kernel
theorem dX7_cover_10 : decode cX7_cover 10 = .ok (.ishl, 1) := by decide +kernel
theorem dX7_cover_11 : decode cX7_cover 11 = .ok (.if_icmp .ge 79, 3) := by decide +kernel
theorem dX7_cover_14 : decode cX7_cover 14 = .ok (.iload_n 1, 1) := by decide +kernel
theorem dX7_cover_15 : decode cX7_cover 15 = .ok (.ifCond .lt 14, 3) := by decide +kernel
theorem dX7_cover_18 : decode cX7_cover 18 = .ok (.iload_n 2, 1) := by decide +kernel
theorem dX7_cover_19 : decode cX7_cover 19 = .ok (.invokestatic 280, 3) := by decide +kernel
theorem dX7_cover_22 : decode cX7_cover 22 = .ok (.iload_n 1, 1) := by decide +kernel
theorem dX7_cover_23 : decode cX7_cover 23 = .ok (.invokestatic 280, 3) := by decide +kernel
theorem dX7_cover_26 : decode cX7_cover 26 = .ok (.if_icmp .ge 7, 3) := by decide +kernel
theorem dX7_cover_29 : decode cX7_cover 29 = .ok (.iconst 1, 1) := by decide +kernel
theorem dX7_cover_30 : decode cX7_cover 30 = .ok (.goto 4, 3) := by decide +kernel
theorem dX7_cover_33 : decode cX7_cover 33 = .ok (.iconst 0, 1) := by decide +kernel
theorem dX7_cover_34 : decode cX7_cover 34 = .ok (.istore_n 3, 1) := by decide +kernel
theorem dX7_cover_35 : decode cX7_cover 35 = .ok (.iconst 0, 1) := by decide +kernel
theorem dX7_cover_36 : decode cX7_cover 36 = .ok (.istore 4, 2) := by decide +kernel
theorem dX7_cover_38 : decode cX7_cover 38 = .ok (.iload 4, 2) := by decide +kernel
theorem dX7_cover_40 : decode cX7_cover 40 = .ok (.aload_n 0, 1) := by decide +kernel
theorem dX7_cover_41 : decode cX7_cover 41 = .ok (.getfield 103, 3) := by decide +kernel
theorem dX7_cover_44 : decode cX7_cover 44 = .ok (.if_icmp .ge 30, 3) := by decide +kernel
theorem dX7_cover_47 : decode cX7_cover 47 = .ok (.iload_n 3, 1) := by decide +kernel
theorem dX7_cover_48 : decode cX7_cover 48 = .ok (.ifCond .eq 26, 3) := by decide +kernel
theorem dX7_cover_51 : decode cX7_cover 51 = .ok (.aload_n 0, 1) := by decide +kernel
theorem dX7_cover_52 : decode cX7_cover 52 = .ok (.iload 4, 2) := by decide +kernel
theorem dX7_cover_54 : decode cX7_cover 54 = .ok (.invokevirtual 222, 3) := by decide +kernel
theorem dX7_cover_57 : decode cX7_cover 57 = .ok (.iload_n 2, 1) := by decide +kernel
theorem dX7_cover_58 : decode cX7_cover 58 = .ok (.iand, 1) := by decide +kernel
theorem dX7_cover_59 : decode cX7_cover 59 = .ok (.ifCond .eq 7, 3) := by decide +kernel
theorem dX7_cover_62 : decode cX7_cover 62 = .ok (.iconst 1, 1) := by decide +kernel
theorem dX7_cover_63 : decode cX7_cover 63 = .ok (.goto 4, 3) := by decide +kernel
theorem dX7_cover_66 : decode cX7_cover 66 = .ok (.iconst 0, 1) := by decide +kernel
theorem dX7_cover_67 : decode cX7_cover 67 = .ok (.istore_n 3, 1) := by decide +kernel
theorem dX7_cover_68 : decode cX7_cover 68 = .ok (.iinc 4 1, 3) := by decide +kernel
theorem dX7_cover_71 : decode cX7_cover 71 = .ok (.goto (-33), 3) := by decide +kernel
theorem dX7_cover_74 : decode cX7_cover 74 = .ok (.iload_n 3, 1) := by decide +kernel
theorem dX7_cover_75 : decode cX7_cover 75 = .ok (.ifCond .eq 7, 3) := by decide +kernel
theorem dX7_cover_78 : decode cX7_cover 78 = .ok (.iload_n 2, 1) := by decide +kernel
theorem dX7_cover_79 : decode cX7_cover 79 = .ok (.goto 4, 3) := by decide +kernel
theorem dX7_cover_82 : decode cX7_cover 82 = .ok (.iload_n 1, 1) := by decide +kernel
theorem dX7_cover_83 : decode cX7_cover 83 = .ok (.istore_n 1, 1) := by decide +kernel
theorem dX7_cover_84 : decode cX7_cover 84 = .ok (.iinc 2 1, 3) := by decide +kernel
theorem dX7_cover_87 : decode cX7_cover 87 = .ok (.goto (-83), 3) := by decide +kernel
theorem dX7_cover_90 : decode cX7_cover 90 = .ok (.iload_n 1, 1) := by decide +kernel
theorem dX7_cover_91 : decode cX7_cover 91 = .ok (.ireturn, 1) := by decide +kernel
set_option maxRecDepth 20000 in
theorem ggX7_see_X7_isPlace : GoodIn wsX7_see wsX7_isPlace := goodIn_r _ [11, 12, 13, 14, 10, 15, 16, 17, 18, 19, 20, 21, 22, 23, 24, 25, 26, 27, 28, 29, 30, 31, 32, 33, 34, 35, 36, 37, 38, 39, 40, 41, 42, 43, 44, 45, 46, 47, 48, 49, 50, 51, 52, 53, 54, 55, 56, 57, 58, 59] (by decide +kernel) (by decide +kernel)
set_option maxRecDepth 20000 in
theorem gX7_see_X7_isPlace : GoodIn wsX7_see (wsV RX7 268 RX7 yX7_isPlace wsX7_isPlace) := goodIn_app (goodIn_of _ (by decide +kernel)) ggX7_see_X7_isPlace
theorem dX7_see_0 : decode cX7_see 0 = .ok (.aload_n 0, 1) := by decide +kernel
theorem dX7_see_1 : decode cX7_see 1 = .ok (.iload_n 1, 1) := by decide +kernel
theorem dX7_see_2 : decode cX7_see 2 = .ok (.invokevirtual 268, 3) := by decide +kernel
theorem dX7_see_5 : decode cX7_see 5 = .ok (.ifCond .eq 11, 3) := by decide +kernel
theorem dX7_see_8 : decode cX7_see 8 = .ok (.aload_n 0, 1) := by decide +kernel
theorem dX7_see_9 : decode cX7_see 9 = .ok (.iload_n 2, 1) := by decide +kernel
theorem dX7_see_10 : decode cX7_see 10 = .ok (.invokevirtual 268, 3) := by decide +kernel
theorem dX7_see_13 : decode cX7_see 13 = .ok (.ifCond .ne 6, 3) := by decide +kernel
theorem dX7_see_16 : decode cX7_see 16 = .ok (.ldc 221, 2) := by decide +kernel
theorem dX7_see_18 : decode cX7_see 18 = .ok (.ireturn, 1) := by decide +kernel
theorem dX7_see_19 : decode cX7_see 19 = .ok (.aload_n 0, 1) := by decide +kernel
theorem dX7_see_20 : decode cX7_see 20 = .ok (.getfield 198, 3) := by decide +kernel
theorem dX7_see_23 : decode cX7_see 23 = .ok (.bipush 20, 2) := by decide +kernel
theorem dX7_see_25 : decode cX7_see 25 = .ok (.if_icmp .ne 6, 3) := by decide +kernel
theorem dX7_see_28 : decode cX7_see 28 = .ok (.ldc 115, 2) := by decide +kernel
theorem dX7_see_30 : decode cX7_see 30 = .ok (.ireturn, 1) := by decide +kernel
theorem dX7_see_31 : decode cX7_see 31 = .ok (.aload_n 0, 1) := by decide +kernel
theorem dX7_see_32 : decode cX7_see 32 = .ok (.getfield 71, 3) := by decide +kernel
theorem dX7_see_35 : decode cX7_see 35 = .ok (.aload_n 0, 1) := by decide +kernel
theorem dX7_see_36 : decode cX7_see 36 = .ok (.getfield 198, 3) := by decide +kernel
theorem dX7_see_39 : decode cX7_see 39 = .ok (.iload_n 1, 1) := by decide +kernel
theorem dX7_see_40 : decode cX7_see 40 = .ok (.iastore, 1) := by decide +kernel
theorem dX7_see_41 : decode cX7_see 41 = .ok (.aload_n 0, 1) := by decide +kernel
theorem dX7_see_42 : decode cX7_see 42 = .ok (.getfield 74, 3) := by decide +kernel
theorem dX7_see_45 : decode cX7_see 45 = .ok (.aload_n 0, 1) := by decide +kernel
theorem dX7_see_46 : decode cX7_see 46 = .ok (.getfield 198, 3) := by decide +kernel
theorem dX7_see_49 : decode cX7_see 49 = .ok (.iload_n 2, 1) := by decide +kernel
theorem dX7_see_50 : decode cX7_see 50 = .ok (.iastore, 1) := by decide +kernel
theorem dX7_see_51 : decode cX7_see 51 = .ok (.aload_n 0, 1) := by decide +kernel
theorem dX7_see_52 : decode cX7_see 52 = .ok (.getfield 77, 3) := by decide +kernel
theorem dX7_see_55 : decode cX7_see 55 = .ok (.aload_n 0, 1) := by decide +kernel
theorem dX7_see_56 : decode cX7_see 56 = .ok (.getfield 198, 3) := by decide +kernel
theorem dX7_see_59 : decode cX7_see 59 = .ok (.iload_n 3, 1) := by decide +kernel
theorem dX7_see_60 : decode cX7_see 60 = .ok (.bastore, 1) := by decide +kernel
theorem dX7_see_61 : decode cX7_see 61 = .ok (.aload_n 0, 1) := by decide +kernel
theorem dX7_see_62 : decode cX7_see 62 = .ok (.dup, 1) := by decide +kernel
theorem dX7_see_63 : decode cX7_see 63 = .ok (.getfield 198, 3) := by decide +kernel
theorem dX7_see_66 : decode cX7_see 66 = .ok (.iconst 1, 1) := by decide +kernel
theorem dX7_see_67 : decode cX7_see 67 = .ok (.iadd, 1) := by decide +kernel
theorem dX7_see_68 : decode cX7_see 68 = .ok (.putfield 198, 3) := by decide +kernel
theorem dX7_see_71 : decode cX7_see 71 = .ok (.aload_n 0, 1) := by decide +kernel
theorem dX7_see_72 : decode cX7_see 72 = .ok (.getfield 198, 3) := by decide +kernel
theorem dX7_see_75 : decode cX7_see 75 = .ok (.ireturn, 1) := by decide +kernel
set_option maxRecDepth 20000 in
theorem ggX7_fits_X7_reachOf : GoodIn wsX7_fits wsX7_reachOf := goodIn_r _ [9, 10, 11, 12, 13, 14, 15, 16, 8, 17, 18, 19, 20, 21, 22, 23, 24, 25, 26, 27, 28, 29, 30, 31, 32, 33, 34, 35, 36, 37, 38, 39, 40, 41, 42, 43, 44, 45, 46, 47, 48, 49, 50, 51, 52, 53, 54, 55, 56, 57, 58, 59, 60, 61, 62, 63, 64, 65, 66, 67] (by decide +kernel) (by decide +kernel)
set_option maxRecDepth 20000 in
theorem gX7_fits_X7_reachOf : GoodIn wsX7_fits (wsV RX7 228 RX7 yX7_reachOf wsX7_reachOf) := goodIn_app (goodIn_of _ (by decide +kernel)) ggX7_fits_X7_reachOf
set_option maxRecDepth 20000 in
theorem ggX7_fits_X7_has : GoodIn wsX7_fits wsX7_has := goodIn_r _ [23] (by decide +kernel) (by decide +kernel)
set_option maxRecDepth 20000 in
theorem gX7_fits_X7_has : GoodIn wsX7_fits (va_wsS RX7 225 yX7_has wsX7_has) := goodIn_app (goodIn_of _ (by decide +kernel)) ggX7_fits_X7_has
theorem dX7_fits_0 : decode cX7_fits 0 = .ok (.iconst 0, 1) := by decide +kernel
theorem dX7_fits_1 : decode cX7_fits 1 = .ok (.istore_n 1, 1) := by decide +kernel
theorem dX7_fits_2 : decode cX7_fits 2 = .ok (.iconst 1, 1) := by decide +kernel
theorem dX7_fits_3 : decode cX7_fits 3 = .ok (.istore_n 2, 1) := by decide +kernel
theorem dX7_fits_4 : decode cX7_fits 4 = .ok (.iload_n 2, 1) := by decide +kernel
theorem dX7_fits_5 : decode cX7_fits 5 = .ok (.bipush 24, 2) := by decide +kernel
theorem dX7_fits_7 : decode cX7_fits 7 = .ok (.if_icmp .gt 88, 3) := by decide +kernel
theorem dX7_fits_10 : decode cX7_fits 10 = .ok (.iconst 1, 1) := by decide +kernel
theorem dX7_fits_11 : decode cX7_fits 11 = .ok (.istore_n 3, 1) := by decide +kernel
theorem dX7_fits_12 : decode cX7_fits 12 = .ok (.iconst 0, 1) := by decide +kernel
theorem dX7_fits_13 : decode cX7_fits 13 = .ok (.istore 4, 2) := by decide +kernel
theorem dX7_fits_15 : decode cX7_fits 15 = .ok (.iload 4, 2) := by decide +kernel
theorem dX7_fits_17 : decode cX7_fits 17 = .ok (.aload_n 0, 1) := by decide +kernel
theorem dX7_fits_18 : decode cX7_fits 18 = .ok (.getfield 198, 3) := by decide +kernel
theorem dX7_fits_21 : decode cX7_fits 21 = .ok (.if_icmp .ge 52, 3) := by decide +kernel
theorem dX7_fits_24 : decode cX7_fits 24 = .ok (.iload_n 3, 1) := by decide +kernel
theorem dX7_fits_25 : decode cX7_fits 25 = .ok (.ifCond .eq 40, 3) := by decide +kernel
theorem dX7_fits_28 : decode cX7_fits 28 = .ok (.aload_n 0, 1) := by decide +kernel
theorem dX7_fits_29 : decode cX7_fits 29 = .ok (.aload_n 0, 1) := by decide +kernel
theorem dX7_fits_30 : decode cX7_fits 30 = .ok (.getfield 71, 3) := by decide +kernel
theorem dX7_fits_33 : decode cX7_fits 33 = .ok (.iload 4, 2) := by decide +kernel
theorem dX7_fits_35 : decode cX7_fits 35 = .ok (.iaload, 1) := by decide +kernel
theorem dX7_fits_36 : decode cX7_fits 36 = .ok (.iload_n 2, 1) := by decide +kernel
theorem dX7_fits_37 : decode cX7_fits 37 = .ok (.iconst 0, 1) := by decide +kernel
theorem dX7_fits_38 : decode cX7_fits 38 = .ok (.invokevirtual 228, 3) := by decide +kernel
theorem dX7_fits_41 : decode cX7_fits 41 = .ok (.aload_n 0, 1) := by decide +kernel
theorem dX7_fits_42 : decode cX7_fits 42 = .ok (.getfield 74, 3) := by decide +kernel
theorem dX7_fits_45 : decode cX7_fits 45 = .ok (.iload 4, 2) := by decide +kernel
theorem dX7_fits_47 : decode cX7_fits 47 = .ok (.iaload, 1) := by decide +kernel
theorem dX7_fits_48 : decode cX7_fits 48 = .ok (.invokestatic 225, 3) := by decide +kernel
theorem dX7_fits_51 : decode cX7_fits 51 = .ok (.aload_n 0, 1) := by decide +kernel
theorem dX7_fits_52 : decode cX7_fits 52 = .ok (.getfield 77, 3) := by decide +kernel
theorem dX7_fits_55 : decode cX7_fits 55 = .ok (.iload 4, 2) := by decide +kernel
theorem dX7_fits_57 : decode cX7_fits 57 = .ok (.baload, 1) := by decide +kernel
theorem dX7_fits_58 : decode cX7_fits 58 = .ok (.if_icmp .ne 7, 3) := by decide +kernel
theorem dX7_fits_61 : decode cX7_fits 61 = .ok (.iconst 1, 1) := by decide +kernel
theorem dX7_fits_62 : decode cX7_fits 62 = .ok (.goto 4, 3) := by decide +kernel
theorem dX7_fits_65 : decode cX7_fits 65 = .ok (.iconst 0, 1) := by decide +kernel
theorem dX7_fits_66 : decode cX7_fits 66 = .ok (.istore_n 3, 1) := by decide +kernel
theorem dX7_fits_67 : decode cX7_fits 67 = .ok (.iinc 4 1, 3) := by decide +kernel
theorem dX7_fits_70 : decode cX7_fits 70 = .ok (.goto (-55), 3) := by decide +kernel
theorem dX7_fits_73 : decode cX7_fits 73 = .ok (.iload_n 1, 1) := by decide +kernel
theorem dX7_fits_74 : decode cX7_fits 74 = .ok (.iload_n 3, 1) := by decide +kernel
theorem dX7_fits_75 : decode cX7_fits 75 = .ok (.ifCond .eq 11, 3) := by decide +kernel
theorem dX7_fits_78 : decode cX7_fits 78 = .ok (.iconst 1, 1) := by decide +kernel
theorem dX7_fits_79 : decode cX7_fits 79 = .ok (.iload_n 2, 1) := by decide +kernel
theorem dX7_fits_80 : decode cX7_fits 80 = .ok (.iconst 1, 1) := by decide +kernel
theorem dX7_fits_81 : decode cX7_fits 81 = .ok (.isub, 1) := by decide +kernel
theorem dX7_fits_82 : decode cX7_fits 82 = .ok (.ishl, 1) := by decide +kernel
theorem dX7_fits_83 : decode cX7_fits 83 = .ok (.goto 4, 3) := by decide +kernel
theorem dX7_fits_86 : decode cX7_fits 86 = .ok (.iconst 0, 1) := by decide +kernel
theorem dX7_fits_87 : decode cX7_fits 87 = .ok (.ior, 1) := by decide +kernel
theorem dX7_fits_88 : decode cX7_fits 88 = .ok (.istore_n 1, 1) := by decide +kernel
theorem dX7_fits_89 : decode cX7_fits 89 = .ok (.iinc 2 1, 3) := by decide +kernel
theorem dX7_fits_92 : decode cX7_fits 92 = .ok (.goto (-88), 3) := by decide +kernel
theorem dX7_fits_95 : decode cX7_fits 95 = .ok (.iload_n 1, 1) := by decide +kernel
theorem dX7_fits_96 : decode cX7_fits 96 = .ok (.ireturn, 1) := by decide +kernel
set_option maxRecDepth 20000 in
theorem ggX7_ask_X7_fits : GoodIn wsX7_ask wsX7_fits := goodIn_r _ [6, 7, 8, 9, 10, 11, 12, 13, 5, 14, 1, 15, 16, 17, 18, 19, 20, 21, 22, 23, 24, 25, 26, 27, 31, 32, 33, 34, 35, 36, 37, 38, 39, 40, 41, 42, 43, 44, 45, 46, 47, 48, 49, 50, 51, 52, 53, 54, 55, 56, 57, 58, 59, 60, 61, 62, 63, 64, 65, 66, 67, 68, 69, 70, 71, 72, 73, 74] (by decide +kernel) (by decide +kernel)
set_option maxRecDepth 20000 in
theorem gX7_ask_X7_fits : GoodIn wsX7_ask (wsV RX7 292 RX7 yX7_fits wsX7_fits) := goodIn_app (goodIn_of _ (by decide +kernel)) ggX7_ask_X7_fits
set_option maxRecDepth 20000 in
theorem ggX7_ask_X7_has : GoodIn wsX7_ask wsX7_has := goodIn_r _ [27] (by decide +kernel) (by decide +kernel)
set_option maxRecDepth 20000 in
theorem gX7_ask_X7_has : GoodIn wsX7_ask (va_wsS RX7 225 yX7_has wsX7_has) := goodIn_app (goodIn_of _ (by decide +kernel)) ggX7_ask_X7_has
set_option maxRecDepth 20000 in
theorem ggX7_ask_X7_isFit : GoodIn wsX7_ask wsX7_isFit := goodIn_r _ [21, 22, 23, 24, 31, 32, 33, 34, 35, 36, 37, 38, 39, 40, 41, 42, 43, 44, 45, 46, 47, 48, 49, 50, 51, 52, 53, 54, 55, 56, 57, 58, 59, 60, 61, 62, 63, 64, 65, 66, 67, 68, 69, 70, 71, 72, 73, 74] (by decide +kernel) (by decide +kernel)
set_option maxRecDepth 20000 in
theorem gX7_ask_X7_isFit : GoodIn wsX7_ask (wsV RX7 210 RX7 yX7_isFit wsX7_isFit) := goodIn_app (goodIn_of _ (by decide +kernel)) ggX7_ask_X7_isFit
set_option maxRecDepth 20000 in
theorem ggX7_ask_X7_bits : GoodIn wsX7_ask wsX7_bits := goodIn_r _ [30] (by decide +kernel) (by decide +kernel)
set_option maxRecDepth 20000 in
theorem gX7_ask_X7_bits : GoodIn wsX7_ask (va_wsS RX7 280 yX7_bits wsX7_bits) := goodIn_app (goodIn_of _ (by decide +kernel)) ggX7_ask_X7_bits
theorem dX7_ask_0 : decode cX7_ask 0 = .ok (.aload_n 0, 1) := by decide +kernel
theorem dX7_ask_1 : decode cX7_ask 1 = .ok (.invokevirtual 292, 3) := by decide +kernel
theorem dX7_ask_4 : decode cX7_ask 4 = .ok (.istore_n 1, 1) := by decide +kernel
theorem dX7_ask_5 : decode cX7_ask 5 = .ok (.iconst (-1), 1) := by decide +kernel
theorem dX7_ask_6 : decode cX7_ask 6 = .ok (.istore_n 2, 1) := by decide +kernel
theorem dX7_ask_7 : decode cX7_ask 7 = .ok (.iconst 0, 1) := by decide +kernel
theorem dX7_ask_8 : decode cX7_ask 8 = .ok (.istore_n 3, 1) := by decide +kernel
theorem dX7_ask_9 : decode cX7_ask 9 = .ok (.iconst 0, 1) := by decide +kernel
theorem dX7_ask_10 : decode cX7_ask 10 = .ok (.istore 4, 2) := by decide +kernel
theorem dX7_ask_12 : decode cX7_ask 12 = .ok (.iload 4, 2) := by decide +kernel
theorem dX7_ask_14 : decode cX7_ask 14 = .ok (.aload_n 0, 1) := by decide +kernel
theorem dX7_ask_15 : decode cX7_ask 15 = .ok (.getfield 103, 3) := by decide +kernel
theorem dX7_ask_18 : decode cX7_ask 18 = .ok (.if_icmp .ge 142, 3) := by decide +kernel
theorem dX7_ask_21 : decode cX7_ask 21 = .ok (.iconst 0, 1) := by decide +kernel
theorem dX7_ask_22 : decode cX7_ask 22 = .ok (.istore 5, 2) := by decide +kernel
theorem dX7_ask_24 : decode cX7_ask 24 = .ok (.iconst 1, 1) := by decide +kernel
theorem dX7_ask_25 : decode cX7_ask 25 = .ok (.istore 6, 2) := by decide +kernel
theorem dX7_ask_27 : decode cX7_ask 27 = .ok (.iload 6, 2) := by decide +kernel
theorem dX7_ask_29 : decode cX7_ask 29 = .ok (.bipush 24, 2) := by decide +kernel
theorem dX7_ask_31 : decode cX7_ask 31 = .ok (.if_icmp .gt 41, 3) := by decide +kernel
theorem dX7_ask_34 : decode cX7_ask 34 = .ok (.iload 5, 2) := by decide +kernel
theorem dX7_ask_36 : decode cX7_ask 36 = .ok (.iload_n 1, 1) := by decide +kernel
theorem dX7_ask_37 : decode cX7_ask 37 = .ok (.iload 6, 2) := by decide +kernel
theorem dX7_ask_39 : decode cX7_ask 39 = .ok (.iconst 1, 1) := by decide +kernel
theorem dX7_ask_40 : decode cX7_ask 40 = .ok (.isub, 1) := by decide +kernel
theorem dX7_ask_41 : decode cX7_ask 41 = .ok (.invokestatic 225, 3) := by decide +kernel
theorem dX7_ask_44 : decode cX7_ask 44 = .ok (.ifCond .eq 18, 3) := by decide +kernel
theorem dX7_ask_47 : decode cX7_ask 47 = .ok (.aload_n 0, 1) := by decide +kernel
theorem dX7_ask_48 : decode cX7_ask 48 = .ok (.iload 4, 2) := by decide +kernel
theorem dX7_ask_50 : decode cX7_ask 50 = .ok (.iload 6, 2) := by decide +kernel
theorem dX7_ask_52 : decode cX7_ask 52 = .ok (.invokevirtual 210, 3) := by decide +kernel
theorem dX7_ask_55 : decode cX7_ask 55 = .ok (.ifCond .eq 7, 3) := by decide +kernel
theorem dX7_ask_58 : decode cX7_ask 58 = .ok (.iconst 1, 1) := by decide +kernel
theorem dX7_ask_59 : decode cX7_ask 59 = .ok (.goto 4, 3) := by decide +kernel
theorem dX7_ask_62 : decode cX7_ask 62 = .ok (.iconst 0, 1) := by decide +kernel
theorem dX7_ask_63 : decode cX7_ask 63 = .ok (.iadd, 1) := by decide +kernel
theorem dX7_ask_64 : decode cX7_ask 64 = .ok (.istore 5, 2) := by decide +kernel
theorem dX7_ask_66 : decode cX7_ask 66 = .ok (.iinc 6 1, 3) := by decide +kernel
theorem dX7_ask_69 : decode cX7_ask 69 = .ok (.goto (-42), 3) := by decide +kernel
theorem dX7_ask_72 : decode cX7_ask 72 = .ok (.iload_n 1, 1) := by decide +kernel
theorem dX7_ask_73 : decode cX7_ask 73 = .ok (.invokestatic 280, 3) := by decide +kernel
theorem dX7_ask_76 : decode cX7_ask 76 = .ok (.iload 5, 2) := by decide +kernel
theorem dX7_ask_78 : decode cX7_ask 78 = .ok (.isub, 1) := by decide +kernel
theorem dX7_ask_79 : decode cX7_ask 79 = .ok (.istore 6, 2) := by decide +kernel
theorem dX7_ask_81 : decode cX7_ask 81 = .ok (.iload 5, 2) := by decide +kernel
theorem dX7_ask_83 : decode cX7_ask 83 = .ok (.iload 6, 2) := by decide +kernel
theorem dX7_ask_85 : decode cX7_ask 85 = .ok (.if_icmp .le 11, 3) := by decide +kernel
theorem dX7_ask_88 : decode cX7_ask 88 = .ok (.iload 5, 2) := by decide +kernel
theorem dX7_ask_90 : decode cX7_ask 90 = .ok (.iload 6, 2) := by decide +kernel
theorem dX7_ask_92 : decode cX7_ask 92 = .ok (.isub, 1) := by decide +kernel
theorem dX7_ask_93 : decode cX7_ask 93 = .ok (.goto 8, 3) := by decide +kernel
theorem dX7_ask_96 : decode cX7_ask 96 = .ok (.iload 6, 2) := by decide +kernel
theorem dX7_ask_98 : decode cX7_ask 98 = .ok (.iload 5, 2) := by decide +kernel
theorem dX7_ask_100 : decode cX7_ask 100 = .ok (.isub, 1) := by decide +kernel
theorem dX7_ask_101 : decode cX7_ask 101 = .ok (.istore 7, 2) := by decide +kernel
theorem dX7_ask_103 : decode cX7_ask 103 = .ok (.iload 5, 2) := by decide +kernel
theorem dX7_ask_105 : decode cX7_ask 105 = .ok (.ifCond .le 22, 3) := by decide +kernel
theorem dX7_ask_108 : decode cX7_ask 108 = .ok (.iload 6, 2) := by decide +kernel
theorem dX7_ask_110 : decode cX7_ask 110 = .ok (.ifCond .le 17, 3) := by decide +kernel
theorem dX7_ask_113 : decode cX7_ask 113 = .ok (.iload_n 2, 1) := by decide +kernel
theorem dX7_ask_114 : decode cX7_ask 114 = .ok (.ifCond .lt 9, 3) := by decide +kernel
theorem dX7_ask_117 : decode cX7_ask 117 = .ok (.iload 7, 2) := by decide +kernel
theorem dX7_ask_119 : decode cX7_ask 119 = .ok (.iload_n 3, 1) := by decide +kernel
theorem dX7_ask_120 : decode cX7_ask 120 = .ok (.if_icmp .ge 7, 3) := by decide +kernel
theorem dX7_ask_123 : decode cX7_ask 123 = .ok (.iconst 1, 1) := by decide +kernel
theorem dX7_ask_124 : decode cX7_ask 124 = .ok (.goto 4, 3) := by decide +kernel
theorem dX7_ask_127 : decode cX7_ask 127 = .ok (.iconst 0, 1) := by decide +kernel
theorem dX7_ask_128 : decode cX7_ask 128 = .ok (.istore 8, 2) := by decide +kernel
theorem dX7_ask_130 : decode cX7_ask 130 = .ok (.iload 8, 2) := by decide +kernel
theorem dX7_ask_132 : decode cX7_ask 132 = .ok (.ifCond .eq 8, 3) := by decide +kernel
theorem dX7_ask_135 : decode cX7_ask 135 = .ok (.iload 4, 2) := by decide +kernel
theorem dX7_ask_137 : decode cX7_ask 137 = .ok (.goto 4, 3) := by decide +kernel
theorem dX7_ask_140 : decode cX7_ask 140 = .ok (.iload_n 2, 1) := by decide +kernel
theorem dX7_ask_141 : decode cX7_ask 141 = .ok (.istore_n 2, 1) := by decide +kernel
theorem dX7_ask_142 : decode cX7_ask 142 = .ok (.iload 8, 2) := by decide +kernel
theorem dX7_ask_144 : decode cX7_ask 144 = .ok (.ifCond .eq 8, 3) := by decide +kernel
theorem dX7_ask_147 : decode cX7_ask 147 = .ok (.iload 7, 2) := by decide +kernel
theorem dX7_ask_149 : decode cX7_ask 149 = .ok (.goto 4, 3) := by decide +kernel
theorem dX7_ask_152 : decode cX7_ask 152 = .ok (.iload_n 3, 1) := by decide +kernel
theorem dX7_ask_153 : decode cX7_ask 153 = .ok (.istore_n 3, 1) := by decide +kernel
theorem dX7_ask_154 : decode cX7_ask 154 = .ok (.iinc 4 1, 3) := by decide +kernel
theorem dX7_ask_157 : decode cX7_ask 157 = .ok (.goto (-145), 3) := by decide +kernel
theorem dX7_ask_160 : decode cX7_ask 160 = .ok (.iload_n 2, 1) := by decide +kernel
theorem dX7_ask_161 : decode cX7_ask 161 = .ok (.ireturn, 1) := by decide +kernel
set_option maxRecDepth 20000 in
theorem ggX7_write_X7_isPerson : GoodIn wsX7_write wsX7_isPerson := goodIn_r _ [10, 11, 12, 13, 9, 14, 20, 21, 22, 23, 24, 25, 26, 27, 28, 29, 30, 31, 32, 33, 34, 35, 36, 37, 38, 39, 40, 41, 42, 43, 44, 45, 46, 47, 48, 49, 50, 51, 52, 53, 54, 55, 56, 57, 58, 59, 60, 61, 62, 63] (by decide +kernel) (by decide +kernel)
set_option maxRecDepth 20000 in
theorem gX7_write_X7_isPerson : GoodIn wsX7_write (wsV RX7 232 RX7 yX7_isPerson wsX7_isPerson) := goodIn_app (goodIn_of _ (by decide +kernel)) ggX7_write_X7_isPerson
set_option maxRecDepth 20000 in
theorem ggX7_write_X7_isStair : GoodIn wsX7_write wsX7_isStair := goodIn_r _ [18, 19, 12, 13, 9, 14, 20, 21, 22, 23, 24, 25, 26, 27, 28, 29, 30, 31, 32, 33, 34, 35, 36, 37, 38, 39, 40, 41, 42, 43, 44, 45, 46, 47, 48, 49, 50, 51, 52, 53, 54, 55, 56, 57, 58, 59, 60, 61, 62, 63] (by decide +kernel) (by decide +kernel)
set_option maxRecDepth 20000 in
theorem gX7_write_X7_isStair : GoodIn wsX7_write (wsV RX7 217 RX7 yX7_isStair wsX7_isStair) := goodIn_app (goodIn_of _ (by decide +kernel)) ggX7_write_X7_isStair
theorem dX7_write_0 : decode cX7_write 0 = .ok (.aload_n 0, 1) := by decide +kernel
theorem dX7_write_1 : decode cX7_write 1 = .ok (.iload_n 1, 1) := by decide +kernel
theorem dX7_write_2 : decode cX7_write 2 = .ok (.invokevirtual 232, 3) := by decide +kernel
theorem dX7_write_5 : decode cX7_write 5 = .ok (.ifCond .eq 11, 3) := by decide +kernel
theorem dX7_write_8 : decode cX7_write 8 = .ok (.aload_n 0, 1) := by decide +kernel
theorem dX7_write_9 : decode cX7_write 9 = .ok (.iload_n 2, 1) := by decide +kernel
theorem dX7_write_10 : decode cX7_write 10 = .ok (.invokevirtual 217, 3) := by decide +kernel
theorem dX7_write_13 : decode cX7_write 13 = .ok (.ifCond .ne 6, 3) := by decide +kernel
theorem dX7_write_16 : decode cX7_write 16 = .ok (.ldc 221, 2) := by decide +kernel
theorem dX7_write_18 : decode cX7_write 18 = .ok (.ireturn, 1) := by decide +kernel
theorem dX7_write_19 : decode cX7_write 19 = .ok (.aload_n 0, 1) := by decide +kernel
theorem dX7_write_20 : decode cX7_write 20 = .ok (.getfield 201, 3) := by decide +kernel
theorem dX7_write_23 : decode cX7_write 23 = .ok (.bipush 40, 2) := by decide +kernel
theorem dX7_write_25 : decode cX7_write 25 = .ok (.if_icmp .ne 6, 3) := by decide +kernel
theorem dX7_write_28 : decode cX7_write 28 = .ok (.ldc 115, 2) := by decide +kernel
theorem dX7_write_30 : decode cX7_write 30 = .ok (.ireturn, 1) := by decide +kernel
theorem dX7_write_31 : decode cX7_write 31 = .ok (.aload_n 0, 1) := by decide +kernel
theorem dX7_write_32 : decode cX7_write 32 = .ok (.getfield 81, 3) := by decide +kernel
theorem dX7_write_35 : decode cX7_write 35 = .ok (.aload_n 0, 1) := by decide +kernel
theorem dX7_write_36 : decode cX7_write 36 = .ok (.getfield 201, 3) := by decide +kernel
theorem dX7_write_39 : decode cX7_write 39 = .ok (.iload_n 1, 1) := by decide +kernel
theorem dX7_write_40 : decode cX7_write 40 = .ok (.iastore, 1) := by decide +kernel
theorem dX7_write_41 : decode cX7_write 41 = .ok (.aload_n 0, 1) := by decide +kernel
theorem dX7_write_42 : decode cX7_write 42 = .ok (.getfield 84, 3) := by decide +kernel
theorem dX7_write_45 : decode cX7_write 45 = .ok (.aload_n 0, 1) := by decide +kernel
theorem dX7_write_46 : decode cX7_write 46 = .ok (.getfield 201, 3) := by decide +kernel
theorem dX7_write_49 : decode cX7_write 49 = .ok (.iload_n 2, 1) := by decide +kernel
theorem dX7_write_50 : decode cX7_write 50 = .ok (.iastore, 1) := by decide +kernel
theorem dX7_write_51 : decode cX7_write 51 = .ok (.aload_n 0, 1) := by decide +kernel
theorem dX7_write_52 : decode cX7_write 52 = .ok (.dup, 1) := by decide +kernel
theorem dX7_write_53 : decode cX7_write 53 = .ok (.getfield 201, 3) := by decide +kernel
theorem dX7_write_56 : decode cX7_write 56 = .ok (.iconst 1, 1) := by decide +kernel
theorem dX7_write_57 : decode cX7_write 57 = .ok (.iadd, 1) := by decide +kernel
theorem dX7_write_58 : decode cX7_write 58 = .ok (.putfield 201, 3) := by decide +kernel
theorem dX7_write_61 : decode cX7_write 61 = .ok (.aload_n 0, 1) := by decide +kernel
theorem dX7_write_62 : decode cX7_write 62 = .ok (.getfield 201, 3) := by decide +kernel
theorem dX7_write_65 : decode cX7_write 65 = .ok (.ireturn, 1) := by decide +kernel
theorem dX7_tear_0 : decode cX7_tear 0 = .ok (.aload_n 0, 1) := by decide +kernel
theorem dX7_tear_1 : decode cX7_tear 1 = .ok (.getfield 201, 3) := by decide +kernel
theorem dX7_tear_4 : decode cX7_tear 4 = .ok (.aload_n 0, 1) := by decide +kernel
theorem dX7_tear_5 : decode cX7_tear 5 = .ok (.getfield 198, 3) := by decide +kernel
theorem dX7_tear_8 : decode cX7_tear 8 = .ok (.iadd, 1) := by decide +kernel
theorem dX7_tear_9 : decode cX7_tear 9 = .ok (.istore_n 1, 1) := by decide +kernel
theorem dX7_tear_10 : decode cX7_tear 10 = .ok (.aload_n 0, 1) := by decide +kernel
theorem dX7_tear_11 : decode cX7_tear 11 = .ok (.iconst 0, 1) := by decide +kernel
theorem dX7_tear_12 : decode cX7_tear 12 = .ok (.putfield 201, 3) := by decide +kernel
theorem dX7_tear_15 : decode cX7_tear 15 = .ok (.aload_n 0, 1) := by decide +kernel
theorem dX7_tear_16 : decode cX7_tear 16 = .ok (.iconst 0, 1) := by decide +kernel
theorem dX7_tear_17 : decode cX7_tear 17 = .ok (.putfield 198, 3) := by decide +kernel
theorem dX7_tear_20 : decode cX7_tear 20 = .ok (.iload_n 1, 1) := by decide +kernel
theorem dX7_tear_21 : decode cX7_tear 21 = .ok (.ireturn, 1) := by decide +kernel
set_option maxRecDepth 20000 in
theorem ggX7_judge_X7_canGo : GoodIn wsX7_judge wsX7_canGo := goodIn_r _ [13, 2, 7, 8, 14, 15, 16, 17, 12, 18, 19, 20, 21, 22, 23, 24, 25, 26, 27, 28, 29, 30, 31, 32, 33, 34, 35, 36, 37, 38, 39, 40, 41, 42, 43, 44, 45, 46, 47, 48, 49, 50, 51, 52, 53, 54, 55, 56, 57, 58, 59, 60, 61, 62, 63, 64, 65, 66, 67, 68, 69, 70, 71] (by decide +kernel) (by decide +kernel)
set_option maxRecDepth 20000 in
theorem gX7_judge_X7_canGo : GoodIn wsX7_judge (wsV RX7 240 RX7 yX7_canGo wsX7_canGo) := goodIn_app (goodIn_of _ (by decide +kernel)) ggX7_judge_X7_canGo
theorem dX7_judge_0 : decode cX7_judge 0 = .ok (.iconst 0, 1) := by decide +kernel
theorem dX7_judge_1 : decode cX7_judge 1 = .ok (.istore_n 1, 1) := by decide +kernel
theorem dX7_judge_2 : decode cX7_judge 2 = .ok (.iload_n 1, 1) := by decide +kernel
theorem dX7_judge_3 : decode cX7_judge 3 = .ok (.bipush 8, 2) := by decide +kernel
theorem dX7_judge_5 : decode cX7_judge 5 = .ok (.if_icmp .ge 21, 3) := by decide +kernel
theorem dX7_judge_8 : decode cX7_judge 8 = .ok (.aload_n 0, 1) := by decide +kernel
theorem dX7_judge_9 : decode cX7_judge 9 = .ok (.getfield 87, 3) := by decide +kernel
theorem dX7_judge_12 : decode cX7_judge 12 = .ok (.iload_n 1, 1) := by decide +kernel
theorem dX7_judge_13 : decode cX7_judge 13 = .ok (.aload_n 0, 1) := by decide +kernel
theorem dX7_judge_14 : decode cX7_judge 14 = .ok (.getfield 28, 3) := by decide +kernel
theorem dX7_judge_17 : decode cX7_judge 17 = .ok (.iload_n 1, 1) := by decide +kernel
theorem dX7_judge_18 : decode cX7_judge 18 = .ok (.iaload, 1) := by decide +kernel
theorem dX7_judge_19 : decode cX7_judge 19 = .ok (.iastore, 1) := by decide +kernel
theorem dX7_judge_20 : decode cX7_judge 20 = .ok (.iinc 1 1, 3) := by decide +kernel
theorem dX7_judge_23 : decode cX7_judge 23 = .ok (.goto (-21), 3) := by decide +kernel
theorem dX7_judge_26 : decode cX7_judge 26 = .ok (.iconst (-1), 1) := by decide +kernel
theorem dX7_judge_27 : decode cX7_judge 27 = .ok (.istore_n 1, 1) := by decide +kernel
theorem dX7_judge_28 : decode cX7_judge 28 = .ok (.iconst 0, 1) := by decide +kernel
theorem dX7_judge_29 : decode cX7_judge 29 = .ok (.istore_n 2, 1) := by decide +kernel
theorem dX7_judge_30 : decode cX7_judge 30 = .ok (.iload_n 2, 1) := by decide +kernel
theorem dX7_judge_31 : decode cX7_judge 31 = .ok (.aload_n 0, 1) := by decide +kernel
theorem dX7_judge_32 : decode cX7_judge 32 = .ok (.getfield 201, 3) := by decide +kernel
theorem dX7_judge_35 : decode cX7_judge 35 = .ok (.if_icmp .ge 90, 3) := by decide +kernel
theorem dX7_judge_38 : decode cX7_judge 38 = .ok (.iload_n 1, 1) := by decide +kernel
theorem dX7_judge_39 : decode cX7_judge 39 = .ok (.ifCond .ge 86, 3) := by decide +kernel
theorem dX7_judge_42 : decode cX7_judge 42 = .ok (.aload_n 0, 1) := by decide +kernel
theorem dX7_judge_43 : decode cX7_judge 43 = .ok (.getfield 81, 3) := by decide +kernel
theorem dX7_judge_46 : decode cX7_judge 46 = .ok (.iload_n 2, 1) := by decide +kernel
theorem dX7_judge_47 : decode cX7_judge 47 = .ok (.iaload, 1) := by decide +kernel
theorem dX7_judge_48 : decode cX7_judge 48 = .ok (.istore_n 3, 1) := by decide +kernel
theorem dX7_judge_49 : decode cX7_judge 49 = .ok (.aload_n 0, 1) := by decide +kernel
theorem dX7_judge_50 : decode cX7_judge 50 = .ok (.getfield 84, 3) := by decide +kernel
theorem dX7_judge_53 : decode cX7_judge 53 = .ok (.iload_n 2, 1) := by decide +kernel
theorem dX7_judge_54 : decode cX7_judge 54 = .ok (.iaload, 1) := by decide +kernel
theorem dX7_judge_55 : decode cX7_judge 55 = .ok (.istore 4, 2) := by decide +kernel
theorem dX7_judge_57 : decode cX7_judge 57 = .ok (.iload_n 3, 1) := by decide +kernel
theorem dX7_judge_58 : decode cX7_judge 58 = .ok (.aload_n 0, 1) := by decide +kernel
theorem dX7_judge_59 : decode cX7_judge 59 = .ok (.getfield 106, 3) := by decide +kernel
theorem dX7_judge_62 : decode cX7_judge 62 = .ok (.if_icmp .ge 55, 3) := by decide +kernel
theorem dX7_judge_65 : decode cX7_judge 65 = .ok (.aload_n 0, 1) := by decide +kernel
theorem dX7_judge_66 : decode cX7_judge 66 = .ok (.iload_n 3, 1) := by decide +kernel
theorem dX7_judge_67 : decode cX7_judge 67 = .ok (.iload 4, 2) := by decide +kernel
theorem dX7_judge_69 : decode cX7_judge 69 = .ok (.invokevirtual 240, 3) := by decide +kernel
theorem dX7_judge_72 : decode cX7_judge 72 = .ok (.ifCond .eq 45, 3) := by decide +kernel
theorem dX7_judge_75 : decode cX7_judge 75 = .ok (.aload_n 0, 1) := by decide +kernel
theorem dX7_judge_76 : decode cX7_judge 76 = .ok (.getfield 28, 3) := by decide +kernel
theorem dX7_judge_79 : decode cX7_judge 79 = .ok (.iload_n 3, 1) := by decide +kernel
theorem dX7_judge_80 : decode cX7_judge 80 = .ok (.aload_n 0, 1) := by decide +kernel
theorem dX7_judge_81 : decode cX7_judge 81 = .ok (.getfield 28, 3) := by decide +kernel
theorem dX7_judge_84 : decode cX7_judge 84 = .ok (.iload_n 3, 1) := by decide +kernel
theorem dX7_judge_85 : decode cX7_judge 85 = .ok (.iaload, 1) := by decide +kernel
theorem dX7_judge_86 : decode cX7_judge 86 = .ok (.aload_n 0, 1) := by decide +kernel
theorem dX7_judge_87 : decode cX7_judge 87 = .ok (.getfield 13, 3) := by decide +kernel
theorem dX7_judge_90 : decode cX7_judge 90 = .ok (.iload 4, 2) := by decide +kernel
theorem dX7_judge_92 : decode cX7_judge 92 = .ok (.iaload, 1) := by decide +kernel
theorem dX7_judge_93 : decode cX7_judge 93 = .ok (.if_icmp .ne 13, 3) := by decide +kernel
theorem dX7_judge_96 : decode cX7_judge 96 = .ok (.aload_n 0, 1) := by decide +kernel
theorem dX7_judge_97 : decode cX7_judge 97 = .ok (.getfield 16, 3) := by decide +kernel
theorem dX7_judge_100 : decode cX7_judge 100 = .ok (.iload 4, 2) := by decide +kernel
theorem dX7_judge_102 : decode cX7_judge 102 = .ok (.iaload, 1) := by decide +kernel
theorem dX7_judge_103 : decode cX7_judge 103 = .ok (.goto 10, 3) := by decide +kernel
theorem dX7_judge_106 : decode cX7_judge 106 = .ok (.aload_n 0, 1) := by decide +kernel
theorem dX7_judge_107 : decode cX7_judge 107 = .ok (.getfield 13, 3) := by decide +kernel
theorem dX7_judge_110 : decode cX7_judge 110 = .ok (.iload 4, 2) := by decide +kernel
theorem dX7_judge_112 : decode cX7_judge 112 = .ok (.iaload, 1) := by decide +kernel
theorem dX7_judge_113 : decode cX7_judge 113 = .ok (.iastore, 1) := by decide +kernel
theorem dX7_judge_114 : decode cX7_judge 114 = .ok (.goto 5, 3) := by decide +kernel
theorem dX7_judge_117 : decode cX7_judge 117 = .ok (.iload_n 2, 1) := by decide +kernel
theorem dX7_judge_118 : decode cX7_judge 118 = .ok (.istore_n 1, 1) := by decide +kernel
theorem dX7_judge_119 : decode cX7_judge 119 = .ok (.iinc 2 1, 3) := by decide +kernel
theorem dX7_judge_122 : decode cX7_judge 122 = .ok (.goto (-92), 3) := by decide +kernel
theorem dX7_judge_125 : decode cX7_judge 125 = .ok (.iconst 0, 1) := by decide +kernel
theorem dX7_judge_126 : decode cX7_judge 126 = .ok (.istore_n 2, 1) := by decide +kernel
theorem dX7_judge_127 : decode cX7_judge 127 = .ok (.iload_n 2, 1) := by decide +kernel
theorem dX7_judge_128 : decode cX7_judge 128 = .ok (.bipush 8, 2) := by decide +kernel
theorem dX7_judge_130 : decode cX7_judge 130 = .ok (.if_icmp .ge 21, 3) := by decide +kernel
theorem dX7_judge_133 : decode cX7_judge 133 = .ok (.aload_n 0, 1) := by decide +kernel
theorem dX7_judge_134 : decode cX7_judge 134 = .ok (.getfield 28, 3) := by decide +kernel
theorem dX7_judge_137 : decode cX7_judge 137 = .ok (.iload_n 2, 1) := by decide +kernel
theorem dX7_judge_138 : decode cX7_judge 138 = .ok (.aload_n 0, 1) := by decide +kernel
theorem dX7_judge_139 : decode cX7_judge 139 = .ok (.getfield 87, 3) := by decide +kernel
theorem dX7_judge_142 : decode cX7_judge 142 = .ok (.iload_n 2, 1) := by decide +kernel
theorem dX7_judge_143 : decode cX7_judge 143 = .ok (.iaload, 1) := by decide +kernel
theorem dX7_judge_144 : decode cX7_judge 144 = .ok (.iastore, 1) := by decide +kernel
theorem dX7_judge_145 : decode cX7_judge 145 = .ok (.iinc 2 1, 3) := by decide +kernel
theorem dX7_judge_148 : decode cX7_judge 148 = .ok (.goto (-21), 3) := by decide +kernel
theorem dX7_judge_151 : decode cX7_judge 151 = .ok (.iload_n 1, 1) := by decide +kernel
theorem dX7_judge_152 : decode cX7_judge 152 = .ok (.ireturn, 1) := by decide +kernel
theorem dX7_seed_0 : decode cX7_seed 0 = .ok (.iload_n 1, 1) := by decide +kernel
theorem dX7_seed_1 : decode cX7_seed 1 = .ok (.ifCond .ge 6, 3) := by decide +kernel
theorem dX7_seed_4 : decode cX7_seed 4 = .ok (.ldc 111, 2) := by decide +kernel
theorem dX7_seed_6 : decode cX7_seed 6 = .ok (.ireturn, 1) := by decide +kernel
theorem dX7_seed_7 : decode cX7_seed 7 = .ok (.aload_n 0, 1) := by decide +kernel
theorem dX7_seed_8 : decode cX7_seed 8 = .ok (.getfield 250, 3) := by decide +kernel
theorem dX7_seed_11 : decode cX7_seed 11 = .ok (.istore_n 2, 1) := by decide +kernel
theorem dX7_seed_12 : decode cX7_seed 12 = .ok (.aload_n 0, 1) := by decide +kernel
theorem dX7_seed_13 : decode cX7_seed 13 = .ok (.iload_n 1, 1) := by decide +kernel
theorem dX7_seed_14 : decode cX7_seed 14 = .ok (.putfield 250, 3) := by decide +kernel
theorem dX7_seed_17 : decode cX7_seed 17 = .ok (.iload_n 2, 1) := by decide +kernel
theorem dX7_seed_18 : decode cX7_seed 18 = .ok (.ireturn, 1) := by decide +kernel
set_option maxRecDepth 20000 in
theorem ggX7_keep_X7_in : GoodIn wsX7_keep wsX7_in := goodIn_r _ [15] (by decide +kernel) (by decide +kernel)
set_option maxRecDepth 20000 in
theorem gX7_keep_X7_in : GoodIn wsX7_keep (va_wsS RX7 99 yX7_in wsX7_in) := goodIn_app (goodIn_of _ (by decide +kernel)) ggX7_keep_X7_in
theorem dX7_keep_0 : decode cX7_keep 0 = .ok (.iload_n 1, 1) := by decide +kernel
theorem dX7_keep_1 : decode cX7_keep 1 = .ok (.i2l, 1) := by decide +kernel
theorem dX7_keep_2 : decode cX7_keep 2 = .ok (.lconst 0, 1) := by decide +kernel
theorem dX7_keep_3 : decode cX7_keep 3 = .ok (.lconst 1, 1) := by decide +kernel
theorem dX7_keep_4 : decode cX7_keep 4 = .ok (.invokestatic 99, 3) := by decide +kernel
theorem dX7_keep_7 : decode cX7_keep 7 = .ok (.ifCond .ne 6, 3) := by decide +kernel
theorem dX7_keep_10 : decode cX7_keep 10 = .ok (.ldc 221, 2) := by decide +kernel
theorem dX7_keep_12 : decode cX7_keep 12 = .ok (.ireturn, 1) := by decide +kernel
theorem dX7_keep_13 : decode cX7_keep 13 = .ok (.bipush 70, 2) := by decide +kernel
theorem dX7_keep_15 : decode cX7_keep 15 = .ok (.iload_n 1, 1) := by decide +kernel
theorem dX7_keep_16 : decode cX7_keep 16 = .ok (.imul, 1) := by decide +kernel
theorem dX7_keep_17 : decode cX7_keep 17 = .ok (.istore_n 2, 1) := by decide +kernel
theorem dX7_keep_18 : decode cX7_keep 18 = .ok (.iconst 0, 1) := by decide +kernel
theorem dX7_keep_19 : decode cX7_keep 19 = .ok (.istore_n 3, 1) := by decide +kernel
theorem dX7_keep_20 : decode cX7_keep 20 = .ok (.iload_n 3, 1) := by decide +kernel
theorem dX7_keep_21 : decode cX7_keep 21 = .ok (.bipush 8, 2) := by decide +kernel
theorem dX7_keep_23 : decode cX7_keep 23 = .ok (.if_icmp .ge 57, 3) := by decide +kernel
theorem dX7_keep_26 : decode cX7_keep 26 = .ok (.aload_n 0, 1) := by decide +kernel
theorem dX7_keep_27 : decode cX7_keep 27 = .ok (.getfield 90, 3) := by decide +kernel
theorem dX7_keep_30 : decode cX7_keep 30 = .ok (.iload_n 2, 1) := by decide +kernel
theorem dX7_keep_31 : decode cX7_keep 31 = .ok (.iload_n 3, 1) := by decide +kernel
theorem dX7_keep_32 : decode cX7_keep 32 = .ok (.iadd, 1) := by decide +kernel
theorem dX7_keep_33 : decode cX7_keep 33 = .ok (.aload_n 0, 1) := by decide +kernel
theorem dX7_keep_34 : decode cX7_keep 34 = .ok (.getfield 28, 3) := by decide +kernel
theorem dX7_keep_37 : decode cX7_keep 37 = .ok (.iload_n 3, 1) := by decide +kernel
theorem dX7_keep_38 : decode cX7_keep 38 = .ok (.iaload, 1) := by decide +kernel
theorem dX7_keep_39 : decode cX7_keep 39 = .ok (.iastore, 1) := by decide +kernel
theorem dX7_keep_40 : decode cX7_keep 40 = .ok (.aload_n 0, 1) := by decide +kernel
theorem dX7_keep_41 : decode cX7_keep 41 = .ok (.getfield 90, 3) := by decide +kernel
theorem dX7_keep_44 : decode cX7_keep 44 = .ok (.iload_n 2, 1) := by decide +kernel
theorem dX7_keep_45 : decode cX7_keep 45 = .ok (.bipush 8, 2) := by decide +kernel
theorem dX7_keep_47 : decode cX7_keep 47 = .ok (.iadd, 1) := by decide +kernel
theorem dX7_keep_48 : decode cX7_keep 48 = .ok (.iload_n 3, 1) := by decide +kernel
theorem dX7_keep_49 : decode cX7_keep 49 = .ok (.iadd, 1) := by decide +kernel
theorem dX7_keep_50 : decode cX7_keep 50 = .ok (.aload_n 0, 1) := by decide +kernel
theorem dX7_keep_51 : decode cX7_keep 51 = .ok (.getfield 31, 3) := by decide +kernel
theorem dX7_keep_54 : decode cX7_keep 54 = .ok (.iload_n 3, 1) := by decide +kernel
theorem dX7_keep_55 : decode cX7_keep 55 = .ok (.iaload, 1) := by decide +kernel
theorem dX7_keep_56 : decode cX7_keep 56 = .ok (.iastore, 1) := by decide +kernel
theorem dX7_keep_57 : decode cX7_keep 57 = .ok (.aload_n 0, 1) := by decide +kernel
theorem dX7_keep_58 : decode cX7_keep 58 = .ok (.getfield 90, 3) := by decide +kernel
theorem dX7_keep_61 : decode cX7_keep 61 = .ok (.iload_n 2, 1) := by decide +kernel
theorem dX7_keep_62 : decode cX7_keep 62 = .ok (.bipush 16, 2) := by decide +kernel
theorem dX7_keep_64 : decode cX7_keep 64 = .ok (.iadd, 1) := by decide +kernel
theorem dX7_keep_65 : decode cX7_keep 65 = .ok (.iload_n 3, 1) := by decide +kernel
theorem dX7_keep_66 : decode cX7_keep 66 = .ok (.iadd, 1) := by decide +kernel
theorem dX7_keep_67 : decode cX7_keep 67 = .ok (.aload_n 0, 1) := by decide +kernel
theorem dX7_keep_68 : decode cX7_keep 68 = .ok (.getfield 34, 3) := by decide +kernel
theorem dX7_keep_71 : decode cX7_keep 71 = .ok (.iload_n 3, 1) := by decide +kernel
theorem dX7_keep_72 : decode cX7_keep 72 = .ok (.iaload, 1) := by decide +kernel
theorem dX7_keep_73 : decode cX7_keep 73 = .ok (.iastore, 1) := by decide +kernel
theorem dX7_keep_74 : decode cX7_keep 74 = .ok (.iinc 3 1, 3) := by decide +kernel
theorem dX7_keep_77 : decode cX7_keep 77 = .ok (.goto (-57), 3) := by decide +kernel
theorem dX7_keep_80 : decode cX7_keep 80 = .ok (.iconst 0, 1) := by decide +kernel
theorem dX7_keep_81 : decode cX7_keep 81 = .ok (.istore_n 3, 1) := by decide +kernel
theorem dX7_keep_82 : decode cX7_keep 82 = .ok (.iload_n 3, 1) := by decide +kernel
theorem dX7_keep_83 : decode cX7_keep 83 = .ok (.bipush 30, 2) := by decide +kernel
theorem dX7_keep_85 : decode cX7_keep 85 = .ok (.if_icmp .ge 26, 3) := by decide +kernel
theorem dX7_keep_88 : decode cX7_keep 88 = .ok (.aload_n 0, 1) := by decide +kernel
theorem dX7_keep_89 : decode cX7_keep 89 = .ok (.getfield 90, 3) := by decide +kernel
theorem dX7_keep_92 : decode cX7_keep 92 = .ok (.iload_n 2, 1) := by decide +kernel
theorem dX7_keep_93 : decode cX7_keep 93 = .ok (.bipush 24, 2) := by decide +kernel
theorem dX7_keep_95 : decode cX7_keep 95 = .ok (.iadd, 1) := by decide +kernel
theorem dX7_keep_96 : decode cX7_keep 96 = .ok (.iload_n 3, 1) := by decide +kernel
theorem dX7_keep_97 : decode cX7_keep 97 = .ok (.iadd, 1) := by decide +kernel
theorem dX7_keep_98 : decode cX7_keep 98 = .ok (.aload_n 0, 1) := by decide +kernel
theorem dX7_keep_99 : decode cX7_keep 99 = .ok (.getfield 22, 3) := by decide +kernel
theorem dX7_keep_102 : decode cX7_keep 102 = .ok (.iload_n 3, 1) := by decide +kernel
theorem dX7_keep_103 : decode cX7_keep 103 = .ok (.iaload, 1) := by decide +kernel
theorem dX7_keep_104 : decode cX7_keep 104 = .ok (.iastore, 1) := by decide +kernel
theorem dX7_keep_105 : decode cX7_keep 105 = .ok (.iinc 3 1, 3) := by decide +kernel
theorem dX7_keep_108 : decode cX7_keep 108 = .ok (.goto (-26), 3) := by decide +kernel
theorem dX7_keep_111 : decode cX7_keep 111 = .ok (.iconst 0, 1) := by decide +kernel
theorem dX7_keep_112 : decode cX7_keep 112 = .ok (.istore_n 3, 1) := by decide +kernel
theorem dX7_keep_113 : decode cX7_keep 113 = .ok (.iload_n 3, 1) := by decide +kernel
theorem dX7_keep_114 : decode cX7_keep 114 = .ok (.bipush 10, 2) := by decide +kernel
theorem dX7_keep_116 : decode cX7_keep 116 = .ok (.if_icmp .ge 26, 3) := by decide +kernel
theorem dX7_keep_119 : decode cX7_keep 119 = .ok (.aload_n 0, 1) := by decide +kernel
theorem dX7_keep_120 : decode cX7_keep 120 = .ok (.getfield 90, 3) := by decide +kernel
theorem dX7_keep_123 : decode cX7_keep 123 = .ok (.iload_n 2, 1) := by decide +kernel
theorem dX7_keep_124 : decode cX7_keep 124 = .ok (.bipush 54, 2) := by decide +kernel
theorem dX7_keep_126 : decode cX7_keep 126 = .ok (.iadd, 1) := by decide +kernel
theorem dX7_keep_127 : decode cX7_keep 127 = .ok (.iload_n 3, 1) := by decide +kernel
theorem dX7_keep_128 : decode cX7_keep 128 = .ok (.iadd, 1) := by decide +kernel
theorem dX7_keep_129 : decode cX7_keep 129 = .ok (.aload_n 0, 1) := by decide +kernel
theorem dX7_keep_130 : decode cX7_keep 130 = .ok (.getfield 25, 3) := by decide +kernel
theorem dX7_keep_133 : decode cX7_keep 133 = .ok (.iload_n 3, 1) := by decide +kernel
theorem dX7_keep_134 : decode cX7_keep 134 = .ok (.iaload, 1) := by decide +kernel
theorem dX7_keep_135 : decode cX7_keep 135 = .ok (.iastore, 1) := by decide +kernel
theorem dX7_keep_136 : decode cX7_keep 136 = .ok (.iinc 3 1, 3) := by decide +kernel
theorem dX7_keep_139 : decode cX7_keep 139 = .ok (.goto (-26), 3) := by decide +kernel
theorem dX7_keep_142 : decode cX7_keep 142 = .ok (.aload_n 0, 1) := by decide +kernel
theorem dX7_keep_143 : decode cX7_keep 143 = .ok (.getfield 90, 3) := by decide +kernel
theorem dX7_keep_146 : decode cX7_keep 146 = .ok (.iload_n 2, 1) := by decide +kernel
theorem dX7_keep_147 : decode cX7_keep 147 = .ok (.bipush 64, 2) := by decide +kernel
theorem dX7_keep_149 : decode cX7_keep 149 = .ok (.iadd, 1) := by decide +kernel
theorem dX7_keep_150 : decode cX7_keep 150 = .ok (.aload_n 0, 1) := by decide +kernel
theorem dX7_keep_151 : decode cX7_keep 151 = .ok (.getfield 106, 3) := by decide +kernel
theorem dX7_keep_154 : decode cX7_keep 154 = .ok (.iastore, 1) := by decide +kernel
theorem dX7_keep_155 : decode cX7_keep 155 = .ok (.aload_n 0, 1) := by decide +kernel
theorem dX7_keep_156 : decode cX7_keep 156 = .ok (.getfield 90, 3) := by decide +kernel
theorem dX7_keep_159 : decode cX7_keep 159 = .ok (.iload_n 2, 1) := by decide +kernel
theorem dX7_keep_160 : decode cX7_keep 160 = .ok (.bipush 65, 2) := by decide +kernel
theorem dX7_keep_162 : decode cX7_keep 162 = .ok (.iadd, 1) := by decide +kernel
theorem dX7_keep_163 : decode cX7_keep 163 = .ok (.aload_n 0, 1) := by decide +kernel
theorem dX7_keep_164 : decode cX7_keep 164 = .ok (.getfield 204, 3) := by decide +kernel
theorem dX7_keep_167 : decode cX7_keep 167 = .ok (.iastore, 1) := by decide +kernel
theorem dX7_keep_168 : decode cX7_keep 168 = .ok (.aload_n 0, 1) := by decide +kernel
theorem dX7_keep_169 : decode cX7_keep 169 = .ok (.getfield 90, 3) := by decide +kernel
theorem dX7_keep_172 : decode cX7_keep 172 = .ok (.iload_n 2, 1) := by decide +kernel
theorem dX7_keep_173 : decode cX7_keep 173 = .ok (.bipush 66, 2) := by decide +kernel
theorem dX7_keep_175 : decode cX7_keep 175 = .ok (.iadd, 1) := by decide +kernel
theorem dX7_keep_176 : decode cX7_keep 176 = .ok (.aload_n 0, 1) := by decide +kernel
theorem dX7_keep_177 : decode cX7_keep 177 = .ok (.getfield 250, 3) := by decide +kernel
theorem dX7_keep_180 : decode cX7_keep 180 = .ok (.iastore, 1) := by decide +kernel
theorem dX7_keep_181 : decode cX7_keep 181 = .ok (.aload_n 0, 1) := by decide +kernel
theorem dX7_keep_182 : decode cX7_keep 182 = .ok (.getfield 93, 3) := by decide +kernel
theorem dX7_keep_185 : decode cX7_keep 185 = .ok (.iload_n 1, 1) := by decide +kernel
theorem dX7_keep_186 : decode cX7_keep 186 = .ok (.iconst 1, 1) := by decide +kernel
theorem dX7_keep_187 : decode cX7_keep 187 = .ok (.bastore, 1) := by decide +kernel
theorem dX7_keep_188 : decode cX7_keep 188 = .ok (.iconst 1, 1) := by decide +kernel
theorem dX7_keep_189 : decode cX7_keep 189 = .ok (.ireturn, 1) := by decide +kernel
set_option maxRecDepth 20000 in
theorem ggX7_goBack_X7_in : GoodIn wsX7_goBack wsX7_in := goodIn_r _ [16] (by decide +kernel) (by decide +kernel)
set_option maxRecDepth 20000 in
theorem gX7_goBack_X7_in : GoodIn wsX7_goBack (va_wsS RX7 99 yX7_in wsX7_in) := goodIn_app (goodIn_of _ (by decide +kernel)) ggX7_goBack_X7_in
theorem dX7_goBack_0 : decode cX7_goBack 0 = .ok (.iload_n 1, 1) := by decide +kernel
theorem dX7_goBack_1 : decode cX7_goBack 1 = .ok (.i2l, 1) := by decide +kernel
theorem dX7_goBack_2 : decode cX7_goBack 2 = .ok (.lconst 0, 1) := by decide +kernel
theorem dX7_goBack_3 : decode cX7_goBack 3 = .ok (.lconst 1, 1) := by decide +kernel
theorem dX7_goBack_4 : decode cX7_goBack 4 = .ok (.invokestatic 99, 3) := by decide +kernel
theorem dX7_goBack_7 : decode cX7_goBack 7 = .ok (.ifCond .ne 6, 3) := by decide +kernel
theorem dX7_goBack_10 : decode cX7_goBack 10 = .ok (.ldc 221, 2) := by decide +kernel
theorem dX7_goBack_12 : decode cX7_goBack 12 = .ok (.ireturn, 1) := by decide +kernel
theorem dX7_goBack_13 : decode cX7_goBack 13 = .ok (.aload_n 0, 1) := by decide +kernel
theorem dX7_goBack_14 : decode cX7_goBack 14 = .ok (.getfield 93, 3) := by decide +kernel
theorem dX7_goBack_17 : decode cX7_goBack 17 = .ok (.iload_n 1, 1) := by decide +kernel
theorem dX7_goBack_18 : decode cX7_goBack 18 = .ok (.baload, 1) := by decide +kernel
theorem dX7_goBack_19 : decode cX7_goBack 19 = .ok (.ifCond .ne 6, 3) := by decide +kernel
theorem dX7_goBack_22 : decode cX7_goBack 22 = .ok (.ldc 243, 2) := by decide +kernel
theorem dX7_goBack_24 : decode cX7_goBack 24 = .ok (.ireturn, 1) := by decide +kernel
theorem dX7_goBack_25 : decode cX7_goBack 25 = .ok (.bipush 70, 2) := by decide +kernel
theorem dX7_goBack_27 : decode cX7_goBack 27 = .ok (.iload_n 1, 1) := by decide +kernel
theorem dX7_goBack_28 : decode cX7_goBack 28 = .ok (.imul, 1) := by decide +kernel
theorem dX7_goBack_29 : decode cX7_goBack 29 = .ok (.istore_n 2, 1) := by decide +kernel
theorem dX7_goBack_30 : decode cX7_goBack 30 = .ok (.iconst 0, 1) := by decide +kernel
theorem dX7_goBack_31 : decode cX7_goBack 31 = .ok (.istore_n 3, 1) := by decide +kernel
theorem dX7_goBack_32 : decode cX7_goBack 32 = .ok (.iload_n 3, 1) := by decide +kernel
theorem dX7_goBack_33 : decode cX7_goBack 33 = .ok (.bipush 8, 2) := by decide +kernel
theorem dX7_goBack_35 : decode cX7_goBack 35 = .ok (.if_icmp .ge 57, 3) := by decide +kernel
theorem dX7_goBack_38 : decode cX7_goBack 38 = .ok (.aload_n 0, 1) := by decide +kernel
theorem dX7_goBack_39 : decode cX7_goBack 39 = .ok (.getfield 28, 3) := by decide +kernel
theorem dX7_goBack_42 : decode cX7_goBack 42 = .ok (.iload_n 3, 1) := by decide +kernel
theorem dX7_goBack_43 : decode cX7_goBack 43 = .ok (.aload_n 0, 1) := by decide +kernel
theorem dX7_goBack_44 : decode cX7_goBack 44 = .ok (.getfield 90, 3) := by decide +kernel
theorem dX7_goBack_47 : decode cX7_goBack 47 = .ok (.iload_n 2, 1) := by decide +kernel
theorem dX7_goBack_48 : decode cX7_goBack 48 = .ok (.iload_n 3, 1) := by decide +kernel
theorem dX7_goBack_49 : decode cX7_goBack 49 = .ok (.iadd, 1) := by decide +kernel
theorem dX7_goBack_50 : decode cX7_goBack 50 = .ok (.iaload, 1) := by decide +kernel
theorem dX7_goBack_51 : decode cX7_goBack 51 = .ok (.iastore, 1) := by decide +kernel
theorem dX7_goBack_52 : decode cX7_goBack 52 = .ok (.aload_n 0, 1) := by decide +kernel
theorem dX7_goBack_53 : decode cX7_goBack 53 = .ok (.getfield 31, 3) := by decide +kernel
theorem dX7_goBack_56 : decode cX7_goBack 56 = .ok (.iload_n 3, 1) := by decide +kernel
theorem dX7_goBack_57 : decode cX7_goBack 57 = .ok (.aload_n 0, 1) := by decide +kernel
theorem dX7_goBack_58 : decode cX7_goBack 58 = .ok (.getfield 90, 3) := by decide +kernel
theorem dX7_goBack_61 : decode cX7_goBack 61 = .ok (.iload_n 2, 1) := by decide +kernel
theorem dX7_goBack_62 : decode cX7_goBack 62 = .ok (.bipush 8, 2) := by decide +kernel
theorem dX7_goBack_64 : decode cX7_goBack 64 = .ok (.iadd, 1) := by decide +kernel
theorem dX7_goBack_65 : decode cX7_goBack 65 = .ok (.iload_n 3, 1) := by decide +kernel
theorem dX7_goBack_66 : decode cX7_goBack 66 = .ok (.iadd, 1) := by decide +kernel
theorem dX7_goBack_67 : decode cX7_goBack 67 = .ok (.iaload, 1) := by decide +kernel
theorem dX7_goBack_68 : decode cX7_goBack 68 = .ok (.iastore, 1) := by decide +kernel
theorem dX7_goBack_69 : decode cX7_goBack 69 = .ok (.aload_n 0, 1) := by decide +kernel
theorem dX7_goBack_70 : decode cX7_goBack 70 = .ok (.getfield 34, 3) := by decide +kernel
theorem dX7_goBack_73 : decode cX7_goBack 73 = .ok (.iload_n 3, 1) := by decide +kernel
theorem dX7_goBack_74 : decode cX7_goBack 74 = .ok (.aload_n 0, 1) := by decide +kernel
theorem dX7_goBack_75 : decode cX7_goBack 75 = .ok (.getfield 90, 3) := by decide +kernel
theorem dX7_goBack_78 : decode cX7_goBack 78 = .ok (.iload_n 2, 1) := by decide +kernel
theorem dX7_goBack_79 : decode cX7_goBack 79 = .ok (.bipush 16, 2) := by decide +kernel
theorem dX7_goBack_81 : decode cX7_goBack 81 = .ok (.iadd, 1) := by decide +kernel
theorem dX7_goBack_82 : decode cX7_goBack 82 = .ok (.iload_n 3, 1) := by decide +kernel
theorem dX7_goBack_83 : decode cX7_goBack 83 = .ok (.iadd, 1) := by decide +kernel
theorem dX7_goBack_84 : decode cX7_goBack 84 = .ok (.iaload, 1) := by decide +kernel
theorem dX7_goBack_85 : decode cX7_goBack 85 = .ok (.iastore, 1) := by decide +kernel
theorem dX7_goBack_86 : decode cX7_goBack 86 = .ok (.iinc 3 1, 3) := by decide +kernel
theorem dX7_goBack_89 : decode cX7_goBack 89 = .ok (.goto (-57), 3) := by decide +kernel
theorem dX7_goBack_92 : decode cX7_goBack 92 = .ok (.iconst 0, 1) := by decide +kernel
theorem dX7_goBack_93 : decode cX7_goBack 93 = .ok (.istore_n 3, 1) := by decide +kernel
theorem dX7_goBack_94 : decode cX7_goBack 94 = .ok (.iload_n 3, 1) := by decide +kernel
theorem dX7_goBack_95 : decode cX7_goBack 95 = .ok (.bipush 30, 2) := by decide +kernel
theorem dX7_goBack_97 : decode cX7_goBack 97 = .ok (.if_icmp .ge 26, 3) := by decide +kernel
theorem dX7_goBack_100 : decode cX7_goBack 100 = .ok (.aload_n 0, 1) := by decide +kernel
theorem dX7_goBack_101 : decode cX7_goBack 101 = .ok (.getfield 22, 3) := by decide +kernel
theorem dX7_goBack_104 : decode cX7_goBack 104 = .ok (.iload_n 3, 1) := by decide +kernel
theorem dX7_goBack_105 : decode cX7_goBack 105 = .ok (.aload_n 0, 1) := by decide +kernel
theorem dX7_goBack_106 : decode cX7_goBack 106 = .ok (.getfield 90, 3) := by decide +kernel
theorem dX7_goBack_109 : decode cX7_goBack 109 = .ok (.iload_n 2, 1) := by decide +kernel
theorem dX7_goBack_110 : decode cX7_goBack 110 = .ok (.bipush 24, 2) := by decide +kernel
theorem dX7_goBack_112 : decode cX7_goBack 112 = .ok (.iadd, 1) := by decide +kernel
theorem dX7_goBack_113 : decode cX7_goBack 113 = .ok (.iload_n 3, 1) := by decide +kernel
theorem dX7_goBack_114 : decode cX7_goBack 114 = .ok (.iadd, 1) := by decide +kernel
theorem dX7_goBack_115 : decode cX7_goBack 115 = .ok (.iaload, 1) := by decide +kernel
theorem dX7_goBack_116 : decode cX7_goBack 116 = .ok (.iastore, 1) := by decide +kernel
theorem dX7_goBack_117 : decode cX7_goBack 117 = .ok (.iinc 3 1, 3) := by decide +kernel
theorem dX7_goBack_120 : decode cX7_goBack 120 = .ok (.goto (-26), 3) := by decide +kernel
theorem dX7_goBack_123 : decode cX7_goBack 123 = .ok (.iconst 0, 1) := by decide +kernel
theorem dX7_goBack_124 : decode cX7_goBack 124 = .ok (.istore_n 3, 1) := by decide +kernel
theorem dX7_goBack_125 : decode cX7_goBack 125 = .ok (.iload_n 3, 1) := by decide +kernel
theorem dX7_goBack_126 : decode cX7_goBack 126 = .ok (.bipush 10, 2) := by decide +kernel
theorem dX7_goBack_128 : decode cX7_goBack 128 = .ok (.if_icmp .ge 26, 3) := by decide +kernel
theorem dX7_goBack_131 : decode cX7_goBack 131 = .ok (.aload_n 0, 1) := by decide +kernel
theorem dX7_goBack_132 : decode cX7_goBack 132 = .ok (.getfield 25, 3) := by decide +kernel
theorem dX7_goBack_135 : decode cX7_goBack 135 = .ok (.iload_n 3, 1) := by decide +kernel
theorem dX7_goBack_136 : decode cX7_goBack 136 = .ok (.aload_n 0, 1) := by decide +kernel
theorem dX7_goBack_137 : decode cX7_goBack 137 = .ok (.getfield 90, 3) := by decide +kernel
theorem dX7_goBack_140 : decode cX7_goBack 140 = .ok (.iload_n 2, 1) := by decide +kernel
theorem dX7_goBack_141 : decode cX7_goBack 141 = .ok (.bipush 54, 2) := by decide +kernel
theorem dX7_goBack_143 : decode cX7_goBack 143 = .ok (.iadd, 1) := by decide +kernel
theorem dX7_goBack_144 : decode cX7_goBack 144 = .ok (.iload_n 3, 1) := by decide +kernel
theorem dX7_goBack_145 : decode cX7_goBack 145 = .ok (.iadd, 1) := by decide +kernel
theorem dX7_goBack_146 : decode cX7_goBack 146 = .ok (.iaload, 1) := by decide +kernel
theorem dX7_goBack_147 : decode cX7_goBack 147 = .ok (.iastore, 1) := by decide +kernel
theorem dX7_goBack_148 : decode cX7_goBack 148 = .ok (.iinc 3 1, 3) := by decide +kernel
theorem dX7_goBack_151 : decode cX7_goBack 151 = .ok (.goto (-26), 3) := by decide +kernel
theorem dX7_goBack_154 : decode cX7_goBack 154 = .ok (.aload_n 0, 1) := by decide +kernel
theorem dX7_goBack_155 : decode cX7_goBack 155 = .ok (.aload_n 0, 1) := by decide +kernel
theorem dX7_goBack_156 : decode cX7_goBack 156 = .ok (.getfield 90, 3) := by decide +kernel
theorem dX7_goBack_159 : decode cX7_goBack 159 = .ok (.iload_n 2, 1) := by decide +kernel
theorem dX7_goBack_160 : decode cX7_goBack 160 = .ok (.bipush 64, 2) := by decide +kernel
theorem dX7_goBack_162 : decode cX7_goBack 162 = .ok (.iadd, 1) := by decide +kernel
theorem dX7_goBack_163 : decode cX7_goBack 163 = .ok (.iaload, 1) := by decide +kernel
theorem dX7_goBack_164 : decode cX7_goBack 164 = .ok (.putfield 106, 3) := by decide +kernel
theorem dX7_goBack_167 : decode cX7_goBack 167 = .ok (.aload_n 0, 1) := by decide +kernel
theorem dX7_goBack_168 : decode cX7_goBack 168 = .ok (.aload_n 0, 1) := by decide +kernel
theorem dX7_goBack_169 : decode cX7_goBack 169 = .ok (.getfield 90, 3) := by decide +kernel
theorem dX7_goBack_172 : decode cX7_goBack 172 = .ok (.iload_n 2, 1) := by decide +kernel
theorem dX7_goBack_173 : decode cX7_goBack 173 = .ok (.bipush 65, 2) := by decide +kernel
theorem dX7_goBack_175 : decode cX7_goBack 175 = .ok (.iadd, 1) := by decide +kernel
theorem dX7_goBack_176 : decode cX7_goBack 176 = .ok (.iaload, 1) := by decide +kernel
theorem dX7_goBack_177 : decode cX7_goBack 177 = .ok (.putfield 204, 3) := by decide +kernel
theorem dX7_goBack_180 : decode cX7_goBack 180 = .ok (.aload_n 0, 1) := by decide +kernel
theorem dX7_goBack_181 : decode cX7_goBack 181 = .ok (.aload_n 0, 1) := by decide +kernel
theorem dX7_goBack_182 : decode cX7_goBack 182 = .ok (.getfield 90, 3) := by decide +kernel
theorem dX7_goBack_185 : decode cX7_goBack 185 = .ok (.iload_n 2, 1) := by decide +kernel
theorem dX7_goBack_186 : decode cX7_goBack 186 = .ok (.bipush 66, 2) := by decide +kernel
theorem dX7_goBack_188 : decode cX7_goBack 188 = .ok (.iadd, 1) := by decide +kernel
theorem dX7_goBack_189 : decode cX7_goBack 189 = .ok (.iaload, 1) := by decide +kernel
theorem dX7_goBack_190 : decode cX7_goBack 190 = .ok (.putfield 250, 3) := by decide +kernel
theorem dX7_goBack_193 : decode cX7_goBack 193 = .ok (.iconst 1, 1) := by decide +kernel
theorem dX7_goBack_194 : decode cX7_goBack 194 = .ok (.ireturn, 1) := by decide +kernel
