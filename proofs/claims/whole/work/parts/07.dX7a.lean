theorem dX7_init_0 : decode cX7_init 0 = .ok (.aload_n 0, 1) := by decide +kernel
theorem dX7_init_1 : decode cX7_init 1 = .ok (.invokespecial 1, 3) := by decide +kernel
theorem dX7_init_4 : decode cX7_init 4 = .ok (.aload_n 0, 1) := by decide +kernel
theorem dX7_init_5 : decode cX7_init 5 = .ok (.bipush 10, 2) := by decide +kernel
theorem dX7_init_7 : decode cX7_init 7 = .ok (.newarray .int, 2) := by decide +kernel
theorem dX7_init_9 : decode cX7_init 9 = .ok (.putfield 7, 3) := by decide +kernel
theorem dX7_init_12 : decode cX7_init 12 = .ok (.aload_n 0, 1) := by decide +kernel
theorem dX7_init_13 : decode cX7_init 13 = .ok (.bipush 10, 2) := by decide +kernel
theorem dX7_init_15 : decode cX7_init 15 = .ok (.newarray .int, 2) := by decide +kernel
theorem dX7_init_17 : decode cX7_init 17 = .ok (.putfield 13, 3) := by decide +kernel
theorem dX7_init_20 : decode cX7_init 20 = .ok (.aload_n 0, 1) := by decide +kernel
theorem dX7_init_21 : decode cX7_init 21 = .ok (.bipush 10, 2) := by decide +kernel
theorem dX7_init_23 : decode cX7_init 23 = .ok (.newarray .int, 2) := by decide +kernel
theorem dX7_init_25 : decode cX7_init 25 = .ok (.putfield 16, 3) := by decide +kernel
theorem dX7_init_28 : decode cX7_init 28 = .ok (.aload_n 0, 1) := by decide +kernel
theorem dX7_init_29 : decode cX7_init 29 = .ok (.bipush 10, 2) := by decide +kernel
theorem dX7_init_31 : decode cX7_init 31 = .ok (.newarray .int, 2) := by decide +kernel
theorem dX7_init_33 : decode cX7_init 33 = .ok (.putfield 19, 3) := by decide +kernel
theorem dX7_init_36 : decode cX7_init 36 = .ok (.aload_n 0, 1) := by decide +kernel
theorem dX7_init_37 : decode cX7_init 37 = .ok (.bipush 30, 2) := by decide +kernel
theorem dX7_init_39 : decode cX7_init 39 = .ok (.newarray .int, 2) := by decide +kernel
theorem dX7_init_41 : decode cX7_init 41 = .ok (.putfield 22, 3) := by decide +kernel
theorem dX7_init_44 : decode cX7_init 44 = .ok (.aload_n 0, 1) := by decide +kernel
theorem dX7_init_45 : decode cX7_init 45 = .ok (.bipush 10, 2) := by decide +kernel
theorem dX7_init_47 : decode cX7_init 47 = .ok (.newarray .int, 2) := by decide +kernel
theorem dX7_init_49 : decode cX7_init 49 = .ok (.putfield 25, 3) := by decide +kernel
theorem dX7_init_52 : decode cX7_init 52 = .ok (.aload_n 0, 1) := by decide +kernel
theorem dX7_init_53 : decode cX7_init 53 = .ok (.bipush 8, 2) := by decide +kernel
theorem dX7_init_55 : decode cX7_init 55 = .ok (.newarray .int, 2) := by decide +kernel
theorem dX7_init_57 : decode cX7_init 57 = .ok (.putfield 28, 3) := by decide +kernel
theorem dX7_init_60 : decode cX7_init 60 = .ok (.aload_n 0, 1) := by decide +kernel
theorem dX7_init_61 : decode cX7_init 61 = .ok (.bipush 8, 2) := by decide +kernel
theorem dX7_init_63 : decode cX7_init 63 = .ok (.newarray .int, 2) := by decide +kernel
theorem dX7_init_65 : decode cX7_init 65 = .ok (.putfield 31, 3) := by decide +kernel
theorem dX7_init_68 : decode cX7_init 68 = .ok (.aload_n 0, 1) := by decide +kernel
theorem dX7_init_69 : decode cX7_init 69 = .ok (.bipush 8, 2) := by decide +kernel
theorem dX7_init_71 : decode cX7_init 71 = .ok (.newarray .int, 2) := by decide +kernel
theorem dX7_init_73 : decode cX7_init 73 = .ok (.putfield 34, 3) := by decide +kernel
theorem dX7_init_76 : decode cX7_init 76 = .ok (.aload_n 0, 1) := by decide +kernel
theorem dX7_init_77 : decode cX7_init 77 = .ok (.sipush 500, 3) := by decide +kernel
theorem dX7_init_80 : decode cX7_init 80 = .ok (.newarray .int, 2) := by decide +kernel
theorem dX7_init_82 : decode cX7_init 82 = .ok (.putfield 37, 3) := by decide +kernel
theorem dX7_init_85 : decode cX7_init 85 = .ok (.aload_n 0, 1) := by decide +kernel
theorem dX7_init_86 : decode cX7_init 86 = .ok (.iconst (-1), 1) := by decide +kernel
theorem dX7_init_87 : decode cX7_init 87 = .ok (.putfield 40, 3) := by decide +kernel
theorem dX7_init_90 : decode cX7_init 90 = .ok (.aload_n 0, 1) := by decide +kernel
theorem dX7_init_91 : decode cX7_init 91 = .ok (.bipush 10, 2) := by decide +kernel
theorem dX7_init_93 : decode cX7_init 93 = .ok (.newarray .int, 2) := by decide +kernel
theorem dX7_init_95 : decode cX7_init 95 = .ok (.putfield 44, 3) := by decide +kernel
theorem dX7_init_98 : decode cX7_init 98 = .ok (.aload_n 0, 1) := by decide +kernel
theorem dX7_init_99 : decode cX7_init 99 = .ok (.bipush 10, 2) := by decide +kernel
theorem dX7_init_101 : decode cX7_init 101 = .ok (.newarray .int, 2) := by decide +kernel
theorem dX7_init_103 : decode cX7_init 103 = .ok (.putfield 47, 3) := by decide +kernel
theorem dX7_init_106 : decode cX7_init 106 = .ok (.aload_n 0, 1) := by decide +kernel
theorem dX7_init_107 : decode cX7_init 107 = .ok (.bipush 10, 2) := by decide +kernel
theorem dX7_init_109 : decode cX7_init 109 = .ok (.newarray .int, 2) := by decide +kernel
theorem dX7_init_111 : decode cX7_init 111 = .ok (.putfield 50, 3) := by decide +kernel
theorem dX7_init_114 : decode cX7_init 114 = .ok (.aload_n 0, 1) := by decide +kernel
theorem dX7_init_115 : decode cX7_init 115 = .ok (.bipush 10, 2) := by decide +kernel
theorem dX7_init_117 : decode cX7_init 117 = .ok (.newarray .int, 2) := by decide +kernel
theorem dX7_init_119 : decode cX7_init 119 = .ok (.putfield 53, 3) := by decide +kernel
theorem dX7_init_122 : decode cX7_init 122 = .ok (.aload_n 0, 1) := by decide +kernel
theorem dX7_init_123 : decode cX7_init 123 = .ok (.bipush 30, 2) := by decide +kernel
theorem dX7_init_125 : decode cX7_init 125 = .ok (.newarray .int, 2) := by decide +kernel
theorem dX7_init_127 : decode cX7_init 127 = .ok (.putfield 56, 3) := by decide +kernel
theorem dX7_init_130 : decode cX7_init 130 = .ok (.aload_n 0, 1) := by decide +kernel
theorem dX7_init_131 : decode cX7_init 131 = .ok (.bipush 8, 2) := by decide +kernel
theorem dX7_init_133 : decode cX7_init 133 = .ok (.newarray .int, 2) := by decide +kernel
theorem dX7_init_135 : decode cX7_init 135 = .ok (.putfield 59, 3) := by decide +kernel
theorem dX7_init_138 : decode cX7_init 138 = .ok (.aload_n 0, 1) := by decide +kernel
theorem dX7_init_139 : decode cX7_init 139 = .ok (.bipush 8, 2) := by decide +kernel
theorem dX7_init_141 : decode cX7_init 141 = .ok (.newarray .int, 2) := by decide +kernel
theorem dX7_init_143 : decode cX7_init 143 = .ok (.putfield 62, 3) := by decide +kernel
theorem dX7_init_146 : decode cX7_init 146 = .ok (.aload_n 0, 1) := by decide +kernel
theorem dX7_init_147 : decode cX7_init 147 = .ok (.bipush 8, 2) := by decide +kernel
theorem dX7_init_149 : decode cX7_init 149 = .ok (.newarray .int, 2) := by decide +kernel
theorem dX7_init_151 : decode cX7_init 151 = .ok (.putfield 65, 3) := by decide +kernel
theorem dX7_init_154 : decode cX7_init 154 = .ok (.aload_n 0, 1) := by decide +kernel
theorem dX7_init_155 : decode cX7_init 155 = .ok (.bipush 8, 2) := by decide +kernel
theorem dX7_init_157 : decode cX7_init 157 = .ok (.newarray .int, 2) := by decide +kernel
theorem dX7_init_159 : decode cX7_init 159 = .ok (.putfield 68, 3) := by decide +kernel
theorem dX7_init_162 : decode cX7_init 162 = .ok (.aload_n 0, 1) := by decide +kernel
theorem dX7_init_163 : decode cX7_init 163 = .ok (.bipush 20, 2) := by decide +kernel
theorem dX7_init_165 : decode cX7_init 165 = .ok (.newarray .int, 2) := by decide +kernel
theorem dX7_init_167 : decode cX7_init 167 = .ok (.putfield 71, 3) := by decide +kernel
theorem dX7_init_170 : decode cX7_init 170 = .ok (.aload_n 0, 1) := by decide +kernel
theorem dX7_init_171 : decode cX7_init 171 = .ok (.bipush 20, 2) := by decide +kernel
theorem dX7_init_173 : decode cX7_init 173 = .ok (.newarray .int, 2) := by decide +kernel
theorem dX7_init_175 : decode cX7_init 175 = .ok (.putfield 74, 3) := by decide +kernel
theorem dX7_init_178 : decode cX7_init 178 = .ok (.aload_n 0, 1) := by decide +kernel
theorem dX7_init_179 : decode cX7_init 179 = .ok (.bipush 20, 2) := by decide +kernel
theorem dX7_init_181 : decode cX7_init 181 = .ok (.newarray .boolean, 2) := by decide +kernel
theorem dX7_init_183 : decode cX7_init 183 = .ok (.putfield 77, 3) := by decide +kernel
theorem dX7_init_186 : decode cX7_init 186 = .ok (.aload_n 0, 1) := by decide +kernel
theorem dX7_init_187 : decode cX7_init 187 = .ok (.bipush 40, 2) := by decide +kernel
theorem dX7_init_189 : decode cX7_init 189 = .ok (.newarray .int, 2) := by decide +kernel
theorem dX7_init_191 : decode cX7_init 191 = .ok (.putfield 81, 3) := by decide +kernel
theorem dX7_init_194 : decode cX7_init 194 = .ok (.aload_n 0, 1) := by decide +kernel
theorem dX7_init_195 : decode cX7_init 195 = .ok (.bipush 40, 2) := by decide +kernel
theorem dX7_init_197 : decode cX7_init 197 = .ok (.newarray .int, 2) := by decide +kernel
theorem dX7_init_199 : decode cX7_init 199 = .ok (.putfield 84, 3) := by decide +kernel
theorem dX7_init_202 : decode cX7_init 202 = .ok (.aload_n 0, 1) := by decide +kernel
theorem dX7_init_203 : decode cX7_init 203 = .ok (.bipush 8, 2) := by decide +kernel
theorem dX7_init_205 : decode cX7_init 205 = .ok (.newarray .int, 2) := by decide +kernel
theorem dX7_init_207 : decode cX7_init 207 = .ok (.putfield 87, 3) := by decide +kernel
theorem dX7_init_210 : decode cX7_init 210 = .ok (.aload_n 0, 1) := by decide +kernel
theorem dX7_init_211 : decode cX7_init 211 = .ok (.sipush 140, 3) := by decide +kernel
theorem dX7_init_214 : decode cX7_init 214 = .ok (.newarray .int, 2) := by decide +kernel
theorem dX7_init_216 : decode cX7_init 216 = .ok (.putfield 90, 3) := by decide +kernel
theorem dX7_init_219 : decode cX7_init 219 = .ok (.aload_n 0, 1) := by decide +kernel
theorem dX7_init_220 : decode cX7_init 220 = .ok (.iconst 2, 1) := by decide +kernel
theorem dX7_init_221 : decode cX7_init 221 = .ok (.newarray .boolean, 2) := by decide +kernel
theorem dX7_init_223 : decode cX7_init 223 = .ok (.putfield 93, 3) := by decide +kernel
theorem dX7_init_226 : decode cX7_init 226 = .ok (.aload_n 0, 1) := by decide +kernel
theorem dX7_init_227 : decode cX7_init 227 = .ok (.iconst 0, 1) := by decide +kernel
theorem dX7_init_228 : decode cX7_init 228 = .ok (.putfield 96, 3) := by decide +kernel
theorem dX7_init_231 : decode cX7_init 231 = .ok (.return_, 1) := by decide +kernel
theorem dX7_in_0 : decode cX7_in 0 = .ok (.lload_n 0, 1) := by decide +kernel
theorem dX7_in_1 : decode cX7_in 1 = .ok (.lload_n 2, 1) := by decide +kernel
theorem dX7_in_2 : decode cX7_in 2 = .ok (.lcmp, 1) := by decide +kernel
theorem dX7_in_3 : decode cX7_in 3 = .ok (.ifCond .lt 14, 3) := by decide +kernel
theorem dX7_in_6 : decode cX7_in 6 = .ok (.lload_n 0, 1) := by decide +kernel
theorem dX7_in_7 : decode cX7_in 7 = .ok (.lload 4, 2) := by decide +kernel
theorem dX7_in_9 : decode cX7_in 9 = .ok (.lcmp, 1) := by decide +kernel
theorem dX7_in_10 : decode cX7_in 10 = .ok (.ifCond .gt 7, 3) := by decide +kernel
theorem dX7_in_13 : decode cX7_in 13 = .ok (.iconst 1, 1) := by decide +kernel
theorem dX7_in_14 : decode cX7_in 14 = .ok (.goto 4, 3) := by decide +kernel
theorem dX7_in_17 : decode cX7_in 17 = .ok (.iconst 0, 1) := by decide +kernel
theorem dX7_in_18 : decode cX7_in 18 = .ok (.ireturn, 1) := by decide +kernel
theorem dX7_has_0 : decode cX7_has 0 = .ok (.iload_n 0, 1) := by decide +kernel
theorem dX7_has_1 : decode cX7_has 1 = .ok (.iload_n 1, 1) := by decide +kernel
theorem dX7_has_2 : decode cX7_has 2 = .ok (.ishr, 1) := by decide +kernel
theorem dX7_has_3 : decode cX7_has 3 = .ok (.iconst 1, 1) := by decide +kernel
theorem dX7_has_4 : decode cX7_has 4 = .ok (.iand, 1) := by decide +kernel
theorem dX7_has_5 : decode cX7_has 5 = .ok (.iconst 1, 1) := by decide +kernel
theorem dX7_has_6 : decode cX7_has 6 = .ok (.if_icmp .ne 7, 3) := by decide +kernel
theorem dX7_has_9 : decode cX7_has 9 = .ok (.iconst 1, 1) := by decide +kernel
theorem dX7_has_10 : decode cX7_has 10 = .ok (.goto 4, 3) := by decide +kernel
theorem dX7_has_13 : decode cX7_has 13 = .ok (.iconst 0, 1) := by decide +kernel
theorem dX7_has_14 : decode cX7_has 14 = .ok (.ireturn, 1) := by decide +kernel
theorem dX7_bits_0 : decode cX7_bits 0 = .ok (.iconst 0, 1) := by decide +kernel
theorem dX7_bits_1 : decode cX7_bits 1 = .ok (.istore_n 1, 1) := by decide +kernel
theorem dX7_bits_2 : decode cX7_bits 2 = .ok (.iconst 0, 1) := by decide +kernel
theorem dX7_bits_3 : decode cX7_bits 3 = .ok (.istore_n 2, 1) := by decide +kernel
theorem dX7_bits_4 : decode cX7_bits 4 = .ok (.iload_n 2, 1) := by decide +kernel
theorem dX7_bits_5 : decode cX7_bits 5 = .ok (.bipush 24, 2) := by decide +kernel
theorem dX7_bits_7 : decode cX7_bits 7 = .ok (.if_icmp .ge 17, 3) := by decide +kernel
theorem dX7_bits_10 : decode cX7_bits 10 = .ok (.iload_n 1, 1) := by decide +kernel
theorem dX7_bits_11 : decode cX7_bits 11 = .ok (.iload_n 0, 1) := by decide +kernel
theorem dX7_bits_12 : decode cX7_bits 12 = .ok (.iload_n 2, 1) := by decide +kernel
theorem dX7_bits_13 : decode cX7_bits 13 = .ok (.ishr, 1) := by decide +kernel
theorem dX7_bits_14 : decode cX7_bits 14 = .ok (.iconst 1, 1) := by decide +kernel
theorem dX7_bits_15 : decode cX7_bits 15 = .ok (.iand, 1) := by decide +kernel
theorem dX7_bits_16 : decode cX7_bits 16 = .ok (.iadd, 1) := by decide +kernel
theorem dX7_bits_17 : decode cX7_bits 17 = .ok (.istore_n 1, 1) := by decide +kernel
theorem dX7_bits_18 : decode cX7_bits 18 = .ok (.iinc 2 1, 3) := by decide +kernel
theorem dX7_bits_21 : decode cX7_bits 21 = .ok (.goto (-17), 3) := by decide +kernel
theorem dX7_bits_24 : decode cX7_bits 24 = .ok (.iload_n 1, 1) := by decide +kernel
theorem dX7_bits_25 : decode cX7_bits 25 = .ok (.ireturn, 1) := by decide +kernel
set_option maxRecDepth 20000 in
theorem ggX7_isPlace_X7_in : GoodIn wsX7_isPlace wsX7_in := goodIn_r _ [5] (by decide +kernel) (by decide +kernel)
set_option maxRecDepth 20000 in
theorem gX7_isPlace_X7_in : GoodIn wsX7_isPlace (va_wsS RX7 99 yX7_in wsX7_in) := goodIn_app (goodIn_of _ (by decide +kernel)) ggX7_isPlace_X7_in
theorem dX7_isPlace_0 : decode cX7_isPlace 0 = .ok (.iload_n 1, 1) := by decide +kernel
theorem dX7_isPlace_1 : decode cX7_isPlace 1 = .ok (.i2l, 1) := by decide +kernel
theorem dX7_isPlace_2 : decode cX7_isPlace 2 = .ok (.lconst 0, 1) := by decide +kernel
theorem dX7_isPlace_3 : decode cX7_isPlace 3 = .ok (.aload_n 0, 1) := by decide +kernel
theorem dX7_isPlace_4 : decode cX7_isPlace 4 = .ok (.getfield 96, 3) := by decide +kernel
theorem dX7_isPlace_7 : decode cX7_isPlace 7 = .ok (.iconst 1, 1) := by decide +kernel
theorem dX7_isPlace_8 : decode cX7_isPlace 8 = .ok (.isub, 1) := by decide +kernel
theorem dX7_isPlace_9 : decode cX7_isPlace 9 = .ok (.i2l, 1) := by decide +kernel
theorem dX7_isPlace_10 : decode cX7_isPlace 10 = .ok (.invokestatic 99, 3) := by decide +kernel
theorem dX7_isPlace_13 : decode cX7_isPlace 13 = .ok (.ireturn, 1) := by decide +kernel
set_option maxRecDepth 20000 in
theorem ggX7_isStair_X7_in : GoodIn wsX7_isStair wsX7_in := goodIn_r _ [5] (by decide +kernel) (by decide +kernel)
set_option maxRecDepth 20000 in
theorem gX7_isStair_X7_in : GoodIn wsX7_isStair (va_wsS RX7 99 yX7_in wsX7_in) := goodIn_app (goodIn_of _ (by decide +kernel)) ggX7_isStair_X7_in
theorem dX7_isStair_0 : decode cX7_isStair 0 = .ok (.iload_n 1, 1) := by decide +kernel
theorem dX7_isStair_1 : decode cX7_isStair 1 = .ok (.i2l, 1) := by decide +kernel
theorem dX7_isStair_2 : decode cX7_isStair 2 = .ok (.lconst 0, 1) := by decide +kernel
theorem dX7_isStair_3 : decode cX7_isStair 3 = .ok (.aload_n 0, 1) := by decide +kernel
theorem dX7_isStair_4 : decode cX7_isStair 4 = .ok (.getfield 103, 3) := by decide +kernel
theorem dX7_isStair_7 : decode cX7_isStair 7 = .ok (.iconst 1, 1) := by decide +kernel
theorem dX7_isStair_8 : decode cX7_isStair 8 = .ok (.isub, 1) := by decide +kernel
theorem dX7_isStair_9 : decode cX7_isStair 9 = .ok (.i2l, 1) := by decide +kernel
theorem dX7_isStair_10 : decode cX7_isStair 10 = .ok (.invokestatic 99, 3) := by decide +kernel
theorem dX7_isStair_13 : decode cX7_isStair 13 = .ok (.ireturn, 1) := by decide +kernel
set_option maxRecDepth 20000 in
theorem ggX7_isPerson_X7_in : GoodIn wsX7_isPerson wsX7_in := goodIn_r _ [5] (by decide +kernel) (by decide +kernel)
set_option maxRecDepth 20000 in
theorem gX7_isPerson_X7_in : GoodIn wsX7_isPerson (va_wsS RX7 99 yX7_in wsX7_in) := goodIn_app (goodIn_of _ (by decide +kernel)) ggX7_isPerson_X7_in
theorem dX7_isPerson_0 : decode cX7_isPerson 0 = .ok (.iload_n 1, 1) := by decide +kernel
theorem dX7_isPerson_1 : decode cX7_isPerson 1 = .ok (.i2l, 1) := by decide +kernel
theorem dX7_isPerson_2 : decode cX7_isPerson 2 = .ok (.lconst 0, 1) := by decide +kernel
theorem dX7_isPerson_3 : decode cX7_isPerson 3 = .ok (.aload_n 0, 1) := by decide +kernel
theorem dX7_isPerson_4 : decode cX7_isPerson 4 = .ok (.getfield 106, 3) := by decide +kernel
theorem dX7_isPerson_7 : decode cX7_isPerson 7 = .ok (.iconst 1, 1) := by decide +kernel
theorem dX7_isPerson_8 : decode cX7_isPerson 8 = .ok (.isub, 1) := by decide +kernel
theorem dX7_isPerson_9 : decode cX7_isPerson 9 = .ok (.i2l, 1) := by decide +kernel
theorem dX7_isPerson_10 : decode cX7_isPerson 10 = .ok (.invokestatic 99, 3) := by decide +kernel
theorem dX7_isPerson_13 : decode cX7_isPerson 13 = .ok (.ireturn, 1) := by decide +kernel
set_option maxRecDepth 20000 in
theorem ggX7_feed_X7_in : GoodIn wsX7_feed wsX7_in := goodIn_r _ [10] (by decide +kernel) (by decide +kernel)
set_option maxRecDepth 20000 in
theorem gX7_feed_X7_in : GoodIn wsX7_feed (va_wsS RX7 99 yX7_in wsX7_in) := goodIn_app (goodIn_of _ (by decide +kernel)) ggX7_feed_X7_in
theorem dX7_feed_0 : decode cX7_feed 0 = .ok (.iload_n 1, 1) := by decide +kernel
theorem dX7_feed_1 : decode cX7_feed 1 = .ok (.i2l, 1) := by decide +kernel
theorem dX7_feed_2 : decode cX7_feed 2 = .ok (.lconst 1, 1) := by decide +kernel
theorem dX7_feed_3 : decode cX7_feed 3 = .ok (.ldc2_w 109, 3) := by decide +kernel
theorem dX7_feed_6 : decode cX7_feed 6 = .ok (.invokestatic 99, 3) := by decide +kernel
theorem dX7_feed_9 : decode cX7_feed 9 = .ok (.ifCond .ne 6, 3) := by decide +kernel
theorem dX7_feed_12 : decode cX7_feed 12 = .ok (.ldc 111, 2) := by decide +kernel
theorem dX7_feed_14 : decode cX7_feed 14 = .ok (.ireturn, 1) := by decide +kernel
theorem dX7_feed_15 : decode cX7_feed 15 = .ok (.aload_n 0, 1) := by decide +kernel
theorem dX7_feed_16 : decode cX7_feed 16 = .ok (.getfield 112, 3) := by decide +kernel
theorem dX7_feed_19 : decode cX7_feed 19 = .ok (.iload_n 1, 1) := by decide +kernel
theorem dX7_feed_20 : decode cX7_feed 20 = .ok (.iadd, 1) := by decide +kernel
theorem dX7_feed_21 : decode cX7_feed 21 = .ok (.sipush 500, 3) := by decide +kernel
theorem dX7_feed_24 : decode cX7_feed 24 = .ok (.if_icmp .le 6, 3) := by decide +kernel
theorem dX7_feed_27 : decode cX7_feed 27 = .ok (.ldc 115, 2) := by decide +kernel
theorem dX7_feed_29 : decode cX7_feed 29 = .ok (.ireturn, 1) := by decide +kernel
theorem dX7_feed_30 : decode cX7_feed 30 = .ok (.iload_n 1, 1) := by decide +kernel
theorem dX7_feed_31 : decode cX7_feed 31 = .ok (.iconst 1, 1) := by decide +kernel
theorem dX7_feed_32 : decode cX7_feed 32 = .ok (.isub, 1) := by decide +kernel
theorem dX7_feed_33 : decode cX7_feed 33 = .ok (.istore 4, 2) := by decide +kernel
theorem dX7_feed_35 : decode cX7_feed 35 = .ok (.iload 4, 2) := by decide +kernel
theorem dX7_feed_37 : decode cX7_feed 37 = .ok (.ifCond .lt 40, 3) := by decide +kernel
theorem dX7_feed_40 : decode cX7_feed 40 = .ok (.aload_n 0, 1) := by decide +kernel
theorem dX7_feed_41 : decode cX7_feed 41 = .ok (.getfield 37, 3) := by decide +kernel
theorem dX7_feed_44 : decode cX7_feed 44 = .ok (.aload_n 0, 1) := by decide +kernel
theorem dX7_feed_45 : decode cX7_feed 45 = .ok (.getfield 112, 3) := by decide +kernel
theorem dX7_feed_48 : decode cX7_feed 48 = .ok (.lload_n 2, 1) := by decide +kernel
theorem dX7_feed_49 : decode cX7_feed 49 = .ok (.bipush 8, 2) := by decide +kernel
theorem dX7_feed_51 : decode cX7_feed 51 = .ok (.iload 4, 2) := by decide +kernel
theorem dX7_feed_53 : decode cX7_feed 53 = .ok (.imul, 1) := by decide +kernel
theorem dX7_feed_54 : decode cX7_feed 54 = .ok (.lshr, 1) := by decide +kernel
theorem dX7_feed_55 : decode cX7_feed 55 = .ok (.ldc2_w 116, 3) := by decide +kernel
theorem dX7_feed_58 : decode cX7_feed 58 = .ok (.land, 1) := by decide +kernel
theorem dX7_feed_59 : decode cX7_feed 59 = .ok (.l2i, 1) := by decide +kernel
theorem dX7_feed_60 : decode cX7_feed 60 = .ok (.iastore, 1) := by decide +kernel
theorem dX7_feed_61 : decode cX7_feed 61 = .ok (.aload_n 0, 1) := by decide +kernel
theorem dX7_feed_62 : decode cX7_feed 62 = .ok (.dup, 1) := by decide +kernel
theorem dX7_feed_63 : decode cX7_feed 63 = .ok (.getfield 112, 3) := by decide +kernel
theorem dX7_feed_66 : decode cX7_feed 66 = .ok (.iconst 1, 1) := by decide +kernel
theorem dX7_feed_67 : decode cX7_feed 67 = .ok (.iadd, 1) := by decide +kernel
theorem dX7_feed_68 : decode cX7_feed 68 = .ok (.putfield 112, 3) := by decide +kernel
theorem dX7_feed_71 : decode cX7_feed 71 = .ok (.iinc 4 (-1), 3) := by decide +kernel
theorem dX7_feed_74 : decode cX7_feed 74 = .ok (.goto (-39), 3) := by decide +kernel
theorem dX7_feed_77 : decode cX7_feed 77 = .ok (.aload_n 0, 1) := by decide +kernel
theorem dX7_feed_78 : decode cX7_feed 78 = .ok (.getfield 112, 3) := by decide +kernel
theorem dX7_feed_81 : decode cX7_feed 81 = .ok (.ireturn, 1) := by decide +kernel
theorem dX7_here_0 : decode cX7_here 0 = .ok (.aload_n 0, 1) := by decide +kernel
theorem dX7_here_1 : decode cX7_here 1 = .ok (.getfield 118, 3) := by decide +kernel
theorem dX7_here_4 : decode cX7_here 4 = .ok (.aload_n 0, 1) := by decide +kernel
theorem dX7_here_5 : decode cX7_here 5 = .ok (.getfield 112, 3) := by decide +kernel
theorem dX7_here_8 : decode cX7_here 8 = .ok (.if_icmp .ge 30, 3) := by decide +kernel
theorem dX7_here_11 : decode cX7_here 11 = .ok (.aload_n 0, 1) := by decide +kernel
theorem dX7_here_12 : decode cX7_here 12 = .ok (.getfield 37, 3) := by decide +kernel
theorem dX7_here_15 : decode cX7_here 15 = .ok (.aload_n 0, 1) := by decide +kernel
theorem dX7_here_16 : decode cX7_here 16 = .ok (.getfield 118, 3) := by decide +kernel
theorem dX7_here_19 : decode cX7_here 19 = .ok (.iaload, 1) := by decide +kernel
theorem dX7_here_20 : decode cX7_here 20 = .ok (.bipush 32, 2) := by decide +kernel
theorem dX7_here_22 : decode cX7_here 22 = .ok (.if_icmp .ne 16, 3) := by decide +kernel
theorem dX7_here_25 : decode cX7_here 25 = .ok (.aload_n 0, 1) := by decide +kernel
theorem dX7_here_26 : decode cX7_here 26 = .ok (.dup, 1) := by decide +kernel
theorem dX7_here_27 : decode cX7_here 27 = .ok (.getfield 118, 3) := by decide +kernel
theorem dX7_here_30 : decode cX7_here 30 = .ok (.iconst 1, 1) := by decide +kernel
theorem dX7_here_31 : decode cX7_here 31 = .ok (.iadd, 1) := by decide +kernel
theorem dX7_here_32 : decode cX7_here 32 = .ok (.putfield 118, 3) := by decide +kernel
theorem dX7_here_35 : decode cX7_here 35 = .ok (.goto (-35), 3) := by decide +kernel
theorem dX7_here_38 : decode cX7_here 38 = .ok (.aload_n 0, 1) := by decide +kernel
theorem dX7_here_39 : decode cX7_here 39 = .ok (.getfield 118, 3) := by decide +kernel
theorem dX7_here_42 : decode cX7_here 42 = .ok (.aload_n 0, 1) := by decide +kernel
theorem dX7_here_43 : decode cX7_here 43 = .ok (.getfield 112, 3) := by decide +kernel
theorem dX7_here_46 : decode cX7_here 46 = .ok (.if_icmp .ge 15, 3) := by decide +kernel
theorem dX7_here_49 : decode cX7_here 49 = .ok (.aload_n 0, 1) := by decide +kernel
theorem dX7_here_50 : decode cX7_here 50 = .ok (.getfield 37, 3) := by decide +kernel
theorem dX7_here_53 : decode cX7_here 53 = .ok (.aload_n 0, 1) := by decide +kernel
theorem dX7_here_54 : decode cX7_here 54 = .ok (.getfield 118, 3) := by decide +kernel
theorem dX7_here_57 : decode cX7_here 57 = .ok (.iaload, 1) := by decide +kernel
theorem dX7_here_58 : decode cX7_here 58 = .ok (.goto 4, 3) := by decide +kernel
theorem dX7_here_61 : decode cX7_here 61 = .ok (.iconst (-1), 1) := by decide +kernel
theorem dX7_here_62 : decode cX7_here 62 = .ok (.ireturn, 1) := by decide +kernel
theorem dX7_fails_0 : decode cX7_fails 0 = .ok (.aload_n 0, 1) := by decide +kernel
theorem dX7_fails_1 : decode cX7_fails 1 = .ok (.iload_n 2, 1) := by decide +kernel
theorem dX7_fails_2 : decode cX7_fails 2 = .ok (.putfield 40, 3) := by decide +kernel
theorem dX7_fails_5 : decode cX7_fails 5 = .ok (.iload_n 1, 1) := by decide +kernel
theorem dX7_fails_6 : decode cX7_fails 6 = .ok (.ireturn, 1) := by decide +kernel
set_option maxRecDepth 20000 in
theorem ggX7_readWord_X7_here : GoodIn wsX7_readWord wsX7_here := goodIn_r _ [16, 2, 4, 5, 20, 21, 22, 23, 24, 25, 26, 27, 28, 29, 30, 31, 32, 33, 34, 35, 36, 37, 38, 39, 40, 41, 42, 43, 44, 45, 46, 47, 48, 49, 50, 51, 52, 53, 54, 55, 56, 57, 58, 59, 60, 61, 62, 63] (by decide +kernel) (by decide +kernel)
set_option maxRecDepth 20000 in
theorem gX7_readWord_X7_here : GoodIn wsX7_readWord (wsV RX7 121 RX7 yX7_here wsX7_here) := goodIn_app (goodIn_of _ (by decide +kernel)) ggX7_readWord_X7_here
set_option maxRecDepth 20000 in
theorem ggX7_readWord_X7_in : GoodIn wsX7_readWord wsX7_in := goodIn_r _ [19] (by decide +kernel) (by decide +kernel)
set_option maxRecDepth 20000 in
theorem gX7_readWord_X7_in : GoodIn wsX7_readWord (va_wsS RX7 99 yX7_in wsX7_in) := goodIn_app (goodIn_of _ (by decide +kernel)) ggX7_readWord_X7_in
theorem dX7_readWord_0 : decode cX7_readWord 0 = .ok (.aload_n 0, 1) := by decide +kernel
theorem dX7_readWord_1 : decode cX7_readWord 1 = .ok (.invokevirtual 121, 3) := by decide +kernel
theorem dX7_readWord_4 : decode cX7_readWord 4 = .ok (.istore_n 1, 1) := by decide +kernel
theorem dX7_readWord_5 : decode cX7_readWord 5 = .ok (.aload_n 0, 1) := by decide +kernel
theorem dX7_readWord_6 : decode cX7_readWord 6 = .ok (.lconst 0, 1) := by decide +kernel
theorem dX7_readWord_7 : decode cX7_readWord 7 = .ok (.putfield 125, 3) := by decide +kernel
theorem dX7_readWord_10 : decode cX7_readWord 10 = .ok (.aload_n 0, 1) := by decide +kernel
theorem dX7_readWord_11 : decode cX7_readWord 11 = .ok (.aload_n 0, 1) := by decide +kernel
theorem dX7_readWord_12 : decode cX7_readWord 12 = .ok (.getfield 118, 3) := by decide +kernel
theorem dX7_readWord_15 : decode cX7_readWord 15 = .ok (.putfield 129, 3) := by decide +kernel
theorem dX7_readWord_18 : decode cX7_readWord 18 = .ok (.aload_n 0, 1) := by decide +kernel
theorem dX7_readWord_19 : decode cX7_readWord 19 = .ok (.getfield 129, 3) := by decide +kernel
theorem dX7_readWord_22 : decode cX7_readWord 22 = .ok (.aload_n 0, 1) := by decide +kernel
theorem dX7_readWord_23 : decode cX7_readWord 23 = .ok (.getfield 112, 3) := by decide +kernel
theorem dX7_readWord_26 : decode cX7_readWord 26 = .ok (.if_icmp .ge 82, 3) := by decide +kernel
theorem dX7_readWord_29 : decode cX7_readWord 29 = .ok (.aload_n 0, 1) := by decide +kernel
theorem dX7_readWord_30 : decode cX7_readWord 30 = .ok (.getfield 37, 3) := by decide +kernel
theorem dX7_readWord_33 : decode cX7_readWord 33 = .ok (.aload_n 0, 1) := by decide +kernel
theorem dX7_readWord_34 : decode cX7_readWord 34 = .ok (.getfield 129, 3) := by decide +kernel
theorem dX7_readWord_37 : decode cX7_readWord 37 = .ok (.iaload, 1) := by decide +kernel
theorem dX7_readWord_38 : decode cX7_readWord 38 = .ok (.i2l, 1) := by decide +kernel
theorem dX7_readWord_39 : decode cX7_readWord 39 = .ok (.ldc2_w 132, 3) := by decide +kernel
theorem dX7_readWord_42 : decode cX7_readWord 42 = .ok (.ldc2_w 134, 3) := by decide +kernel
theorem dX7_readWord_45 : decode cX7_readWord 45 = .ok (.invokestatic 99, 3) := by decide +kernel
theorem dX7_readWord_48 : decode cX7_readWord 48 = .ok (.ifCond .eq 60, 3) := by decide +kernel
theorem dX7_readWord_51 : decode cX7_readWord 51 = .ok (.aload_n 0, 1) := by decide +kernel
theorem dX7_readWord_52 : decode cX7_readWord 52 = .ok (.aload_n 0, 1) := by decide +kernel
theorem dX7_readWord_53 : decode cX7_readWord 53 = .ok (.getfield 125, 3) := by decide +kernel
theorem dX7_readWord_56 : decode cX7_readWord 56 = .ok (.ldc2_w 136, 3) := by decide +kernel
theorem dX7_readWord_59 : decode cX7_readWord 59 = .ok (.lcmp, 1) := by decide +kernel
theorem dX7_readWord_60 : decode cX7_readWord 60 = .ok (.ifCond .le 9, 3) := by decide +kernel
theorem dX7_readWord_63 : decode cX7_readWord 63 = .ok (.ldc2_w 138, 3) := by decide +kernel
theorem dX7_readWord_66 : decode cX7_readWord 66 = .ok (.goto 26, 3) := by decide +kernel
theorem dX7_readWord_69 : decode cX7_readWord 69 = .ok (.ldc2_w 140, 3) := by decide +kernel
theorem dX7_readWord_72 : decode cX7_readWord 72 = .ok (.aload_n 0, 1) := by decide +kernel
theorem dX7_readWord_73 : decode cX7_readWord 73 = .ok (.getfield 125, 3) := by decide +kernel
theorem dX7_readWord_76 : decode cX7_readWord 76 = .ok (.lmul, 1) := by decide +kernel
theorem dX7_readWord_77 : decode cX7_readWord 77 = .ok (.aload_n 0, 1) := by decide +kernel
theorem dX7_readWord_78 : decode cX7_readWord 78 = .ok (.getfield 37, 3) := by decide +kernel
theorem dX7_readWord_81 : decode cX7_readWord 81 = .ok (.aload_n 0, 1) := by decide +kernel
theorem dX7_readWord_82 : decode cX7_readWord 82 = .ok (.getfield 129, 3) := by decide +kernel
theorem dX7_readWord_85 : decode cX7_readWord 85 = .ok (.iaload, 1) := by decide +kernel
theorem dX7_readWord_86 : decode cX7_readWord 86 = .ok (.i2l, 1) := by decide +kernel
theorem dX7_readWord_87 : decode cX7_readWord 87 = .ok (.ladd, 1) := by decide +kernel
theorem dX7_readWord_88 : decode cX7_readWord 88 = .ok (.ldc2_w 142, 3) := by decide +kernel
theorem dX7_readWord_91 : decode cX7_readWord 91 = .ok (.lsub, 1) := by decide +kernel
theorem dX7_readWord_92 : decode cX7_readWord 92 = .ok (.putfield 125, 3) := by decide +kernel
theorem dX7_readWord_95 : decode cX7_readWord 95 = .ok (.aload_n 0, 1) := by decide +kernel
theorem dX7_readWord_96 : decode cX7_readWord 96 = .ok (.dup, 1) := by decide +kernel
theorem dX7_readWord_97 : decode cX7_readWord 97 = .ok (.getfield 129, 3) := by decide +kernel
theorem dX7_readWord_100 : decode cX7_readWord 100 = .ok (.iconst 1, 1) := by decide +kernel
theorem dX7_readWord_101 : decode cX7_readWord 101 = .ok (.iadd, 1) := by decide +kernel
theorem dX7_readWord_102 : decode cX7_readWord 102 = .ok (.putfield 129, 3) := by decide +kernel
theorem dX7_readWord_105 : decode cX7_readWord 105 = .ok (.goto (-87), 3) := by decide +kernel
theorem dX7_readWord_108 : decode cX7_readWord 108 = .ok (.return_, 1) := by decide +kernel
theorem dX7_code_0 : decode cX7_code 0 = .ok (.ldc2_w 140, 3) := by decide +kernel
theorem dX7_code_3 : decode cX7_code 3 = .ok (.ldc2_w 140, 3) := by decide +kernel
theorem dX7_code_6 : decode cX7_code 6 = .ok (.ldc2_w 140, 3) := by decide +kernel
theorem dX7_code_9 : decode cX7_code 9 = .ok (.iload_n 0, 1) := by decide +kernel
theorem dX7_code_10 : decode cX7_code 10 = .ok (.i2l, 1) := by decide +kernel
theorem dX7_code_11 : decode cX7_code 11 = .ok (.ldc2_w 142, 3) := by decide +kernel
theorem dX7_code_14 : decode cX7_code 14 = .ok (.lsub, 1) := by decide +kernel
theorem dX7_code_15 : decode cX7_code 15 = .ok (.lmul, 1) := by decide +kernel
theorem dX7_code_16 : decode cX7_code 16 = .ok (.iload_n 1, 1) := by decide +kernel
theorem dX7_code_17 : decode cX7_code 17 = .ok (.i2l, 1) := by decide +kernel
theorem dX7_code_18 : decode cX7_code 18 = .ok (.ladd, 1) := by decide +kernel
theorem dX7_code_19 : decode cX7_code 19 = .ok (.ldc2_w 142, 3) := by decide +kernel
theorem dX7_code_22 : decode cX7_code 22 = .ok (.lsub, 1) := by decide +kernel
theorem dX7_code_23 : decode cX7_code 23 = .ok (.lmul, 1) := by decide +kernel
theorem dX7_code_24 : decode cX7_code 24 = .ok (.iload_n 2, 1) := by decide +kernel
theorem dX7_code_25 : decode cX7_code 25 = .ok (.i2l, 1) := by decide +kernel
theorem dX7_code_26 : decode cX7_code 26 = .ok (.ladd, 1) := by decide +kernel
theorem dX7_code_27 : decode cX7_code 27 = .ok (.ldc2_w 142, 3) := by decide +kernel
theorem dX7_code_30 : decode cX7_code 30 = .ok (.lsub, 1) := by decide +kernel
theorem dX7_code_31 : decode cX7_code 31 = .ok (.lmul, 1) := by decide +kernel
theorem dX7_code_32 : decode cX7_code 32 = .ok (.iload_n 3, 1) := by decide +kernel
theorem dX7_code_33 : decode cX7_code 33 = .ok (.i2l, 1) := by decide +kernel
theorem dX7_code_34 : decode cX7_code 34 = .ok (.ladd, 1) := by decide +kernel
theorem dX7_code_35 : decode cX7_code 35 = .ok (.ldc2_w 142, 3) := by decide +kernel
theorem dX7_code_38 : decode cX7_code 38 = .ok (.lsub, 1) := by decide +kernel
theorem dX7_code_39 : decode cX7_code 39 = .ok (.lreturn, 1) := by decide +kernel
theorem dX7_longer_0 : decode cX7_longer 0 = .ok (.iload_n 3, 1) := by decide +kernel
theorem dX7_longer_1 : decode cX7_longer 1 = .ok (.ifCond .ne 18, 3) := by decide +kernel
theorem dX7_longer_4 : decode cX7_longer 4 = .ok (.ldc2_w 140, 3) := by decide +kernel
theorem dX7_longer_7 : decode cX7_longer 7 = .ok (.lload_n 0, 1) := by decide +kernel
theorem dX7_longer_8 : decode cX7_longer 8 = .ok (.lmul, 1) := by decide +kernel
theorem dX7_longer_9 : decode cX7_longer 9 = .ok (.iload_n 2, 1) := by decide +kernel
theorem dX7_longer_10 : decode cX7_longer 10 = .ok (.i2l, 1) := by decide +kernel
theorem dX7_longer_11 : decode cX7_longer 11 = .ok (.ladd, 1) := by decide +kernel
theorem dX7_longer_12 : decode cX7_longer 12 = .ok (.ldc2_w 142, 3) := by decide +kernel
theorem dX7_longer_15 : decode cX7_longer 15 = .ok (.lsub, 1) := by decide +kernel
theorem dX7_longer_16 : decode cX7_longer 16 = .ok (.goto 26, 3) := by decide +kernel
theorem dX7_longer_19 : decode cX7_longer 19 = .ok (.ldc2_w 140, 3) := by decide +kernel
theorem dX7_longer_22 : decode cX7_longer 22 = .ok (.ldc2_w 140, 3) := by decide +kernel
theorem dX7_longer_25 : decode cX7_longer 25 = .ok (.lload_n 0, 1) := by decide +kernel
theorem dX7_longer_26 : decode cX7_longer 26 = .ok (.lmul, 1) := by decide +kernel
theorem dX7_longer_27 : decode cX7_longer 27 = .ok (.iload_n 2, 1) := by decide +kernel
theorem dX7_longer_28 : decode cX7_longer 28 = .ok (.i2l, 1) := by decide +kernel
theorem dX7_longer_29 : decode cX7_longer 29 = .ok (.ladd, 1) := by decide +kernel
theorem dX7_longer_30 : decode cX7_longer 30 = .ok (.ldc2_w 142, 3) := by decide +kernel
theorem dX7_longer_33 : decode cX7_longer 33 = .ok (.lsub, 1) := by decide +kernel
theorem dX7_longer_34 : decode cX7_longer 34 = .ok (.lmul, 1) := by decide +kernel
theorem dX7_longer_35 : decode cX7_longer 35 = .ok (.iload_n 3, 1) := by decide +kernel
theorem dX7_longer_36 : decode cX7_longer 36 = .ok (.i2l, 1) := by decide +kernel
theorem dX7_longer_37 : decode cX7_longer 37 = .ok (.ladd, 1) := by decide +kernel
theorem dX7_longer_38 : decode cX7_longer 38 = .ok (.ldc2_w 142, 3) := by decide +kernel
theorem dX7_longer_41 : decode cX7_longer 41 = .ok (.lsub, 1) := by decide +kernel
theorem dX7_longer_42 : decode cX7_longer 42 = .ok (.lreturn, 1) := by decide +kernel
set_option maxRecDepth 20000 in
theorem ggX7_takeNumber_X7_here : GoodIn wsX7_takeNumber wsX7_here := goodIn_r _ [12, 3, 6, 7, 21, 22, 23, 24, 25, 26, 27, 28, 29, 30, 31, 32, 33, 34, 35, 36, 37, 38, 39, 40, 41, 42, 43, 44, 45, 46, 47, 48, 49, 50, 51, 52, 53, 54, 55, 56, 57, 58, 59, 60, 61, 62, 63, 64] (by decide +kernel) (by decide +kernel)
set_option maxRecDepth 20000 in
theorem gX7_takeNumber_X7_here : GoodIn wsX7_takeNumber (wsV RX7 121 RX7 yX7_here wsX7_here) := goodIn_app (goodIn_of _ (by decide +kernel)) ggX7_takeNumber_X7_here
set_option maxRecDepth 20000 in
theorem ggX7_takeNumber_X7_in : GoodIn wsX7_takeNumber wsX7_in := goodIn_r _ [15] (by decide +kernel) (by decide +kernel)
set_option maxRecDepth 20000 in
theorem gX7_takeNumber_X7_in : GoodIn wsX7_takeNumber (va_wsS RX7 99 yX7_in wsX7_in) := goodIn_app (goodIn_of _ (by decide +kernel)) ggX7_takeNumber_X7_in
set_option maxRecDepth 20000 in
theorem ggX7_takeNumber_X7_fails : GoodIn wsX7_takeNumber wsX7_fails := goodIn_r _ [19, 20, 21, 22, 23, 24, 25, 26, 27, 28, 29, 30, 31, 32, 33, 34, 35, 36, 37, 38, 39, 40, 41, 42, 43, 44, 45, 46, 47, 48, 49, 50, 51, 52, 53, 54, 55, 56, 57, 58, 59, 60, 61, 62, 63, 64] (by decide +kernel) (by decide +kernel)
set_option maxRecDepth 20000 in
theorem gX7_takeNumber_X7_fails : GoodIn wsX7_takeNumber (wsV RX7 148 RX7 yX7_fails wsX7_fails) := goodIn_app (goodIn_of _ (by decide +kernel)) ggX7_takeNumber_X7_fails
theorem dX7_takeNumber_0 : decode cX7_takeNumber 0 = .ok (.aload_n 0, 1) := by decide +kernel
theorem dX7_takeNumber_1 : decode cX7_takeNumber 1 = .ok (.invokevirtual 121, 3) := by decide +kernel
theorem dX7_takeNumber_4 : decode cX7_takeNumber 4 = .ok (.istore_n 3, 1) := by decide +kernel
theorem dX7_takeNumber_5 : decode cX7_takeNumber 5 = .ok (.iload_n 3, 1) := by decide +kernel
theorem dX7_takeNumber_6 : decode cX7_takeNumber 6 = .ok (.i2l, 1) := by decide +kernel
theorem dX7_takeNumber_7 : decode cX7_takeNumber 7 = .ok (.ldc2_w 144, 3) := by decide +kernel
theorem dX7_takeNumber_10 : decode cX7_takeNumber 10 = .ok (.ldc2_w 146, 3) := by decide +kernel
theorem dX7_takeNumber_13 : decode cX7_takeNumber 13 = .ok (.invokestatic 99, 3) := by decide +kernel
theorem dX7_takeNumber_16 : decode cX7_takeNumber 16 = .ok (.ifCond .ne 13, 3) := by decide +kernel
theorem dX7_takeNumber_19 : decode cX7_takeNumber 19 = .ok (.aload_n 0, 1) := by decide +kernel
theorem dX7_takeNumber_20 : decode cX7_takeNumber 20 = .ok (.iconst 1, 1) := by decide +kernel
theorem dX7_takeNumber_21 : decode cX7_takeNumber 21 = .ok (.aload_n 0, 1) := by decide +kernel
theorem dX7_takeNumber_22 : decode cX7_takeNumber 22 = .ok (.getfield 118, 3) := by decide +kernel
theorem dX7_takeNumber_25 : decode cX7_takeNumber 25 = .ok (.invokevirtual 148, 3) := by decide +kernel
theorem dX7_takeNumber_28 : decode cX7_takeNumber 28 = .ok (.ireturn, 1) := by decide +kernel
theorem dX7_takeNumber_29 : decode cX7_takeNumber 29 = .ok (.aload_n 0, 1) := by decide +kernel
theorem dX7_takeNumber_30 : decode cX7_takeNumber 30 = .ok (.aload_n 0, 1) := by decide +kernel
theorem dX7_takeNumber_31 : decode cX7_takeNumber 31 = .ok (.getfield 118, 3) := by decide +kernel
theorem dX7_takeNumber_34 : decode cX7_takeNumber 34 = .ok (.putfield 152, 3) := by decide +kernel
theorem dX7_takeNumber_37 : decode cX7_takeNumber 37 = .ok (.aload_n 0, 1) := by decide +kernel
theorem dX7_takeNumber_38 : decode cX7_takeNumber 38 = .ok (.iconst 0, 1) := by decide +kernel
theorem dX7_takeNumber_39 : decode cX7_takeNumber 39 = .ok (.putfield 155, 3) := by decide +kernel
theorem dX7_takeNumber_42 : decode cX7_takeNumber 42 = .ok (.aload_n 0, 1) := by decide +kernel
theorem dX7_takeNumber_43 : decode cX7_takeNumber 43 = .ok (.getfield 118, 3) := by decide +kernel
theorem dX7_takeNumber_46 : decode cX7_takeNumber 46 = .ok (.aload_n 0, 1) := by decide +kernel
theorem dX7_takeNumber_47 : decode cX7_takeNumber 47 = .ok (.getfield 112, 3) := by decide +kernel
theorem dX7_takeNumber_50 : decode cX7_takeNumber 50 = .ok (.if_icmp .ge 79, 3) := by decide +kernel
theorem dX7_takeNumber_53 : decode cX7_takeNumber 53 = .ok (.aload_n 0, 1) := by decide +kernel
theorem dX7_takeNumber_54 : decode cX7_takeNumber 54 = .ok (.getfield 37, 3) := by decide +kernel
theorem dX7_takeNumber_57 : decode cX7_takeNumber 57 = .ok (.aload_n 0, 1) := by decide +kernel
theorem dX7_takeNumber_58 : decode cX7_takeNumber 58 = .ok (.getfield 118, 3) := by decide +kernel
theorem dX7_takeNumber_61 : decode cX7_takeNumber 61 = .ok (.iaload, 1) := by decide +kernel
theorem dX7_takeNumber_62 : decode cX7_takeNumber 62 = .ok (.i2l, 1) := by decide +kernel
theorem dX7_takeNumber_63 : decode cX7_takeNumber 63 = .ok (.ldc2_w 144, 3) := by decide +kernel
theorem dX7_takeNumber_66 : decode cX7_takeNumber 66 = .ok (.ldc2_w 146, 3) := by decide +kernel
theorem dX7_takeNumber_69 : decode cX7_takeNumber 69 = .ok (.invokestatic 99, 3) := by decide +kernel
theorem dX7_takeNumber_72 : decode cX7_takeNumber 72 = .ok (.ifCond .eq 57, 3) := by decide +kernel
theorem dX7_takeNumber_75 : decode cX7_takeNumber 75 = .ok (.aload_n 0, 1) := by decide +kernel
theorem dX7_takeNumber_76 : decode cX7_takeNumber 76 = .ok (.aload_n 0, 1) := by decide +kernel
theorem dX7_takeNumber_77 : decode cX7_takeNumber 77 = .ok (.getfield 155, 3) := by decide +kernel
theorem dX7_takeNumber_80 : decode cX7_takeNumber 80 = .ok (.sipush 10000, 3) := by decide +kernel
theorem dX7_takeNumber_83 : decode cX7_takeNumber 83 = .ok (.if_icmp .le 10, 3) := by decide +kernel
theorem dX7_takeNumber_86 : decode cX7_takeNumber 86 = .ok (.aload_n 0, 1) := by decide +kernel
theorem dX7_takeNumber_87 : decode cX7_takeNumber 87 = .ok (.getfield 155, 3) := by decide +kernel
theorem dX7_takeNumber_90 : decode cX7_takeNumber 90 = .ok (.goto 23, 3) := by decide +kernel
theorem dX7_takeNumber_93 : decode cX7_takeNumber 93 = .ok (.bipush 10, 2) := by decide +kernel
theorem dX7_takeNumber_95 : decode cX7_takeNumber 95 = .ok (.aload_n 0, 1) := by decide +kernel
theorem dX7_takeNumber_96 : decode cX7_takeNumber 96 = .ok (.getfield 155, 3) := by decide +kernel
theorem dX7_takeNumber_99 : decode cX7_takeNumber 99 = .ok (.imul, 1) := by decide +kernel
theorem dX7_takeNumber_100 : decode cX7_takeNumber 100 = .ok (.aload_n 0, 1) := by decide +kernel
theorem dX7_takeNumber_101 : decode cX7_takeNumber 101 = .ok (.getfield 37, 3) := by decide +kernel
theorem dX7_takeNumber_104 : decode cX7_takeNumber 104 = .ok (.aload_n 0, 1) := by decide +kernel
theorem dX7_takeNumber_105 : decode cX7_takeNumber 105 = .ok (.getfield 118, 3) := by decide +kernel
theorem dX7_takeNumber_108 : decode cX7_takeNumber 108 = .ok (.iaload, 1) := by decide +kernel
theorem dX7_takeNumber_109 : decode cX7_takeNumber 109 = .ok (.iadd, 1) := by decide +kernel
theorem dX7_takeNumber_110 : decode cX7_takeNumber 110 = .ok (.bipush 48, 2) := by decide +kernel
theorem dX7_takeNumber_112 : decode cX7_takeNumber 112 = .ok (.isub, 1) := by decide +kernel
theorem dX7_takeNumber_113 : decode cX7_takeNumber 113 = .ok (.putfield 155, 3) := by decide +kernel
theorem dX7_takeNumber_116 : decode cX7_takeNumber 116 = .ok (.aload_n 0, 1) := by decide +kernel
theorem dX7_takeNumber_117 : decode cX7_takeNumber 117 = .ok (.dup, 1) := by decide +kernel
theorem dX7_takeNumber_118 : decode cX7_takeNumber 118 = .ok (.getfield 118, 3) := by decide +kernel
theorem dX7_takeNumber_121 : decode cX7_takeNumber 121 = .ok (.iconst 1, 1) := by decide +kernel
theorem dX7_takeNumber_122 : decode cX7_takeNumber 122 = .ok (.iadd, 1) := by decide +kernel
theorem dX7_takeNumber_123 : decode cX7_takeNumber 123 = .ok (.putfield 118, 3) := by decide +kernel
theorem dX7_takeNumber_126 : decode cX7_takeNumber 126 = .ok (.goto (-84), 3) := by decide +kernel
theorem dX7_takeNumber_129 : decode cX7_takeNumber 129 = .ok (.aload_n 0, 1) := by decide +kernel
theorem dX7_takeNumber_130 : decode cX7_takeNumber 130 = .ok (.getfield 118, 3) := by decide +kernel
theorem dX7_takeNumber_133 : decode cX7_takeNumber 133 = .ok (.aload_n 0, 1) := by decide +kernel
theorem dX7_takeNumber_134 : decode cX7_takeNumber 134 = .ok (.getfield 152, 3) := by decide +kernel
theorem dX7_takeNumber_137 : decode cX7_takeNumber 137 = .ok (.isub, 1) := by decide +kernel
theorem dX7_takeNumber_138 : decode cX7_takeNumber 138 = .ok (.iconst 3, 1) := by decide +kernel
theorem dX7_takeNumber_139 : decode cX7_takeNumber 139 = .ok (.if_icmp .gt 18, 3) := by decide +kernel
theorem dX7_takeNumber_142 : decode cX7_takeNumber 142 = .ok (.aload_n 0, 1) := by decide +kernel
theorem dX7_takeNumber_143 : decode cX7_takeNumber 143 = .ok (.getfield 155, 3) := by decide +kernel
theorem dX7_takeNumber_146 : decode cX7_takeNumber 146 = .ok (.i2l, 1) := by decide +kernel
theorem dX7_takeNumber_147 : decode cX7_takeNumber 147 = .ok (.iload_n 1, 1) := by decide +kernel
theorem dX7_takeNumber_148 : decode cX7_takeNumber 148 = .ok (.i2l, 1) := by decide +kernel
theorem dX7_takeNumber_149 : decode cX7_takeNumber 149 = .ok (.iload_n 2, 1) := by decide +kernel
theorem dX7_takeNumber_150 : decode cX7_takeNumber 150 = .ok (.i2l, 1) := by decide +kernel
theorem dX7_takeNumber_151 : decode cX7_takeNumber 151 = .ok (.invokestatic 99, 3) := by decide +kernel
theorem dX7_takeNumber_154 : decode cX7_takeNumber 154 = .ok (.ifCond .ne 15, 3) := by decide +kernel
theorem dX7_takeNumber_157 : decode cX7_takeNumber 157 = .ok (.aload_n 0, 1) := by decide +kernel
theorem dX7_takeNumber_158 : decode cX7_takeNumber 158 = .ok (.iconst 2, 1) := by decide +kernel
theorem dX7_takeNumber_159 : decode cX7_takeNumber 159 = .ok (.aload_n 0, 1) := by decide +kernel
theorem dX7_takeNumber_160 : decode cX7_takeNumber 160 = .ok (.getfield 152, 3) := by decide +kernel
theorem dX7_takeNumber_163 : decode cX7_takeNumber 163 = .ok (.invokevirtual 148, 3) := by decide +kernel
theorem dX7_takeNumber_166 : decode cX7_takeNumber 166 = .ok (.goto 4, 3) := by decide +kernel
theorem dX7_takeNumber_169 : decode cX7_takeNumber 169 = .ok (.iconst 0, 1) := by decide +kernel
theorem dX7_takeNumber_170 : decode cX7_takeNumber 170 = .ok (.ireturn, 1) := by decide +kernel
set_option maxRecDepth 20000 in
theorem ggX7_into_X7_takeNumber : GoodIn wsX7_into wsX7_takeNumber := goodIn_r _ [6, 7, 8, 9, 10, 1, 11, 12, 13, 14, 15, 5, 16, 17, 18, 19, 20, 21, 22, 23, 24, 25, 26, 27, 28, 29, 30, 31, 32, 33, 34, 35, 36, 37, 38, 39, 40, 41, 42, 43, 44, 45, 46, 47, 48, 49, 50, 51, 52, 53, 54, 55, 56, 57, 58, 59, 60, 61, 62, 63, 64, 65, 66, 67, 68] (by decide +kernel) (by decide +kernel)
set_option maxRecDepth 20000 in
theorem gX7_into_X7_takeNumber : GoodIn wsX7_into (wsV RX7 158 RX7 yX7_takeNumber wsX7_takeNumber) := goodIn_app (goodIn_of _ (by decide +kernel)) ggX7_into_X7_takeNumber
theorem dX7_into_0 : decode cX7_into 0 = .ok (.aload_n 0, 1) := by decide +kernel
theorem dX7_into_1 : decode cX7_into 1 = .ok (.iload_n 3, 1) := by decide +kernel
theorem dX7_into_2 : decode cX7_into 2 = .ok (.iload 4, 2) := by decide +kernel
theorem dX7_into_4 : decode cX7_into 4 = .ok (.invokevirtual 158, 3) := by decide +kernel
theorem dX7_into_7 : decode cX7_into 7 = .ok (.istore 5, 2) := by decide +kernel
theorem dX7_into_9 : decode cX7_into 9 = .ok (.aload_n 1, 1) := by decide +kernel
theorem dX7_into_10 : decode cX7_into 10 = .ok (.iload_n 2, 1) := by decide +kernel
theorem dX7_into_11 : decode cX7_into 11 = .ok (.aload_n 0, 1) := by decide +kernel
theorem dX7_into_12 : decode cX7_into 12 = .ok (.getfield 155, 3) := by decide +kernel
theorem dX7_into_15 : decode cX7_into 15 = .ok (.iastore, 1) := by decide +kernel
theorem dX7_into_16 : decode cX7_into 16 = .ok (.iload 5, 2) := by decide +kernel
theorem dX7_into_18 : decode cX7_into 18 = .ok (.ireturn, 1) := by decide +kernel
set_option maxRecDepth 20000 in
theorem ggX7_takeParts_X7_into : GoodIn wsX7_takeParts wsX7_into := goodIn_r _ [8, 9, 10, 11, 12, 7, 13, 14, 15, 3, 16, 17, 18, 19, 20, 21, 22, 23, 24, 25, 26, 27, 28, 29, 30, 31, 32, 33, 34, 35, 36, 37, 38, 39, 40, 41, 42, 43, 44, 45, 46, 47, 48, 49, 50, 51, 52, 53, 54, 55, 56, 57, 58, 59, 60, 61, 62, 63, 64, 65, 66, 67, 68, 69, 70, 71, 72, 73, 74] (by decide +kernel) (by decide +kernel)
set_option maxRecDepth 20000 in
theorem gX7_takeParts_X7_into : GoodIn wsX7_takeParts (wsV RX7 161 RX7 yX7_into wsX7_into) := goodIn_app (goodIn_of _ (by decide +kernel)) ggX7_takeParts_X7_into
set_option maxRecDepth 20000 in
theorem ggX7_takeParts_X7_here : GoodIn wsX7_takeParts wsX7_here := goodIn_r _ [22, 3, 17, 18, 31, 32, 33, 34, 35, 36, 37, 38, 39, 40, 41, 42, 43, 44, 45, 46, 47, 48, 49, 50, 51, 52, 53, 54, 55, 56, 57, 58, 59, 60, 61, 62, 63, 64, 65, 66, 67, 68, 69, 70, 71, 72, 73, 74] (by decide +kernel) (by decide +kernel)
set_option maxRecDepth 20000 in
theorem gX7_takeParts_X7_here : GoodIn wsX7_takeParts (wsV RX7 121 RX7 yX7_here wsX7_here) := goodIn_app (goodIn_of _ (by decide +kernel)) ggX7_takeParts_X7_here
set_option maxRecDepth 20000 in
theorem ggX7_takeParts_X7_fails : GoodIn wsX7_takeParts wsX7_fails := goodIn_r _ [29, 30, 31, 32, 33, 34, 35, 36, 37, 38, 39, 40, 41, 42, 43, 44, 45, 46, 47, 48, 49, 50, 51, 52, 53, 54, 55, 56, 57, 58, 59, 60, 61, 62, 63, 64, 65, 66, 67, 68, 69, 70, 71, 72, 73, 74] (by decide +kernel) (by decide +kernel)
set_option maxRecDepth 20000 in
theorem gX7_takeParts_X7_fails : GoodIn wsX7_takeParts (wsV RX7 148 RX7 yX7_fails wsX7_fails) := goodIn_app (goodIn_of _ (by decide +kernel)) ggX7_takeParts_X7_fails
theorem dX7_takeParts_0 : decode cX7_takeParts 0 = .ok (.aload_n 0, 1) := by decide +kernel
theorem dX7_takeParts_1 : decode cX7_takeParts 1 = .ok (.getfield 53, 3) := by decide +kernel
theorem dX7_takeParts_4 : decode cX7_takeParts 4 = .ok (.iload_n 1, 1) := by decide +kernel
theorem dX7_takeParts_5 : decode cX7_takeParts 5 = .ok (.iconst 0, 1) := by decide +kernel
theorem dX7_takeParts_6 : decode cX7_takeParts 6 = .ok (.iastore, 1) := by decide +kernel
theorem dX7_takeParts_7 : decode cX7_takeParts 7 = .ok (.iconst 1, 1) := by decide +kernel
theorem dX7_takeParts_8 : decode cX7_takeParts 8 = .ok (.istore_n 2, 1) := by decide +kernel
theorem dX7_takeParts_9 : decode cX7_takeParts 9 = .ok (.iload_n 2, 1) := by decide +kernel
theorem dX7_takeParts_10 : decode cX7_takeParts 10 = .ok (.ifCond .eq 102, 3) := by decide +kernel
theorem dX7_takeParts_13 : decode cX7_takeParts 13 = .ok (.aload_n 0, 1) := by decide +kernel
theorem dX7_takeParts_14 : decode cX7_takeParts 14 = .ok (.aload_n 0, 1) := by decide +kernel
theorem dX7_takeParts_15 : decode cX7_takeParts 15 = .ok (.getfield 56, 3) := by decide +kernel
theorem dX7_takeParts_18 : decode cX7_takeParts 18 = .ok (.iconst 3, 1) := by decide +kernel
theorem dX7_takeParts_19 : decode cX7_takeParts 19 = .ok (.iload_n 1, 1) := by decide +kernel
theorem dX7_takeParts_20 : decode cX7_takeParts 20 = .ok (.imul, 1) := by decide +kernel
theorem dX7_takeParts_21 : decode cX7_takeParts 21 = .ok (.aload_n 0, 1) := by decide +kernel
theorem dX7_takeParts_22 : decode cX7_takeParts 22 = .ok (.getfield 53, 3) := by decide +kernel
theorem dX7_takeParts_25 : decode cX7_takeParts 25 = .ok (.iload_n 1, 1) := by decide +kernel
theorem dX7_takeParts_26 : decode cX7_takeParts 26 = .ok (.iaload, 1) := by decide +kernel
theorem dX7_takeParts_27 : decode cX7_takeParts 27 = .ok (.iadd, 1) := by decide +kernel
theorem dX7_takeParts_28 : decode cX7_takeParts 28 = .ok (.iconst 1, 1) := by decide +kernel
theorem dX7_takeParts_29 : decode cX7_takeParts 29 = .ok (.sipush 720, 3) := by decide +kernel
theorem dX7_takeParts_32 : decode cX7_takeParts 32 = .ok (.invokevirtual 161, 3) := by decide +kernel
theorem dX7_takeParts_35 : decode cX7_takeParts 35 = .ok (.istore_n 3, 1) := by decide +kernel
theorem dX7_takeParts_36 : decode cX7_takeParts 36 = .ok (.iload_n 3, 1) := by decide +kernel
theorem dX7_takeParts_37 : decode cX7_takeParts 37 = .ok (.ifCond .le 5, 3) := by decide +kernel
theorem dX7_takeParts_40 : decode cX7_takeParts 40 = .ok (.iload_n 3, 1) := by decide +kernel
theorem dX7_takeParts_41 : decode cX7_takeParts 41 = .ok (.ireturn, 1) := by decide +kernel
theorem dX7_takeParts_42 : decode cX7_takeParts 42 = .ok (.aload_n 0, 1) := by decide +kernel
theorem dX7_takeParts_43 : decode cX7_takeParts 43 = .ok (.getfield 53, 3) := by decide +kernel
theorem dX7_takeParts_46 : decode cX7_takeParts 46 = .ok (.iload_n 1, 1) := by decide +kernel
theorem dX7_takeParts_47 : decode cX7_takeParts 47 = .ok (.dup2, 1) := by decide +kernel
theorem dX7_takeParts_48 : decode cX7_takeParts 48 = .ok (.iaload, 1) := by decide +kernel
theorem dX7_takeParts_49 : decode cX7_takeParts 49 = .ok (.iconst 1, 1) := by decide +kernel
theorem dX7_takeParts_50 : decode cX7_takeParts 50 = .ok (.iadd, 1) := by decide +kernel
theorem dX7_takeParts_51 : decode cX7_takeParts 51 = .ok (.iastore, 1) := by decide +kernel
theorem dX7_takeParts_52 : decode cX7_takeParts 52 = .ok (.aload_n 0, 1) := by decide +kernel
theorem dX7_takeParts_53 : decode cX7_takeParts 53 = .ok (.invokevirtual 121, 3) := by decide +kernel
theorem dX7_takeParts_56 : decode cX7_takeParts 56 = .ok (.bipush 44, 2) := by decide +kernel
theorem dX7_takeParts_58 : decode cX7_takeParts 58 = .ok (.if_icmp .ne 7, 3) := by decide +kernel
theorem dX7_takeParts_61 : decode cX7_takeParts 61 = .ok (.iconst 1, 1) := by decide +kernel
theorem dX7_takeParts_62 : decode cX7_takeParts 62 = .ok (.goto 4, 3) := by decide +kernel
theorem dX7_takeParts_65 : decode cX7_takeParts 65 = .ok (.iconst 0, 1) := by decide +kernel
theorem dX7_takeParts_66 : decode cX7_takeParts 66 = .ok (.istore_n 2, 1) := by decide +kernel
theorem dX7_takeParts_67 : decode cX7_takeParts 67 = .ok (.iload_n 2, 1) := by decide +kernel
theorem dX7_takeParts_68 : decode cX7_takeParts 68 = .ok (.ifCond .eq 23, 3) := by decide +kernel
theorem dX7_takeParts_71 : decode cX7_takeParts 71 = .ok (.aload_n 0, 1) := by decide +kernel
theorem dX7_takeParts_72 : decode cX7_takeParts 72 = .ok (.getfield 53, 3) := by decide +kernel
theorem dX7_takeParts_75 : decode cX7_takeParts 75 = .ok (.iload_n 1, 1) := by decide +kernel
theorem dX7_takeParts_76 : decode cX7_takeParts 76 = .ok (.iaload, 1) := by decide +kernel
theorem dX7_takeParts_77 : decode cX7_takeParts 77 = .ok (.iconst 3, 1) := by decide +kernel
theorem dX7_takeParts_78 : decode cX7_takeParts 78 = .ok (.if_icmp .ne 13, 3) := by decide +kernel
theorem dX7_takeParts_81 : decode cX7_takeParts 81 = .ok (.aload_n 0, 1) := by decide +kernel
theorem dX7_takeParts_82 : decode cX7_takeParts 82 = .ok (.iconst 1, 1) := by decide +kernel
theorem dX7_takeParts_83 : decode cX7_takeParts 83 = .ok (.aload_n 0, 1) := by decide +kernel
theorem dX7_takeParts_84 : decode cX7_takeParts 84 = .ok (.getfield 118, 3) := by decide +kernel
theorem dX7_takeParts_87 : decode cX7_takeParts 87 = .ok (.invokevirtual 148, 3) := by decide +kernel
theorem dX7_takeParts_90 : decode cX7_takeParts 90 = .ok (.ireturn, 1) := by decide +kernel
theorem dX7_takeParts_91 : decode cX7_takeParts 91 = .ok (.aload_n 0, 1) := by decide +kernel
theorem dX7_takeParts_92 : decode cX7_takeParts 92 = .ok (.dup, 1) := by decide +kernel
theorem dX7_takeParts_93 : decode cX7_takeParts 93 = .ok (.getfield 118, 3) := by decide +kernel
theorem dX7_takeParts_96 : decode cX7_takeParts 96 = .ok (.iload_n 2, 1) := by decide +kernel
theorem dX7_takeParts_97 : decode cX7_takeParts 97 = .ok (.ifCond .eq 7, 3) := by decide +kernel
theorem dX7_takeParts_100 : decode cX7_takeParts 100 = .ok (.iconst 1, 1) := by decide +kernel
theorem dX7_takeParts_101 : decode cX7_takeParts 101 = .ok (.goto 4, 3) := by decide +kernel
theorem dX7_takeParts_104 : decode cX7_takeParts 104 = .ok (.iconst 0, 1) := by decide +kernel
theorem dX7_takeParts_105 : decode cX7_takeParts 105 = .ok (.iadd, 1) := by decide +kernel
theorem dX7_takeParts_106 : decode cX7_takeParts 106 = .ok (.putfield 118, 3) := by decide +kernel
theorem dX7_takeParts_109 : decode cX7_takeParts 109 = .ok (.goto (-100), 3) := by decide +kernel
theorem dX7_takeParts_112 : decode cX7_takeParts 112 = .ok (.iconst 0, 1) := by decide +kernel
theorem dX7_takeParts_113 : decode cX7_takeParts 113 = .ok (.ireturn, 1) := by decide +kernel
set_option maxRecDepth 20000 in
theorem ggX7_takeStair_X7_readWord : GoodIn wsX7_takeStair wsX7_readWord := goodIn_r _ [14, 2, 3, 4, 15, 16, 17, 18, 19, 20, 21, 22, 23, 24, 25, 13, 26, 27, 28, 29, 58, 59, 60, 61, 62, 63, 64, 65, 66, 67, 68, 69, 70, 71, 72, 73, 74, 75, 76, 77, 78, 79, 80, 81, 82, 83, 84, 85, 86, 87, 88, 89, 90, 91, 92, 93, 94, 95, 96, 97, 98, 99, 100, 101] (by decide +kernel) (by decide +kernel)
set_option maxRecDepth 20000 in
theorem gX7_takeStair_X7_readWord : GoodIn wsX7_takeStair (wsV RX7 168 RX7 yX7_readWord wsX7_readWord) := goodIn_app (goodIn_of _ (by decide +kernel)) ggX7_takeStair_X7_readWord
set_option maxRecDepth 20000 in
theorem ggX7_takeStair_X7_code : GoodIn wsX7_takeStair wsX7_code := goodIn_r _ [32, 21, 22] (by decide +kernel) (by decide +kernel)
set_option maxRecDepth 20000 in
theorem gX7_takeStair_X7_code : GoodIn wsX7_takeStair (va_wsS RX7 171 yX7_code wsX7_code) := goodIn_app (goodIn_of _ (by decide +kernel)) ggX7_takeStair_X7_code
set_option maxRecDepth 20000 in
theorem ggX7_takeStair_X7_longer : GoodIn wsX7_takeStair wsX7_longer := goodIn_r _ [35, 21, 22] (by decide +kernel) (by decide +kernel)
set_option maxRecDepth 20000 in
theorem gX7_takeStair_X7_longer : GoodIn wsX7_takeStair (va_wsS RX7 175 yX7_longer wsX7_longer) := goodIn_app (goodIn_of _ (by decide +kernel)) ggX7_takeStair_X7_longer
set_option maxRecDepth 20000 in
theorem ggX7_takeStair_X7_fails : GoodIn wsX7_takeStair wsX7_fails := goodIn_r _ [39, 40, 58, 59, 60, 61, 62, 63, 64, 65, 66, 67, 68, 69, 70, 71, 72, 73, 74, 75, 76, 77, 78, 79, 80, 81, 82, 83, 84, 85, 86, 87, 88, 89, 90, 91, 92, 93, 94, 95, 96, 97, 98, 99, 100, 101] (by decide +kernel) (by decide +kernel)
set_option maxRecDepth 20000 in
theorem gX7_takeStair_X7_fails : GoodIn wsX7_takeStair (wsV RX7 148 RX7 yX7_fails wsX7_fails) := goodIn_app (goodIn_of _ (by decide +kernel)) ggX7_takeStair_X7_fails
set_option maxRecDepth 20000 in
theorem ggX7_takeStair_X7_into : GoodIn wsX7_takeStair wsX7_into := goodIn_r _ [44, 45, 46, 47, 48, 13, 49, 50, 51, 3, 9, 15, 16, 23, 24, 25, 26, 27, 28, 29, 36, 37, 38, 39, 40, 58, 59, 60, 61, 62, 63, 64, 65, 66, 67, 68, 69, 70, 71, 72, 73, 74, 75, 76, 77, 78, 79, 80, 81, 82, 83, 84, 85, 86, 87, 88, 89, 90, 91, 92, 93, 94, 95, 96, 97, 98, 99, 100, 101] (by decide +kernel) (by decide +kernel)
set_option maxRecDepth 20000 in
theorem gX7_takeStair_X7_into : GoodIn wsX7_takeStair (wsV RX7 161 RX7 yX7_into wsX7_into) := goodIn_app (goodIn_of _ (by decide +kernel)) ggX7_takeStair_X7_into
set_option maxRecDepth 20000 in
theorem ggX7_takeStair_X7_takeParts : GoodIn wsX7_takeStair wsX7_takeParts := goodIn_r _ [55, 56, 57, 3, 41, 42, 43, 13, 44, 45, 46, 47, 48, 49, 50, 51, 9, 15, 16, 23, 24, 25, 26, 27, 28, 29, 36, 37, 38, 39, 40, 58, 59, 60, 61, 62, 63, 64, 65, 66, 67, 68, 69, 70, 71, 72, 73, 74, 75, 76, 77, 78, 79, 80, 81, 82, 83, 84, 85, 86, 87, 88, 89, 90, 91, 92, 93, 94, 95, 96, 97, 98, 99, 100, 101] (by decide +kernel) (by decide +kernel)
set_option maxRecDepth 20000 in
theorem gX7_takeStair_X7_takeParts : GoodIn wsX7_takeStair (wsV RX7 182 RX7 yX7_takeParts wsX7_takeParts) := goodIn_app (goodIn_of _ (by decide +kernel)) ggX7_takeStair_X7_takeParts
theorem dX7_takeStair_0 : decode cX7_takeStair 0 = .ok (.aload_n 0, 1) := by decide +kernel
theorem dX7_takeStair_1 : decode cX7_takeStair 1 = .ok (.getfield 165, 3) := by decide +kernel
theorem dX7_takeStair_4 : decode cX7_takeStair 4 = .ok (.istore_n 1, 1) := by decide +kernel
theorem dX7_takeStair_5 : decode cX7_takeStair 5 = .ok (.aload_n 0, 1) := by decide +kernel
theorem dX7_takeStair_6 : decode cX7_takeStair 6 = .ok (.dup, 1) := by decide +kernel
theorem dX7_takeStair_7 : decode cX7_takeStair 7 = .ok (.getfield 165, 3) := by decide +kernel
theorem dX7_takeStair_10 : decode cX7_takeStair 10 = .ok (.iconst 1, 1) := by decide +kernel
theorem dX7_takeStair_11 : decode cX7_takeStair 11 = .ok (.iadd, 1) := by decide +kernel
theorem dX7_takeStair_12 : decode cX7_takeStair 12 = .ok (.putfield 165, 3) := by decide +kernel
theorem dX7_takeStair_15 : decode cX7_takeStair 15 = .ok (.aload_n 0, 1) := by decide +kernel
theorem dX7_takeStair_16 : decode cX7_takeStair 16 = .ok (.invokevirtual 168, 3) := by decide +kernel
theorem dX7_takeStair_19 : decode cX7_takeStair 19 = .ok (.aload_n 0, 1) := by decide +kernel
theorem dX7_takeStair_20 : decode cX7_takeStair 20 = .ok (.getfield 125, 3) := by decide +kernel
theorem dX7_takeStair_23 : decode cX7_takeStair 23 = .ok (.bipush 112, 2) := by decide +kernel
theorem dX7_takeStair_25 : decode cX7_takeStair 25 = .ok (.bipush 108, 2) := by decide +kernel
theorem dX7_takeStair_27 : decode cX7_takeStair 27 = .ok (.bipush 97, 2) := by decide +kernel
theorem dX7_takeStair_29 : decode cX7_takeStair 29 = .ok (.bipush 105, 2) := by decide +kernel
theorem dX7_takeStair_31 : decode cX7_takeStair 31 = .ok (.invokestatic 171, 3) := by decide +kernel
theorem dX7_takeStair_34 : decode cX7_takeStair 34 = .ok (.bipush 110, 2) := by decide +kernel
theorem dX7_takeStair_36 : decode cX7_takeStair 36 = .ok (.iconst 0, 1) := by decide +kernel
theorem dX7_takeStair_37 : decode cX7_takeStair 37 = .ok (.invokestatic 175, 3) := by decide +kernel
theorem dX7_takeStair_40 : decode cX7_takeStair 40 = .ok (.lcmp, 1) := by decide +kernel
theorem dX7_takeStair_41 : decode cX7_takeStair 41 = .ok (.ifCond .ne 7, 3) := by decide +kernel
theorem dX7_takeStair_44 : decode cX7_takeStair 44 = .ok (.iconst 0, 1) := by decide +kernel
theorem dX7_takeStair_45 : decode cX7_takeStair 45 = .ok (.goto 50, 3) := by decide +kernel
theorem dX7_takeStair_48 : decode cX7_takeStair 48 = .ok (.aload_n 0, 1) := by decide +kernel
theorem dX7_takeStair_49 : decode cX7_takeStair 49 = .ok (.getfield 125, 3) := by decide +kernel
theorem dX7_takeStair_52 : decode cX7_takeStair 52 = .ok (.bipush 111, 2) := by decide +kernel
theorem dX7_takeStair_54 : decode cX7_takeStair 54 = .ok (.bipush 112, 2) := by decide +kernel
theorem dX7_takeStair_56 : decode cX7_takeStair 56 = .ok (.bipush 101, 2) := by decide +kernel
theorem dX7_takeStair_58 : decode cX7_takeStair 58 = .ok (.bipush 110, 2) := by decide +kernel
theorem dX7_takeStair_60 : decode cX7_takeStair 60 = .ok (.invokestatic 171, 3) := by decide +kernel
theorem dX7_takeStair_63 : decode cX7_takeStair 63 = .ok (.lcmp, 1) := by decide +kernel
theorem dX7_takeStair_64 : decode cX7_takeStair 64 = .ok (.ifCond .ne 7, 3) := by decide +kernel
theorem dX7_takeStair_67 : decode cX7_takeStair 67 = .ok (.iconst 1, 1) := by decide +kernel
theorem dX7_takeStair_68 : decode cX7_takeStair 68 = .ok (.goto 27, 3) := by decide +kernel
theorem dX7_takeStair_71 : decode cX7_takeStair 71 = .ok (.aload_n 0, 1) := by decide +kernel
theorem dX7_takeStair_72 : decode cX7_takeStair 72 = .ok (.getfield 125, 3) := by decide +kernel
theorem dX7_takeStair_75 : decode cX7_takeStair 75 = .ok (.bipush 108, 2) := by decide +kernel
theorem dX7_takeStair_77 : decode cX7_takeStair 77 = .ok (.bipush 101, 2) := by decide +kernel
theorem dX7_takeStair_79 : decode cX7_takeStair 79 = .ok (.bipush 97, 2) := by decide +kernel
theorem dX7_takeStair_81 : decode cX7_takeStair 81 = .ok (.bipush 112, 2) := by decide +kernel
theorem dX7_takeStair_83 : decode cX7_takeStair 83 = .ok (.invokestatic 171, 3) := by decide +kernel
theorem dX7_takeStair_86 : decode cX7_takeStair 86 = .ok (.lcmp, 1) := by decide +kernel
theorem dX7_takeStair_87 : decode cX7_takeStair 87 = .ok (.ifCond .ne 7, 3) := by decide +kernel
theorem dX7_takeStair_90 : decode cX7_takeStair 90 = .ok (.iconst 2, 1) := by decide +kernel
theorem dX7_takeStair_91 : decode cX7_takeStair 91 = .ok (.goto 4, 3) := by decide +kernel
theorem dX7_takeStair_94 : decode cX7_takeStair 94 = .ok (.iconst (-1), 1) := by decide +kernel
theorem dX7_takeStair_95 : decode cX7_takeStair 95 = .ok (.istore_n 2, 1) := by decide +kernel
theorem dX7_takeStair_96 : decode cX7_takeStair 96 = .ok (.iload_n 2, 1) := by decide +kernel
theorem dX7_takeStair_97 : decode cX7_takeStair 97 = .ok (.ifCond .ge 13, 3) := by decide +kernel
theorem dX7_takeStair_100 : decode cX7_takeStair 100 = .ok (.aload_n 0, 1) := by decide +kernel
theorem dX7_takeStair_101 : decode cX7_takeStair 101 = .ok (.iconst 1, 1) := by decide +kernel
theorem dX7_takeStair_102 : decode cX7_takeStair 102 = .ok (.aload_n 0, 1) := by decide +kernel
theorem dX7_takeStair_103 : decode cX7_takeStair 103 = .ok (.getfield 118, 3) := by decide +kernel
theorem dX7_takeStair_106 : decode cX7_takeStair 106 = .ok (.invokevirtual 148, 3) := by decide +kernel
theorem dX7_takeStair_109 : decode cX7_takeStair 109 = .ok (.ireturn, 1) := by decide +kernel
theorem dX7_takeStair_110 : decode cX7_takeStair 110 = .ok (.aload_n 0, 1) := by decide +kernel
theorem dX7_takeStair_111 : decode cX7_takeStair 111 = .ok (.aload_n 0, 1) := by decide +kernel
theorem dX7_takeStair_112 : decode cX7_takeStair 112 = .ok (.getfield 129, 3) := by decide +kernel
theorem dX7_takeStair_115 : decode cX7_takeStair 115 = .ok (.putfield 118, 3) := by decide +kernel
theorem dX7_takeStair_118 : decode cX7_takeStair 118 = .ok (.aload_n 0, 1) := by decide +kernel
theorem dX7_takeStair_119 : decode cX7_takeStair 119 = .ok (.getfield 44, 3) := by decide +kernel
theorem dX7_takeStair_122 : decode cX7_takeStair 122 = .ok (.iload_n 1, 1) := by decide +kernel
theorem dX7_takeStair_123 : decode cX7_takeStair 123 = .ok (.iload_n 2, 1) := by decide +kernel
theorem dX7_takeStair_124 : decode cX7_takeStair 124 = .ok (.iastore, 1) := by decide +kernel
theorem dX7_takeStair_125 : decode cX7_takeStair 125 = .ok (.aload_n 0, 1) := by decide +kernel
theorem dX7_takeStair_126 : decode cX7_takeStair 126 = .ok (.aload_n 0, 1) := by decide +kernel
theorem dX7_takeStair_127 : decode cX7_takeStair 127 = .ok (.getfield 47, 3) := by decide +kernel
theorem dX7_takeStair_130 : decode cX7_takeStair 130 = .ok (.iload_n 1, 1) := by decide +kernel
theorem dX7_takeStair_131 : decode cX7_takeStair 131 = .ok (.iconst 0, 1) := by decide +kernel
theorem dX7_takeStair_132 : decode cX7_takeStair 132 = .ok (.aload_n 0, 1) := by decide +kernel
theorem dX7_takeStair_133 : decode cX7_takeStair 133 = .ok (.getfield 179, 3) := by decide +kernel
theorem dX7_takeStair_136 : decode cX7_takeStair 136 = .ok (.iconst 1, 1) := by decide +kernel
theorem dX7_takeStair_137 : decode cX7_takeStair 137 = .ok (.isub, 1) := by decide +kernel
theorem dX7_takeStair_138 : decode cX7_takeStair 138 = .ok (.invokevirtual 161, 3) := by decide +kernel
theorem dX7_takeStair_141 : decode cX7_takeStair 141 = .ok (.istore_n 3, 1) := by decide +kernel
theorem dX7_takeStair_142 : decode cX7_takeStair 142 = .ok (.iload_n 3, 1) := by decide +kernel
theorem dX7_takeStair_143 : decode cX7_takeStair 143 = .ok (.ifCond .le 7, 3) := by decide +kernel
theorem dX7_takeStair_146 : decode cX7_takeStair 146 = .ok (.iload_n 3, 1) := by decide +kernel
theorem dX7_takeStair_147 : decode cX7_takeStair 147 = .ok (.goto 19, 3) := by decide +kernel
theorem dX7_takeStair_150 : decode cX7_takeStair 150 = .ok (.aload_n 0, 1) := by decide +kernel
theorem dX7_takeStair_151 : decode cX7_takeStair 151 = .ok (.aload_n 0, 1) := by decide +kernel
theorem dX7_takeStair_152 : decode cX7_takeStair 152 = .ok (.getfield 50, 3) := by decide +kernel
theorem dX7_takeStair_155 : decode cX7_takeStair 155 = .ok (.iload_n 1, 1) := by decide +kernel
theorem dX7_takeStair_156 : decode cX7_takeStair 156 = .ok (.iconst 0, 1) := by decide +kernel
theorem dX7_takeStair_157 : decode cX7_takeStair 157 = .ok (.aload_n 0, 1) := by decide +kernel
theorem dX7_takeStair_158 : decode cX7_takeStair 158 = .ok (.getfield 179, 3) := by decide +kernel
theorem dX7_takeStair_161 : decode cX7_takeStair 161 = .ok (.iconst 1, 1) := by decide +kernel
theorem dX7_takeStair_162 : decode cX7_takeStair 162 = .ok (.isub, 1) := by decide +kernel
theorem dX7_takeStair_163 : decode cX7_takeStair 163 = .ok (.invokevirtual 161, 3) := by decide +kernel
theorem dX7_takeStair_166 : decode cX7_takeStair 166 = .ok (.istore_n 3, 1) := by decide +kernel
theorem dX7_takeStair_167 : decode cX7_takeStair 167 = .ok (.iload_n 3, 1) := by decide +kernel
theorem dX7_takeStair_168 : decode cX7_takeStair 168 = .ok (.ifCond .le 5, 3) := by decide +kernel
theorem dX7_takeStair_171 : decode cX7_takeStair 171 = .ok (.iload_n 3, 1) := by decide +kernel
theorem dX7_takeStair_172 : decode cX7_takeStair 172 = .ok (.ireturn, 1) := by decide +kernel
theorem dX7_takeStair_173 : decode cX7_takeStair 173 = .ok (.aload_n 0, 1) := by decide +kernel
theorem dX7_takeStair_174 : decode cX7_takeStair 174 = .ok (.getfield 47, 3) := by decide +kernel
theorem dX7_takeStair_177 : decode cX7_takeStair 177 = .ok (.iload_n 1, 1) := by decide +kernel
theorem dX7_takeStair_178 : decode cX7_takeStair 178 = .ok (.iaload, 1) := by decide +kernel
theorem dX7_takeStair_179 : decode cX7_takeStair 179 = .ok (.aload_n 0, 1) := by decide +kernel
theorem dX7_takeStair_180 : decode cX7_takeStair 180 = .ok (.getfield 50, 3) := by decide +kernel
theorem dX7_takeStair_183 : decode cX7_takeStair 183 = .ok (.iload_n 1, 1) := by decide +kernel
theorem dX7_takeStair_184 : decode cX7_takeStair 184 = .ok (.iaload, 1) := by decide +kernel
theorem dX7_takeStair_185 : decode cX7_takeStair 185 = .ok (.if_icmp .ne 15, 3) := by decide +kernel
theorem dX7_takeStair_188 : decode cX7_takeStair 188 = .ok (.aload_n 0, 1) := by decide +kernel
theorem dX7_takeStair_189 : decode cX7_takeStair 189 = .ok (.iconst 4, 1) := by decide +kernel
theorem dX7_takeStair_190 : decode cX7_takeStair 190 = .ok (.aload_n 0, 1) := by decide +kernel
theorem dX7_takeStair_191 : decode cX7_takeStair 191 = .ok (.getfield 152, 3) := by decide +kernel
theorem dX7_takeStair_194 : decode cX7_takeStair 194 = .ok (.invokevirtual 148, 3) := by decide +kernel
theorem dX7_takeStair_197 : decode cX7_takeStair 197 = .ok (.goto 8, 3) := by decide +kernel
theorem dX7_takeStair_200 : decode cX7_takeStair 200 = .ok (.aload_n 0, 1) := by decide +kernel
theorem dX7_takeStair_201 : decode cX7_takeStair 201 = .ok (.iload_n 1, 1) := by decide +kernel
theorem dX7_takeStair_202 : decode cX7_takeStair 202 = .ok (.invokevirtual 182, 3) := by decide +kernel
theorem dX7_takeStair_205 : decode cX7_takeStair 205 = .ok (.ireturn, 1) := by decide +kernel
set_option maxRecDepth 20000 in
theorem ggX7_takePerson_X7_into : GoodIn wsX7_takePerson wsX7_into := goodIn_r _ [12, 13, 14, 15, 16, 11, 17, 6, 7, 18, 19, 20, 21, 22, 23, 24, 25, 26, 27, 28, 29, 30, 31, 32, 33, 34, 35, 36, 37, 38, 39, 40, 41, 42, 43, 44, 45, 46, 47, 48, 49, 50, 51, 52, 53, 54, 55, 56, 57, 58, 59, 60, 61, 62, 63, 64, 65, 66, 67, 68, 69, 70, 71, 72, 73, 74, 75, 76, 77] (by decide +kernel) (by decide +kernel)
set_option maxRecDepth 20000 in
theorem gX7_takePerson_X7_into : GoodIn wsX7_takePerson (wsV RX7 161 RX7 yX7_into wsX7_into) := goodIn_app (goodIn_of _ (by decide +kernel)) ggX7_takePerson_X7_into
set_option maxRecDepth 20000 in
theorem ggX7_takePerson_X7_here : GoodIn wsX7_takePerson wsX7_here := goodIn_r _ [25, 18, 20, 21, 34, 35, 36, 37, 38, 39, 40, 41, 42, 43, 44, 45, 46, 47, 48, 49, 50, 51, 52, 53, 54, 55, 56, 57, 58, 59, 60, 61, 62, 63, 64, 65, 66, 67, 68, 69, 70, 71, 72, 73, 74, 75, 76, 77] (by decide +kernel) (by decide +kernel)
set_option maxRecDepth 20000 in
theorem gX7_takePerson_X7_here : GoodIn wsX7_takePerson (wsV RX7 121 RX7 yX7_here wsX7_here) := goodIn_app (goodIn_of _ (by decide +kernel)) ggX7_takePerson_X7_here
set_option maxRecDepth 20000 in
theorem ggX7_takePerson_X7_in : GoodIn wsX7_takePerson wsX7_in := goodIn_r _ [28] (by decide +kernel) (by decide +kernel)
set_option maxRecDepth 20000 in
theorem gX7_takePerson_X7_in : GoodIn wsX7_takePerson (va_wsS RX7 99 yX7_in wsX7_in) := goodIn_app (goodIn_of _ (by decide +kernel)) ggX7_takePerson_X7_in
theorem dX7_takePerson_0 : decode cX7_takePerson 0 = .ok (.aload_n 0, 1) := by decide +kernel
theorem dX7_takePerson_1 : decode cX7_takePerson 1 = .ok (.getfield 186, 3) := by decide +kernel
theorem dX7_takePerson_4 : decode cX7_takePerson 4 = .ok (.istore_n 1, 1) := by decide +kernel
theorem dX7_takePerson_5 : decode cX7_takePerson 5 = .ok (.aload_n 0, 1) := by decide +kernel
theorem dX7_takePerson_6 : decode cX7_takePerson 6 = .ok (.dup, 1) := by decide +kernel
theorem dX7_takePerson_7 : decode cX7_takePerson 7 = .ok (.getfield 186, 3) := by decide +kernel
theorem dX7_takePerson_10 : decode cX7_takePerson 10 = .ok (.iconst 1, 1) := by decide +kernel
theorem dX7_takePerson_11 : decode cX7_takePerson 11 = .ok (.iadd, 1) := by decide +kernel
theorem dX7_takePerson_12 : decode cX7_takePerson 12 = .ok (.putfield 186, 3) := by decide +kernel
theorem dX7_takePerson_15 : decode cX7_takePerson 15 = .ok (.aload_n 0, 1) := by decide +kernel
theorem dX7_takePerson_16 : decode cX7_takePerson 16 = .ok (.aload_n 0, 1) := by decide +kernel
theorem dX7_takePerson_17 : decode cX7_takePerson 17 = .ok (.getfield 59, 3) := by decide +kernel
theorem dX7_takePerson_20 : decode cX7_takePerson 20 = .ok (.iload_n 1, 1) := by decide +kernel
theorem dX7_takePerson_21 : decode cX7_takePerson 21 = .ok (.iconst 0, 1) := by decide +kernel
theorem dX7_takePerson_22 : decode cX7_takePerson 22 = .ok (.aload_n 0, 1) := by decide +kernel
theorem dX7_takePerson_23 : decode cX7_takePerson 23 = .ok (.getfield 179, 3) := by decide +kernel
theorem dX7_takePerson_26 : decode cX7_takePerson 26 = .ok (.iconst 1, 1) := by decide +kernel
theorem dX7_takePerson_27 : decode cX7_takePerson 27 = .ok (.isub, 1) := by decide +kernel
theorem dX7_takePerson_28 : decode cX7_takePerson 28 = .ok (.invokevirtual 161, 3) := by decide +kernel
theorem dX7_takePerson_31 : decode cX7_takePerson 31 = .ok (.istore_n 2, 1) := by decide +kernel
theorem dX7_takePerson_32 : decode cX7_takePerson 32 = .ok (.iload_n 2, 1) := by decide +kernel
theorem dX7_takePerson_33 : decode cX7_takePerson 33 = .ok (.ifCond .le 7, 3) := by decide +kernel
theorem dX7_takePerson_36 : decode cX7_takePerson 36 = .ok (.iload_n 2, 1) := by decide +kernel
theorem dX7_takePerson_37 : decode cX7_takePerson 37 = .ok (.goto 15, 3) := by decide +kernel
theorem dX7_takePerson_40 : decode cX7_takePerson 40 = .ok (.aload_n 0, 1) := by decide +kernel
theorem dX7_takePerson_41 : decode cX7_takePerson 41 = .ok (.aload_n 0, 1) := by decide +kernel
theorem dX7_takePerson_42 : decode cX7_takePerson 42 = .ok (.getfield 62, 3) := by decide +kernel
theorem dX7_takePerson_45 : decode cX7_takePerson 45 = .ok (.iload_n 1, 1) := by decide +kernel
theorem dX7_takePerson_46 : decode cX7_takePerson 46 = .ok (.iconst 1, 1) := by decide +kernel
theorem dX7_takePerson_47 : decode cX7_takePerson 47 = .ok (.bipush 24, 2) := by decide +kernel
theorem dX7_takePerson_49 : decode cX7_takePerson 49 = .ok (.invokevirtual 161, 3) := by decide +kernel
theorem dX7_takePerson_52 : decode cX7_takePerson 52 = .ok (.istore_n 2, 1) := by decide +kernel
theorem dX7_takePerson_53 : decode cX7_takePerson 53 = .ok (.aload_n 0, 1) := by decide +kernel
theorem dX7_takePerson_54 : decode cX7_takePerson 54 = .ok (.getfield 65, 3) := by decide +kernel
theorem dX7_takePerson_57 : decode cX7_takePerson 57 = .ok (.iload_n 1, 1) := by decide +kernel
theorem dX7_takePerson_58 : decode cX7_takePerson 58 = .ok (.iconst 0, 1) := by decide +kernel
theorem dX7_takePerson_59 : decode cX7_takePerson 59 = .ok (.iastore, 1) := by decide +kernel
theorem dX7_takePerson_60 : decode cX7_takePerson 60 = .ok (.iload_n 2, 1) := by decide +kernel
theorem dX7_takePerson_61 : decode cX7_takePerson 61 = .ok (.ifCond .gt 20, 3) := by decide +kernel
theorem dX7_takePerson_64 : decode cX7_takePerson 64 = .ok (.aload_n 0, 1) := by decide +kernel
theorem dX7_takePerson_65 : decode cX7_takePerson 65 = .ok (.invokevirtual 121, 3) := by decide +kernel
theorem dX7_takePerson_68 : decode cX7_takePerson 68 = .ok (.i2l, 1) := by decide +kernel
theorem dX7_takePerson_69 : decode cX7_takePerson 69 = .ok (.ldc2_w 144, 3) := by decide +kernel
theorem dX7_takePerson_72 : decode cX7_takePerson 72 = .ok (.ldc2_w 146, 3) := by decide +kernel
theorem dX7_takePerson_75 : decode cX7_takePerson 75 = .ok (.invokestatic 99, 3) := by decide +kernel
theorem dX7_takePerson_78 : decode cX7_takePerson 78 = .ok (.ifCond .ne 7, 3) := by decide +kernel
theorem dX7_takePerson_81 : decode cX7_takePerson 81 = .ok (.iload_n 2, 1) := by decide +kernel
theorem dX7_takePerson_82 : decode cX7_takePerson 82 = .ok (.goto 15, 3) := by decide +kernel
theorem dX7_takePerson_85 : decode cX7_takePerson 85 = .ok (.aload_n 0, 1) := by decide +kernel
theorem dX7_takePerson_86 : decode cX7_takePerson 86 = .ok (.aload_n 0, 1) := by decide +kernel
theorem dX7_takePerson_87 : decode cX7_takePerson 87 = .ok (.getfield 65, 3) := by decide +kernel
theorem dX7_takePerson_90 : decode cX7_takePerson 90 = .ok (.iload_n 1, 1) := by decide +kernel
theorem dX7_takePerson_91 : decode cX7_takePerson 91 = .ok (.iconst 1, 1) := by decide +kernel
theorem dX7_takePerson_92 : decode cX7_takePerson 92 = .ok (.bipush 24, 2) := by decide +kernel
theorem dX7_takePerson_94 : decode cX7_takePerson 94 = .ok (.invokevirtual 161, 3) := by decide +kernel
theorem dX7_takePerson_97 : decode cX7_takePerson 97 = .ok (.ireturn, 1) := by decide +kernel
set_option maxRecDepth 20000 in
theorem ggX7_takeClause_X7_readWord : GoodIn wsX7_takeClause wsX7_readWord := goodIn_r _ [12, 1, 3, 6, 13, 14, 15, 16, 17, 18, 19, 20, 21, 22, 23, 11, 24, 25, 26, 27, 70, 71, 72, 73, 74, 75, 76, 77, 78, 79, 80, 81, 82, 83, 84, 85, 86, 87, 88, 89, 90, 91, 92, 93, 94, 95, 96, 97, 98, 99, 100, 101, 102, 103, 104, 105, 106, 107, 108, 109, 110, 111, 112, 113] (by decide +kernel) (by decide +kernel)
set_option maxRecDepth 20000 in
theorem gX7_takeClause_X7_readWord : GoodIn wsX7_takeClause (wsV RX7 168 RX7 yX7_readWord wsX7_readWord) := goodIn_app (goodIn_of _ (by decide +kernel)) ggX7_takeClause_X7_readWord
set_option maxRecDepth 20000 in
theorem ggX7_takeClause_X7_code : GoodIn wsX7_takeClause wsX7_code := goodIn_r _ [30, 19, 20] (by decide +kernel) (by decide +kernel)
set_option maxRecDepth 20000 in
theorem gX7_takeClause_X7_code : GoodIn wsX7_takeClause (va_wsS RX7 171 yX7_code wsX7_code) := goodIn_app (goodIn_of _ (by decide +kernel)) ggX7_takeClause_X7_code
set_option maxRecDepth 20000 in
theorem ggX7_takeClause_X7_longer : GoodIn wsX7_takeClause wsX7_longer := goodIn_r _ [33, 19, 20] (by decide +kernel) (by decide +kernel)
set_option maxRecDepth 20000 in
theorem gX7_takeClause_X7_longer : GoodIn wsX7_takeClause (va_wsS RX7 175 yX7_longer wsX7_longer) := goodIn_app (goodIn_of _ (by decide +kernel)) ggX7_takeClause_X7_longer
set_option maxRecDepth 20000 in
theorem ggX7_takeClause_X7_fails : GoodIn wsX7_takeClause wsX7_fails := goodIn_r _ [37, 38, 70, 71, 72, 73, 74, 75, 76, 77, 78, 79, 80, 81, 82, 83, 84, 85, 86, 87, 88, 89, 90, 91, 92, 93, 94, 95, 96, 97, 98, 99, 100, 101, 102, 103, 104, 105, 106, 107, 108, 109, 110, 111, 112, 113] (by decide +kernel) (by decide +kernel)
set_option maxRecDepth 20000 in
theorem gX7_takeClause_X7_fails : GoodIn wsX7_takeClause (wsV RX7 148 RX7 yX7_fails wsX7_fails) := goodIn_app (goodIn_of _ (by decide +kernel)) ggX7_takeClause_X7_fails
set_option maxRecDepth 20000 in
theorem ggX7_takeClause_X7_takeNumber : GoodIn wsX7_takeClause wsX7_takeNumber := goodIn_r _ [42, 43, 44, 3, 45, 7, 13, 14, 21, 22, 23, 11, 24, 25, 26, 27, 34, 35, 36, 37, 38, 70, 71, 72, 73, 74, 75, 76, 77, 78, 79, 80, 81, 82, 83, 84, 85, 86, 87, 88, 89, 90, 91, 92, 93, 94, 95, 96, 97, 98, 99, 100, 101, 102, 103, 104, 105, 106, 107, 108, 109, 110, 111, 112, 113] (by decide +kernel) (by decide +kernel)
set_option maxRecDepth 20000 in
theorem gX7_takeClause_X7_takeNumber : GoodIn wsX7_takeClause (wsV RX7 158 RX7 yX7_takeNumber wsX7_takeNumber) := goodIn_app (goodIn_of _ (by decide +kernel)) ggX7_takeClause_X7_takeNumber
set_option maxRecDepth 20000 in
theorem ggX7_takeClause_X7_takeStair : GoodIn wsX7_takeClause wsX7_takeStair := goodIn_r _ [49, 4, 1, 3, 6, 50, 51, 2, 52, 45, 8, 9, 10, 11, 12, 13, 14, 15, 16, 17, 18, 19, 20, 21, 22, 23, 24, 25, 26, 27, 28, 29, 30, 31, 32, 33, 34, 35, 36, 37, 38, 53, 54, 55, 56, 7, 39, 40, 41, 42, 43, 44, 57, 58, 59, 60, 61, 62, 70, 71, 72, 73, 74, 75, 76, 77, 78, 79, 80, 81, 82, 83, 84, 85, 86, 87, 88, 89, 90, 91, 92, 93, 94, 95, 96, 97, 98, 99, 100, 101, 102, 103, 104, 105, 106, 107, 108, 109, 110, 111, 112, 113] (by decide +kernel) (by decide +kernel)
set_option maxRecDepth 20000 in
theorem gX7_takeClause_X7_takeStair : GoodIn wsX7_takeClause (wsV RX7 189 RX7 yX7_takeStair wsX7_takeStair) := goodIn_app (goodIn_of _ (by decide +kernel)) ggX7_takeClause_X7_takeStair
set_option maxRecDepth 20000 in
theorem ggX7_takeClause_X7_takePerson : GoodIn wsX7_takeClause wsX7_takePerson := goodIn_r _ [66, 5, 67, 2, 68, 69, 43, 44, 53, 54, 55, 11, 56, 7, 39, 40, 41, 42, 3, 45, 13, 14, 21, 22, 23, 24, 25, 26, 27, 34, 35, 36, 37, 38, 70, 71, 72, 73, 74, 75, 76, 77, 78, 79, 80, 81, 82, 83, 84, 85, 86, 87, 88, 89, 90, 91, 92, 93, 94, 95, 96, 97, 98, 99, 100, 101, 102, 103, 104, 105, 106, 107, 108, 109, 110, 111, 112, 113] (by decide +kernel) (by decide +kernel)
set_option maxRecDepth 20000 in
theorem gX7_takeClause_X7_takePerson : GoodIn wsX7_takeClause (wsV RX7 192 RX7 yX7_takePerson wsX7_takePerson) := goodIn_app (goodIn_of _ (by decide +kernel)) ggX7_takeClause_X7_takePerson
set_option maxRecDepth 20000 in
theorem ggX7_takeClause_X7_here : GoodIn wsX7_takeClause wsX7_here := goodIn_r _ [24, 3, 13, 14, 70, 71, 72, 73, 74, 75, 76, 77, 78, 79, 80, 81, 82, 83, 84, 85, 86, 87, 88, 89, 90, 91, 92, 93, 94, 95, 96, 97, 98, 99, 100, 101, 102, 103, 104, 105, 106, 107, 108, 109, 110, 111, 112, 113] (by decide +kernel) (by decide +kernel)
set_option maxRecDepth 20000 in
theorem gX7_takeClause_X7_here : GoodIn wsX7_takeClause (wsV RX7 121 RX7 yX7_here wsX7_here) := goodIn_app (goodIn_of _ (by decide +kernel)) ggX7_takeClause_X7_here
theorem dX7_takeClause_0 : decode cX7_takeClause 0 = .ok (.aload_n 0, 1) := by decide +kernel
theorem dX7_takeClause_1 : decode cX7_takeClause 1 = .ok (.invokevirtual 168, 3) := by decide +kernel
theorem dX7_takeClause_4 : decode cX7_takeClause 4 = .ok (.aload_n 0, 1) := by decide +kernel
theorem dX7_takeClause_5 : decode cX7_takeClause 5 = .ok (.getfield 125, 3) := by decide +kernel
theorem dX7_takeClause_8 : decode cX7_takeClause 8 = .ok (.bipush 112, 2) := by decide +kernel
theorem dX7_takeClause_10 : decode cX7_takeClause 10 = .ok (.bipush 108, 2) := by decide +kernel
theorem dX7_takeClause_12 : decode cX7_takeClause 12 = .ok (.bipush 97, 2) := by decide +kernel
theorem dX7_takeClause_14 : decode cX7_takeClause 14 = .ok (.bipush 99, 2) := by decide +kernel
theorem dX7_takeClause_16 : decode cX7_takeClause 16 = .ok (.invokestatic 171, 3) := by decide +kernel
theorem dX7_takeClause_19 : decode cX7_takeClause 19 = .ok (.bipush 101, 2) := by decide +kernel
theorem dX7_takeClause_21 : decode cX7_takeClause 21 = .ok (.bipush 115, 2) := by decide +kernel
theorem dX7_takeClause_23 : decode cX7_takeClause 23 = .ok (.invokestatic 175, 3) := by decide +kernel
theorem dX7_takeClause_26 : decode cX7_takeClause 26 = .ok (.lcmp, 1) := by decide +kernel
theorem dX7_takeClause_27 : decode cX7_takeClause 27 = .ok (.ifCond .ne 7, 3) := by decide +kernel
theorem dX7_takeClause_30 : decode cX7_takeClause 30 = .ok (.iconst 0, 1) := by decide +kernel
theorem dX7_takeClause_31 : decode cX7_takeClause 31 = .ok (.goto 33, 3) := by decide +kernel
theorem dX7_takeClause_34 : decode cX7_takeClause 34 = .ok (.aload_n 0, 1) := by decide +kernel
theorem dX7_takeClause_35 : decode cX7_takeClause 35 = .ok (.getfield 125, 3) := by decide +kernel
theorem dX7_takeClause_38 : decode cX7_takeClause 38 = .ok (.bipush 115, 2) := by decide +kernel
theorem dX7_takeClause_40 : decode cX7_takeClause 40 = .ok (.bipush 116, 2) := by decide +kernel
theorem dX7_takeClause_42 : decode cX7_takeClause 42 = .ok (.bipush 97, 2) := by decide +kernel
theorem dX7_takeClause_44 : decode cX7_takeClause 44 = .ok (.bipush 105, 2) := by decide +kernel
theorem dX7_takeClause_46 : decode cX7_takeClause 46 = .ok (.invokestatic 171, 3) := by decide +kernel
theorem dX7_takeClause_49 : decode cX7_takeClause 49 = .ok (.bipush 114, 2) := by decide +kernel
theorem dX7_takeClause_51 : decode cX7_takeClause 51 = .ok (.iconst 0, 1) := by decide +kernel
theorem dX7_takeClause_52 : decode cX7_takeClause 52 = .ok (.invokestatic 175, 3) := by decide +kernel
theorem dX7_takeClause_55 : decode cX7_takeClause 55 = .ok (.lcmp, 1) := by decide +kernel
theorem dX7_takeClause_56 : decode cX7_takeClause 56 = .ok (.ifCond .ne 7, 3) := by decide +kernel
theorem dX7_takeClause_59 : decode cX7_takeClause 59 = .ok (.iconst 1, 1) := by decide +kernel
theorem dX7_takeClause_60 : decode cX7_takeClause 60 = .ok (.goto 4, 3) := by decide +kernel
theorem dX7_takeClause_63 : decode cX7_takeClause 63 = .ok (.iconst (-1), 1) := by decide +kernel
theorem dX7_takeClause_64 : decode cX7_takeClause 64 = .ok (.istore_n 1, 1) := by decide +kernel
theorem dX7_takeClause_65 : decode cX7_takeClause 65 = .ok (.iload_n 1, 1) := by decide +kernel
theorem dX7_takeClause_66 : decode cX7_takeClause 66 = .ok (.ifCond .lt 7, 3) := by decide +kernel
theorem dX7_takeClause_69 : decode cX7_takeClause 69 = .ok (.iload_n 1, 1) := by decide +kernel
theorem dX7_takeClause_70 : decode cX7_takeClause 70 = .ok (.goto 34, 3) := by decide +kernel
theorem dX7_takeClause_73 : decode cX7_takeClause 73 = .ok (.aload_n 0, 1) := by decide +kernel
theorem dX7_takeClause_74 : decode cX7_takeClause 74 = .ok (.getfield 125, 3) := by decide +kernel
theorem dX7_takeClause_77 : decode cX7_takeClause 77 = .ok (.bipush 112, 2) := by decide +kernel
theorem dX7_takeClause_79 : decode cX7_takeClause 79 = .ok (.bipush 101, 2) := by decide +kernel
theorem dX7_takeClause_81 : decode cX7_takeClause 81 = .ok (.bipush 114, 2) := by decide +kernel
theorem dX7_takeClause_83 : decode cX7_takeClause 83 = .ok (.bipush 115, 2) := by decide +kernel
theorem dX7_takeClause_85 : decode cX7_takeClause 85 = .ok (.invokestatic 171, 3) := by decide +kernel
theorem dX7_takeClause_88 : decode cX7_takeClause 88 = .ok (.bipush 111, 2) := by decide +kernel
theorem dX7_takeClause_90 : decode cX7_takeClause 90 = .ok (.bipush 110, 2) := by decide +kernel
theorem dX7_takeClause_92 : decode cX7_takeClause 92 = .ok (.invokestatic 175, 3) := by decide +kernel
theorem dX7_takeClause_95 : decode cX7_takeClause 95 = .ok (.lcmp, 1) := by decide +kernel
theorem dX7_takeClause_96 : decode cX7_takeClause 96 = .ok (.ifCond .ne 7, 3) := by decide +kernel
theorem dX7_takeClause_99 : decode cX7_takeClause 99 = .ok (.iconst 2, 1) := by decide +kernel
theorem dX7_takeClause_100 : decode cX7_takeClause 100 = .ok (.goto 4, 3) := by decide +kernel
theorem dX7_takeClause_103 : decode cX7_takeClause 103 = .ok (.iconst (-1), 1) := by decide +kernel
theorem dX7_takeClause_104 : decode cX7_takeClause 104 = .ok (.istore_n 2, 1) := by decide +kernel
theorem dX7_takeClause_105 : decode cX7_takeClause 105 = .ok (.iload_n 2, 1) := by decide +kernel
theorem dX7_takeClause_106 : decode cX7_takeClause 106 = .ok (.ifCond .lt 14, 3) := by decide +kernel
theorem dX7_takeClause_109 : decode cX7_takeClause 109 = .ok (.iload_n 2, 1) := by decide +kernel
theorem dX7_takeClause_110 : decode cX7_takeClause 110 = .ok (.ifCond .le 20, 3) := by decide +kernel
theorem dX7_takeClause_113 : decode cX7_takeClause 113 = .ok (.aload_n 0, 1) := by decide +kernel
theorem dX7_takeClause_114 : decode cX7_takeClause 114 = .ok (.getfield 179, 3) := by decide +kernel
theorem dX7_takeClause_117 : decode cX7_takeClause 117 = .ok (.ifCond .ne 13, 3) := by decide +kernel
theorem dX7_takeClause_120 : decode cX7_takeClause 120 = .ok (.aload_n 0, 1) := by decide +kernel
theorem dX7_takeClause_121 : decode cX7_takeClause 121 = .ok (.iconst 1, 1) := by decide +kernel
theorem dX7_takeClause_122 : decode cX7_takeClause 122 = .ok (.aload_n 0, 1) := by decide +kernel
theorem dX7_takeClause_123 : decode cX7_takeClause 123 = .ok (.getfield 118, 3) := by decide +kernel
theorem dX7_takeClause_126 : decode cX7_takeClause 126 = .ok (.invokevirtual 148, 3) := by decide +kernel
theorem dX7_takeClause_129 : decode cX7_takeClause 129 = .ok (.ireturn, 1) := by decide +kernel
theorem dX7_takeClause_130 : decode cX7_takeClause 130 = .ok (.iload_n 2, 1) := by decide +kernel
theorem dX7_takeClause_131 : decode cX7_takeClause 131 = .ok (.ifCond .ne 13, 3) := by decide +kernel
theorem dX7_takeClause_134 : decode cX7_takeClause 134 = .ok (.aload_n 0, 1) := by decide +kernel
theorem dX7_takeClause_135 : decode cX7_takeClause 135 = .ok (.getfield 179, 3) := by decide +kernel
theorem dX7_takeClause_138 : decode cX7_takeClause 138 = .ok (.ifCond .le 42, 3) := by decide +kernel
theorem dX7_takeClause_141 : decode cX7_takeClause 141 = .ok (.goto 29, 3) := by decide +kernel
theorem dX7_takeClause_144 : decode cX7_takeClause 144 = .ok (.iload_n 2, 1) := by decide +kernel
theorem dX7_takeClause_145 : decode cX7_takeClause 145 = .ok (.iconst 1, 1) := by decide +kernel
theorem dX7_takeClause_146 : decode cX7_takeClause 146 = .ok (.if_icmp .ne 15, 3) := by decide +kernel
theorem dX7_takeClause_149 : decode cX7_takeClause 149 = .ok (.aload_n 0, 1) := by decide +kernel
theorem dX7_takeClause_150 : decode cX7_takeClause 150 = .ok (.getfield 165, 3) := by decide +kernel
theorem dX7_takeClause_153 : decode cX7_takeClause 153 = .ok (.bipush 10, 2) := by decide +kernel
theorem dX7_takeClause_155 : decode cX7_takeClause 155 = .ok (.if_icmp .ne 25, 3) := by decide +kernel
theorem dX7_takeClause_158 : decode cX7_takeClause 158 = .ok (.goto 12, 3) := by decide +kernel
theorem dX7_takeClause_161 : decode cX7_takeClause 161 = .ok (.aload_n 0, 1) := by decide +kernel
theorem dX7_takeClause_162 : decode cX7_takeClause 162 = .ok (.getfield 186, 3) := by decide +kernel
theorem dX7_takeClause_165 : decode cX7_takeClause 165 = .ok (.bipush 8, 2) := by decide +kernel
theorem dX7_takeClause_167 : decode cX7_takeClause 167 = .ok (.if_icmp .ne 13, 3) := by decide +kernel
theorem dX7_takeClause_170 : decode cX7_takeClause 170 = .ok (.aload_n 0, 1) := by decide +kernel
theorem dX7_takeClause_171 : decode cX7_takeClause 171 = .ok (.iconst 3, 1) := by decide +kernel
theorem dX7_takeClause_172 : decode cX7_takeClause 172 = .ok (.aload_n 0, 1) := by decide +kernel
theorem dX7_takeClause_173 : decode cX7_takeClause 173 = .ok (.getfield 118, 3) := by decide +kernel
theorem dX7_takeClause_176 : decode cX7_takeClause 176 = .ok (.invokevirtual 148, 3) := by decide +kernel
theorem dX7_takeClause_179 : decode cX7_takeClause 179 = .ok (.ireturn, 1) := by decide +kernel
theorem dX7_takeClause_180 : decode cX7_takeClause 180 = .ok (.aload_n 0, 1) := by decide +kernel
theorem dX7_takeClause_181 : decode cX7_takeClause 181 = .ok (.aload_n 0, 1) := by decide +kernel
theorem dX7_takeClause_182 : decode cX7_takeClause 182 = .ok (.getfield 129, 3) := by decide +kernel
theorem dX7_takeClause_185 : decode cX7_takeClause 185 = .ok (.putfield 118, 3) := by decide +kernel
theorem dX7_takeClause_188 : decode cX7_takeClause 188 = .ok (.iconst 0, 1) := by decide +kernel
theorem dX7_takeClause_189 : decode cX7_takeClause 189 = .ok (.istore_n 3, 1) := by decide +kernel
theorem dX7_takeClause_190 : decode cX7_takeClause 190 = .ok (.iload_n 2, 1) := by decide +kernel
theorem dX7_takeClause_191 : decode cX7_takeClause 191 = .ok (.ifCond .ne 22, 3) := by decide +kernel
theorem dX7_takeClause_194 : decode cX7_takeClause 194 = .ok (.aload_n 0, 1) := by decide +kernel
theorem dX7_takeClause_195 : decode cX7_takeClause 195 = .ok (.iconst 1, 1) := by decide +kernel
theorem dX7_takeClause_196 : decode cX7_takeClause 196 = .ok (.bipush 8, 2) := by decide +kernel
theorem dX7_takeClause_198 : decode cX7_takeClause 198 = .ok (.invokevirtual 158, 3) := by decide +kernel
theorem dX7_takeClause_201 : decode cX7_takeClause 201 = .ok (.istore_n 3, 1) := by decide +kernel
theorem dX7_takeClause_202 : decode cX7_takeClause 202 = .ok (.aload_n 0, 1) := by decide +kernel
theorem dX7_takeClause_203 : decode cX7_takeClause 203 = .ok (.aload_n 0, 1) := by decide +kernel
theorem dX7_takeClause_204 : decode cX7_takeClause 204 = .ok (.getfield 155, 3) := by decide +kernel
theorem dX7_takeClause_207 : decode cX7_takeClause 207 = .ok (.putfield 179, 3) := by decide +kernel
theorem dX7_takeClause_210 : decode cX7_takeClause 210 = .ok (.goto 20, 3) := by decide +kernel
theorem dX7_takeClause_213 : decode cX7_takeClause 213 = .ok (.iload_n 2, 1) := by decide +kernel
theorem dX7_takeClause_214 : decode cX7_takeClause 214 = .ok (.iconst 1, 1) := by decide +kernel
theorem dX7_takeClause_215 : decode cX7_takeClause 215 = .ok (.if_icmp .ne 10, 3) := by decide +kernel
theorem dX7_takeClause_218 : decode cX7_takeClause 218 = .ok (.aload_n 0, 1) := by decide +kernel
theorem dX7_takeClause_219 : decode cX7_takeClause 219 = .ok (.invokevirtual 189, 3) := by decide +kernel
theorem dX7_takeClause_222 : decode cX7_takeClause 222 = .ok (.goto 7, 3) := by decide +kernel
theorem dX7_takeClause_225 : decode cX7_takeClause 225 = .ok (.aload_n 0, 1) := by decide +kernel
theorem dX7_takeClause_226 : decode cX7_takeClause 226 = .ok (.invokevirtual 192, 3) := by decide +kernel
theorem dX7_takeClause_229 : decode cX7_takeClause 229 = .ok (.istore_n 3, 1) := by decide +kernel
theorem dX7_takeClause_230 : decode cX7_takeClause 230 = .ok (.iload_n 3, 1) := by decide +kernel
theorem dX7_takeClause_231 : decode cX7_takeClause 231 = .ok (.ifCond .ne 22, 3) := by decide +kernel
theorem dX7_takeClause_234 : decode cX7_takeClause 234 = .ok (.aload_n 0, 1) := by decide +kernel
theorem dX7_takeClause_235 : decode cX7_takeClause 235 = .ok (.invokevirtual 121, 3) := by decide +kernel
theorem dX7_takeClause_238 : decode cX7_takeClause 238 = .ok (.bipush 59, 2) := by decide +kernel
theorem dX7_takeClause_240 : decode cX7_takeClause 240 = .ok (.if_icmp .eq 13, 3) := by decide +kernel
theorem dX7_takeClause_243 : decode cX7_takeClause 243 = .ok (.aload_n 0, 1) := by decide +kernel
theorem dX7_takeClause_244 : decode cX7_takeClause 244 = .ok (.iconst 1, 1) := by decide +kernel
theorem dX7_takeClause_245 : decode cX7_takeClause 245 = .ok (.aload_n 0, 1) := by decide +kernel
theorem dX7_takeClause_246 : decode cX7_takeClause 246 = .ok (.getfield 118, 3) := by decide +kernel
theorem dX7_takeClause_249 : decode cX7_takeClause 249 = .ok (.invokevirtual 148, 3) := by decide +kernel
theorem dX7_takeClause_252 : decode cX7_takeClause 252 = .ok (.ireturn, 1) := by decide +kernel
theorem dX7_takeClause_253 : decode cX7_takeClause 253 = .ok (.aload_n 0, 1) := by decide +kernel
theorem dX7_takeClause_254 : decode cX7_takeClause 254 = .ok (.dup, 1) := by decide +kernel
theorem dX7_takeClause_255 : decode cX7_takeClause 255 = .ok (.getfield 118, 3) := by decide +kernel
theorem dX7_takeClause_258 : decode cX7_takeClause 258 = .ok (.iconst 1, 1) := by decide +kernel
theorem dX7_takeClause_259 : decode cX7_takeClause 259 = .ok (.iadd, 1) := by decide +kernel
theorem dX7_takeClause_260 : decode cX7_takeClause 260 = .ok (.putfield 118, 3) := by decide +kernel
theorem dX7_takeClause_263 : decode cX7_takeClause 263 = .ok (.iload_n 3, 1) := by decide +kernel
theorem dX7_takeClause_264 : decode cX7_takeClause 264 = .ok (.ireturn, 1) := by decide +kernel
set_option maxRecDepth 20000 in
theorem ggX7_town_X7_here : GoodIn wsX7_town wsX7_here := goodIn_r _ [34, 2, 6, 35, 89, 90, 91, 92, 93, 94, 95, 96, 97, 98, 99, 100, 101, 102, 103, 104, 105, 106, 107, 108, 109, 110, 111, 112, 113, 114, 115, 116, 117, 118, 119, 120, 121, 122, 123, 124, 125, 126, 127, 128, 129, 130, 131, 132] (by decide +kernel) (by decide +kernel)
set_option maxRecDepth 20000 in
theorem gX7_town_X7_here : GoodIn wsX7_town (wsV RX7 121 RX7 yX7_here wsX7_here) := goodIn_app (goodIn_of _ (by decide +kernel)) ggX7_town_X7_here
set_option maxRecDepth 20000 in
theorem ggX7_town_X7_takeClause : GoodIn wsX7_town wsX7_takeClause := goodIn_r _ [39, 40, 3, 2, 4, 5, 41, 42, 43, 44, 45, 33, 46, 6, 35, 47, 48, 49, 50, 51, 52, 30, 31, 32, 34, 53, 54, 55, 56, 57, 58, 59, 60, 61, 62, 63, 64, 65, 1, 66, 67, 68, 69, 70, 71, 72, 73, 74, 75, 76, 11, 13, 15, 77, 78, 79, 80, 81, 82, 83, 84, 17, 20, 85, 86, 87, 88, 22, 24, 26, 89, 90, 91, 92, 93, 94, 95, 96, 97, 98, 99, 100, 101, 102, 103, 104, 105, 106, 107, 108, 109, 110, 111, 112, 113, 114, 115, 116, 117, 118, 119, 120, 121, 122, 123, 124, 125, 126, 127, 128, 129, 130, 131, 132] (by decide +kernel) (by decide +kernel)
set_option maxRecDepth 20000 in
theorem gX7_town_X7_takeClause : GoodIn wsX7_town (wsV RX7 195 RX7 yX7_takeClause wsX7_takeClause) := goodIn_app (goodIn_of _ (by decide +kernel)) ggX7_town_X7_takeClause
theorem dX7_town_0 : decode cX7_town 0 = .ok (.aload_n 0, 1) := by decide +kernel
theorem dX7_town_1 : decode cX7_town 1 = .ok (.iconst (-1), 1) := by decide +kernel
theorem dX7_town_2 : decode cX7_town 2 = .ok (.putfield 40, 3) := by decide +kernel
theorem dX7_town_5 : decode cX7_town 5 = .ok (.aload_n 0, 1) := by decide +kernel
theorem dX7_town_6 : decode cX7_town 6 = .ok (.iconst 0, 1) := by decide +kernel
theorem dX7_town_7 : decode cX7_town 7 = .ok (.putfield 118, 3) := by decide +kernel
theorem dX7_town_10 : decode cX7_town 10 = .ok (.aload_n 0, 1) := by decide +kernel
theorem dX7_town_11 : decode cX7_town 11 = .ok (.iconst 0, 1) := by decide +kernel
theorem dX7_town_12 : decode cX7_town 12 = .ok (.putfield 179, 3) := by decide +kernel
theorem dX7_town_15 : decode cX7_town 15 = .ok (.aload_n 0, 1) := by decide +kernel
theorem dX7_town_16 : decode cX7_town 16 = .ok (.iconst 0, 1) := by decide +kernel
theorem dX7_town_17 : decode cX7_town 17 = .ok (.putfield 165, 3) := by decide +kernel
theorem dX7_town_20 : decode cX7_town 20 = .ok (.aload_n 0, 1) := by decide +kernel
theorem dX7_town_21 : decode cX7_town 21 = .ok (.iconst 0, 1) := by decide +kernel
theorem dX7_town_22 : decode cX7_town 22 = .ok (.putfield 186, 3) := by decide +kernel
theorem dX7_town_25 : decode cX7_town 25 = .ok (.iconst 0, 1) := by decide +kernel
theorem dX7_town_26 : decode cX7_town 26 = .ok (.istore_n 1, 1) := by decide +kernel
theorem dX7_town_27 : decode cX7_town 27 = .ok (.iload_n 1, 1) := by decide +kernel
theorem dX7_town_28 : decode cX7_town 28 = .ok (.ifCond .ne 18, 3) := by decide +kernel
theorem dX7_town_31 : decode cX7_town 31 = .ok (.aload_n 0, 1) := by decide +kernel
theorem dX7_town_32 : decode cX7_town 32 = .ok (.invokevirtual 121, 3) := by decide +kernel
theorem dX7_town_35 : decode cX7_town 35 = .ok (.ifCond .lt 11, 3) := by decide +kernel
theorem dX7_town_38 : decode cX7_town 38 = .ok (.aload_n 0, 1) := by decide +kernel
theorem dX7_town_39 : decode cX7_town 39 = .ok (.invokevirtual 195, 3) := by decide +kernel
theorem dX7_town_42 : decode cX7_town 42 = .ok (.istore_n 1, 1) := by decide +kernel
theorem dX7_town_43 : decode cX7_town 43 = .ok (.goto (-16), 3) := by decide +kernel
theorem dX7_town_46 : decode cX7_town 46 = .ok (.aload_n 0, 1) := by decide +kernel
theorem dX7_town_47 : decode cX7_town 47 = .ok (.iconst 0, 1) := by decide +kernel
theorem dX7_town_48 : decode cX7_town 48 = .ok (.putfield 112, 3) := by decide +kernel
theorem dX7_town_51 : decode cX7_town 51 = .ok (.iload_n 1, 1) := by decide +kernel
theorem dX7_town_52 : decode cX7_town 52 = .ok (.ifCond .le 8, 3) := by decide +kernel
theorem dX7_town_55 : decode cX7_town 55 = .ok (.bipush (-10), 2) := by decide +kernel
theorem dX7_town_57 : decode cX7_town 57 = .ok (.iload_n 1, 1) := by decide +kernel
theorem dX7_town_58 : decode cX7_town 58 = .ok (.isub, 1) := by decide +kernel
theorem dX7_town_59 : decode cX7_town 59 = .ok (.ireturn, 1) := by decide +kernel
theorem dX7_town_60 : decode cX7_town 60 = .ok (.aload_n 0, 1) := by decide +kernel
theorem dX7_town_61 : decode cX7_town 61 = .ok (.aload_n 0, 1) := by decide +kernel
theorem dX7_town_62 : decode cX7_town 62 = .ok (.getfield 179, 3) := by decide +kernel
theorem dX7_town_65 : decode cX7_town 65 = .ok (.putfield 96, 3) := by decide +kernel
theorem dX7_town_68 : decode cX7_town 68 = .ok (.aload_n 0, 1) := by decide +kernel
theorem dX7_town_69 : decode cX7_town 69 = .ok (.aload_n 0, 1) := by decide +kernel
theorem dX7_town_70 : decode cX7_town 70 = .ok (.getfield 165, 3) := by decide +kernel
theorem dX7_town_73 : decode cX7_town 73 = .ok (.putfield 103, 3) := by decide +kernel
theorem dX7_town_76 : decode cX7_town 76 = .ok (.aload_n 0, 1) := by decide +kernel
theorem dX7_town_77 : decode cX7_town 77 = .ok (.aload_n 0, 1) := by decide +kernel
theorem dX7_town_78 : decode cX7_town 78 = .ok (.getfield 186, 3) := by decide +kernel
theorem dX7_town_81 : decode cX7_town 81 = .ok (.putfield 106, 3) := by decide +kernel
theorem dX7_town_84 : decode cX7_town 84 = .ok (.iconst 0, 1) := by decide +kernel
theorem dX7_town_85 : decode cX7_town 85 = .ok (.istore_n 2, 1) := by decide +kernel
theorem dX7_town_86 : decode cX7_town 86 = .ok (.iload_n 2, 1) := by decide +kernel
theorem dX7_town_87 : decode cX7_town 87 = .ok (.bipush 10, 2) := by decide +kernel
theorem dX7_town_89 : decode cX7_town 89 = .ok (.if_icmp .ge 64, 3) := by decide +kernel
theorem dX7_town_92 : decode cX7_town 92 = .ok (.aload_n 0, 1) := by decide +kernel
theorem dX7_town_93 : decode cX7_town 93 = .ok (.getfield 7, 3) := by decide +kernel
theorem dX7_town_96 : decode cX7_town 96 = .ok (.iload_n 2, 1) := by decide +kernel
theorem dX7_town_97 : decode cX7_town 97 = .ok (.aload_n 0, 1) := by decide +kernel
theorem dX7_town_98 : decode cX7_town 98 = .ok (.getfield 44, 3) := by decide +kernel
theorem dX7_town_101 : decode cX7_town 101 = .ok (.iload_n 2, 1) := by decide +kernel
theorem dX7_town_102 : decode cX7_town 102 = .ok (.iaload, 1) := by decide +kernel
theorem dX7_town_103 : decode cX7_town 103 = .ok (.iastore, 1) := by decide +kernel
theorem dX7_town_104 : decode cX7_town 104 = .ok (.aload_n 0, 1) := by decide +kernel
theorem dX7_town_105 : decode cX7_town 105 = .ok (.getfield 13, 3) := by decide +kernel
theorem dX7_town_108 : decode cX7_town 108 = .ok (.iload_n 2, 1) := by decide +kernel
theorem dX7_town_109 : decode cX7_town 109 = .ok (.aload_n 0, 1) := by decide +kernel
theorem dX7_town_110 : decode cX7_town 110 = .ok (.getfield 47, 3) := by decide +kernel
theorem dX7_town_113 : decode cX7_town 113 = .ok (.iload_n 2, 1) := by decide +kernel
theorem dX7_town_114 : decode cX7_town 114 = .ok (.iaload, 1) := by decide +kernel
theorem dX7_town_115 : decode cX7_town 115 = .ok (.iastore, 1) := by decide +kernel
theorem dX7_town_116 : decode cX7_town 116 = .ok (.aload_n 0, 1) := by decide +kernel
theorem dX7_town_117 : decode cX7_town 117 = .ok (.getfield 16, 3) := by decide +kernel
theorem dX7_town_120 : decode cX7_town 120 = .ok (.iload_n 2, 1) := by decide +kernel
theorem dX7_town_121 : decode cX7_town 121 = .ok (.aload_n 0, 1) := by decide +kernel
theorem dX7_town_122 : decode cX7_town 122 = .ok (.getfield 50, 3) := by decide +kernel
theorem dX7_town_125 : decode cX7_town 125 = .ok (.iload_n 2, 1) := by decide +kernel
theorem dX7_town_126 : decode cX7_town 126 = .ok (.iaload, 1) := by decide +kernel
theorem dX7_town_127 : decode cX7_town 127 = .ok (.iastore, 1) := by decide +kernel
theorem dX7_town_128 : decode cX7_town 128 = .ok (.aload_n 0, 1) := by decide +kernel
theorem dX7_town_129 : decode cX7_town 129 = .ok (.getfield 19, 3) := by decide +kernel
theorem dX7_town_132 : decode cX7_town 132 = .ok (.iload_n 2, 1) := by decide +kernel
theorem dX7_town_133 : decode cX7_town 133 = .ok (.aload_n 0, 1) := by decide +kernel
theorem dX7_town_134 : decode cX7_town 134 = .ok (.getfield 53, 3) := by decide +kernel
theorem dX7_town_137 : decode cX7_town 137 = .ok (.iload_n 2, 1) := by decide +kernel
theorem dX7_town_138 : decode cX7_town 138 = .ok (.iaload, 1) := by decide +kernel
theorem dX7_town_139 : decode cX7_town 139 = .ok (.iastore, 1) := by decide +kernel
theorem dX7_town_140 : decode cX7_town 140 = .ok (.aload_n 0, 1) := by decide +kernel
theorem dX7_town_141 : decode cX7_town 141 = .ok (.getfield 25, 3) := by decide +kernel
theorem dX7_town_144 : decode cX7_town 144 = .ok (.iload_n 2, 1) := by decide +kernel
theorem dX7_town_145 : decode cX7_town 145 = .ok (.iconst 0, 1) := by decide +kernel
theorem dX7_town_146 : decode cX7_town 146 = .ok (.iastore, 1) := by decide +kernel
theorem dX7_town_147 : decode cX7_town 147 = .ok (.iinc 2 1, 3) := by decide +kernel
theorem dX7_town_150 : decode cX7_town 150 = .ok (.goto (-64), 3) := by decide +kernel
theorem dX7_town_153 : decode cX7_town 153 = .ok (.iconst 0, 1) := by decide +kernel
theorem dX7_town_154 : decode cX7_town 154 = .ok (.istore_n 2, 1) := by decide +kernel
theorem dX7_town_155 : decode cX7_town 155 = .ok (.iload_n 2, 1) := by decide +kernel
theorem dX7_town_156 : decode cX7_town 156 = .ok (.bipush 30, 2) := by decide +kernel
theorem dX7_town_158 : decode cX7_town 158 = .ok (.if_icmp .ge 21, 3) := by decide +kernel
theorem dX7_town_161 : decode cX7_town 161 = .ok (.aload_n 0, 1) := by decide +kernel
theorem dX7_town_162 : decode cX7_town 162 = .ok (.getfield 22, 3) := by decide +kernel
theorem dX7_town_165 : decode cX7_town 165 = .ok (.iload_n 2, 1) := by decide +kernel
theorem dX7_town_166 : decode cX7_town 166 = .ok (.aload_n 0, 1) := by decide +kernel
theorem dX7_town_167 : decode cX7_town 167 = .ok (.getfield 56, 3) := by decide +kernel
theorem dX7_town_170 : decode cX7_town 170 = .ok (.iload_n 2, 1) := by decide +kernel
theorem dX7_town_171 : decode cX7_town 171 = .ok (.iaload, 1) := by decide +kernel
theorem dX7_town_172 : decode cX7_town 172 = .ok (.iastore, 1) := by decide +kernel
theorem dX7_town_173 : decode cX7_town 173 = .ok (.iinc 2 1, 3) := by decide +kernel
theorem dX7_town_176 : decode cX7_town 176 = .ok (.goto (-21), 3) := by decide +kernel
theorem dX7_town_179 : decode cX7_town 179 = .ok (.iconst 0, 1) := by decide +kernel
theorem dX7_town_180 : decode cX7_town 180 = .ok (.istore_n 2, 1) := by decide +kernel
theorem dX7_town_181 : decode cX7_town 181 = .ok (.iload_n 2, 1) := by decide +kernel
theorem dX7_town_182 : decode cX7_town 182 = .ok (.bipush 8, 2) := by decide +kernel
theorem dX7_town_184 : decode cX7_town 184 = .ok (.if_icmp .ge 45, 3) := by decide +kernel
theorem dX7_town_187 : decode cX7_town 187 = .ok (.aload_n 0, 1) := by decide +kernel
theorem dX7_town_188 : decode cX7_town 188 = .ok (.getfield 28, 3) := by decide +kernel
theorem dX7_town_191 : decode cX7_town 191 = .ok (.iload_n 2, 1) := by decide +kernel
theorem dX7_town_192 : decode cX7_town 192 = .ok (.aload_n 0, 1) := by decide +kernel
theorem dX7_town_193 : decode cX7_town 193 = .ok (.getfield 59, 3) := by decide +kernel
theorem dX7_town_196 : decode cX7_town 196 = .ok (.iload_n 2, 1) := by decide +kernel
theorem dX7_town_197 : decode cX7_town 197 = .ok (.iaload, 1) := by decide +kernel
theorem dX7_town_198 : decode cX7_town 198 = .ok (.iastore, 1) := by decide +kernel
theorem dX7_town_199 : decode cX7_town 199 = .ok (.aload_n 0, 1) := by decide +kernel
theorem dX7_town_200 : decode cX7_town 200 = .ok (.getfield 31, 3) := by decide +kernel
theorem dX7_town_203 : decode cX7_town 203 = .ok (.iload_n 2, 1) := by decide +kernel
theorem dX7_town_204 : decode cX7_town 204 = .ok (.aload_n 0, 1) := by decide +kernel
theorem dX7_town_205 : decode cX7_town 205 = .ok (.getfield 62, 3) := by decide +kernel
theorem dX7_town_208 : decode cX7_town 208 = .ok (.iload_n 2, 1) := by decide +kernel
theorem dX7_town_209 : decode cX7_town 209 = .ok (.iaload, 1) := by decide +kernel
theorem dX7_town_210 : decode cX7_town 210 = .ok (.iastore, 1) := by decide +kernel
theorem dX7_town_211 : decode cX7_town 211 = .ok (.aload_n 0, 1) := by decide +kernel
theorem dX7_town_212 : decode cX7_town 212 = .ok (.getfield 34, 3) := by decide +kernel
theorem dX7_town_215 : decode cX7_town 215 = .ok (.iload_n 2, 1) := by decide +kernel
theorem dX7_town_216 : decode cX7_town 216 = .ok (.aload_n 0, 1) := by decide +kernel
theorem dX7_town_217 : decode cX7_town 217 = .ok (.getfield 65, 3) := by decide +kernel
theorem dX7_town_220 : decode cX7_town 220 = .ok (.iload_n 2, 1) := by decide +kernel
theorem dX7_town_221 : decode cX7_town 221 = .ok (.iaload, 1) := by decide +kernel
theorem dX7_town_222 : decode cX7_town 222 = .ok (.iastore, 1) := by decide +kernel
theorem dX7_town_223 : decode cX7_town 223 = .ok (.iinc 2 1, 3) := by decide +kernel
theorem dX7_town_226 : decode cX7_town 226 = .ok (.goto (-45), 3) := by decide +kernel
theorem dX7_town_229 : decode cX7_town 229 = .ok (.aload_n 0, 1) := by decide +kernel
theorem dX7_town_230 : decode cX7_town 230 = .ok (.iconst 0, 1) := by decide +kernel
theorem dX7_town_231 : decode cX7_town 231 = .ok (.putfield 198, 3) := by decide +kernel
theorem dX7_town_234 : decode cX7_town 234 = .ok (.aload_n 0, 1) := by decide +kernel
theorem dX7_town_235 : decode cX7_town 235 = .ok (.iconst 0, 1) := by decide +kernel
theorem dX7_town_236 : decode cX7_town 236 = .ok (.putfield 201, 3) := by decide +kernel
theorem dX7_town_239 : decode cX7_town 239 = .ok (.aload_n 0, 1) := by decide +kernel
theorem dX7_town_240 : decode cX7_town 240 = .ok (.getfield 93, 3) := by decide +kernel
theorem dX7_town_243 : decode cX7_town 243 = .ok (.iconst 0, 1) := by decide +kernel
theorem dX7_town_244 : decode cX7_town 244 = .ok (.iconst 0, 1) := by decide +kernel
theorem dX7_town_245 : decode cX7_town 245 = .ok (.bastore, 1) := by decide +kernel
theorem dX7_town_246 : decode cX7_town 246 = .ok (.aload_n 0, 1) := by decide +kernel
theorem dX7_town_247 : decode cX7_town 247 = .ok (.getfield 93, 3) := by decide +kernel
theorem dX7_town_250 : decode cX7_town 250 = .ok (.iconst 1, 1) := by decide +kernel
theorem dX7_town_251 : decode cX7_town 251 = .ok (.iconst 0, 1) := by decide +kernel
theorem dX7_town_252 : decode cX7_town 252 = .ok (.bastore, 1) := by decide +kernel
theorem dX7_town_253 : decode cX7_town 253 = .ok (.aload_n 0, 1) := by decide +kernel
theorem dX7_town_254 : decode cX7_town 254 = .ok (.getfield 96, 3) := by decide +kernel
