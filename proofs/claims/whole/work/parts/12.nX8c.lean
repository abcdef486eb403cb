theorem dX8_askHours_118 : decode cX8_askHours 118 = .ok (.if_icmp .le 8, 3) := by decide +kernel
theorem dX8_askHours_121 : decode cX8_askHours 121 = .ok (.iload 4, 2) := by decide +kernel
theorem dX8_askHours_123 : decode cX8_askHours 123 = .ok (.goto 4, 3) := by decide +kernel
theorem dX8_askHours_126 : decode cX8_askHours 126 = .ok (.iload_n 3, 1) := by decide +kernel
theorem dX8_askHours_127 : decode cX8_askHours 127 = .ok (.istore_n 3, 1) := by decide +kernel
theorem dX8_askHours_128 : decode cX8_askHours 128 = .ok (.iinc 5 1, 3) := by decide +kernel
theorem dX8_askHours_131 : decode cX8_askHours 131 = .ok (.goto (-121), 3) := by decide +kernel
theorem dX8_askHours_134 : decode cX8_askHours 134 = .ok (.iload_n 1, 1) := by decide +kernel
theorem dX8_askHours_135 : decode cX8_askHours 135 = .ok (.ifCond .eq 7, 3) := by decide +kernel
theorem dX8_askHours_138 : decode cX8_askHours 138 = .ok (.iload_n 3, 1) := by decide +kernel
theorem dX8_askHours_139 : decode cX8_askHours 139 = .ok (.goto 4, 3) := by decide +kernel
theorem dX8_askHours_142 : decode cX8_askHours 142 = .ok (.iload_n 2, 1) := by decide +kernel
theorem dX8_askHours_143 : decode cX8_askHours 143 = .ok (.ireturn, 1) := by decide +kernel
set_option maxRecDepth 20000 in
theorem ggX8_ask_X8_begins : GoodIn wsX8_ask wsX8_begins := goodIn_r _ [13, 14, 15, 16, 17, 5, 18, 19, 12, 20, 21, 22, 23, 24, 25, 26, 27, 28, 29, 30, 31, 32, 33, 34, 35, 36, 37, 38, 39, 184, 185, 186, 187, 188, 189, 190, 191, 192, 193, 194, 195, 196, 197, 198, 199, 200, 201, 202, 203, 204, 205, 206, 207, 208, 209, 210, 211, 212, 213, 214, 215, 216] (by decide +kernel) (by decide +kernel)
set_option maxRecDepth 20000 in
theorem gX8_ask_X8_begins : GoodIn wsX8_ask (wsV RX8 274 RX8 yX8_begins wsX8_begins) := goodIn_app (goodIn_of _ (by decide +kernel)) ggX8_ask_X8_begins
set_option maxRecDepth 20000 in
theorem ggX8_ask_X8_is : GoodIn wsX8_ask wsX8_is := goodIn_r _ [43, 28, 27, 184, 185, 186, 187, 188, 189, 190, 191, 192, 193, 194, 195, 196, 197, 198, 199, 200, 201, 202, 203, 204, 205, 206, 207, 208, 209, 210, 211, 212, 213, 214, 215, 216] (by decide +kernel) (by decide +kernel)
set_option maxRecDepth 20000 in
theorem gX8_ask_X8_is : GoodIn wsX8_ask (wsV RX8 192 RX8 yX8_is wsX8_is) := goodIn_app (goodIn_of _ (by decide +kernel)) ggX8_ask_X8_is
set_option maxRecDepth 20000 in
theorem ggX8_ask_X8_bad : GoodIn wsX8_ask wsX8_bad := goodIn_r _ [47, 5, 25, 6, 184, 185, 186, 187, 188, 189, 190, 191, 192, 193, 194, 195, 196, 197, 198, 199, 200, 201, 202, 203, 204, 205, 206, 207, 208, 209, 210, 211, 212, 213, 214, 215, 216] (by decide +kernel) (by decide +kernel)
set_option maxRecDepth 20000 in
theorem gX8_ask_X8_bad : GoodIn wsX8_ask (wsV RX8 186 RX8 yX8_bad wsX8_bad) := goodIn_app (goodIn_of _ (by decide +kernel)) ggX8_ask_X8_bad
set_option maxRecDepth 20000 in
theorem ggX8_ask_X8_go : GoodIn wsX8_ask wsX8_go := goodIn_r _ [24, 17, 25, 26, 27, 28, 29, 30, 31, 32, 33, 34, 35, 36, 37, 12, 38, 16, 39, 18, 19, 20, 184, 185, 186, 187, 188, 189, 190, 191, 192, 193, 194, 195, 196, 197, 198, 199, 200, 201, 202, 203, 204, 205, 206, 207, 208, 209, 210, 211, 212, 213, 214, 215, 216] (by decide +kernel) (by decide +kernel)
set_option maxRecDepth 20000 in
theorem gX8_ask_X8_go : GoodIn wsX8_ask (wsV RX8 180 RX8 yX8_go wsX8_go) := goodIn_app (goodIn_of _ (by decide +kernel)) ggX8_ask_X8_go
set_option maxRecDepth 20000 in
theorem ggX8_ask_X8_passes : GoodIn wsX8_ask wsX8_passes := goodIn_r _ [51, 40, 41, 42, 12, 43, 28, 27, 44, 45, 46, 47, 5, 25, 6, 21, 22, 23, 24, 17, 26, 29, 30, 31, 32, 33, 34, 35, 36, 37, 38, 16, 39, 18, 19, 20, 184, 185, 186, 187, 188, 189, 190, 191, 192, 193, 194, 195, 196, 197, 198, 199, 200, 201, 202, 203, 204, 205, 206, 207, 208, 209, 210, 211, 212, 213, 214, 215, 216] (by decide +kernel) (by decide +kernel)
set_option maxRecDepth 20000 in
theorem gX8_ask_X8_passes : GoodIn wsX8_ask (wsV RX8 210 RX8 yX8_passes wsX8_passes) := goodIn_app (goodIn_of _ (by decide +kernel)) ggX8_ask_X8_passes
set_option maxRecDepth 20000 in
theorem ggX8_ask_X8_condition : GoodIn wsX8_ask wsX8_condition := goodIn_r _ [55, 56, 57, 58, 59, 60, 61, 62, 28, 40, 41, 42, 12, 43, 27, 63, 64, 65, 66, 26, 67, 68, 69, 70, 44, 45, 46, 47, 5, 25, 6, 21, 22, 23, 24, 17, 29, 30, 31, 32, 33, 34, 35, 36, 37, 38, 16, 39, 18, 19, 20, 71, 72, 73, 74, 75, 76, 77, 78, 79, 80, 81, 82, 83, 84, 85, 86, 87, 88, 89, 90, 91, 7, 92, 93, 94, 95, 96, 97, 98, 99, 100, 2, 101, 102, 103, 104, 105, 106, 107, 108, 109, 110, 111, 112, 113, 114, 115, 116, 117, 118, 119, 120, 121, 184, 185, 186, 187, 188, 189, 190, 191, 192, 193, 194, 195, 196, 197, 198, 199, 200, 201, 202, 203, 204, 205, 206, 207, 208, 209, 210, 211, 212, 213, 214, 215, 216] (by decide +kernel) (by decide +kernel)
set_option maxRecDepth 20000 in
theorem gX8_ask_X8_condition : GoodIn wsX8_ask (wsV RX8 390 RX8 yX8_condition wsX8_condition) := goodIn_app (goodIn_of _ (by decide +kernel)) ggX8_ask_X8_condition
set_option maxRecDepth 20000 in
theorem ggX8_ask_X8_askHours : GoodIn wsX8_ask wsX8_askHours := goodIn_r _ [125, 126, 127, 128, 129, 12, 130, 131, 132, 133, 134, 135, 136, 137, 138, 139, 140, 141, 142, 143, 144, 145, 18, 19, 20, 146, 147, 148, 149, 150, 151, 152, 153, 154, 155, 156, 157, 58, 87, 158, 159, 160, 161, 184, 185, 186, 187, 188, 189, 190, 191, 192, 193, 194, 195, 196, 197, 198, 199, 200, 201, 202, 203, 204, 205, 206, 207, 208, 209, 210, 211, 212, 213, 214, 215, 216] (by decide +kernel) (by decide +kernel)
set_option maxRecDepth 20000 in
theorem gX8_ask_X8_askHours : GoodIn wsX8_ask (wsV RX8 393 RX8 yX8_askHours wsX8_askHours) := goodIn_app (goodIn_of _ (by decide +kernel)) ggX8_ask_X8_askHours
set_option maxRecDepth 20000 in
theorem ggX8_ask_X8_askLives : GoodIn wsX8_ask wsX8_askLives := goodIn_r _ [165, 131, 126, 142, 143, 144, 12, 145, 135, 136, 137, 166, 167, 168, 169, 170, 171, 172, 173, 174, 175, 176, 177, 178, 179, 180, 181, 182, 183, 154, 155, 156, 157, 58, 87, 158, 159, 160, 161, 184, 185, 186, 187, 188, 189, 190, 191, 192, 193, 194, 195, 196, 197, 198, 199, 200, 201, 202, 203, 204, 205, 206, 207, 208, 209, 210, 211, 212, 213, 214, 215, 216] (by decide +kernel) (by decide +kernel)
set_option maxRecDepth 20000 in
theorem gX8_ask_X8_askLives : GoodIn wsX8_ask (wsV RX8 397 RX8 yX8_askLives wsX8_askLives) := goodIn_app (goodIn_of _ (by decide +kernel)) ggX8_ask_X8_askLives
theorem dX8_ask_0 : decode cX8_ask 0 = .ok (.aload_n 0, 1) := by decide +kernel
theorem dX8_ask_1 : decode cX8_ask 1 = .ok (.iload_n 1, 1) := by decide +kernel
theorem dX8_ask_2 : decode cX8_ask 2 = .ok (.invokevirtual 274, 3) := by decide +kernel
theorem dX8_ask_5 : decode cX8_ask 5 = .ok (.ifCond .ne 5, 3) := by decide +kernel
theorem dX8_ask_8 : decode cX8_ask 8 = .ok (.iconst (-1), 1) := by decide +kernel
theorem dX8_ask_9 : decode cX8_ask 9 = .ok (.ireturn, 1) := by decide +kernel
theorem dX8_ask_10 : decode cX8_ask 10 = .ok (.aload_n 0, 1) := by decide +kernel
theorem dX8_ask_11 : decode cX8_ask 11 = .ok (.ldc2_w 382, 3) := by decide +kernel
theorem dX8_ask_14 : decode cX8_ask 14 = .ok (.invokevirtual 192, 3) := by decide +kernel
theorem dX8_ask_17 : decode cX8_ask 17 = .ok (.ifCond .eq 7, 3) := by decide +kernel
theorem dX8_ask_20 : decode cX8_ask 20 = .ok (.iconst 0, 1) := by decide +kernel
theorem dX8_ask_21 : decode cX8_ask 21 = .ok (.goto 46, 3) := by decide +kernel
theorem dX8_ask_24 : decode cX8_ask 24 = .ok (.aload_n 0, 1) := by decide +kernel
theorem dX8_ask_25 : decode cX8_ask 25 = .ok (.ldc2_w 203, 3) := by decide +kernel
theorem dX8_ask_28 : decode cX8_ask 28 = .ok (.invokevirtual 192, 3) := by decide +kernel
theorem dX8_ask_31 : decode cX8_ask 31 = .ok (.ifCond .eq 7, 3) := by decide +kernel
theorem dX8_ask_34 : decode cX8_ask 34 = .ok (.iconst 1, 1) := by decide +kernel
theorem dX8_ask_35 : decode cX8_ask 35 = .ok (.goto 32, 3) := by decide +kernel
theorem dX8_ask_38 : decode cX8_ask 38 = .ok (.aload_n 0, 1) := by decide +kernel
theorem dX8_ask_39 : decode cX8_ask 39 = .ok (.ldc2_w 384, 3) := by decide +kernel
theorem dX8_ask_42 : decode cX8_ask 42 = .ok (.invokevirtual 192, 3) := by decide +kernel
theorem dX8_ask_45 : decode cX8_ask 45 = .ok (.ifCond .eq 7, 3) := by decide +kernel
theorem dX8_ask_48 : decode cX8_ask 48 = .ok (.iconst 2, 1) := by decide +kernel
theorem dX8_ask_49 : decode cX8_ask 49 = .ok (.goto 18, 3) := by decide +kernel
theorem dX8_ask_52 : decode cX8_ask 52 = .ok (.aload_n 0, 1) := by decide +kernel
theorem dX8_ask_53 : decode cX8_ask 53 = .ok (.ldc2_w 386, 3) := by decide +kernel
theorem dX8_ask_56 : decode cX8_ask 56 = .ok (.invokevirtual 192, 3) := by decide +kernel
theorem dX8_ask_59 : decode cX8_ask 59 = .ok (.ifCond .eq 7, 3) := by decide +kernel
theorem dX8_ask_62 : decode cX8_ask 62 = .ok (.iconst 3, 1) := by decide +kernel
theorem dX8_ask_63 : decode cX8_ask 63 = .ok (.goto 4, 3) := by decide +kernel
theorem dX8_ask_66 : decode cX8_ask 66 = .ok (.iconst (-1), 1) := by decide +kernel
theorem dX8_ask_67 : decode cX8_ask 67 = .ok (.istore_n 2, 1) := by decide +kernel
theorem dX8_ask_68 : decode cX8_ask 68 = .ok (.iload_n 2, 1) := by decide +kernel
theorem dX8_ask_69 : decode cX8_ask 69 = .ok (.iconst (-1), 1) := by decide +kernel
theorem dX8_ask_70 : decode cX8_ask 70 = .ok (.if_icmp .ne 24, 3) := by decide +kernel
theorem dX8_ask_73 : decode cX8_ask 73 = .ok (.aload_n 0, 1) := by decide +kernel
theorem dX8_ask_74 : decode cX8_ask 74 = .ok (.iconst 1, 1) := by decide +kernel
theorem dX8_ask_75 : decode cX8_ask 75 = .ok (.invokevirtual 186, 3) := by decide +kernel
theorem dX8_ask_78 : decode cX8_ask 78 = .ok (.pop, 1) := by decide +kernel
theorem dX8_ask_79 : decode cX8_ask 79 = .ok (.bipush (-2), 2) := by decide +kernel
theorem dX8_ask_81 : decode cX8_ask 81 = .ok (.iconst 2, 1) := by decide +kernel
theorem dX8_ask_82 : decode cX8_ask 82 = .ok (.aload_n 0, 1) := by decide +kernel
theorem dX8_ask_83 : decode cX8_ask 83 = .ok (.getfield 177, 3) := by decide +kernel
theorem dX8_ask_86 : decode cX8_ask 86 = .ok (.imul, 1) := by decide +kernel
theorem dX8_ask_87 : decode cX8_ask 87 = .ok (.aload_n 0, 1) := by decide +kernel
theorem dX8_ask_88 : decode cX8_ask 88 = .ok (.getfield 183, 3) := by decide +kernel
theorem dX8_ask_91 : decode cX8_ask 91 = .ok (.iadd, 1) := by decide +kernel
theorem dX8_ask_92 : decode cX8_ask 92 = .ok (.isub, 1) := by decide +kernel
theorem dX8_ask_93 : decode cX8_ask 93 = .ok (.ireturn, 1) := by decide +kernel
theorem dX8_ask_94 : decode cX8_ask 94 = .ok (.aload_n 0, 1) := by decide +kernel
theorem dX8_ask_95 : decode cX8_ask 95 = .ok (.iload_n 2, 1) := by decide +kernel
theorem dX8_ask_96 : decode cX8_ask 96 = .ok (.iconst 1, 1) := by decide +kernel
theorem dX8_ask_97 : decode cX8_ask 97 = .ok (.if_icmp .le 7, 3) := by decide +kernel
theorem dX8_ask_100 : decode cX8_ask 100 = .ok (.iconst 1, 1) := by decide +kernel
theorem dX8_ask_101 : decode cX8_ask 101 = .ok (.goto 4, 3) := by decide +kernel
theorem dX8_ask_104 : decode cX8_ask 104 = .ok (.iconst 0, 1) := by decide +kernel
theorem dX8_ask_105 : decode cX8_ask 105 = .ok (.putfield 292, 3) := by decide +kernel
theorem dX8_ask_108 : decode cX8_ask 108 = .ok (.aload_n 0, 1) := by decide +kernel
theorem dX8_ask_109 : decode cX8_ask 109 = .ok (.invokevirtual 180, 3) := by decide +kernel
theorem dX8_ask_112 : decode cX8_ask 112 = .ok (.aload_n 0, 1) := by decide +kernel
theorem dX8_ask_113 : decode cX8_ask 113 = .ok (.ldc2_w 388, 3) := by decide +kernel
theorem dX8_ask_116 : decode cX8_ask 116 = .ok (.invokevirtual 210, 3) := by decide +kernel
theorem dX8_ask_119 : decode cX8_ask 119 = .ok (.ifCond .eq 10, 3) := by decide +kernel
theorem dX8_ask_122 : decode cX8_ask 122 = .ok (.aload_n 0, 1) := by decide +kernel
theorem dX8_ask_123 : decode cX8_ask 123 = .ok (.invokevirtual 390, 3) := by decide +kernel
theorem dX8_ask_126 : decode cX8_ask 126 = .ok (.ifCond .ne 18, 3) := by decide +kernel
theorem dX8_ask_129 : decode cX8_ask 129 = .ok (.bipush (-2), 2) := by decide +kernel
theorem dX8_ask_131 : decode cX8_ask 131 = .ok (.iconst 2, 1) := by decide +kernel
theorem dX8_ask_132 : decode cX8_ask 132 = .ok (.aload_n 0, 1) := by decide +kernel
theorem dX8_ask_133 : decode cX8_ask 133 = .ok (.getfield 177, 3) := by decide +kernel
theorem dX8_ask_136 : decode cX8_ask 136 = .ok (.imul, 1) := by decide +kernel
theorem dX8_ask_137 : decode cX8_ask 137 = .ok (.aload_n 0, 1) := by decide +kernel
theorem dX8_ask_138 : decode cX8_ask 138 = .ok (.getfield 183, 3) := by decide +kernel
theorem dX8_ask_141 : decode cX8_ask 141 = .ok (.iadd, 1) := by decide +kernel
theorem dX8_ask_142 : decode cX8_ask 142 = .ok (.isub, 1) := by decide +kernel
theorem dX8_ask_143 : decode cX8_ask 143 = .ok (.ireturn, 1) := by decide +kernel
theorem dX8_ask_144 : decode cX8_ask 144 = .ok (.aload_n 0, 1) := by decide +kernel
theorem dX8_ask_145 : decode cX8_ask 145 = .ok (.getfield 292, 3) := by decide +kernel
theorem dX8_ask_148 : decode cX8_ask 148 = .ok (.ifCond .eq 20, 3) := by decide +kernel
theorem dX8_ask_151 : decode cX8_ask 151 = .ok (.aload_n 0, 1) := by decide +kernel
theorem dX8_ask_152 : decode cX8_ask 152 = .ok (.iload_n 2, 1) := by decide +kernel
theorem dX8_ask_153 : decode cX8_ask 153 = .ok (.iconst 3, 1) := by decide +kernel
theorem dX8_ask_154 : decode cX8_ask 154 = .ok (.if_icmp .ne 7, 3) := by decide +kernel
theorem dX8_ask_157 : decode cX8_ask 157 = .ok (.iconst 1, 1) := by decide +kernel
theorem dX8_ask_158 : decode cX8_ask 158 = .ok (.goto 4, 3) := by decide +kernel
theorem dX8_ask_161 : decode cX8_ask 161 = .ok (.iconst 0, 1) := by decide +kernel
theorem dX8_ask_162 : decode cX8_ask 162 = .ok (.invokevirtual 393, 3) := by decide +kernel
theorem dX8_ask_165 : decode cX8_ask 165 = .ok (.goto 17, 3) := by decide +kernel
theorem dX8_ask_168 : decode cX8_ask 168 = .ok (.aload_n 0, 1) := by decide +kernel
theorem dX8_ask_169 : decode cX8_ask 169 = .ok (.iload_n 2, 1) := by decide +kernel
theorem dX8_ask_170 : decode cX8_ask 170 = .ok (.iconst 1, 1) := by decide +kernel
theorem dX8_ask_171 : decode cX8_ask 171 = .ok (.if_icmp .ne 7, 3) := by decide +kernel
theorem dX8_ask_174 : decode cX8_ask 174 = .ok (.iconst 1, 1) := by decide +kernel
theorem dX8_ask_175 : decode cX8_ask 175 = .ok (.goto 4, 3) := by decide +kernel
theorem dX8_ask_178 : decode cX8_ask 178 = .ok (.iconst 0, 1) := by decide +kernel
theorem dX8_ask_179 : decode cX8_ask 179 = .ok (.invokevirtual 397, 3) := by decide +kernel
theorem dX8_ask_182 : decode cX8_ask 182 = .ok (.ireturn, 1) := by decide +kernel
theorem dX8_says_0 : decode cX8_says 0 = .ok (.aload_n 0, 1) := by decide +kernel
theorem dX8_says_1 : decode cX8_says 1 = .ok (.getfield 55, 3) := by decide +kernel
theorem dX8_says_4 : decode cX8_says 4 = .ok (.aload_n 0, 1) := by decide +kernel
theorem dX8_says_5 : decode cX8_says 5 = .ok (.getfield 400, 3) := by decide +kernel
theorem dX8_says_8 : decode cX8_says 8 = .ok (.iload_n 1, 1) := by decide +kernel
theorem dX8_says_9 : decode cX8_says 9 = .ok (.iastore, 1) := by decide +kernel
theorem dX8_says_10 : decode cX8_says 10 = .ok (.aload_n 0, 1) := by decide +kernel
theorem dX8_says_11 : decode cX8_says 11 = .ok (.dup, 1) := by decide +kernel
theorem dX8_says_12 : decode cX8_says 12 = .ok (.getfield 400, 3) := by decide +kernel
theorem dX8_says_15 : decode cX8_says 15 = .ok (.iconst 1, 1) := by decide +kernel
theorem dX8_says_16 : decode cX8_says 16 = .ok (.iadd, 1) := by decide +kernel
theorem dX8_says_17 : decode cX8_says 17 = .ok (.putfield 400, 3) := by decide +kernel
theorem dX8_says_20 : decode cX8_says 20 = .ok (.return_, 1) := by decide +kernel
set_option maxRecDepth 20000 in
theorem ggX8_saysNumber_X8_says : GoodIn wsX8_saysNumber wsX8_says := goodIn_r _ [5, 6, 7, 8, 9, 10, 11, 12, 13, 14, 15, 16, 17, 18, 19, 20, 21, 22, 23, 24, 25, 26, 27, 28, 29, 30, 31, 32, 33, 34, 35, 36, 37, 38, 39, 40] (by decide +kernel) (by decide +kernel)
set_option maxRecDepth 20000 in
theorem gX8_saysNumber_X8_says : GoodIn wsX8_saysNumber (wsV RX8 403 RX8 yX8_says wsX8_says) := goodIn_app (goodIn_of _ (by decide +kernel)) ggX8_saysNumber_X8_says
theorem dX8_saysNumber_0 : decode cX8_saysNumber 0 = .ok (.iload_n 1, 1) := by decide +kernel
theorem dX8_saysNumber_1 : decode cX8_saysNumber 1 = .ok (.bipush 99, 2) := by decide +kernel
theorem dX8_saysNumber_3 : decode cX8_saysNumber 3 = .ok (.if_icmp .le 14, 3) := by decide +kernel
theorem dX8_saysNumber_6 : decode cX8_saysNumber 6 = .ok (.aload_n 0, 1) := by decide +kernel
theorem dX8_saysNumber_7 : decode cX8_saysNumber 7 = .ok (.bipush 48, 2) := by decide +kernel
theorem dX8_saysNumber_9 : decode cX8_saysNumber 9 = .ok (.iload_n 1, 1) := by decide +kernel
theorem dX8_saysNumber_10 : decode cX8_saysNumber 10 = .ok (.bipush 100, 2) := by decide +kernel
theorem dX8_saysNumber_12 : decode cX8_saysNumber 12 = .ok (.idiv, 1) := by decide +kernel
theorem dX8_saysNumber_13 : decode cX8_saysNumber 13 = .ok (.iadd, 1) := by decide +kernel
theorem dX8_saysNumber_14 : decode cX8_saysNumber 14 = .ok (.invokevirtual 403, 3) := by decide +kernel
theorem dX8_saysNumber_17 : decode cX8_saysNumber 17 = .ok (.iload_n 1, 1) := by decide +kernel
theorem dX8_saysNumber_18 : decode cX8_saysNumber 18 = .ok (.bipush 9, 2) := by decide +kernel
theorem dX8_saysNumber_20 : decode cX8_saysNumber 20 = .ok (.if_icmp .le 17, 3) := by decide +kernel
theorem dX8_saysNumber_23 : decode cX8_saysNumber 23 = .ok (.aload_n 0, 1) := by decide +kernel
theorem dX8_saysNumber_24 : decode cX8_saysNumber 24 = .ok (.bipush 48, 2) := by decide +kernel
theorem dX8_saysNumber_26 : decode cX8_saysNumber 26 = .ok (.iload_n 1, 1) := by decide +kernel
theorem dX8_saysNumber_27 : decode cX8_saysNumber 27 = .ok (.bipush 10, 2) := by decide +kernel
theorem dX8_saysNumber_29 : decode cX8_saysNumber 29 = .ok (.idiv, 1) := by decide +kernel
theorem dX8_saysNumber_30 : decode cX8_saysNumber 30 = .ok (.bipush 10, 2) := by decide +kernel
theorem dX8_saysNumber_32 : decode cX8_saysNumber 32 = .ok (.irem, 1) := by decide +kernel
theorem dX8_saysNumber_33 : decode cX8_saysNumber 33 = .ok (.iadd, 1) := by decide +kernel
theorem dX8_saysNumber_34 : decode cX8_saysNumber 34 = .ok (.invokevirtual 403, 3) := by decide +kernel
theorem dX8_saysNumber_37 : decode cX8_saysNumber 37 = .ok (.aload_n 0, 1) := by decide +kernel
theorem dX8_saysNumber_38 : decode cX8_saysNumber 38 = .ok (.bipush 48, 2) := by decide +kernel
theorem dX8_saysNumber_40 : decode cX8_saysNumber 40 = .ok (.iload_n 1, 1) := by decide +kernel
theorem dX8_saysNumber_41 : decode cX8_saysNumber 41 = .ok (.bipush 10, 2) := by decide +kernel
theorem dX8_saysNumber_43 : decode cX8_saysNumber 43 = .ok (.irem, 1) := by decide +kernel
theorem dX8_saysNumber_44 : decode cX8_saysNumber 44 = .ok (.iadd, 1) := by decide +kernel
theorem dX8_saysNumber_45 : decode cX8_saysNumber 45 = .ok (.invokevirtual 403, 3) := by decide +kernel
theorem dX8_saysNumber_48 : decode cX8_saysNumber 48 = .ok (.aload_n 0, 1) := by decide +kernel
theorem dX8_saysNumber_49 : decode cX8_saysNumber 49 = .ok (.bipush 32, 2) := by decide +kernel
theorem dX8_saysNumber_51 : decode cX8_saysNumber 51 = .ok (.invokevirtual 403, 3) := by decide +kernel
theorem dX8_saysNumber_54 : decode cX8_saysNumber 54 = .ok (.return_, 1) := by decide +kernel
set_option maxRecDepth 20000 in
theorem ggX8_saysWord_X8_says : GoodIn wsX8_saysWord wsX8_says := goodIn_r _ [6, 7, 8, 9, 10, 11, 12, 13, 14, 15, 16, 17, 18, 19, 20, 21, 22, 23, 24, 25, 26, 27, 28, 29, 30, 31, 32, 33, 34, 35, 36, 37, 38, 39, 40, 41] (by decide +kernel) (by decide +kernel)
set_option maxRecDepth 20000 in
theorem gX8_saysWord_X8_says : GoodIn wsX8_saysWord (wsV RX8 403 RX8 yX8_says wsX8_says) := goodIn_app (goodIn_of _ (by decide +kernel)) ggX8_saysWord_X8_says
theorem dX8_saysWord_0 : decode cX8_saysWord 0 = .ok (.bipush 30, 2) := by decide +kernel
theorem dX8_saysWord_2 : decode cX8_saysWord 2 = .ok (.istore_n 3, 1) := by decide +kernel
theorem dX8_saysWord_3 : decode cX8_saysWord 3 = .ok (.iload_n 3, 1) := by decide +kernel
theorem dX8_saysWord_4 : decode cX8_saysWord 4 = .ok (.ifCond .lt 33, 3) := by decide +kernel
theorem dX8_saysWord_7 : decode cX8_saysWord 7 = .ok (.lload_n 1, 1) := by decide +kernel
theorem dX8_saysWord_8 : decode cX8_saysWord 8 = .ok (.iload_n 3, 1) := by decide +kernel
theorem dX8_saysWord_9 : decode cX8_saysWord 9 = .ok (.lshr, 1) := by decide +kernel
theorem dX8_saysWord_10 : decode cX8_saysWord 10 = .ok (.ldc2_w 406, 3) := by decide +kernel
theorem dX8_saysWord_13 : decode cX8_saysWord 13 = .ok (.land, 1) := by decide +kernel
theorem dX8_saysWord_14 : decode cX8_saysWord 14 = .ok (.l2i, 1) := by decide +kernel
theorem dX8_saysWord_15 : decode cX8_saysWord 15 = .ok (.istore 4, 2) := by decide +kernel
theorem dX8_saysWord_17 : decode cX8_saysWord 17 = .ok (.iload 4, 2) := by decide +kernel
theorem dX8_saysWord_19 : decode cX8_saysWord 19 = .ok (.ifCond .le 12, 3) := by decide +kernel
theorem dX8_saysWord_22 : decode cX8_saysWord 22 = .ok (.aload_n 0, 1) := by decide +kernel
theorem dX8_saysWord_23 : decode cX8_saysWord 23 = .ok (.bipush 96, 2) := by decide +kernel
theorem dX8_saysWord_25 : decode cX8_saysWord 25 = .ok (.iload 4, 2) := by decide +kernel
theorem dX8_saysWord_27 : decode cX8_saysWord 27 = .ok (.iadd, 1) := by decide +kernel
theorem dX8_saysWord_28 : decode cX8_saysWord 28 = .ok (.invokevirtual 403, 3) := by decide +kernel
theorem dX8_saysWord_31 : decode cX8_saysWord 31 = .ok (.iinc 3 (-5), 3) := by decide +kernel
theorem dX8_saysWord_34 : decode cX8_saysWord 34 = .ok (.goto (-31), 3) := by decide +kernel
theorem dX8_saysWord_37 : decode cX8_saysWord 37 = .ok (.aload_n 0, 1) := by decide +kernel
theorem dX8_saysWord_38 : decode cX8_saysWord 38 = .ok (.bipush 32, 2) := by decide +kernel
theorem dX8_saysWord_40 : decode cX8_saysWord 40 = .ok (.invokevirtual 403, 3) := by decide +kernel
theorem dX8_saysWord_43 : decode cX8_saysWord 43 = .ok (.return_, 1) := by decide +kernel
set_option maxRecDepth 20000 in
theorem ggX8_report_X8_its : GoodIn wsX8_report wsX8_its := goodIn_r _ [13, 3, 14, 15, 12, 16, 30, 31, 32, 33, 34, 35, 36, 37, 38, 39, 40, 41, 42, 43, 44, 45, 46, 47, 48, 49, 50, 51, 52, 53, 54, 55, 56, 57, 58, 59, 60, 61, 62] (by decide +kernel) (by decide +kernel)
set_option maxRecDepth 20000 in
theorem gX8_report_X8_its : GoodIn wsX8_report (wsV RX8 123 RX8 yX8_its wsX8_its) := goodIn_app (goodIn_of _ (by decide +kernel)) ggX8_report_X8_its
set_option maxRecDepth 20000 in
theorem ggX8_report_X8_saysNumber : GoodIn wsX8_report wsX8_saysNumber := goodIn_r _ [20, 21, 22, 23, 12, 24, 8, 2, 30, 31, 32, 33, 34, 35, 36, 37, 38, 39, 40, 41, 42, 43, 44, 45, 46, 47, 48, 49, 50, 51, 52, 53, 54, 55, 56, 57, 58, 59, 60, 61, 62] (by decide +kernel) (by decide +kernel)
set_option maxRecDepth 20000 in
theorem gX8_report_X8_saysNumber : GoodIn wsX8_report (wsV RX8 408 RX8 yX8_saysNumber wsX8_saysNumber) := goodIn_app (goodIn_of _ (by decide +kernel)) ggX8_report_X8_saysNumber
set_option maxRecDepth 20000 in
theorem ggX8_report_X8_saysWord : GoodIn wsX8_report wsX8_saysWord := goodIn_r _ [28, 29, 21, 22, 23, 12, 24, 8, 2, 30, 31, 32, 33, 34, 35, 36, 37, 38, 39, 40, 41, 42, 43, 44, 45, 46, 47, 48, 49, 50, 51, 52, 53, 54, 55, 56, 57, 58, 59, 60, 61, 62] (by decide +kernel) (by decide +kernel)
set_option maxRecDepth 20000 in
theorem gX8_report_X8_saysWord : GoodIn wsX8_report (wsV RX8 411 RX8 yX8_saysWord wsX8_saysWord) := goodIn_app (goodIn_of _ (by decide +kernel)) ggX8_report_X8_saysWord
set_option maxRecDepth 20000 in
theorem ggX8_report_X8_says : GoodIn wsX8_report wsX8_says := goodIn_r _ [24, 8, 2, 30, 31, 32, 33, 34, 35, 36, 37, 38, 39, 40, 41, 42, 43, 44, 45, 46, 47, 48, 49, 50, 51, 52, 53, 54, 55, 56, 57, 58, 59, 60, 61, 62] (by decide +kernel) (by decide +kernel)
set_option maxRecDepth 20000 in
theorem gX8_report_X8_says : GoodIn wsX8_report (wsV RX8 403 RX8 yX8_says wsX8_says) := goodIn_app (goodIn_of _ (by decide +kernel)) ggX8_report_X8_says
theorem dX8_report_0 : decode cX8_report 0 = .ok (.aload_n 0, 1) := by decide +kernel
theorem dX8_report_1 : decode cX8_report 1 = .ok (.iconst 0, 1) := by decide +kernel
theorem dX8_report_2 : decode cX8_report 2 = .ok (.putfield 1, 3) := by decide +kernel
theorem dX8_report_5 : decode cX8_report 5 = .ok (.aload_n 0, 1) := by decide +kernel
theorem dX8_report_6 : decode cX8_report 6 = .ok (.iconst 0, 1) := by decide +kernel
theorem dX8_report_7 : decode cX8_report 7 = .ok (.putfield 400, 3) := by decide +kernel
theorem dX8_report_10 : decode cX8_report 10 = .ok (.iconst 0, 1) := by decide +kernel
theorem dX8_report_11 : decode cX8_report 11 = .ok (.istore_n 2, 1) := by decide +kernel
theorem dX8_report_12 : decode cX8_report 12 = .ok (.iload_n 2, 1) := by decide +kernel
theorem dX8_report_13 : decode cX8_report 13 = .ok (.aload_n 0, 1) := by decide +kernel
theorem dX8_report_14 : decode cX8_report 14 = .ok (.getfield 13, 3) := by decide +kernel
theorem dX8_report_17 : decode cX8_report 17 = .ok (.iconst 0, 1) := by decide +kernel
theorem dX8_report_18 : decode cX8_report 18 = .ok (.iaload, 1) := by decide +kernel
theorem dX8_report_19 : decode cX8_report 19 = .ok (.if_icmp .ge 112, 3) := by decide +kernel
theorem dX8_report_22 : decode cX8_report 22 = .ok (.aload_n 0, 1) := by decide +kernel
theorem dX8_report_23 : decode cX8_report 23 = .ok (.aload_n 0, 1) := by decide +kernel
theorem dX8_report_24 : decode cX8_report 24 = .ok (.iload_n 2, 1) := by decide +kernel
theorem dX8_report_25 : decode cX8_report 25 = .ok (.iconst 0, 1) := by decide +kernel
theorem dX8_report_26 : decode cX8_report 26 = .ok (.invokevirtual 123, 3) := by decide +kernel
theorem dX8_report_29 : decode cX8_report 29 = .ok (.invokevirtual 408, 3) := by decide +kernel
theorem dX8_report_32 : decode cX8_report 32 = .ok (.aload_n 0, 1) := by decide +kernel
theorem dX8_report_33 : decode cX8_report 33 = .ok (.ldc2_w 218, 3) := by decide +kernel
theorem dX8_report_36 : decode cX8_report 36 = .ok (.invokevirtual 411, 3) := by decide +kernel
theorem dX8_report_39 : decode cX8_report 39 = .ok (.aload_n 0, 1) := by decide +kernel
theorem dX8_report_40 : decode cX8_report 40 = .ok (.aload_n 0, 1) := by decide +kernel
theorem dX8_report_41 : decode cX8_report 41 = .ok (.iload_n 2, 1) := by decide +kernel
theorem dX8_report_42 : decode cX8_report 42 = .ok (.iconst 1, 1) := by decide +kernel
theorem dX8_report_43 : decode cX8_report 43 = .ok (.invokevirtual 123, 3) := by decide +kernel
theorem dX8_report_46 : decode cX8_report 46 = .ok (.invokevirtual 408, 3) := by decide +kernel
theorem dX8_report_49 : decode cX8_report 49 = .ok (.aload_n 0, 1) := by decide +kernel
theorem dX8_report_50 : decode cX8_report 50 = .ok (.iload_n 2, 1) := by decide +kernel
theorem dX8_report_51 : decode cX8_report 51 = .ok (.iconst 2, 1) := by decide +kernel
theorem dX8_report_52 : decode cX8_report 52 = .ok (.invokevirtual 123, 3) := by decide +kernel
theorem dX8_report_55 : decode cX8_report 55 = .ok (.bipush 64, 2) := by decide +kernel
theorem dX8_report_57 : decode cX8_report 57 = .ok (.if_icmp .ne 13, 3) := by decide +kernel
theorem dX8_report_60 : decode cX8_report 60 = .ok (.aload_n 0, 1) := by decide +kernel
theorem dX8_report_61 : decode cX8_report 61 = .ok (.ldc2_w 415, 3) := by decide +kernel
theorem dX8_report_64 : decode cX8_report 64 = .ok (.invokevirtual 411, 3) := by decide +kernel
theorem dX8_report_67 : decode cX8_report 67 = .ok (.goto 20, 3) := by decide +kernel
theorem dX8_report_70 : decode cX8_report 70 = .ok (.aload_n 0, 1) := by decide +kernel
theorem dX8_report_71 : decode cX8_report 71 = .ok (.ldc2_w 231, 3) := by decide +kernel
theorem dX8_report_74 : decode cX8_report 74 = .ok (.invokevirtual 411, 3) := by decide +kernel
theorem dX8_report_77 : decode cX8_report 77 = .ok (.aload_n 0, 1) := by decide +kernel
theorem dX8_report_78 : decode cX8_report 78 = .ok (.aload_n 0, 1) := by decide +kernel
theorem dX8_report_79 : decode cX8_report 79 = .ok (.iload_n 2, 1) := by decide +kernel
theorem dX8_report_80 : decode cX8_report 80 = .ok (.iconst 2, 1) := by decide +kernel
theorem dX8_report_81 : decode cX8_report 81 = .ok (.invokevirtual 123, 3) := by decide +kernel
theorem dX8_report_84 : decode cX8_report 84 = .ok (.invokevirtual 408, 3) := by decide +kernel
theorem dX8_report_87 : decode cX8_report 87 = .ok (.aload_n 0, 1) := by decide +kernel
theorem dX8_report_88 : decode cX8_report 88 = .ok (.iload_n 2, 1) := by decide +kernel
theorem dX8_report_89 : decode cX8_report 89 = .ok (.iconst 3, 1) := by decide +kernel
theorem dX8_report_90 : decode cX8_report 90 = .ok (.invokevirtual 123, 3) := by decide +kernel
theorem dX8_report_93 : decode cX8_report 93 = .ok (.ifCond .eq 20, 3) := by decide +kernel
theorem dX8_report_96 : decode cX8_report 96 = .ok (.aload_n 0, 1) := by decide +kernel
theorem dX8_report_97 : decode cX8_report 97 = .ok (.ldc2_w 203, 3) := by decide +kernel
theorem dX8_report_100 : decode cX8_report 100 = .ok (.invokevirtual 411, 3) := by decide +kernel
theorem dX8_report_103 : decode cX8_report 103 = .ok (.aload_n 0, 1) := by decide +kernel
theorem dX8_report_104 : decode cX8_report 104 = .ok (.aload_n 0, 1) := by decide +kernel
theorem dX8_report_105 : decode cX8_report 105 = .ok (.iload_n 2, 1) := by decide +kernel
theorem dX8_report_106 : decode cX8_report 106 = .ok (.iconst 3, 1) := by decide +kernel
theorem dX8_report_107 : decode cX8_report 107 = .ok (.invokevirtual 123, 3) := by decide +kernel
theorem dX8_report_110 : decode cX8_report 110 = .ok (.invokevirtual 408, 3) := by decide +kernel
theorem dX8_report_113 : decode cX8_report 113 = .ok (.aload_n 0, 1) := by decide +kernel
theorem dX8_report_114 : decode cX8_report 114 = .ok (.bipush 59, 2) := by decide +kernel
theorem dX8_report_116 : decode cX8_report 116 = .ok (.invokevirtual 403, 3) := by decide +kernel
theorem dX8_report_119 : decode cX8_report 119 = .ok (.aload_n 0, 1) := by decide +kernel
theorem dX8_report_120 : decode cX8_report 120 = .ok (.bipush 32, 2) := by decide +kernel
theorem dX8_report_122 : decode cX8_report 122 = .ok (.invokevirtual 403, 3) := by decide +kernel
theorem dX8_report_125 : decode cX8_report 125 = .ok (.iinc 2 1, 3) := by decide +kernel
theorem dX8_report_128 : decode cX8_report 128 = .ok (.goto (-116), 3) := by decide +kernel
theorem dX8_report_131 : decode cX8_report 131 = .ok (.iload_n 1, 1) := by decide +kernel
theorem dX8_report_132 : decode cX8_report 132 = .ok (.iconst (-1), 1) := by decide +kernel
theorem dX8_report_133 : decode cX8_report 133 = .ok (.if_icmp .ne 10, 3) := by decide +kernel
theorem dX8_report_136 : decode cX8_report 136 = .ok (.aload_n 0, 1) := by decide +kernel
theorem dX8_report_137 : decode cX8_report 137 = .ok (.getfield 400, 3) := by decide +kernel
theorem dX8_report_140 : decode cX8_report 140 = .ok (.goto 31, 3) := by decide +kernel
theorem dX8_report_143 : decode cX8_report 143 = .ok (.iload_n 1, 1) := by decide +kernel
theorem dX8_report_144 : decode cX8_report 144 = .ok (.iconst (-1), 1) := by decide +kernel
theorem dX8_report_145 : decode cX8_report 145 = .ok (.if_icmp .ge 7, 3) := by decide +kernel
theorem dX8_report_148 : decode cX8_report 148 = .ok (.iconst (-1), 1) := by decide +kernel
theorem dX8_report_149 : decode cX8_report 149 = .ok (.goto 22, 3) := by decide +kernel
theorem dX8_report_152 : decode cX8_report 152 = .ok (.iload_n 1, 1) := by decide +kernel
theorem dX8_report_153 : decode cX8_report 153 = .ok (.aload_n 0, 1) := by decide +kernel
theorem dX8_report_154 : decode cX8_report 154 = .ok (.getfield 400, 3) := by decide +kernel
theorem dX8_report_157 : decode cX8_report 157 = .ok (.if_icmp .ge 12, 3) := by decide +kernel
theorem dX8_report_160 : decode cX8_report 160 = .ok (.aload_n 0, 1) := by decide +kernel
theorem dX8_report_161 : decode cX8_report 161 = .ok (.getfield 55, 3) := by decide +kernel
theorem dX8_report_164 : decode cX8_report 164 = .ok (.iload_n 1, 1) := by decide +kernel
theorem dX8_report_165 : decode cX8_report 165 = .ok (.iaload, 1) := by decide +kernel
theorem dX8_report_166 : decode cX8_report 166 = .ok (.goto 5, 3) := by decide +kernel
theorem dX8_report_169 : decode cX8_report 169 = .ok (.bipush (-2), 2) := by decide +kernel
theorem dX8_report_171 : decode cX8_report 171 = .ok (.ireturn, 1) := by decide +kernel
set_option maxRecDepth 20000 in
theorem ggX8_count_X8_its : GoodIn wsX8_count wsX8_its := goodIn_r _ [9, 2, 10, 11, 8, 12, 31, 32, 33, 34, 35, 36, 37, 38, 39, 40, 41, 42, 43, 44, 45, 46, 47, 48, 49, 50, 51, 52, 53, 54, 55, 56, 57, 58, 59, 60, 61, 62, 63] (by decide +kernel) (by decide +kernel)
set_option maxRecDepth 20000 in
theorem gX8_count_X8_its : GoodIn wsX8_count (wsV RX8 123 RX8 yX8_its wsX8_its) := goodIn_app (goodIn_of _ (by decide +kernel)) ggX8_count_X8_its
set_option maxRecDepth 20000 in
theorem ggX8_count_X8_piecesOf : GoodIn wsX8_count wsX8_piecesOf := goodIn_r _ [16, 17, 18, 19, 8, 20, 21, 22, 23, 24, 25, 26, 27, 5, 6, 7, 9, 2, 10, 11, 12, 28, 29, 30, 31, 32, 33, 34, 35, 36, 37, 38, 39, 40, 41, 42, 43, 44, 45, 46, 47, 48, 49, 50, 51, 52, 53, 54, 55, 56, 57, 58, 59, 60, 61, 62, 63] (by decide +kernel) (by decide +kernel)
set_option maxRecDepth 20000 in
theorem gX8_count_X8_piecesOf : GoodIn wsX8_count (wsV RX8 364 RX8 yX8_piecesOf wsX8_piecesOf) := goodIn_app (goodIn_of _ (by decide +kernel)) ggX8_count_X8_piecesOf
theorem dX8_count_0 : decode cX8_count 0 = .ok (.aload_n 0, 1) := by decide +kernel
theorem dX8_count_1 : decode cX8_count 1 = .ok (.iconst 0, 1) := by decide +kernel
theorem dX8_count_2 : decode cX8_count 2 = .ok (.putfield 1, 3) := by decide +kernel
theorem dX8_count_5 : decode cX8_count 5 = .ok (.iconst 0, 1) := by decide +kernel
theorem dX8_count_6 : decode cX8_count 6 = .ok (.istore_n 2, 1) := by decide +kernel
theorem dX8_count_7 : decode cX8_count 7 = .ok (.iload_n 1, 1) := by decide +kernel
theorem dX8_count_8 : decode cX8_count 8 = .ok (.tableswitch 141 0 5 #[40, 47, 96, 103, 108, 113], 40) := by decide +kernel
theorem dX8_count_48 : decode cX8_count 48 = .ok (.aload_n 0, 1) := by decide +kernel
theorem dX8_count_49 : decode cX8_count 49 = .ok (.getfield 13, 3) := by decide +kernel
theorem dX8_count_52 : decode cX8_count 52 = .ok (.iconst 0, 1) := by decide +kernel
theorem dX8_count_53 : decode cX8_count 53 = .ok (.iaload, 1) := by decide +kernel
theorem dX8_count_54 : decode cX8_count 54 = .ok (.ireturn, 1) := by decide +kernel
theorem dX8_count_55 : decode cX8_count 55 = .ok (.iconst 0, 1) := by decide +kernel
theorem dX8_count_56 : decode cX8_count 56 = .ok (.istore_n 3, 1) := by decide +kernel
theorem dX8_count_57 : decode cX8_count 57 = .ok (.iload_n 3, 1) := by decide +kernel
theorem dX8_count_58 : decode cX8_count 58 = .ok (.aload_n 0, 1) := by decide +kernel
theorem dX8_count_59 : decode cX8_count 59 = .ok (.getfield 13, 3) := by decide +kernel
theorem dX8_count_62 : decode cX8_count 62 = .ok (.iconst 0, 1) := by decide +kernel
theorem dX8_count_63 : decode cX8_count 63 = .ok (.iaload, 1) := by decide +kernel
theorem dX8_count_64 : decode cX8_count 64 = .ok (.if_icmp .ge 38, 3) := by decide +kernel
theorem dX8_count_67 : decode cX8_count 67 = .ok (.iload_n 2, 1) := by decide +kernel
theorem dX8_count_68 : decode cX8_count 68 = .ok (.iload_n 3, 1) := by decide +kernel
theorem dX8_count_69 : decode cX8_count 69 = .ok (.ifCond .eq 20, 3) := by decide +kernel
theorem dX8_count_72 : decode cX8_count 72 = .ok (.aload_n 0, 1) := by decide +kernel
theorem dX8_count_73 : decode cX8_count 73 = .ok (.iload_n 3, 1) := by decide +kernel
theorem dX8_count_74 : decode cX8_count 74 = .ok (.iconst 0, 1) := by decide +kernel
theorem dX8_count_75 : decode cX8_count 75 = .ok (.invokevirtual 123, 3) := by decide +kernel
theorem dX8_count_78 : decode cX8_count 78 = .ok (.aload_n 0, 1) := by decide +kernel
theorem dX8_count_79 : decode cX8_count 79 = .ok (.iload_n 3, 1) := by decide +kernel
theorem dX8_count_80 : decode cX8_count 80 = .ok (.iconst 1, 1) := by decide +kernel
theorem dX8_count_81 : decode cX8_count 81 = .ok (.isub, 1) := by decide +kernel
theorem dX8_count_82 : decode cX8_count 82 = .ok (.iconst 0, 1) := by decide +kernel
theorem dX8_count_83 : decode cX8_count 83 = .ok (.invokevirtual 123, 3) := by decide +kernel
theorem dX8_count_86 : decode cX8_count 86 = .ok (.if_icmp .eq 7, 3) := by decide +kernel
theorem dX8_count_89 : decode cX8_count 89 = .ok (.iconst 1, 1) := by decide +kernel
theorem dX8_count_90 : decode cX8_count 90 = .ok (.goto 4, 3) := by decide +kernel
theorem dX8_count_93 : decode cX8_count 93 = .ok (.iconst 0, 1) := by decide +kernel
theorem dX8_count_94 : decode cX8_count 94 = .ok (.iadd, 1) := by decide +kernel
theorem dX8_count_95 : decode cX8_count 95 = .ok (.istore_n 2, 1) := by decide +kernel
theorem dX8_count_96 : decode cX8_count 96 = .ok (.iinc 3 1, 3) := by decide +kernel
theorem dX8_count_99 : decode cX8_count 99 = .ok (.goto (-42), 3) := by decide +kernel
theorem dX8_count_102 : decode cX8_count 102 = .ok (.iload_n 2, 1) := by decide +kernel
theorem dX8_count_103 : decode cX8_count 103 = .ok (.ireturn, 1) := by decide +kernel
theorem dX8_count_104 : decode cX8_count 104 = .ok (.aload_n 0, 1) := by decide +kernel
theorem dX8_count_105 : decode cX8_count 105 = .ok (.getfield 13, 3) := by decide +kernel
theorem dX8_count_108 : decode cX8_count 108 = .ok (.iconst 1, 1) := by decide +kernel
theorem dX8_count_109 : decode cX8_count 109 = .ok (.iaload, 1) := by decide +kernel
theorem dX8_count_110 : decode cX8_count 110 = .ok (.ireturn, 1) := by decide +kernel
theorem dX8_count_111 : decode cX8_count 111 = .ok (.aload_n 0, 1) := by decide +kernel
theorem dX8_count_112 : decode cX8_count 112 = .ok (.getfield 94, 3) := by decide +kernel
theorem dX8_count_115 : decode cX8_count 115 = .ok (.ireturn, 1) := by decide +kernel
theorem dX8_count_116 : decode cX8_count 116 = .ok (.aload_n 0, 1) := by decide +kernel
theorem dX8_count_117 : decode cX8_count 117 = .ok (.getfield 137, 3) := by decide +kernel
theorem dX8_count_120 : decode cX8_count 120 = .ok (.ireturn, 1) := by decide +kernel
theorem dX8_count_121 : decode cX8_count 121 = .ok (.iconst 0, 1) := by decide +kernel
theorem dX8_count_122 : decode cX8_count 122 = .ok (.istore_n 3, 1) := by decide +kernel
theorem dX8_count_123 : decode cX8_count 123 = .ok (.iload_n 3, 1) := by decide +kernel
theorem dX8_count_124 : decode cX8_count 124 = .ok (.aload_n 0, 1) := by decide +kernel
theorem dX8_count_125 : decode cX8_count 125 = .ok (.getfield 13, 3) := by decide +kernel
theorem dX8_count_128 : decode cX8_count 128 = .ok (.iconst 0, 1) := by decide +kernel
theorem dX8_count_129 : decode cX8_count 129 = .ok (.iaload, 1) := by decide +kernel
theorem dX8_count_130 : decode cX8_count 130 = .ok (.if_icmp .ge 17, 3) := by decide +kernel
theorem dX8_count_133 : decode cX8_count 133 = .ok (.iload_n 2, 1) := by decide +kernel
theorem dX8_count_134 : decode cX8_count 134 = .ok (.aload_n 0, 1) := by decide +kernel
theorem dX8_count_135 : decode cX8_count 135 = .ok (.iload_n 3, 1) := by decide +kernel
theorem dX8_count_136 : decode cX8_count 136 = .ok (.invokevirtual 364, 3) := by decide +kernel
theorem dX8_count_139 : decode cX8_count 139 = .ok (.iadd, 1) := by decide +kernel
theorem dX8_count_140 : decode cX8_count 140 = .ok (.istore_n 2, 1) := by decide +kernel
theorem dX8_count_141 : decode cX8_count 141 = .ok (.iinc 3 1, 3) := by decide +kernel
theorem dX8_count_144 : decode cX8_count 144 = .ok (.goto (-21), 3) := by decide +kernel
theorem dX8_count_147 : decode cX8_count 147 = .ok (.iload_n 2, 1) := by decide +kernel
theorem dX8_count_148 : decode cX8_count 148 = .ok (.ireturn, 1) := by decide +kernel
theorem dX8_count_149 : decode cX8_count 149 = .ok (.iconst (-1), 1) := by decide +kernel
theorem dX8_count_150 : decode cX8_count 150 = .ok (.ireturn, 1) := by decide +kernel
set_option maxRecDepth 20000 in
theorem ggX8_life_X8_within : GoodIn wsX8_life wsX8_within := goodIn_r _ [7] (by decide +kernel) (by decide +kernel)
set_option maxRecDepth 20000 in
theorem gX8_life_X8_within : GoodIn wsX8_life (va_wsS RX8 60 yX8_within wsX8_within) := goodIn_app (goodIn_of _ (by decide +kernel)) ggX8_life_X8_within
set_option maxRecDepth 20000 in
theorem ggX8_life_X8_piecesOf : GoodIn wsX8_life wsX8_piecesOf := goodIn_r _ [11, 12, 13, 14, 6, 15, 16, 17, 18, 19, 20, 21, 22, 23, 24, 25, 26, 1, 27, 28, 29, 30, 31, 32, 33, 34, 35, 36, 37, 38, 39, 40, 41, 42, 43, 44, 45, 46, 47, 48, 49, 50, 51, 52, 53, 54, 55, 56, 57, 58, 59, 60, 61, 62, 63, 64, 65] (by decide +kernel) (by decide +kernel)
set_option maxRecDepth 20000 in
theorem gX8_life_X8_piecesOf : GoodIn wsX8_life (wsV RX8 364 RX8 yX8_piecesOf wsX8_piecesOf) := goodIn_app (goodIn_of _ (by decide +kernel)) ggX8_life_X8_piecesOf
set_option maxRecDepth 20000 in
theorem ggX8_life_X8_its : GoodIn wsX8_life wsX8_its := goodIn_r _ [26, 1, 27, 28, 6, 29, 33, 34, 35, 36, 37, 38, 39, 40, 41, 42, 43, 44, 45, 46, 47, 48, 49, 50, 51, 52, 53, 54, 55, 56, 57, 58, 59, 60, 61, 62, 63, 64, 65] (by decide +kernel) (by decide +kernel)
set_option maxRecDepth 20000 in
theorem gX8_life_X8_its : GoodIn wsX8_life (wsV RX8 123 RX8 yX8_its wsX8_its) := goodIn_app (goodIn_of _ (by decide +kernel)) ggX8_life_X8_its
theorem dX8_life_0 : decode cX8_life 0 = .ok (.aload_n 0, 1) := by decide +kernel
theorem dX8_life_1 : decode cX8_life 1 = .ok (.iload_n 1, 1) := by decide +kernel
theorem dX8_life_2 : decode cX8_life 2 = .ok (.ifCond .lt 25, 3) := by decide +kernel
theorem dX8_life_5 : decode cX8_life 5 = .ok (.iload_n 1, 1) := by decide +kernel
theorem dX8_life_6 : decode cX8_life 6 = .ok (.aload_n 0, 1) := by decide +kernel
theorem dX8_life_7 : decode cX8_life 7 = .ok (.getfield 13, 3) := by decide +kernel
theorem dX8_life_10 : decode cX8_life 10 = .ok (.iconst 0, 1) := by decide +kernel
theorem dX8_life_11 : decode cX8_life 11 = .ok (.iaload, 1) := by decide +kernel
theorem dX8_life_12 : decode cX8_life 12 = .ok (.if_icmp .ge 15, 3) := by decide +kernel
theorem dX8_life_15 : decode cX8_life 15 = .ok (.iload_n 2, 1) := by decide +kernel
theorem dX8_life_16 : decode cX8_life 16 = .ok (.i2l, 1) := by decide +kernel
theorem dX8_life_17 : decode cX8_life 17 = .ok (.lconst 0, 1) := by decide +kernel
theorem dX8_life_18 : decode cX8_life 18 = .ok (.ldc2_w 417, 3) := by decide +kernel
theorem dX8_life_21 : decode cX8_life 21 = .ok (.invokestatic 60, 3) := by decide +kernel
theorem dX8_life_24 : decode cX8_life 24 = .ok (.ifCond .ne 7, 3) := by decide +kernel
theorem dX8_life_27 : decode cX8_life 27 = .ok (.iconst 1, 1) := by decide +kernel
theorem dX8_life_28 : decode cX8_life 28 = .ok (.goto 4, 3) := by decide +kernel
theorem dX8_life_31 : decode cX8_life 31 = .ok (.iconst 0, 1) := by decide +kernel
theorem dX8_life_32 : decode cX8_life 32 = .ok (.putfield 1, 3) := by decide +kernel
theorem dX8_life_35 : decode cX8_life 35 = .ok (.aload_n 0, 1) := by decide +kernel
theorem dX8_life_36 : decode cX8_life 36 = .ok (.getfield 1, 3) := by decide +kernel
theorem dX8_life_39 : decode cX8_life 39 = .ok (.iconst 1, 1) := by decide +kernel
theorem dX8_life_40 : decode cX8_life 40 = .ok (.if_icmp .ne 7, 3) := by decide +kernel
theorem dX8_life_43 : decode cX8_life 43 = .ok (.iconst 0, 1) := by decide +kernel
theorem dX8_life_44 : decode cX8_life 44 = .ok (.goto 22, 3) := by decide +kernel
theorem dX8_life_47 : decode cX8_life 47 = .ok (.iload_n 2, 1) := by decide +kernel
theorem dX8_life_48 : decode cX8_life 48 = .ok (.iconst 4, 1) := by decide +kernel
theorem dX8_life_49 : decode cX8_life 49 = .ok (.if_icmp .ne 11, 3) := by decide +kernel
theorem dX8_life_52 : decode cX8_life 52 = .ok (.aload_n 0, 1) := by decide +kernel
theorem dX8_life_53 : decode cX8_life 53 = .ok (.iload_n 1, 1) := by decide +kernel
theorem dX8_life_54 : decode cX8_life 54 = .ok (.invokevirtual 364, 3) := by decide +kernel
theorem dX8_life_57 : decode cX8_life 57 = .ok (.goto 9, 3) := by decide +kernel
theorem dX8_life_60 : decode cX8_life 60 = .ok (.aload_n 0, 1) := by decide +kernel
theorem dX8_life_61 : decode cX8_life 61 = .ok (.iload_n 1, 1) := by decide +kernel
theorem dX8_life_62 : decode cX8_life 62 = .ok (.iload_n 2, 1) := by decide +kernel
theorem dX8_life_63 : decode cX8_life 63 = .ok (.invokevirtual 123, 3) := by decide +kernel
theorem dX8_life_66 : decode cX8_life 66 = .ok (.ireturn, 1) := by decide +kernel
set_option maxRecDepth 20000 in
theorem ggX8_which_X8_isNumber : GoodIn wsX8_which wsX8_isNumber := goodIn_r _ [6, 7, 8, 9, 5, 10] (by decide +kernel) (by decide +kernel)
set_option maxRecDepth 20000 in
theorem gX8_which_X8_isNumber : GoodIn wsX8_which (va_wsS RX8 101 yX8_isNumber wsX8_isNumber) := goodIn_app (goodIn_of _ (by decide +kernel)) ggX8_which_X8_isNumber
set_option maxRecDepth 20000 in
theorem ggX8_which_X8_isHour : GoodIn wsX8_which wsX8_isHour := goodIn_r _ [13, 14, 8, 9, 5, 10] (by decide +kernel) (by decide +kernel)
set_option maxRecDepth 20000 in
theorem gX8_which_X8_isHour : GoodIn wsX8_which (va_wsS RX8 104 yX8_isHour wsX8_isHour) := goodIn_app (goodIn_of _ (by decide +kernel)) ggX8_which_X8_isHour
set_option maxRecDepth 20000 in
theorem ggX8_which_X8_lifeAt : GoodIn wsX8_which wsX8_lifeAt := goodIn_r _ [17, 18, 19, 5, 20, 21, 22, 23] (by decide +kernel) (by decide +kernel)
set_option maxRecDepth 20000 in
theorem gX8_which_X8_lifeAt : GoodIn wsX8_which (va_wsS RX8 74 yX8_lifeAt wsX8_lifeAt) := goodIn_app (goodIn_of _ (by decide +kernel)) ggX8_which_X8_lifeAt
theorem dX8_which_0 : decode cX8_which 0 = .ok (.aload_n 0, 1) := by decide +kernel
theorem dX8_which_1 : decode cX8_which 1 = .ok (.iconst 0, 1) := by decide +kernel
theorem dX8_which_2 : decode cX8_which 2 = .ok (.putfield 1, 3) := by decide +kernel
theorem dX8_which_5 : decode cX8_which 5 = .ok (.iload_n 1, 1) := by decide +kernel
theorem dX8_which_6 : decode cX8_which 6 = .ok (.invokestatic 101, 3) := by decide +kernel
theorem dX8_which_9 : decode cX8_which 9 = .ok (.ifCond .eq 10, 3) := by decide +kernel
theorem dX8_which_12 : decode cX8_which 12 = .ok (.iload_n 2, 1) := by decide +kernel
theorem dX8_which_13 : decode cX8_which 13 = .ok (.invokestatic 104, 3) := by decide +kernel
theorem dX8_which_16 : decode cX8_which 16 = .ok (.ifCond .ne 5, 3) := by decide +kernel
theorem dX8_which_19 : decode cX8_which 19 = .ok (.iconst (-1), 1) := by decide +kernel
theorem dX8_which_20 : decode cX8_which 20 = .ok (.ireturn, 1) := by decide +kernel
theorem dX8_which_21 : decode cX8_which 21 = .ok (.aload_n 0, 1) := by decide +kernel
theorem dX8_which_22 : decode cX8_which 22 = .ok (.getfield 13, 3) := by decide +kernel
theorem dX8_which_25 : decode cX8_which 25 = .ok (.iload_n 1, 1) := by decide +kernel
theorem dX8_which_26 : decode cX8_which 26 = .ok (.iload_n 2, 1) := by decide +kernel
theorem dX8_which_27 : decode cX8_which 27 = .ok (.invokestatic 74, 3) := by decide +kernel
theorem dX8_which_30 : decode cX8_which 30 = .ok (.istore_n 3, 1) := by decide +kernel
theorem dX8_which_31 : decode cX8_which 31 = .ok (.iload_n 3, 1) := by decide +kernel
theorem dX8_which_32 : decode cX8_which 32 = .ok (.iconst (-1), 1) := by decide +kernel
theorem dX8_which_33 : decode cX8_which 33 = .ok (.if_icmp .ne 8, 3) := by decide +kernel
theorem dX8_which_36 : decode cX8_which 36 = .ok (.bipush (-2), 2) := by decide +kernel
theorem dX8_which_38 : decode cX8_which 38 = .ok (.goto 4, 3) := by decide +kernel
theorem dX8_which_41 : decode cX8_which 41 = .ok (.iload_n 3, 1) := by decide +kernel
theorem dX8_which_42 : decode cX8_which 42 = .ok (.ireturn, 1) := by decide +kernel
set_option maxRecDepth 20000 in
theorem ggX8_countAt_X8_lives : GoodIn wsX8_countAt wsX8_lives := goodIn_r _ [5, 6, 7, 4, 8] (by decide +kernel) (by decide +kernel)
set_option maxRecDepth 20000 in
theorem gX8_countAt_X8_lives : GoodIn wsX8_countAt (va_wsS RX8 70 yX8_lives wsX8_lives) := goodIn_app (goodIn_of _ (by decide +kernel)) ggX8_countAt_X8_lives
theorem dX8_countAt_0 : decode cX8_countAt 0 = .ok (.iconst 0, 1) := by decide +kernel
theorem dX8_countAt_1 : decode cX8_countAt 1 = .ok (.istore_n 2, 1) := by decide +kernel
theorem dX8_countAt_2 : decode cX8_countAt 2 = .ok (.iconst 0, 1) := by decide +kernel
theorem dX8_countAt_3 : decode cX8_countAt 3 = .ok (.istore_n 3, 1) := by decide +kernel
theorem dX8_countAt_4 : decode cX8_countAt 4 = .ok (.iload_n 3, 1) := by decide +kernel
theorem dX8_countAt_5 : decode cX8_countAt 5 = .ok (.aload_n 0, 1) := by decide +kernel
theorem dX8_countAt_6 : decode cX8_countAt 6 = .ok (.getfield 13, 3) := by decide +kernel
theorem dX8_countAt_9 : decode cX8_countAt 9 = .ok (.iconst 0, 1) := by decide +kernel
theorem dX8_countAt_10 : decode cX8_countAt 10 = .ok (.iaload, 1) := by decide +kernel
theorem dX8_countAt_11 : decode cX8_countAt 11 = .ok (.if_icmp .ge 29, 3) := by decide +kernel
theorem dX8_countAt_14 : decode cX8_countAt 14 = .ok (.iload_n 2, 1) := by decide +kernel
theorem dX8_countAt_15 : decode cX8_countAt 15 = .ok (.aload_n 0, 1) := by decide +kernel
theorem dX8_countAt_16 : decode cX8_countAt 16 = .ok (.getfield 13, 3) := by decide +kernel
theorem dX8_countAt_19 : decode cX8_countAt 19 = .ok (.iload_n 3, 1) := by decide +kernel
theorem dX8_countAt_20 : decode cX8_countAt 20 = .ok (.iload_n 1, 1) := by decide +kernel
theorem dX8_countAt_21 : decode cX8_countAt 21 = .ok (.invokestatic 70, 3) := by decide +kernel
theorem dX8_countAt_24 : decode cX8_countAt 24 = .ok (.ifCond .eq 7, 3) := by decide +kernel
theorem dX8_countAt_27 : decode cX8_countAt 27 = .ok (.iconst 1, 1) := by decide +kernel
theorem dX8_countAt_28 : decode cX8_countAt 28 = .ok (.goto 4, 3) := by decide +kernel
theorem dX8_countAt_31 : decode cX8_countAt 31 = .ok (.iconst 0, 1) := by decide +kernel
theorem dX8_countAt_32 : decode cX8_countAt 32 = .ok (.iadd, 1) := by decide +kernel
theorem dX8_countAt_33 : decode cX8_countAt 33 = .ok (.istore_n 2, 1) := by decide +kernel
theorem dX8_countAt_34 : decode cX8_countAt 34 = .ok (.iinc 3 1, 3) := by decide +kernel
theorem dX8_countAt_37 : decode cX8_countAt 37 = .ok (.goto (-33), 3) := by decide +kernel
theorem dX8_countAt_40 : decode cX8_countAt 40 = .ok (.iload_n 2, 1) := by decide +kernel
theorem dX8_countAt_41 : decode cX8_countAt 41 = .ok (.ireturn, 1) := by decide +kernel
set_option maxRecDepth 20000 in
theorem ggX8_sumAt_X8_lives : GoodIn wsX8_sumAt wsX8_lives := goodIn_r _ [5, 6, 7, 4, 8] (by decide +kernel) (by decide +kernel)
set_option maxRecDepth 20000 in
theorem gX8_sumAt_X8_lives : GoodIn wsX8_sumAt (va_wsS RX8 70 yX8_lives wsX8_lives) := goodIn_app (goodIn_of _ (by decide +kernel)) ggX8_sumAt_X8_lives
set_option maxRecDepth 20000 in
theorem ggX8_sumAt_X8_its : GoodIn wsX8_sumAt wsX8_its := goodIn_r _ [12, 1, 6, 7, 4, 8, 16, 17, 18, 19, 20, 21, 22, 23, 24, 25, 26, 27, 28, 29, 30, 31, 32, 33, 34, 35, 36, 37, 38, 39, 40, 41, 42, 43, 44, 45, 46, 47, 48] (by decide +kernel) (by decide +kernel)
set_option maxRecDepth 20000 in
theorem gX8_sumAt_X8_its : GoodIn wsX8_sumAt (wsV RX8 123 RX8 yX8_its wsX8_its) := goodIn_app (goodIn_of _ (by decide +kernel)) ggX8_sumAt_X8_its
set_option maxRecDepth 20000 in
theorem ggX8_sumAt_X8_within : GoodIn wsX8_sumAt wsX8_within := goodIn_r _ [15] (by decide +kernel) (by decide +kernel)
set_option maxRecDepth 20000 in
theorem gX8_sumAt_X8_within : GoodIn wsX8_sumAt (va_wsS RX8 60 yX8_within wsX8_within) := goodIn_app (goodIn_of _ (by decide +kernel)) ggX8_sumAt_X8_within
theorem dX8_sumAt_0 : decode cX8_sumAt 0 = .ok (.iconst 0, 1) := by decide +kernel
theorem dX8_sumAt_1 : decode cX8_sumAt 1 = .ok (.istore 4, 2) := by decide +kernel
theorem dX8_sumAt_3 : decode cX8_sumAt 3 = .ok (.iconst 0, 1) := by decide +kernel
theorem dX8_sumAt_4 : decode cX8_sumAt 4 = .ok (.istore 5, 2) := by decide +kernel
theorem dX8_sumAt_6 : decode cX8_sumAt 6 = .ok (.iload 5, 2) := by decide +kernel
theorem dX8_sumAt_8 : decode cX8_sumAt 8 = .ok (.aload_n 0, 1) := by decide +kernel
theorem dX8_sumAt_9 : decode cX8_sumAt 9 = .ok (.getfield 13, 3) := by decide +kernel
theorem dX8_sumAt_12 : decode cX8_sumAt 12 = .ok (.iconst 0, 1) := by decide +kernel
theorem dX8_sumAt_13 : decode cX8_sumAt 13 = .ok (.iaload, 1) := by decide +kernel
theorem dX8_sumAt_14 : decode cX8_sumAt 14 = .ok (.if_icmp .ge 56, 3) := by decide +kernel
theorem dX8_sumAt_17 : decode cX8_sumAt 17 = .ok (.iload 4, 2) := by decide +kernel
theorem dX8_sumAt_19 : decode cX8_sumAt 19 = .ok (.aload_n 0, 1) := by decide +kernel
theorem dX8_sumAt_20 : decode cX8_sumAt 20 = .ok (.getfield 13, 3) := by decide +kernel
theorem dX8_sumAt_23 : decode cX8_sumAt 23 = .ok (.iload 5, 2) := by decide +kernel
theorem dX8_sumAt_25 : decode cX8_sumAt 25 = .ok (.iload_n 1, 1) := by decide +kernel
theorem dX8_sumAt_26 : decode cX8_sumAt 26 = .ok (.invokestatic 70, 3) := by decide +kernel
theorem dX8_sumAt_29 : decode cX8_sumAt 29 = .ok (.ifCond .eq 31, 3) := by decide +kernel
theorem dX8_sumAt_32 : decode cX8_sumAt 32 = .ok (.aload_n 0, 1) := by decide +kernel
theorem dX8_sumAt_33 : decode cX8_sumAt 33 = .ok (.iload 5, 2) := by decide +kernel
theorem dX8_sumAt_35 : decode cX8_sumAt 35 = .ok (.iconst 0, 1) := by decide +kernel
theorem dX8_sumAt_36 : decode cX8_sumAt 36 = .ok (.invokevirtual 123, 3) := by decide +kernel
theorem dX8_sumAt_39 : decode cX8_sumAt 39 = .ok (.i2l, 1) := by decide +kernel
theorem dX8_sumAt_40 : decode cX8_sumAt 40 = .ok (.iload_n 2, 1) := by decide +kernel
theorem dX8_sumAt_41 : decode cX8_sumAt 41 = .ok (.i2l, 1) := by decide +kernel
theorem dX8_sumAt_42 : decode cX8_sumAt 42 = .ok (.iload_n 3, 1) := by decide +kernel
theorem dX8_sumAt_43 : decode cX8_sumAt 43 = .ok (.i2l, 1) := by decide +kernel
theorem dX8_sumAt_44 : decode cX8_sumAt 44 = .ok (.invokestatic 60, 3) := by decide +kernel
theorem dX8_sumAt_47 : decode cX8_sumAt 47 = .ok (.ifCond .eq 13, 3) := by decide +kernel
theorem dX8_sumAt_50 : decode cX8_sumAt 50 = .ok (.aload_n 0, 1) := by decide +kernel
theorem dX8_sumAt_51 : decode cX8_sumAt 51 = .ok (.iload 5, 2) := by decide +kernel
theorem dX8_sumAt_53 : decode cX8_sumAt 53 = .ok (.iconst 3, 1) := by decide +kernel
theorem dX8_sumAt_54 : decode cX8_sumAt 54 = .ok (.invokevirtual 123, 3) := by decide +kernel
theorem dX8_sumAt_57 : decode cX8_sumAt 57 = .ok (.goto 4, 3) := by decide +kernel
theorem dX8_sumAt_60 : decode cX8_sumAt 60 = .ok (.iconst 0, 1) := by decide +kernel
theorem dX8_sumAt_61 : decode cX8_sumAt 61 = .ok (.iadd, 1) := by decide +kernel
theorem dX8_sumAt_62 : decode cX8_sumAt 62 = .ok (.istore 4, 2) := by decide +kernel
theorem dX8_sumAt_64 : decode cX8_sumAt 64 = .ok (.iinc 5 1, 3) := by decide +kernel
theorem dX8_sumAt_67 : decode cX8_sumAt 67 = .ok (.goto (-61), 3) := by decide +kernel
theorem dX8_sumAt_70 : decode cX8_sumAt 70 = .ok (.iload 4, 2) := by decide +kernel
theorem dX8_sumAt_72 : decode cX8_sumAt 72 = .ok (.ireturn, 1) := by decide +kernel
set_option maxRecDepth 20000 in
theorem ggX8_leastFrom_X8_lives : GoodIn wsX8_leastFrom wsX8_lives := goodIn_r _ [5, 6, 7, 4, 8] (by decide +kernel) (by decide +kernel)
set_option maxRecDepth 20000 in
theorem gX8_leastFrom_X8_lives : GoodIn wsX8_leastFrom (va_wsS RX8 70 yX8_lives wsX8_lives) := goodIn_app (goodIn_of _ (by decide +kernel)) ggX8_leastFrom_X8_lives
set_option maxRecDepth 20000 in
theorem ggX8_leastFrom_X8_its : GoodIn wsX8_leastFrom wsX8_its := goodIn_r _ [12, 1, 6, 7, 4, 8, 13, 14, 15, 16, 17, 18, 19, 20, 21, 22, 23, 24, 25, 26, 27, 28, 29, 30, 31, 32, 33, 34, 35, 36, 37, 38, 39, 40, 41, 42, 43, 44, 45] (by decide +kernel) (by decide +kernel)
set_option maxRecDepth 20000 in
theorem gX8_leastFrom_X8_its : GoodIn wsX8_leastFrom (wsV RX8 123 RX8 yX8_its wsX8_its) := goodIn_app (goodIn_of _ (by decide +kernel)) ggX8_leastFrom_X8_its
theorem dX8_leastFrom_0 : decode cX8_leastFrom 0 = .ok (.iconst 0, 1) := by decide +kernel
theorem dX8_leastFrom_1 : decode cX8_leastFrom 1 = .ok (.istore_n 3, 1) := by decide +kernel
theorem dX8_leastFrom_2 : decode cX8_leastFrom 2 = .ok (.iload_n 3, 1) := by decide +kernel
theorem dX8_leastFrom_3 : decode cX8_leastFrom 3 = .ok (.aload_n 0, 1) := by decide +kernel
theorem dX8_leastFrom_4 : decode cX8_leastFrom 4 = .ok (.getfield 13, 3) := by decide +kernel
theorem dX8_leastFrom_7 : decode cX8_leastFrom 7 = .ok (.iconst 0, 1) := by decide +kernel
theorem dX8_leastFrom_8 : decode cX8_leastFrom 8 = .ok (.iaload, 1) := by decide +kernel
theorem dX8_leastFrom_9 : decode cX8_leastFrom 9 = .ok (.if_icmp .ge 38, 3) := by decide +kernel
theorem dX8_leastFrom_12 : decode cX8_leastFrom 12 = .ok (.aload_n 0, 1) := by decide +kernel
theorem dX8_leastFrom_13 : decode cX8_leastFrom 13 = .ok (.getfield 13, 3) := by decide +kernel
theorem dX8_leastFrom_16 : decode cX8_leastFrom 16 = .ok (.iload_n 3, 1) := by decide +kernel
theorem dX8_leastFrom_17 : decode cX8_leastFrom 17 = .ok (.iload_n 2, 1) := by decide +kernel
theorem dX8_leastFrom_18 : decode cX8_leastFrom 18 = .ok (.invokestatic 70, 3) := by decide +kernel
theorem dX8_leastFrom_21 : decode cX8_leastFrom 21 = .ok (.ifCond .eq 20, 3) := by decide +kernel
theorem dX8_leastFrom_24 : decode cX8_leastFrom 24 = .ok (.aload_n 0, 1) := by decide +kernel
theorem dX8_leastFrom_25 : decode cX8_leastFrom 25 = .ok (.iload_n 3, 1) := by decide +kernel
theorem dX8_leastFrom_26 : decode cX8_leastFrom 26 = .ok (.iconst 0, 1) := by decide +kernel
theorem dX8_leastFrom_27 : decode cX8_leastFrom 27 = .ok (.invokevirtual 123, 3) := by decide +kernel
theorem dX8_leastFrom_30 : decode cX8_leastFrom 30 = .ok (.iload_n 1, 1) := by decide +kernel
theorem dX8_leastFrom_31 : decode cX8_leastFrom 31 = .ok (.if_icmp .lt 10, 3) := by decide +kernel
theorem dX8_leastFrom_34 : decode cX8_leastFrom 34 = .ok (.aload_n 0, 1) := by decide +kernel
theorem dX8_leastFrom_35 : decode cX8_leastFrom 35 = .ok (.iload_n 3, 1) := by decide +kernel
theorem dX8_leastFrom_36 : decode cX8_leastFrom 36 = .ok (.iconst 0, 1) := by decide +kernel
theorem dX8_leastFrom_37 : decode cX8_leastFrom 37 = .ok (.invokevirtual 123, 3) := by decide +kernel
theorem dX8_leastFrom_40 : decode cX8_leastFrom 40 = .ok (.ireturn, 1) := by decide +kernel
theorem dX8_leastFrom_41 : decode cX8_leastFrom 41 = .ok (.iinc 3 1, 3) := by decide +kernel
theorem dX8_leastFrom_44 : decode cX8_leastFrom 44 = .ok (.goto (-42), 3) := by decide +kernel
theorem dX8_leastFrom_47 : decode cX8_leastFrom 47 = .ok (.iconst (-1), 1) := by decide +kernel
theorem dX8_leastFrom_48 : decode cX8_leastFrom 48 = .ok (.ireturn, 1) := by decide +kernel
set_option maxRecDepth 20000 in
theorem ggX8_greatestTo_X8_lives : GoodIn wsX8_greatestTo wsX8_lives := goodIn_r _ [5, 6, 7, 4, 8] (by decide +kernel) (by decide +kernel)
set_option maxRecDepth 20000 in
theorem gX8_greatestTo_X8_lives : GoodIn wsX8_greatestTo (va_wsS RX8 70 yX8_lives wsX8_lives) := goodIn_app (goodIn_of _ (by decide +kernel)) ggX8_greatestTo_X8_lives
set_option maxRecDepth 20000 in
theorem ggX8_greatestTo_X8_its : GoodIn wsX8_greatestTo wsX8_its := goodIn_r _ [12, 1, 6, 7, 4, 8, 13, 14, 15, 16, 17, 18, 19, 20, 21, 22, 23, 24, 25, 26, 27, 28, 29, 30, 31, 32, 33, 34, 35, 36, 37, 38, 39, 40, 41, 42, 43, 44, 45] (by decide +kernel) (by decide +kernel)
set_option maxRecDepth 20000 in
theorem gX8_greatestTo_X8_its : GoodIn wsX8_greatestTo (wsV RX8 123 RX8 yX8_its wsX8_its) := goodIn_app (goodIn_of _ (by decide +kernel)) ggX8_greatestTo_X8_its
theorem dX8_greatestTo_0 : decode cX8_greatestTo 0 = .ok (.aload_n 0, 1) := by decide +kernel
theorem dX8_greatestTo_1 : decode cX8_greatestTo 1 = .ok (.getfield 13, 3) := by decide +kernel
theorem dX8_greatestTo_4 : decode cX8_greatestTo 4 = .ok (.iconst 0, 1) := by decide +kernel
theorem dX8_greatestTo_5 : decode cX8_greatestTo 5 = .ok (.iaload, 1) := by decide +kernel
theorem dX8_greatestTo_6 : decode cX8_greatestTo 6 = .ok (.iconst 1, 1) := by decide +kernel
theorem dX8_greatestTo_7 : decode cX8_greatestTo 7 = .ok (.isub, 1) := by decide +kernel
theorem dX8_greatestTo_8 : decode cX8_greatestTo 8 = .ok (.istore_n 3, 1) := by decide +kernel
theorem dX8_greatestTo_9 : decode cX8_greatestTo 9 = .ok (.iload_n 3, 1) := by decide +kernel
theorem dX8_greatestTo_10 : decode cX8_greatestTo 10 = .ok (.ifCond .lt 38, 3) := by decide +kernel
theorem dX8_greatestTo_13 : decode cX8_greatestTo 13 = .ok (.aload_n 0, 1) := by decide +kernel
theorem dX8_greatestTo_14 : decode cX8_greatestTo 14 = .ok (.getfield 13, 3) := by decide +kernel
theorem dX8_greatestTo_17 : decode cX8_greatestTo 17 = .ok (.iload_n 3, 1) := by decide +kernel
theorem dX8_greatestTo_18 : decode cX8_greatestTo 18 = .ok (.iload_n 2, 1) := by decide +kernel
theorem dX8_greatestTo_19 : decode cX8_greatestTo 19 = .ok (.invokestatic 70, 3) := by decide +kernel
theorem dX8_greatestTo_22 : decode cX8_greatestTo 22 = .ok (.ifCond .eq 20, 3) := by decide +kernel
theorem dX8_greatestTo_25 : decode cX8_greatestTo 25 = .ok (.aload_n 0, 1) := by decide +kernel
theorem dX8_greatestTo_26 : decode cX8_greatestTo 26 = .ok (.iload_n 3, 1) := by decide +kernel
theorem dX8_greatestTo_27 : decode cX8_greatestTo 27 = .ok (.iconst 0, 1) := by decide +kernel
theorem dX8_greatestTo_28 : decode cX8_greatestTo 28 = .ok (.invokevirtual 123, 3) := by decide +kernel
theorem dX8_greatestTo_31 : decode cX8_greatestTo 31 = .ok (.iload_n 1, 1) := by decide +kernel
theorem dX8_greatestTo_32 : decode cX8_greatestTo 32 = .ok (.if_icmp .gt 10, 3) := by decide +kernel
theorem dX8_greatestTo_35 : decode cX8_greatestTo 35 = .ok (.aload_n 0, 1) := by decide +kernel
theorem dX8_greatestTo_36 : decode cX8_greatestTo 36 = .ok (.iload_n 3, 1) := by decide +kernel
theorem dX8_greatestTo_37 : decode cX8_greatestTo 37 = .ok (.iconst 0, 1) := by decide +kernel
theorem dX8_greatestTo_38 : decode cX8_greatestTo 38 = .ok (.invokevirtual 123, 3) := by decide +kernel
theorem dX8_greatestTo_41 : decode cX8_greatestTo 41 = .ok (.ireturn, 1) := by decide +kernel
theorem dX8_greatestTo_42 : decode cX8_greatestTo 42 = .ok (.iinc 3 (-1), 3) := by decide +kernel
theorem dX8_greatestTo_45 : decode cX8_greatestTo 45 = .ok (.goto (-36), 3) := by decide +kernel
theorem dX8_greatestTo_48 : decode cX8_greatestTo 48 = .ok (.iconst (-1), 1) := by decide +kernel
theorem dX8_greatestTo_49 : decode cX8_greatestTo 49 = .ok (.ireturn, 1) := by decide +kernel
set_option maxRecDepth 20000 in
theorem ggX8_alive_X8_isHour : GoodIn wsX8_alive wsX8_isHour := goodIn_r _ [5, 6, 7, 8, 4, 9] (by decide +kernel) (by decide +kernel)
set_option maxRecDepth 20000 in
theorem gX8_alive_X8_isHour : GoodIn wsX8_alive (va_wsS RX8 104 yX8_isHour wsX8_isHour) := goodIn_app (goodIn_of _ (by decide +kernel)) ggX8_alive_X8_isHour
set_option maxRecDepth 20000 in
theorem ggX8_alive_X8_countAt : GoodIn wsX8_alive wsX8_countAt := goodIn_r _ [13, 14, 15, 16, 4, 17, 18, 19, 20, 21, 22, 23, 24, 25, 26, 27, 28, 29, 30, 31, 32, 33, 34, 35, 36, 37, 38, 39, 40, 41, 42, 43, 44, 45, 46, 47, 48, 49, 50, 51, 52, 53] (by decide +kernel) (by decide +kernel)
set_option maxRecDepth 20000 in
theorem gX8_alive_X8_countAt : GoodIn wsX8_alive (wsV RX8 370 RX8 yX8_countAt wsX8_countAt) := goodIn_app (goodIn_of _ (by decide +kernel)) ggX8_alive_X8_countAt
theorem dX8_alive_0 : decode cX8_alive 0 = .ok (.aload_n 0, 1) := by decide +kernel
theorem dX8_alive_1 : decode cX8_alive 1 = .ok (.iconst 0, 1) := by decide +kernel
theorem dX8_alive_2 : decode cX8_alive 2 = .ok (.putfield 1, 3) := by decide +kernel
theorem dX8_alive_5 : decode cX8_alive 5 = .ok (.iload_n 1, 1) := by decide +kernel
theorem dX8_alive_6 : decode cX8_alive 6 = .ok (.invokestatic 104, 3) := by decide +kernel
theorem dX8_alive_9 : decode cX8_alive 9 = .ok (.ifCond .eq 11, 3) := by decide +kernel
theorem dX8_alive_12 : decode cX8_alive 12 = .ok (.aload_n 0, 1) := by decide +kernel
theorem dX8_alive_13 : decode cX8_alive 13 = .ok (.iload_n 1, 1) := by decide +kernel
theorem dX8_alive_14 : decode cX8_alive 14 = .ok (.invokevirtual 370, 3) := by decide +kernel
theorem dX8_alive_17 : decode cX8_alive 17 = .ok (.goto 4, 3) := by decide +kernel
theorem dX8_alive_20 : decode cX8_alive 20 = .ok (.iconst (-1), 1) := by decide +kernel
theorem dX8_alive_21 : decode cX8_alive 21 = .ok (.ireturn, 1) := by decide +kernel
set_option maxRecDepth 20000 in
theorem ggX8_next_X8_isNumber : GoodIn wsX8_next wsX8_isNumber := goodIn_r _ [5, 6, 7, 8, 4, 9] (by decide +kernel) (by decide +kernel)
set_option maxRecDepth 20000 in
theorem gX8_next_X8_isNumber : GoodIn wsX8_next (va_wsS RX8 101 yX8_isNumber wsX8_isNumber) := goodIn_app (goodIn_of _ (by decide +kernel)) ggX8_next_X8_isNumber
set_option maxRecDepth 20000 in
theorem ggX8_next_X8_isHour : GoodIn wsX8_next wsX8_isHour := goodIn_r _ [12, 13, 7, 8, 4, 9] (by decide +kernel) (by decide +kernel)
set_option maxRecDepth 20000 in
theorem gX8_next_X8_isHour : GoodIn wsX8_next (va_wsS RX8 104 yX8_isHour wsX8_isHour) := goodIn_app (goodIn_of _ (by decide +kernel)) ggX8_next_X8_isHour
set_option maxRecDepth 20000 in
theorem ggX8_next_X8_leastFrom : GoodIn wsX8_next wsX8_leastFrom := goodIn_r _ [17, 18, 19, 20, 4, 21, 22, 23, 24, 25, 26, 27, 28, 29, 30, 31, 32, 33, 34, 35, 36, 37, 38, 39, 40, 41, 42, 43, 44, 45, 46, 47, 48, 49, 50, 51, 52, 53, 54, 55, 56, 57, 58, 59, 60, 61] (by decide +kernel) (by decide +kernel)
set_option maxRecDepth 20000 in
theorem gX8_next_X8_leastFrom : GoodIn wsX8_next (wsV RX8 376 RX8 yX8_leastFrom wsX8_leastFrom) := goodIn_app (goodIn_of _ (by decide +kernel)) ggX8_next_X8_leastFrom
theorem dX8_next_0 : decode cX8_next 0 = .ok (.aload_n 0, 1) := by decide +kernel
theorem dX8_next_1 : decode cX8_next 1 = .ok (.iconst 0, 1) := by decide +kernel
theorem dX8_next_2 : decode cX8_next 2 = .ok (.putfield 1, 3) := by decide +kernel
theorem dX8_next_5 : decode cX8_next 5 = .ok (.iload_n 1, 1) := by decide +kernel
theorem dX8_next_6 : decode cX8_next 6 = .ok (.invokestatic 101, 3) := by decide +kernel
theorem dX8_next_9 : decode cX8_next 9 = .ok (.ifCond .eq 10, 3) := by decide +kernel
theorem dX8_next_12 : decode cX8_next 12 = .ok (.iload_n 2, 1) := by decide +kernel
theorem dX8_next_13 : decode cX8_next 13 = .ok (.invokestatic 104, 3) := by decide +kernel
theorem dX8_next_16 : decode cX8_next 16 = .ok (.ifCond .ne 5, 3) := by decide +kernel
theorem dX8_next_19 : decode cX8_next 19 = .ok (.iconst (-1), 1) := by decide +kernel
theorem dX8_next_20 : decode cX8_next 20 = .ok (.ireturn, 1) := by decide +kernel
theorem dX8_next_21 : decode cX8_next 21 = .ok (.aload_n 0, 1) := by decide +kernel
theorem dX8_next_22 : decode cX8_next 22 = .ok (.iload_n 1, 1) := by decide +kernel
theorem dX8_next_23 : decode cX8_next 23 = .ok (.iload_n 2, 1) := by decide +kernel
theorem dX8_next_24 : decode cX8_next 24 = .ok (.invokevirtual 376, 3) := by decide +kernel
theorem dX8_next_27 : decode cX8_next 27 = .ok (.istore_n 3, 1) := by decide +kernel
theorem dX8_next_28 : decode cX8_next 28 = .ok (.iload_n 3, 1) := by decide +kernel
theorem dX8_next_29 : decode cX8_next 29 = .ok (.iconst (-1), 1) := by decide +kernel
theorem dX8_next_30 : decode cX8_next 30 = .ok (.if_icmp .ne 8, 3) := by decide +kernel
theorem dX8_next_33 : decode cX8_next 33 = .ok (.bipush (-2), 2) := by decide +kernel
theorem dX8_next_35 : decode cX8_next 35 = .ok (.goto 4, 3) := by decide +kernel
theorem dX8_next_38 : decode cX8_next 38 = .ok (.iload_n 3, 1) := by decide +kernel
theorem dX8_next_39 : decode cX8_next 39 = .ok (.ireturn, 1) := by decide +kernel
set_option maxRecDepth 20000 in
theorem ggX8_before_X8_isNumber : GoodIn wsX8_before wsX8_isNumber := goodIn_r _ [5, 6, 7, 8, 4, 9] (by decide +kernel) (by decide +kernel)
set_option maxRecDepth 20000 in
theorem gX8_before_X8_isNumber : GoodIn wsX8_before (va_wsS RX8 101 yX8_isNumber wsX8_isNumber) := goodIn_app (goodIn_of _ (by decide +kernel)) ggX8_before_X8_isNumber
set_option maxRecDepth 20000 in
theorem ggX8_before_X8_isHour : GoodIn wsX8_before wsX8_isHour := goodIn_r _ [12, 13, 7, 8, 4, 9] (by decide +kernel) (by decide +kernel)
set_option maxRecDepth 20000 in
theorem gX8_before_X8_isHour : GoodIn wsX8_before (va_wsS RX8 104 yX8_isHour wsX8_isHour) := goodIn_app (goodIn_of _ (by decide +kernel)) ggX8_before_X8_isHour
set_option maxRecDepth 20000 in
theorem ggX8_before_X8_greatestTo : GoodIn wsX8_before wsX8_greatestTo := goodIn_r _ [17, 18, 19, 20, 4, 21, 22, 23, 24, 25, 26, 27, 28, 29, 30, 31, 32, 33, 34, 35, 36, 37, 38, 39, 40, 41, 42, 43, 44, 45, 46, 47, 48, 49, 50, 51, 52, 53, 54, 55, 56, 57, 58, 59, 60, 61] (by decide +kernel) (by decide +kernel)
set_option maxRecDepth 20000 in
theorem gX8_before_X8_greatestTo : GoodIn wsX8_before (wsV RX8 379 RX8 yX8_greatestTo wsX8_greatestTo) := goodIn_app (goodIn_of _ (by decide +kernel)) ggX8_before_X8_greatestTo
theorem dX8_before_0 : decode cX8_before 0 = .ok (.aload_n 0, 1) := by decide +kernel
theorem dX8_before_1 : decode cX8_before 1 = .ok (.iconst 0, 1) := by decide +kernel
theorem dX8_before_2 : decode cX8_before 2 = .ok (.putfield 1, 3) := by decide +kernel
theorem dX8_before_5 : decode cX8_before 5 = .ok (.iload_n 1, 1) := by decide +kernel
theorem dX8_before_6 : decode cX8_before 6 = .ok (.invokestatic 101, 3) := by decide +kernel
theorem dX8_before_9 : decode cX8_before 9 = .ok (.ifCond .eq 10, 3) := by decide +kernel
theorem dX8_before_12 : decode cX8_before 12 = .ok (.iload_n 2, 1) := by decide +kernel
theorem dX8_before_13 : decode cX8_before 13 = .ok (.invokestatic 104, 3) := by decide +kernel
theorem dX8_before_16 : decode cX8_before 16 = .ok (.ifCond .ne 5, 3) := by decide +kernel
theorem dX8_before_19 : decode cX8_before 19 = .ok (.iconst (-1), 1) := by decide +kernel
theorem dX8_before_20 : decode cX8_before 20 = .ok (.ireturn, 1) := by decide +kernel
theorem dX8_before_21 : decode cX8_before 21 = .ok (.aload_n 0, 1) := by decide +kernel
theorem dX8_before_22 : decode cX8_before 22 = .ok (.iload_n 1, 1) := by decide +kernel
theorem dX8_before_23 : decode cX8_before 23 = .ok (.iload_n 2, 1) := by decide +kernel
theorem dX8_before_24 : decode cX8_before 24 = .ok (.invokevirtual 379, 3) := by decide +kernel
theorem dX8_before_27 : decode cX8_before 27 = .ok (.istore_n 3, 1) := by decide +kernel
theorem dX8_before_28 : decode cX8_before 28 = .ok (.iload_n 3, 1) := by decide +kernel
theorem dX8_before_29 : decode cX8_before 29 = .ok (.iconst (-1), 1) := by decide +kernel
theorem dX8_before_30 : decode cX8_before 30 = .ok (.if_icmp .ne 8, 3) := by decide +kernel
theorem dX8_before_33 : decode cX8_before 33 = .ok (.bipush (-2), 2) := by decide +kernel
theorem dX8_before_35 : decode cX8_before 35 = .ok (.goto 4, 3) := by decide +kernel
theorem dX8_before_38 : decode cX8_before 38 = .ok (.iload_n 3, 1) := by decide +kernel
theorem dX8_before_39 : decode cX8_before 39 = .ok (.ireturn, 1) := by decide +kernel
set_option maxRecDepth 20000 in
theorem ggX8_rank_X8_isNumber : GoodIn wsX8_rank wsX8_isNumber := goodIn_r _ [6, 7, 8, 9, 5, 10] (by decide +kernel) (by decide +kernel)
set_option maxRecDepth 20000 in
theorem gX8_rank_X8_isNumber : GoodIn wsX8_rank (va_wsS RX8 101 yX8_isNumber wsX8_isNumber) := goodIn_app (goodIn_of _ (by decide +kernel)) ggX8_rank_X8_isNumber
set_option maxRecDepth 20000 in
theorem ggX8_rank_X8_isHour : GoodIn wsX8_rank wsX8_isHour := goodIn_r _ [13, 14, 8, 9, 5, 10] (by decide +kernel) (by decide +kernel)
set_option maxRecDepth 20000 in
theorem gX8_rank_X8_isHour : GoodIn wsX8_rank (va_wsS RX8 104 yX8_isHour wsX8_isHour) := goodIn_app (goodIn_of _ (by decide +kernel)) ggX8_rank_X8_isHour
set_option maxRecDepth 20000 in
theorem ggX8_rank_X8_lives : GoodIn wsX8_rank wsX8_lives := goodIn_r _ [17, 18, 19, 5, 20] (by decide +kernel) (by decide +kernel)
set_option maxRecDepth 20000 in
theorem gX8_rank_X8_lives : GoodIn wsX8_rank (va_wsS RX8 70 yX8_lives wsX8_lives) := goodIn_app (goodIn_of _ (by decide +kernel)) ggX8_rank_X8_lives
set_option maxRecDepth 20000 in
theorem ggX8_rank_X8_its : GoodIn wsX8_rank wsX8_its := goodIn_r _ [24, 2, 18, 19, 5, 20, 25, 26, 27, 28, 29, 30, 31, 32, 33, 34, 35, 36, 37, 38, 39, 40, 41, 42, 43, 44, 45, 46, 47, 48, 49, 50, 51, 52, 53, 54, 55, 56, 57] (by decide +kernel) (by decide +kernel)
set_option maxRecDepth 20000 in
theorem gX8_rank_X8_its : GoodIn wsX8_rank (wsV RX8 123 RX8 yX8_its wsX8_its) := goodIn_app (goodIn_of _ (by decide +kernel)) ggX8_rank_X8_its
theorem dX8_rank_0 : decode cX8_rank 0 = .ok (.aload_n 0, 1) := by decide +kernel
theorem dX8_rank_1 : decode cX8_rank 1 = .ok (.iconst 0, 1) := by decide +kernel
theorem dX8_rank_2 : decode cX8_rank 2 = .ok (.putfield 1, 3) := by decide +kernel
theorem dX8_rank_5 : decode cX8_rank 5 = .ok (.iload_n 1, 1) := by decide +kernel
theorem dX8_rank_6 : decode cX8_rank 6 = .ok (.invokestatic 101, 3) := by decide +kernel
theorem dX8_rank_9 : decode cX8_rank 9 = .ok (.ifCond .eq 10, 3) := by decide +kernel
theorem dX8_rank_12 : decode cX8_rank 12 = .ok (.iload_n 2, 1) := by decide +kernel
theorem dX8_rank_13 : decode cX8_rank 13 = .ok (.invokestatic 104, 3) := by decide +kernel
theorem dX8_rank_16 : decode cX8_rank 16 = .ok (.ifCond .ne 5, 3) := by decide +kernel
theorem dX8_rank_19 : decode cX8_rank 19 = .ok (.iconst (-1), 1) := by decide +kernel
theorem dX8_rank_20 : decode cX8_rank 20 = .ok (.ireturn, 1) := by decide +kernel
theorem dX8_rank_21 : decode cX8_rank 21 = .ok (.iconst 0, 1) := by decide +kernel
theorem dX8_rank_22 : decode cX8_rank 22 = .ok (.istore_n 3, 1) := by decide +kernel
theorem dX8_rank_23 : decode cX8_rank 23 = .ok (.iconst 0, 1) := by decide +kernel
theorem dX8_rank_24 : decode cX8_rank 24 = .ok (.istore 4, 2) := by decide +kernel
theorem dX8_rank_26 : decode cX8_rank 26 = .ok (.iload 4, 2) := by decide +kernel
theorem dX8_rank_28 : decode cX8_rank 28 = .ok (.aload_n 0, 1) := by decide +kernel
theorem dX8_rank_29 : decode cX8_rank 29 = .ok (.getfield 13, 3) := by decide +kernel
theorem dX8_rank_32 : decode cX8_rank 32 = .ok (.iconst 0, 1) := by decide +kernel
theorem dX8_rank_33 : decode cX8_rank 33 = .ok (.iaload, 1) := by decide +kernel
theorem dX8_rank_34 : decode cX8_rank 34 = .ok (.if_icmp .ge 41, 3) := by decide +kernel
theorem dX8_rank_37 : decode cX8_rank 37 = .ok (.iload_n 3, 1) := by decide +kernel
theorem dX8_rank_38 : decode cX8_rank 38 = .ok (.aload_n 0, 1) := by decide +kernel
theorem dX8_rank_39 : decode cX8_rank 39 = .ok (.getfield 13, 3) := by decide +kernel
theorem dX8_rank_42 : decode cX8_rank 42 = .ok (.iload 4, 2) := by decide +kernel
theorem dX8_rank_44 : decode cX8_rank 44 = .ok (.iload_n 2, 1) := by decide +kernel
theorem dX8_rank_45 : decode cX8_rank 45 = .ok (.invokestatic 70, 3) := by decide +kernel
theorem dX8_rank_48 : decode cX8_rank 48 = .ok (.ifCond .eq 18, 3) := by decide +kernel
theorem dX8_rank_51 : decode cX8_rank 51 = .ok (.aload_n 0, 1) := by decide +kernel
theorem dX8_rank_52 : decode cX8_rank 52 = .ok (.iload 4, 2) := by decide +kernel
theorem dX8_rank_54 : decode cX8_rank 54 = .ok (.iconst 0, 1) := by decide +kernel
theorem dX8_rank_55 : decode cX8_rank 55 = .ok (.invokevirtual 123, 3) := by decide +kernel
theorem dX8_rank_58 : decode cX8_rank 58 = .ok (.iload_n 1, 1) := by decide +kernel
theorem dX8_rank_59 : decode cX8_rank 59 = .ok (.if_icmp .ge 7, 3) := by decide +kernel
theorem dX8_rank_62 : decode cX8_rank 62 = .ok (.iconst 1, 1) := by decide +kernel
theorem dX8_rank_63 : decode cX8_rank 63 = .ok (.goto 4, 3) := by decide +kernel
theorem dX8_rank_66 : decode cX8_rank 66 = .ok (.iconst 0, 1) := by decide +kernel
theorem dX8_rank_67 : decode cX8_rank 67 = .ok (.iadd, 1) := by decide +kernel
theorem dX8_rank_68 : decode cX8_rank 68 = .ok (.istore_n 3, 1) := by decide +kernel
theorem dX8_rank_69 : decode cX8_rank 69 = .ok (.iinc 4 1, 3) := by decide +kernel
theorem dX8_rank_72 : decode cX8_rank 72 = .ok (.goto (-46), 3) := by decide +kernel
theorem dX8_rank_75 : decode cX8_rank 75 = .ok (.iload_n 3, 1) := by decide +kernel
theorem dX8_rank_76 : decode cX8_rank 76 = .ok (.ireturn, 1) := by decide +kernel
set_option maxRecDepth 20000 in
theorem ggX8_kthAt_X8_lives : GoodIn wsX8_kthAt wsX8_lives := goodIn_r _ [5, 6, 7, 4, 8] (by decide +kernel) (by decide +kernel)
set_option maxRecDepth 20000 in
theorem gX8_kthAt_X8_lives : GoodIn wsX8_kthAt (va_wsS RX8 70 yX8_lives wsX8_lives) := goodIn_app (goodIn_of _ (by decide +kernel)) ggX8_kthAt_X8_lives
set_option maxRecDepth 20000 in
theorem ggX8_kthAt_X8_its : GoodIn wsX8_kthAt wsX8_its := goodIn_r _ [12, 1, 6, 7, 4, 8, 13, 14, 15, 16, 17, 18, 19, 20, 21, 22, 23, 24, 25, 26, 27, 28, 29, 30, 31, 32, 33, 34, 35, 36, 37, 38, 39, 40, 41, 42, 43, 44, 45] (by decide +kernel) (by decide +kernel)
set_option maxRecDepth 20000 in
theorem gX8_kthAt_X8_its : GoodIn wsX8_kthAt (wsV RX8 123 RX8 yX8_its wsX8_its) := goodIn_app (goodIn_of _ (by decide +kernel)) ggX8_kthAt_X8_its
theorem dX8_kthAt_0 : decode cX8_kthAt 0 = .ok (.iconst 0, 1) := by decide +kernel
theorem dX8_kthAt_1 : decode cX8_kthAt 1 = .ok (.istore_n 3, 1) := by decide +kernel
theorem dX8_kthAt_2 : decode cX8_kthAt 2 = .ok (.iconst 0, 1) := by decide +kernel
theorem dX8_kthAt_3 : decode cX8_kthAt 3 = .ok (.istore 4, 2) := by decide +kernel
theorem dX8_kthAt_5 : decode cX8_kthAt 5 = .ok (.iload 4, 2) := by decide +kernel
theorem dX8_kthAt_7 : decode cX8_kthAt 7 = .ok (.aload_n 0, 1) := by decide +kernel
theorem dX8_kthAt_8 : decode cX8_kthAt 8 = .ok (.getfield 13, 3) := by decide +kernel
theorem dX8_kthAt_11 : decode cX8_kthAt 11 = .ok (.iconst 0, 1) := by decide +kernel
theorem dX8_kthAt_12 : decode cX8_kthAt 12 = .ok (.iaload, 1) := by decide +kernel
theorem dX8_kthAt_13 : decode cX8_kthAt 13 = .ok (.if_icmp .ge 38, 3) := by decide +kernel
theorem dX8_kthAt_16 : decode cX8_kthAt 16 = .ok (.aload_n 0, 1) := by decide +kernel
theorem dX8_kthAt_17 : decode cX8_kthAt 17 = .ok (.getfield 13, 3) := by decide +kernel
theorem dX8_kthAt_20 : decode cX8_kthAt 20 = .ok (.iload 4, 2) := by decide +kernel
theorem dX8_kthAt_22 : decode cX8_kthAt 22 = .ok (.iload_n 1, 1) := by decide +kernel
theorem dX8_kthAt_23 : decode cX8_kthAt 23 = .ok (.invokestatic 70, 3) := by decide +kernel
theorem dX8_kthAt_26 : decode cX8_kthAt 26 = .ok (.ifCond .eq 19, 3) := by decide +kernel
theorem dX8_kthAt_29 : decode cX8_kthAt 29 = .ok (.iload_n 3, 1) := by decide +kernel
theorem dX8_kthAt_30 : decode cX8_kthAt 30 = .ok (.iload_n 2, 1) := by decide +kernel
theorem dX8_kthAt_31 : decode cX8_kthAt 31 = .ok (.if_icmp .ne 11, 3) := by decide +kernel
theorem dX8_kthAt_34 : decode cX8_kthAt 34 = .ok (.aload_n 0, 1) := by decide +kernel
theorem dX8_kthAt_35 : decode cX8_kthAt 35 = .ok (.iload 4, 2) := by decide +kernel
theorem dX8_kthAt_37 : decode cX8_kthAt 37 = .ok (.iconst 0, 1) := by decide +kernel
theorem dX8_kthAt_38 : decode cX8_kthAt 38 = .ok (.invokevirtual 123, 3) := by decide +kernel
theorem dX8_kthAt_41 : decode cX8_kthAt 41 = .ok (.ireturn, 1) := by decide +kernel
theorem dX8_kthAt_42 : decode cX8_kthAt 42 = .ok (.iinc 3 1, 3) := by decide +kernel
theorem dX8_kthAt_45 : decode cX8_kthAt 45 = .ok (.iinc 4 1, 3) := by decide +kernel
theorem dX8_kthAt_48 : decode cX8_kthAt 48 = .ok (.goto (-43), 3) := by decide +kernel
theorem dX8_kthAt_51 : decode cX8_kthAt 51 = .ok (.bipush (-2), 2) := by decide +kernel
theorem dX8_kthAt_53 : decode cX8_kthAt 53 = .ok (.ireturn, 1) := by decide +kernel
set_option maxRecDepth 20000 in
theorem ggX8_kth_X8_isHour : GoodIn wsX8_kth wsX8_isHour := goodIn_r _ [5, 6, 7, 8, 4, 9] (by decide +kernel) (by decide +kernel)
set_option maxRecDepth 20000 in
theorem gX8_kth_X8_isHour : GoodIn wsX8_kth (va_wsS RX8 104 yX8_isHour wsX8_isHour) := goodIn_app (goodIn_of _ (by decide +kernel)) ggX8_kth_X8_isHour
set_option maxRecDepth 20000 in
theorem ggX8_kth_X8_kthAt : GoodIn wsX8_kth wsX8_kthAt := goodIn_r _ [13, 14, 15, 16, 4, 17, 18, 19, 20, 21, 22, 23, 24, 25, 26, 27, 28, 29, 30, 31, 32, 33, 34, 35, 36, 37, 38, 39, 40, 41, 42, 43, 44, 45, 46, 47, 48, 49, 50, 51, 52, 53, 54, 55, 56, 57] (by decide +kernel) (by decide +kernel)
set_option maxRecDepth 20000 in
theorem gX8_kth_X8_kthAt : GoodIn wsX8_kth (wsV RX8 419 RX8 yX8_kthAt wsX8_kthAt) := goodIn_app (goodIn_of _ (by decide +kernel)) ggX8_kth_X8_kthAt
theorem dX8_kth_0 : decode cX8_kth 0 = .ok (.aload_n 0, 1) := by decide +kernel
theorem dX8_kth_1 : decode cX8_kth 1 = .ok (.iconst 0, 1) := by decide +kernel
theorem dX8_kth_2 : decode cX8_kth 2 = .ok (.putfield 1, 3) := by decide +kernel
theorem dX8_kth_5 : decode cX8_kth 5 = .ok (.iload_n 1, 1) := by decide +kernel
theorem dX8_kth_6 : decode cX8_kth 6 = .ok (.invokestatic 104, 3) := by decide +kernel
theorem dX8_kth_9 : decode cX8_kth 9 = .ok (.ifCond .eq 16, 3) := by decide +kernel
theorem dX8_kth_12 : decode cX8_kth 12 = .ok (.iload_n 2, 1) := by decide +kernel
theorem dX8_kth_13 : decode cX8_kth 13 = .ok (.ifCond .lt 12, 3) := by decide +kernel
theorem dX8_kth_16 : decode cX8_kth 16 = .ok (.aload_n 0, 1) := by decide +kernel
theorem dX8_kth_17 : decode cX8_kth 17 = .ok (.iload_n 1, 1) := by decide +kernel
theorem dX8_kth_18 : decode cX8_kth 18 = .ok (.iload_n 2, 1) := by decide +kernel
theorem dX8_kth_19 : decode cX8_kth 19 = .ok (.invokevirtual 419, 3) := by decide +kernel
theorem dX8_kth_22 : decode cX8_kth 22 = .ok (.goto 4, 3) := by decide +kernel
theorem dX8_kth_25 : decode cX8_kth 25 = .ok (.iconst (-1), 1) := by decide +kernel
theorem dX8_kth_26 : decode cX8_kth 26 = .ok (.ireturn, 1) := by decide +kernel
set_option maxRecDepth 20000 in
theorem ggX8_sum_X8_isHour : GoodIn wsX8_sum wsX8_isHour := goodIn_r _ [5, 6, 7, 8, 4, 9] (by decide +kernel) (by decide +kernel)
set_option maxRecDepth 20000 in
theorem gX8_sum_X8_isHour : GoodIn wsX8_sum (va_wsS RX8 104 yX8_isHour wsX8_isHour) := goodIn_app (goodIn_of _ (by decide +kernel)) ggX8_sum_X8_isHour
set_option maxRecDepth 20000 in
theorem ggX8_sum_X8_isNumber : GoodIn wsX8_sum wsX8_isNumber := goodIn_r _ [12, 13, 7, 8, 4, 9] (by decide +kernel) (by decide +kernel)
set_option maxRecDepth 20000 in
theorem gX8_sum_X8_isNumber : GoodIn wsX8_sum (va_wsS RX8 101 yX8_isNumber wsX8_isNumber) := goodIn_app (goodIn_of _ (by decide +kernel)) ggX8_sum_X8_isNumber
set_option maxRecDepth 20000 in
theorem ggX8_sum_X8_sumAt : GoodIn wsX8_sum wsX8_sumAt := goodIn_r _ [17, 18, 19, 20, 4, 21, 22, 23, 24, 25, 26, 27, 28, 7, 8, 9, 29, 30, 31, 32, 33, 34, 35, 36, 37, 38, 39, 40, 41, 42, 43, 44, 45, 46, 47, 48, 49, 50, 51, 52, 53, 54, 55, 56, 57, 58, 59, 60, 61] (by decide +kernel) (by decide +kernel)
set_option maxRecDepth 20000 in
theorem gX8_sum_X8_sumAt : GoodIn wsX8_sum (wsV RX8 373 RX8 yX8_sumAt wsX8_sumAt) := goodIn_app (goodIn_of _ (by decide +kernel)) ggX8_sum_X8_sumAt
theorem dX8_sum_0 : decode cX8_sum 0 = .ok (.aload_n 0, 1) := by decide +kernel
theorem dX8_sum_1 : decode cX8_sum 1 = .ok (.iconst 0, 1) := by decide +kernel
theorem dX8_sum_2 : decode cX8_sum 2 = .ok (.putfield 1, 3) := by decide +kernel
theorem dX8_sum_5 : decode cX8_sum 5 = .ok (.iload_n 1, 1) := by decide +kernel
theorem dX8_sum_6 : decode cX8_sum 6 = .ok (.invokestatic 104, 3) := by decide +kernel
theorem dX8_sum_9 : decode cX8_sum 9 = .ok (.ifCond .eq 32, 3) := by decide +kernel
theorem dX8_sum_12 : decode cX8_sum 12 = .ok (.iload_n 2, 1) := by decide +kernel
theorem dX8_sum_13 : decode cX8_sum 13 = .ok (.invokestatic 101, 3) := by decide +kernel
theorem dX8_sum_16 : decode cX8_sum 16 = .ok (.ifCond .eq 25, 3) := by decide +kernel
theorem dX8_sum_19 : decode cX8_sum 19 = .ok (.iload_n 3, 1) := by decide +kernel
theorem dX8_sum_20 : decode cX8_sum 20 = .ok (.invokestatic 101, 3) := by decide +kernel
theorem dX8_sum_23 : decode cX8_sum 23 = .ok (.ifCond .eq 18, 3) := by decide +kernel
theorem dX8_sum_26 : decode cX8_sum 26 = .ok (.iload_n 2, 1) := by decide +kernel
theorem dX8_sum_27 : decode cX8_sum 27 = .ok (.iload_n 3, 1) := by decide +kernel
theorem dX8_sum_28 : decode cX8_sum 28 = .ok (.if_icmp .gt 13, 3) := by decide +kernel
theorem dX8_sum_31 : decode cX8_sum 31 = .ok (.aload_n 0, 1) := by decide +kernel
theorem dX8_sum_32 : decode cX8_sum 32 = .ok (.iload_n 1, 1) := by decide +kernel
theorem dX8_sum_33 : decode cX8_sum 33 = .ok (.iload_n 2, 1) := by decide +kernel
theorem dX8_sum_34 : decode cX8_sum 34 = .ok (.iload_n 3, 1) := by decide +kernel
theorem dX8_sum_35 : decode cX8_sum 35 = .ok (.invokevirtual 373, 3) := by decide +kernel
theorem dX8_sum_38 : decode cX8_sum 38 = .ok (.goto 4, 3) := by decide +kernel
theorem dX8_sum_41 : decode cX8_sum 41 = .ok (.iconst (-1), 1) := by decide +kernel
theorem dX8_sum_42 : decode cX8_sum 42 = .ok (.ireturn, 1) := by decide +kernel
set_option maxRecDepth 20000 in
theorem ggX8_gap_X8_isHour : GoodIn wsX8_gap wsX8_isHour := goodIn_r _ [5, 6, 7, 8, 4, 9] (by decide +kernel) (by decide +kernel)
set_option maxRecDepth 20000 in
theorem gX8_gap_X8_isHour : GoodIn wsX8_gap (va_wsS RX8 104 yX8_isHour wsX8_isHour) := goodIn_app (goodIn_of _ (by decide +kernel)) ggX8_gap_X8_isHour
set_option maxRecDepth 20000 in
theorem ggX8_gap_X8_countAt : GoodIn wsX8_gap wsX8_countAt := goodIn_r _ [13, 14, 15, 16, 4, 17, 18, 19, 20, 29, 30, 31, 32, 33, 34, 35, 36, 37, 38, 39, 40, 41, 42, 43, 44, 45, 46, 47, 48, 49, 50, 51, 52, 53, 54, 55, 56, 57, 58, 59, 60, 61] (by decide +kernel) (by decide +kernel)
set_option maxRecDepth 20000 in
theorem gX8_gap_X8_countAt : GoodIn wsX8_gap (wsV RX8 370 RX8 yX8_countAt wsX8_countAt) := goodIn_app (goodIn_of _ (by decide +kernel)) ggX8_gap_X8_countAt
set_option maxRecDepth 20000 in
theorem ggX8_gap_X8_kthAt : GoodIn wsX8_gap wsX8_kthAt := goodIn_r _ [24, 14, 15, 16, 4, 17, 18, 19, 20, 25, 26, 27, 28, 29, 30, 31, 32, 33, 34, 35, 36, 37, 38, 39, 40, 41, 42, 43, 44, 45, 46, 47, 48, 49, 50, 51, 52, 53, 54, 55, 56, 57, 58, 59, 60, 61] (by decide +kernel) (by decide +kernel)
set_option maxRecDepth 20000 in
theorem gX8_gap_X8_kthAt : GoodIn wsX8_gap (wsV RX8 419 RX8 yX8_kthAt wsX8_kthAt) := goodIn_app (goodIn_of _ (by decide +kernel)) ggX8_gap_X8_kthAt
theorem dX8_gap_0 : decode cX8_gap 0 = .ok (.aload_n 0, 1) := by decide +kernel
theorem dX8_gap_1 : decode cX8_gap 1 = .ok (.iconst 0, 1) := by decide +kernel
theorem dX8_gap_2 : decode cX8_gap 2 = .ok (.putfield 1, 3) := by decide +kernel
theorem dX8_gap_5 : decode cX8_gap 5 = .ok (.iload_n 1, 1) := by decide +kernel
theorem dX8_gap_6 : decode cX8_gap 6 = .ok (.invokestatic 104, 3) := by decide +kernel
theorem dX8_gap_9 : decode cX8_gap 9 = .ok (.ifCond .ne 5, 3) := by decide +kernel
theorem dX8_gap_12 : decode cX8_gap 12 = .ok (.iconst (-1), 1) := by decide +kernel
theorem dX8_gap_13 : decode cX8_gap 13 = .ok (.ireturn, 1) := by decide +kernel
theorem dX8_gap_14 : decode cX8_gap 14 = .ok (.bipush (-2), 2) := by decide +kernel
theorem dX8_gap_16 : decode cX8_gap 16 = .ok (.istore_n 2, 1) := by decide +kernel
theorem dX8_gap_17 : decode cX8_gap 17 = .ok (.iconst 0, 1) := by decide +kernel
theorem dX8_gap_18 : decode cX8_gap 18 = .ok (.istore_n 3, 1) := by decide +kernel
theorem dX8_gap_19 : decode cX8_gap 19 = .ok (.iconst 0, 1) := by decide +kernel
theorem dX8_gap_20 : decode cX8_gap 20 = .ok (.istore 4, 2) := by decide +kernel
theorem dX8_gap_22 : decode cX8_gap 22 = .ok (.iload 4, 2) := by decide +kernel
theorem dX8_gap_24 : decode cX8_gap 24 = .ok (.iconst 1, 1) := by decide +kernel
theorem dX8_gap_25 : decode cX8_gap 25 = .ok (.iadd, 1) := by decide +kernel
theorem dX8_gap_26 : decode cX8_gap 26 = .ok (.aload_n 0, 1) := by decide +kernel
theorem dX8_gap_27 : decode cX8_gap 27 = .ok (.iload_n 1, 1) := by decide +kernel
theorem dX8_gap_28 : decode cX8_gap 28 = .ok (.invokevirtual 370, 3) := by decide +kernel
theorem dX8_gap_31 : decode cX8_gap 31 = .ok (.if_icmp .ge 45, 3) := by decide +kernel
theorem dX8_gap_34 : decode cX8_gap 34 = .ok (.aload_n 0, 1) := by decide +kernel
theorem dX8_gap_35 : decode cX8_gap 35 = .ok (.iload_n 1, 1) := by decide +kernel
theorem dX8_gap_36 : decode cX8_gap 36 = .ok (.iload 4, 2) := by decide +kernel
theorem dX8_gap_38 : decode cX8_gap 38 = .ok (.iconst 1, 1) := by decide +kernel
theorem dX8_gap_39 : decode cX8_gap 39 = .ok (.iadd, 1) := by decide +kernel
theorem dX8_gap_40 : decode cX8_gap 40 = .ok (.invokevirtual 419, 3) := by decide +kernel
theorem dX8_gap_43 : decode cX8_gap 43 = .ok (.aload_n 0, 1) := by decide +kernel
theorem dX8_gap_44 : decode cX8_gap 44 = .ok (.iload_n 1, 1) := by decide +kernel
theorem dX8_gap_45 : decode cX8_gap 45 = .ok (.iload 4, 2) := by decide +kernel
theorem dX8_gap_47 : decode cX8_gap 47 = .ok (.invokevirtual 419, 3) := by decide +kernel
theorem dX8_gap_50 : decode cX8_gap 50 = .ok (.isub, 1) := by decide +kernel
theorem dX8_gap_51 : decode cX8_gap 51 = .ok (.istore 5, 2) := by decide +kernel
theorem dX8_gap_53 : decode cX8_gap 53 = .ok (.iload 5, 2) := by decide +kernel
theorem dX8_gap_55 : decode cX8_gap 55 = .ok (.iload_n 3, 1) := by decide +kernel
theorem dX8_gap_56 : decode cX8_gap 56 = .ok (.if_icmp .le 14, 3) := by decide +kernel
theorem dX8_gap_59 : decode cX8_gap 59 = .ok (.aload_n 0, 1) := by decide +kernel
theorem dX8_gap_60 : decode cX8_gap 60 = .ok (.iload_n 1, 1) := by decide +kernel
theorem dX8_gap_61 : decode cX8_gap 61 = .ok (.iload 4, 2) := by decide +kernel
theorem dX8_gap_63 : decode cX8_gap 63 = .ok (.invokevirtual 419, 3) := by decide +kernel
theorem dX8_gap_66 : decode cX8_gap 66 = .ok (.istore_n 2, 1) := by decide +kernel
theorem dX8_gap_67 : decode cX8_gap 67 = .ok (.iload 5, 2) := by decide +kernel
theorem dX8_gap_69 : decode cX8_gap 69 = .ok (.istore_n 3, 1) := by decide +kernel
theorem dX8_gap_70 : decode cX8_gap 70 = .ok (.iinc 4 1, 3) := by decide +kernel
theorem dX8_gap_73 : decode cX8_gap 73 = .ok (.goto (-51), 3) := by decide +kernel
theorem dX8_gap_76 : decode cX8_gap 76 = .ok (.iload_n 2, 1) := by decide +kernel
theorem dX8_gap_77 : decode cX8_gap 77 = .ok (.ireturn, 1) := by decide +kernel
set_option maxRecDepth 20000 in
theorem ggX8_changes_X8_within : GoodIn wsX8_changes wsX8_within := goodIn_r _ [7] (by decide +kernel) (by decide +kernel)
set_option maxRecDepth 20000 in
theorem gX8_changes_X8_within : GoodIn wsX8_changes (va_wsS RX8 60 yX8_within wsX8_within) := goodIn_app (goodIn_of _ (by decide +kernel)) ggX8_changes_X8_within
set_option maxRecDepth 20000 in
theorem ggX8_changes_X8_its : GoodIn wsX8_changes wsX8_its := goodIn_r _ [11, 3, 12, 13, 6, 14, 15, 16, 17, 18, 19, 20, 21, 22, 23, 24, 25, 26, 27, 28, 29, 30, 31, 32, 33, 34, 35, 36, 37, 38, 39, 40, 41, 42, 43, 44, 45, 46, 47] (by decide +kernel) (by decide +kernel)
set_option maxRecDepth 20000 in
theorem gX8_changes_X8_its : GoodIn wsX8_changes (wsV RX8 123 RX8 yX8_its wsX8_its) := goodIn_app (goodIn_of _ (by decide +kernel)) ggX8_changes_X8_its
theorem dX8_changes_0 : decode cX8_changes 0 = .ok (.aload_n 0, 1) := by decide +kernel
theorem dX8_changes_1 : decode cX8_changes 1 = .ok (.iconst 0, 1) := by decide +kernel
theorem dX8_changes_2 : decode cX8_changes 2 = .ok (.putfield 1, 3) := by decide +kernel
theorem dX8_changes_5 : decode cX8_changes 5 = .ok (.iload_n 1, 1) := by decide +kernel
theorem dX8_changes_6 : decode cX8_changes 6 = .ok (.i2l, 1) := by decide +kernel
theorem dX8_changes_7 : decode cX8_changes 7 = .ok (.lconst 0, 1) := by decide +kernel
theorem dX8_changes_8 : decode cX8_changes 8 = .ok (.ldc2_w 107, 3) := by decide +kernel
theorem dX8_changes_11 : decode cX8_changes 11 = .ok (.invokestatic 60, 3) := by decide +kernel
theorem dX8_changes_14 : decode cX8_changes 14 = .ok (.ifCond .eq 13, 3) := by decide +kernel
theorem dX8_changes_17 : decode cX8_changes 17 = .ok (.iload_n 2, 1) := by decide +kernel
theorem dX8_changes_18 : decode cX8_changes 18 = .ok (.i2l, 1) := by decide +kernel
theorem dX8_changes_19 : decode cX8_changes 19 = .ok (.lconst 0, 1) := by decide +kernel
theorem dX8_changes_20 : decode cX8_changes 20 = .ok (.lconst 1, 1) := by decide +kernel
theorem dX8_changes_21 : decode cX8_changes 21 = .ok (.invokestatic 60, 3) := by decide +kernel
theorem dX8_changes_24 : decode cX8_changes 24 = .ok (.ifCond .ne 5, 3) := by decide +kernel
theorem dX8_changes_27 : decode cX8_changes 27 = .ok (.iconst (-1), 1) := by decide +kernel
theorem dX8_changes_28 : decode cX8_changes 28 = .ok (.ireturn, 1) := by decide +kernel
theorem dX8_changes_29 : decode cX8_changes 29 = .ok (.iconst 0, 1) := by decide +kernel
theorem dX8_changes_30 : decode cX8_changes 30 = .ok (.istore_n 3, 1) := by decide +kernel
theorem dX8_changes_31 : decode cX8_changes 31 = .ok (.iconst 0, 1) := by decide +kernel
theorem dX8_changes_32 : decode cX8_changes 32 = .ok (.istore 4, 2) := by decide +kernel
theorem dX8_changes_34 : decode cX8_changes 34 = .ok (.iload 4, 2) := by decide +kernel
theorem dX8_changes_36 : decode cX8_changes 36 = .ok (.aload_n 0, 1) := by decide +kernel
theorem dX8_changes_37 : decode cX8_changes 37 = .ok (.getfield 13, 3) := by decide +kernel
theorem dX8_changes_40 : decode cX8_changes 40 = .ok (.iconst 0, 1) := by decide +kernel
theorem dX8_changes_41 : decode cX8_changes 41 = .ok (.iaload, 1) := by decide +kernel
theorem dX8_changes_42 : decode cX8_changes 42 = .ok (.if_icmp .ge 36, 3) := by decide +kernel
theorem dX8_changes_45 : decode cX8_changes 45 = .ok (.iload_n 3, 1) := by decide +kernel
theorem dX8_changes_46 : decode cX8_changes 46 = .ok (.aload_n 0, 1) := by decide +kernel
theorem dX8_changes_47 : decode cX8_changes 47 = .ok (.iload 4, 2) := by decide +kernel
theorem dX8_changes_49 : decode cX8_changes 49 = .ok (.iload_n 2, 1) := by decide +kernel
theorem dX8_changes_50 : decode cX8_changes 50 = .ok (.ifCond .ne 7, 3) := by decide +kernel
theorem dX8_changes_53 : decode cX8_changes 53 = .ok (.iconst 1, 1) := by decide +kernel
theorem dX8_changes_54 : decode cX8_changes 54 = .ok (.goto 4, 3) := by decide +kernel
theorem dX8_changes_57 : decode cX8_changes 57 = .ok (.iconst 2, 1) := by decide +kernel
theorem dX8_changes_58 : decode cX8_changes 58 = .ok (.invokevirtual 123, 3) := by decide +kernel
theorem dX8_changes_61 : decode cX8_changes 61 = .ok (.iload_n 1, 1) := by decide +kernel
theorem dX8_changes_62 : decode cX8_changes 62 = .ok (.if_icmp .ne 7, 3) := by decide +kernel
theorem dX8_changes_65 : decode cX8_changes 65 = .ok (.iconst 1, 1) := by decide +kernel
theorem dX8_changes_66 : decode cX8_changes 66 = .ok (.goto 4, 3) := by decide +kernel
theorem dX8_changes_69 : decode cX8_changes 69 = .ok (.iconst 0, 1) := by decide +kernel
theorem dX8_changes_70 : decode cX8_changes 70 = .ok (.iadd, 1) := by decide +kernel
theorem dX8_changes_71 : decode cX8_changes 71 = .ok (.istore_n 3, 1) := by decide +kernel
theorem dX8_changes_72 : decode cX8_changes 72 = .ok (.iinc 4 1, 3) := by decide +kernel
theorem dX8_changes_75 : decode cX8_changes 75 = .ok (.goto (-41), 3) := by decide +kernel
theorem dX8_changes_78 : decode cX8_changes 78 = .ok (.iload_n 3, 1) := by decide +kernel
theorem dX8_changes_79 : decode cX8_changes 79 = .ok (.ireturn, 1) := by decide +kernel
set_option maxRecDepth 20000 in
theorem ggX8_hoursOf_X8_isAlive : GoodIn wsX8_hoursOf wsX8_isAlive := goodIn_r _ [5, 6, 7, 8, 4, 9, 10, 11, 12, 13, 14, 15, 16, 17, 18, 19, 20, 21, 22, 23, 24, 25, 26, 27, 28, 29, 30, 31, 32, 33, 34, 35, 36, 37, 38, 39, 40, 41, 42, 43, 44, 45, 46, 47, 48] (by decide +kernel) (by decide +kernel)
set_option maxRecDepth 20000 in
theorem gX8_hoursOf_X8_isAlive : GoodIn wsX8_hoursOf (wsV RX8 422 RX8 yX8_isAlive wsX8_isAlive) := goodIn_app (goodIn_of _ (by decide +kernel)) ggX8_hoursOf_X8_isAlive
theorem dX8_hoursOf_0 : decode cX8_hoursOf 0 = .ok (.iconst 0, 1) := by decide +kernel
theorem dX8_hoursOf_1 : decode cX8_hoursOf 1 = .ok (.istore 4, 2) := by decide +kernel
theorem dX8_hoursOf_3 : decode cX8_hoursOf 3 = .ok (.iload_n 2, 1) := by decide +kernel
theorem dX8_hoursOf_4 : decode cX8_hoursOf 4 = .ok (.istore 5, 2) := by decide +kernel
theorem dX8_hoursOf_6 : decode cX8_hoursOf 6 = .ok (.iload 5, 2) := by decide +kernel
theorem dX8_hoursOf_8 : decode cX8_hoursOf 8 = .ok (.iload_n 3, 1) := by decide +kernel
theorem dX8_hoursOf_9 : decode cX8_hoursOf 9 = .ok (.if_icmp .gt 29, 3) := by decide +kernel
theorem dX8_hoursOf_12 : decode cX8_hoursOf 12 = .ok (.iload 4, 2) := by decide +kernel
theorem dX8_hoursOf_14 : decode cX8_hoursOf 14 = .ok (.aload_n 0, 1) := by decide +kernel
theorem dX8_hoursOf_15 : decode cX8_hoursOf 15 = .ok (.iload_n 1, 1) := by decide +kernel
theorem dX8_hoursOf_16 : decode cX8_hoursOf 16 = .ok (.iload 5, 2) := by decide +kernel
theorem dX8_hoursOf_18 : decode cX8_hoursOf 18 = .ok (.invokevirtual 422, 3) := by decide +kernel
theorem dX8_hoursOf_21 : decode cX8_hoursOf 21 = .ok (.ifCond .eq 7, 3) := by decide +kernel
theorem dX8_hoursOf_24 : decode cX8_hoursOf 24 = .ok (.iconst 1, 1) := by decide +kernel
theorem dX8_hoursOf_25 : decode cX8_hoursOf 25 = .ok (.goto 4, 3) := by decide +kernel
theorem dX8_hoursOf_28 : decode cX8_hoursOf 28 = .ok (.iconst 0, 1) := by decide +kernel
theorem dX8_hoursOf_29 : decode cX8_hoursOf 29 = .ok (.iadd, 1) := by decide +kernel
theorem dX8_hoursOf_30 : decode cX8_hoursOf 30 = .ok (.istore 4, 2) := by decide +kernel
theorem dX8_hoursOf_32 : decode cX8_hoursOf 32 = .ok (.iinc 5 1, 3) := by decide +kernel
theorem dX8_hoursOf_35 : decode cX8_hoursOf 35 = .ok (.goto (-29), 3) := by decide +kernel
theorem dX8_hoursOf_38 : decode cX8_hoursOf 38 = .ok (.iload 4, 2) := by decide +kernel
theorem dX8_hoursOf_40 : decode cX8_hoursOf 40 = .ok (.ireturn, 1) := by decide +kernel
set_option maxRecDepth 20000 in
theorem ggX8_leastOver_X8_isNumber : GoodIn wsX8_leastOver wsX8_isNumber := goodIn_r _ [5, 6, 7, 8, 4, 9] (by decide +kernel) (by decide +kernel)
set_option maxRecDepth 20000 in
theorem gX8_leastOver_X8_isNumber : GoodIn wsX8_leastOver (va_wsS RX8 101 yX8_isNumber wsX8_isNumber) := goodIn_app (goodIn_of _ (by decide +kernel)) ggX8_leastOver_X8_isNumber
set_option maxRecDepth 20000 in
theorem ggX8_leastOver_X8_isHour : GoodIn wsX8_leastOver wsX8_isHour := goodIn_r _ [12, 13, 7, 8, 4, 9] (by decide +kernel) (by decide +kernel)
set_option maxRecDepth 20000 in
theorem gX8_leastOver_X8_isHour : GoodIn wsX8_leastOver (va_wsS RX8 104 yX8_isHour wsX8_isHour) := goodIn_app (goodIn_of _ (by decide +kernel)) ggX8_leastOver_X8_isHour
set_option maxRecDepth 20000 in
theorem ggX8_leastOver_X8_its : GoodIn wsX8_leastOver wsX8_its := goodIn_r _ [17, 1, 18, 19, 4, 20, 35, 36, 37, 38, 39, 40, 41, 42, 43, 44, 45, 46, 47, 48, 49, 50, 51, 52, 53, 54, 55, 56, 57, 58, 59, 60, 61, 62, 63, 64, 65, 66, 67] (by decide +kernel) (by decide +kernel)
set_option maxRecDepth 20000 in
theorem gX8_leastOver_X8_its : GoodIn wsX8_leastOver (wsV RX8 123 RX8 yX8_its wsX8_its) := goodIn_app (goodIn_of _ (by decide +kernel)) ggX8_leastOver_X8_its
set_option maxRecDepth 20000 in
theorem ggX8_leastOver_X8_hoursOf : GoodIn wsX8_leastOver wsX8_hoursOf := goodIn_r _ [24, 25, 26, 27, 4, 28, 1, 29, 30, 31, 18, 19, 20, 32, 33, 34, 35, 36, 37, 38, 39, 40, 41, 42, 43, 44, 45, 46, 47, 48, 49, 50, 51, 52, 53, 54, 55, 56, 57, 58, 59, 60, 61, 62, 63, 64, 65, 66, 67] (by decide +kernel) (by decide +kernel)
set_option maxRecDepth 20000 in
theorem gX8_leastOver_X8_hoursOf : GoodIn wsX8_leastOver (wsV RX8 425 RX8 yX8_hoursOf wsX8_hoursOf) := goodIn_app (goodIn_of _ (by decide +kernel)) ggX8_leastOver_X8_hoursOf
theorem dX8_leastOver_0 : decode cX8_leastOver 0 = .ok (.iload_n 1, 1) := by decide +kernel
theorem dX8_leastOver_1 : decode cX8_leastOver 1 = .ok (.invokestatic 101, 3) := by decide +kernel
theorem dX8_leastOver_4 : decode cX8_leastOver 4 = .ok (.ifCond .eq 22, 3) := by decide +kernel
theorem dX8_leastOver_7 : decode cX8_leastOver 7 = .ok (.iload_n 2, 1) := by decide +kernel
theorem dX8_leastOver_8 : decode cX8_leastOver 8 = .ok (.invokestatic 104, 3) := by decide +kernel
theorem dX8_leastOver_11 : decode cX8_leastOver 11 = .ok (.ifCond .eq 15, 3) := by decide +kernel
theorem dX8_leastOver_14 : decode cX8_leastOver 14 = .ok (.iload_n 3, 1) := by decide +kernel
theorem dX8_leastOver_15 : decode cX8_leastOver 15 = .ok (.invokestatic 104, 3) := by decide +kernel
theorem dX8_leastOver_18 : decode cX8_leastOver 18 = .ok (.ifCond .eq 8, 3) := by decide +kernel
theorem dX8_leastOver_21 : decode cX8_leastOver 21 = .ok (.iload_n 3, 1) := by decide +kernel
theorem dX8_leastOver_22 : decode cX8_leastOver 22 = .ok (.iload_n 2, 1) := by decide +kernel
theorem dX8_leastOver_23 : decode cX8_leastOver 23 = .ok (.if_icmp .ge 5, 3) := by decide +kernel
theorem dX8_leastOver_26 : decode cX8_leastOver 26 = .ok (.iconst (-1), 1) := by decide +kernel
theorem dX8_leastOver_27 : decode cX8_leastOver 27 = .ok (.ireturn, 1) := by decide +kernel
theorem dX8_leastOver_28 : decode cX8_leastOver 28 = .ok (.iconst 0, 1) := by decide +kernel
theorem dX8_leastOver_29 : decode cX8_leastOver 29 = .ok (.istore 5, 2) := by decide +kernel
theorem dX8_leastOver_31 : decode cX8_leastOver 31 = .ok (.iload 5, 2) := by decide +kernel
theorem dX8_leastOver_33 : decode cX8_leastOver 33 = .ok (.aload_n 0, 1) := by decide +kernel
theorem dX8_leastOver_34 : decode cX8_leastOver 34 = .ok (.getfield 13, 3) := by decide +kernel
theorem dX8_leastOver_37 : decode cX8_leastOver 37 = .ok (.iconst 0, 1) := by decide +kernel
theorem dX8_leastOver_38 : decode cX8_leastOver 38 = .ok (.iaload, 1) := by decide +kernel
theorem dX8_leastOver_39 : decode cX8_leastOver 39 = .ok (.if_icmp .ge 64, 3) := by decide +kernel
theorem dX8_leastOver_42 : decode cX8_leastOver 42 = .ok (.aload_n 0, 1) := by decide +kernel
theorem dX8_leastOver_43 : decode cX8_leastOver 43 = .ok (.iload 5, 2) := by decide +kernel
theorem dX8_leastOver_45 : decode cX8_leastOver 45 = .ok (.iconst 0, 1) := by decide +kernel
theorem dX8_leastOver_46 : decode cX8_leastOver 46 = .ok (.invokevirtual 123, 3) := by decide +kernel
theorem dX8_leastOver_49 : decode cX8_leastOver 49 = .ok (.istore 6, 2) := by decide +kernel
theorem dX8_leastOver_51 : decode cX8_leastOver 51 = .ok (.iload 6, 2) := by decide +kernel
theorem dX8_leastOver_53 : decode cX8_leastOver 53 = .ok (.iload_n 1, 1) := by decide +kernel
theorem dX8_leastOver_54 : decode cX8_leastOver 54 = .ok (.if_icmp .ge 7, 3) := by decide +kernel
theorem dX8_leastOver_57 : decode cX8_leastOver 57 = .ok (.iconst 0, 1) := by decide +kernel
theorem dX8_leastOver_58 : decode cX8_leastOver 58 = .ok (.goto 11, 3) := by decide +kernel
theorem dX8_leastOver_61 : decode cX8_leastOver 61 = .ok (.aload_n 0, 1) := by decide +kernel
theorem dX8_leastOver_62 : decode cX8_leastOver 62 = .ok (.iload 6, 2) := by decide +kernel
theorem dX8_leastOver_64 : decode cX8_leastOver 64 = .ok (.iload_n 2, 1) := by decide +kernel
theorem dX8_leastOver_65 : decode cX8_leastOver 65 = .ok (.iload_n 3, 1) := by decide +kernel
theorem dX8_leastOver_66 : decode cX8_leastOver 66 = .ok (.invokevirtual 425, 3) := by decide +kernel
theorem dX8_leastOver_69 : decode cX8_leastOver 69 = .ok (.istore 7, 2) := by decide +kernel
theorem dX8_leastOver_71 : decode cX8_leastOver 71 = .ok (.iload 4, 2) := by decide +kernel
theorem dX8_leastOver_73 : decode cX8_leastOver 73 = .ok (.ifCond .eq 16, 3) := by decide +kernel
theorem dX8_leastOver_76 : decode cX8_leastOver 76 = .ok (.iload 7, 2) := by decide +kernel
theorem dX8_leastOver_78 : decode cX8_leastOver 78 = .ok (.iload_n 3, 1) := by decide +kernel
theorem dX8_leastOver_79 : decode cX8_leastOver 79 = .ok (.iload_n 2, 1) := by decide +kernel
theorem dX8_leastOver_80 : decode cX8_leastOver 80 = .ok (.isub, 1) := by decide +kernel
theorem dX8_leastOver_81 : decode cX8_leastOver 81 = .ok (.iconst 1, 1) := by decide +kernel
theorem dX8_leastOver_82 : decode cX8_leastOver 82 = .ok (.iadd, 1) := by decide +kernel
theorem dX8_leastOver_83 : decode cX8_leastOver 83 = .ok (.if_icmp .ne 14, 3) := by decide +kernel
theorem dX8_leastOver_86 : decode cX8_leastOver 86 = .ok (.goto 8, 3) := by decide +kernel
theorem dX8_leastOver_89 : decode cX8_leastOver 89 = .ok (.iload 7, 2) := by decide +kernel
theorem dX8_leastOver_91 : decode cX8_leastOver 91 = .ok (.ifCond .le 6, 3) := by decide +kernel
theorem dX8_leastOver_94 : decode cX8_leastOver 94 = .ok (.iload 6, 2) := by decide +kernel
theorem dX8_leastOver_96 : decode cX8_leastOver 96 = .ok (.ireturn, 1) := by decide +kernel
theorem dX8_leastOver_97 : decode cX8_leastOver 97 = .ok (.iinc 5 1, 3) := by decide +kernel
theorem dX8_leastOver_100 : decode cX8_leastOver 100 = .ok (.goto (-69), 3) := by decide +kernel
theorem dX8_leastOver_103 : decode cX8_leastOver 103 = .ok (.bipush (-2), 2) := by decide +kernel
theorem dX8_leastOver_105 : decode cX8_leastOver 105 = .ok (.ireturn, 1) := by decide +kernel
set_option maxRecDepth 20000 in
theorem ggX8_always_X8_leastOver : GoodIn wsX8_always wsX8_leastOver := goodIn_r _ [6, 7, 8, 9, 5, 10, 11, 12, 13, 14, 15, 16, 17, 18, 19, 20, 21, 22, 23, 24, 25, 26, 27, 28, 29, 30, 31, 32, 33, 34, 35, 36, 37, 38, 39, 40, 41, 42, 43, 44, 45, 46, 47, 48, 49, 50, 51, 52, 53, 54, 55, 56, 57, 58, 59, 60, 61, 62, 63, 64, 65, 66, 67, 68, 69, 70, 71, 72] (by decide +kernel) (by decide +kernel)
set_option maxRecDepth 20000 in
theorem gX8_always_X8_leastOver : GoodIn wsX8_always (wsV RX8 428 RX8 yX8_leastOver wsX8_leastOver) := goodIn_app (goodIn_of _ (by decide +kernel)) ggX8_always_X8_leastOver
theorem dX8_always_0 : decode cX8_always 0 = .ok (.aload_n 0, 1) := by decide +kernel
theorem dX8_always_1 : decode cX8_always 1 = .ok (.iconst 0, 1) := by decide +kernel
theorem dX8_always_2 : decode cX8_always 2 = .ok (.putfield 1, 3) := by decide +kernel
theorem dX8_always_5 : decode cX8_always 5 = .ok (.aload_n 0, 1) := by decide +kernel
theorem dX8_always_6 : decode cX8_always 6 = .ok (.iload_n 1, 1) := by decide +kernel
theorem dX8_always_7 : decode cX8_always 7 = .ok (.iload_n 2, 1) := by decide +kernel
theorem dX8_always_8 : decode cX8_always 8 = .ok (.iload_n 3, 1) := by decide +kernel
theorem dX8_always_9 : decode cX8_always 9 = .ok (.iconst 1, 1) := by decide +kernel
theorem dX8_always_10 : decode cX8_always 10 = .ok (.invokevirtual 428, 3) := by decide +kernel
theorem dX8_always_13 : decode cX8_always 13 = .ok (.ireturn, 1) := by decide +kernel
set_option maxRecDepth 20000 in
theorem ggX8_ever_X8_leastOver : GoodIn wsX8_ever wsX8_leastOver := goodIn_r _ [6, 7, 8, 9, 5, 10, 11, 12, 13, 14, 15, 16, 17, 18, 19, 20, 21, 22, 23, 24, 25, 26, 27, 28, 29, 30, 31, 32, 33, 34, 35, 36, 37, 38, 39, 40, 41, 42, 43, 44, 45, 46, 47, 48, 49, 50, 51, 52, 53, 54, 55, 56, 57, 58, 59, 60, 61, 62, 63, 64, 65, 66, 67, 68, 69, 70, 71, 72] (by decide +kernel) (by decide +kernel)
set_option maxRecDepth 20000 in
theorem gX8_ever_X8_leastOver : GoodIn wsX8_ever (wsV RX8 428 RX8 yX8_leastOver wsX8_leastOver) := goodIn_app (goodIn_of _ (by decide +kernel)) ggX8_ever_X8_leastOver
theorem dX8_ever_0 : decode cX8_ever 0 = .ok (.aload_n 0, 1) := by decide +kernel
theorem dX8_ever_1 : decode cX8_ever 1 = .ok (.iconst 0, 1) := by decide +kernel
theorem dX8_ever_2 : decode cX8_ever 2 = .ok (.putfield 1, 3) := by decide +kernel
theorem dX8_ever_5 : decode cX8_ever 5 = .ok (.aload_n 0, 1) := by decide +kernel
theorem dX8_ever_6 : decode cX8_ever 6 = .ok (.iload_n 1, 1) := by decide +kernel
theorem dX8_ever_7 : decode cX8_ever 7 = .ok (.iload_n 2, 1) := by decide +kernel
theorem dX8_ever_8 : decode cX8_ever 8 = .ok (.iload_n 3, 1) := by decide +kernel
theorem dX8_ever_9 : decode cX8_ever 9 = .ok (.iconst 0, 1) := by decide +kernel
theorem dX8_ever_10 : decode cX8_ever 10 = .ok (.invokevirtual 428, 3) := by decide +kernel
theorem dX8_ever_13 : decode cX8_ever 13 = .ok (.ireturn, 1) := by decide +kernel
set_option maxRecDepth 20000 in
theorem ggX8_both_X8_isNumber : GoodIn wsX8_both wsX8_isNumber := goodIn_r _ [5, 6, 7, 8, 4, 9] (by decide +kernel) (by decide +kernel)
set_option maxRecDepth 20000 in
theorem gX8_both_X8_isNumber : GoodIn wsX8_both (va_wsS RX8 101 yX8_isNumber wsX8_isNumber) := goodIn_app (goodIn_of _ (by decide +kernel)) ggX8_both_X8_isNumber
set_option maxRecDepth 20000 in
theorem ggX8_both_X8_isAlive : GoodIn wsX8_both wsX8_isAlive := goodIn_r _ [13, 14, 15, 16, 4, 17, 18, 19, 20, 21, 22, 23, 24, 25, 26, 27, 28, 29, 30, 31, 32, 33, 34, 35, 36, 37, 38, 39, 40, 41, 42, 43, 44, 45, 46, 47, 48, 49, 50, 51, 52, 53, 54, 55, 56] (by decide +kernel) (by decide +kernel)
set_option maxRecDepth 20000 in
theorem gX8_both_X8_isAlive : GoodIn wsX8_both (wsV RX8 422 RX8 yX8_isAlive wsX8_isAlive) := goodIn_app (goodIn_of _ (by decide +kernel)) ggX8_both_X8_isAlive
theorem dX8_both_0 : decode cX8_both 0 = .ok (.aload_n 0, 1) := by decide +kernel
theorem dX8_both_1 : decode cX8_both 1 = .ok (.iconst 0, 1) := by decide +kernel
theorem dX8_both_2 : decode cX8_both 2 = .ok (.putfield 1, 3) := by decide +kernel
theorem dX8_both_5 : decode cX8_both 5 = .ok (.iload_n 1, 1) := by decide +kernel
theorem dX8_both_6 : decode cX8_both 6 = .ok (.invokestatic 101, 3) := by decide +kernel
theorem dX8_both_9 : decode cX8_both 9 = .ok (.ifCond .eq 10, 3) := by decide +kernel
theorem dX8_both_12 : decode cX8_both 12 = .ok (.iload_n 2, 1) := by decide +kernel
theorem dX8_both_13 : decode cX8_both 13 = .ok (.invokestatic 101, 3) := by decide +kernel
theorem dX8_both_16 : decode cX8_both 16 = .ok (.ifCond .ne 5, 3) := by decide +kernel
theorem dX8_both_19 : decode cX8_both 19 = .ok (.iconst (-1), 1) := by decide +kernel
theorem dX8_both_20 : decode cX8_both 20 = .ok (.ireturn, 1) := by decide +kernel
theorem dX8_both_21 : decode cX8_both 21 = .ok (.iconst 0, 1) := by decide +kernel
theorem dX8_both_22 : decode cX8_both 22 = .ok (.istore_n 3, 1) := by decide +kernel
theorem dX8_both_23 : decode cX8_both 23 = .ok (.iconst 0, 1) := by decide +kernel
theorem dX8_both_24 : decode cX8_both 24 = .ok (.istore 4, 2) := by decide +kernel
theorem dX8_both_26 : decode cX8_both 26 = .ok (.iload 4, 2) := by decide +kernel
theorem dX8_both_28 : decode cX8_both 28 = .ok (.bipush 64, 2) := by decide +kernel
theorem dX8_both_30 : decode cX8_both 30 = .ok (.if_icmp .ge 37, 3) := by decide +kernel
theorem dX8_both_33 : decode cX8_both 33 = .ok (.iload_n 3, 1) := by decide +kernel
theorem dX8_both_34 : decode cX8_both 34 = .ok (.aload_n 0, 1) := by decide +kernel
theorem dX8_both_35 : decode cX8_both 35 = .ok (.iload_n 1, 1) := by decide +kernel
theorem dX8_both_36 : decode cX8_both 36 = .ok (.iload 4, 2) := by decide +kernel
theorem dX8_both_38 : decode cX8_both 38 = .ok (.invokevirtual 422, 3) := by decide +kernel
theorem dX8_both_41 : decode cX8_both 41 = .ok (.ifCond .eq 17, 3) := by decide +kernel
theorem dX8_both_44 : decode cX8_both 44 = .ok (.aload_n 0, 1) := by decide +kernel
theorem dX8_both_45 : decode cX8_both 45 = .ok (.iload_n 2, 1) := by decide +kernel
theorem dX8_both_46 : decode cX8_both 46 = .ok (.iload 4, 2) := by decide +kernel
theorem dX8_both_48 : decode cX8_both 48 = .ok (.invokevirtual 422, 3) := by decide +kernel
theorem dX8_both_51 : decode cX8_both 51 = .ok (.ifCond .eq 7, 3) := by decide +kernel
theorem dX8_both_54 : decode cX8_both 54 = .ok (.iconst 1, 1) := by decide +kernel
theorem dX8_both_55 : decode cX8_both 55 = .ok (.goto 4, 3) := by decide +kernel
theorem dX8_both_58 : decode cX8_both 58 = .ok (.iconst 0, 1) := by decide +kernel
theorem dX8_both_59 : decode cX8_both 59 = .ok (.iadd, 1) := by decide +kernel
theorem dX8_both_60 : decode cX8_both 60 = .ok (.istore_n 3, 1) := by decide +kernel
theorem dX8_both_61 : decode cX8_both 61 = .ok (.iinc 4 1, 3) := by decide +kernel
theorem dX8_both_64 : decode cX8_both 64 = .ok (.goto (-38), 3) := by decide +kernel
theorem dX8_both_67 : decode cX8_both 67 = .ok (.iload_n 3, 1) := by decide +kernel
theorem dX8_both_68 : decode cX8_both 68 = .ok (.ireturn, 1) := by decide +kernel
set_option maxRecDepth 20000 in
theorem ggX8_reigns_X8_isNumber : GoodIn wsX8_reigns wsX8_isNumber := goodIn_r _ [5, 6, 7, 8, 4, 9] (by decide +kernel) (by decide +kernel)
set_option maxRecDepth 20000 in
theorem gX8_reigns_X8_isNumber : GoodIn wsX8_reigns (va_wsS RX8 101 yX8_isNumber wsX8_isNumber) := goodIn_app (goodIn_of _ (by decide +kernel)) ggX8_reigns_X8_isNumber
set_option maxRecDepth 20000 in
theorem ggX8_reigns_X8_leastFrom : GoodIn wsX8_reigns wsX8_leastFrom := goodIn_r _ [13, 14, 15, 16, 4, 17, 18, 19, 20, 21, 22, 23, 24, 25, 26, 27, 28, 29, 30, 31, 32, 33, 34, 35, 36, 37, 38, 39, 40, 41, 42, 43, 44, 45, 46, 47, 48, 49, 50, 51, 52, 53, 54, 55, 56, 57] (by decide +kernel) (by decide +kernel)
set_option maxRecDepth 20000 in
theorem gX8_reigns_X8_leastFrom : GoodIn wsX8_reigns (wsV RX8 376 RX8 yX8_leastFrom wsX8_leastFrom) := goodIn_app (goodIn_of _ (by decide +kernel)) ggX8_reigns_X8_leastFrom
theorem dX8_reigns_0 : decode cX8_reigns 0 = .ok (.aload_n 0, 1) := by decide +kernel
theorem dX8_reigns_1 : decode cX8_reigns 1 = .ok (.iconst 0, 1) := by decide +kernel
theorem dX8_reigns_2 : decode cX8_reigns 2 = .ok (.putfield 1, 3) := by decide +kernel
theorem dX8_reigns_5 : decode cX8_reigns 5 = .ok (.iload_n 1, 1) := by decide +kernel
theorem dX8_reigns_6 : decode cX8_reigns 6 = .ok (.invokestatic 101, 3) := by decide +kernel
theorem dX8_reigns_9 : decode cX8_reigns 9 = .ok (.ifCond .eq 10, 3) := by decide +kernel
theorem dX8_reigns_12 : decode cX8_reigns 12 = .ok (.iload_n 2, 1) := by decide +kernel
theorem dX8_reigns_13 : decode cX8_reigns 13 = .ok (.invokestatic 101, 3) := by decide +kernel
theorem dX8_reigns_16 : decode cX8_reigns 16 = .ok (.ifCond .ne 5, 3) := by decide +kernel
theorem dX8_reigns_19 : decode cX8_reigns 19 = .ok (.iconst (-1), 1) := by decide +kernel
theorem dX8_reigns_20 : decode cX8_reigns 20 = .ok (.ireturn, 1) := by decide +kernel
theorem dX8_reigns_21 : decode cX8_reigns 21 = .ok (.iconst 0, 1) := by decide +kernel
theorem dX8_reigns_22 : decode cX8_reigns 22 = .ok (.istore_n 3, 1) := by decide +kernel
theorem dX8_reigns_23 : decode cX8_reigns 23 = .ok (.iconst 0, 1) := by decide +kernel
theorem dX8_reigns_24 : decode cX8_reigns 24 = .ok (.istore 4, 2) := by decide +kernel
theorem dX8_reigns_26 : decode cX8_reigns 26 = .ok (.iload 4, 2) := by decide +kernel
theorem dX8_reigns_28 : decode cX8_reigns 28 = .ok (.bipush 64, 2) := by decide +kernel
theorem dX8_reigns_30 : decode cX8_reigns 30 = .ok (.if_icmp .ge 30, 3) := by decide +kernel
theorem dX8_reigns_33 : decode cX8_reigns 33 = .ok (.iload_n 3, 1) := by decide +kernel
theorem dX8_reigns_34 : decode cX8_reigns 34 = .ok (.aload_n 0, 1) := by decide +kernel
theorem dX8_reigns_35 : decode cX8_reigns 35 = .ok (.iload_n 1, 1) := by decide +kernel
theorem dX8_reigns_36 : decode cX8_reigns 36 = .ok (.iconst 1, 1) := by decide +kernel
theorem dX8_reigns_37 : decode cX8_reigns 37 = .ok (.iadd, 1) := by decide +kernel
theorem dX8_reigns_38 : decode cX8_reigns 38 = .ok (.iload 4, 2) := by decide +kernel
theorem dX8_reigns_40 : decode cX8_reigns 40 = .ok (.invokevirtual 376, 3) := by decide +kernel
theorem dX8_reigns_43 : decode cX8_reigns 43 = .ok (.iload_n 2, 1) := by decide +kernel
theorem dX8_reigns_44 : decode cX8_reigns 44 = .ok (.if_icmp .ne 7, 3) := by decide +kernel
theorem dX8_reigns_47 : decode cX8_reigns 47 = .ok (.iconst 1, 1) := by decide +kernel
theorem dX8_reigns_48 : decode cX8_reigns 48 = .ok (.goto 4, 3) := by decide +kernel
theorem dX8_reigns_51 : decode cX8_reigns 51 = .ok (.iconst 0, 1) := by decide +kernel
theorem dX8_reigns_52 : decode cX8_reigns 52 = .ok (.iadd, 1) := by decide +kernel
theorem dX8_reigns_53 : decode cX8_reigns 53 = .ok (.istore_n 3, 1) := by decide +kernel
theorem dX8_reigns_54 : decode cX8_reigns 54 = .ok (.iinc 4 1, 3) := by decide +kernel
theorem dX8_reigns_57 : decode cX8_reigns 57 = .ok (.goto (-31), 3) := by decide +kernel
theorem dX8_reigns_60 : decode cX8_reigns 60 = .ok (.iload_n 3, 1) := by decide +kernel
theorem dX8_reigns_61 : decode cX8_reigns 61 = .ok (.ireturn, 1) := by decide +kernel
set_option maxRecDepth 20000 in
theorem ggX8_crowd_X8_countAt : GoodIn wsX8_crowd wsX8_countAt := goodIn_r _ [6, 7, 8, 9, 5, 10, 11, 12, 13, 25, 26, 27, 28, 29, 30, 31, 32, 33, 34, 35, 36, 37, 38, 39, 40, 41, 42, 43, 44, 45, 46, 47, 48, 49, 50, 51, 52, 53, 54, 55, 56, 57] (by decide +kernel) (by decide +kernel)
set_option maxRecDepth 20000 in
theorem gX8_crowd_X8_countAt : GoodIn wsX8_crowd (wsV RX8 370 RX8 yX8_countAt wsX8_countAt) := goodIn_app (goodIn_of _ (by decide +kernel)) ggX8_crowd_X8_countAt
set_option maxRecDepth 20000 in
theorem ggX8_crowd_X8_sumAt : GoodIn wsX8_crowd wsX8_sumAt := goodIn_r _ [17, 7, 8, 9, 5, 10, 11, 12, 13, 18, 19, 20, 21, 22, 23, 24, 25, 26, 27, 28, 29, 30, 31, 32, 33, 34, 35, 36, 37, 38, 39, 40, 41, 42, 43, 44, 45, 46, 47, 48, 49, 50, 51, 52, 53, 54, 55, 56, 57] (by decide +kernel) (by decide +kernel)
set_option maxRecDepth 20000 in
theorem gX8_crowd_X8_sumAt : GoodIn wsX8_crowd (wsV RX8 373 RX8 yX8_sumAt wsX8_sumAt) := goodIn_app (goodIn_of _ (by decide +kernel)) ggX8_crowd_X8_sumAt
theorem dX8_crowd_0 : decode cX8_crowd 0 = .ok (.aload_n 0, 1) := by decide +kernel
theorem dX8_crowd_1 : decode cX8_crowd 1 = .ok (.iconst 0, 1) := by decide +kernel
theorem dX8_crowd_2 : decode cX8_crowd 2 = .ok (.putfield 1, 3) := by decide +kernel
theorem dX8_crowd_5 : decode cX8_crowd 5 = .ok (.iconst 0, 1) := by decide +kernel
theorem dX8_crowd_6 : decode cX8_crowd 6 = .ok (.istore_n 2, 1) := by decide +kernel
theorem dX8_crowd_7 : decode cX8_crowd 7 = .ok (.iconst 0, 1) := by decide +kernel
theorem dX8_crowd_8 : decode cX8_crowd 8 = .ok (.istore_n 3, 1) := by decide +kernel
theorem dX8_crowd_9 : decode cX8_crowd 9 = .ok (.iconst 1, 1) := by decide +kernel
theorem dX8_crowd_10 : decode cX8_crowd 10 = .ok (.istore 4, 2) := by decide +kernel
theorem dX8_crowd_12 : decode cX8_crowd 12 = .ok (.iload 4, 2) := by decide +kernel
theorem dX8_crowd_14 : decode cX8_crowd 14 = .ok (.bipush 64, 2) := by decide +kernel
theorem dX8_crowd_16 : decode cX8_crowd 16 = .ok (.if_icmp .ge 59, 3) := by decide +kernel
theorem dX8_crowd_19 : decode cX8_crowd 19 = .ok (.aload_n 0, 1) := by decide +kernel
theorem dX8_crowd_20 : decode cX8_crowd 20 = .ok (.iload 4, 2) := by decide +kernel
theorem dX8_crowd_22 : decode cX8_crowd 22 = .ok (.invokevirtual 370, 3) := by decide +kernel
theorem dX8_crowd_25 : decode cX8_crowd 25 = .ok (.aload_n 0, 1) := by decide +kernel
theorem dX8_crowd_26 : decode cX8_crowd 26 = .ok (.iload_n 2, 1) := by decide +kernel
theorem dX8_crowd_27 : decode cX8_crowd 27 = .ok (.invokevirtual 370, 3) := by decide +kernel
theorem dX8_crowd_30 : decode cX8_crowd 30 = .ok (.if_icmp .le 8, 3) := by decide +kernel
theorem dX8_crowd_33 : decode cX8_crowd 33 = .ok (.iload 4, 2) := by decide +kernel
theorem dX8_crowd_35 : decode cX8_crowd 35 = .ok (.goto 4, 3) := by decide +kernel
theorem dX8_crowd_38 : decode cX8_crowd 38 = .ok (.iload_n 2, 1) := by decide +kernel
theorem dX8_crowd_39 : decode cX8_crowd 39 = .ok (.istore_n 2, 1) := by decide +kernel
theorem dX8_crowd_40 : decode cX8_crowd 40 = .ok (.aload_n 0, 1) := by decide +kernel
theorem dX8_crowd_41 : decode cX8_crowd 41 = .ok (.iload 4, 2) := by decide +kernel
theorem dX8_crowd_43 : decode cX8_crowd 43 = .ok (.iconst 0, 1) := by decide +kernel
theorem dX8_crowd_44 : decode cX8_crowd 44 = .ok (.sipush 999, 3) := by decide +kernel
theorem dX8_crowd_47 : decode cX8_crowd 47 = .ok (.invokevirtual 373, 3) := by decide +kernel
theorem dX8_crowd_50 : decode cX8_crowd 50 = .ok (.aload_n 0, 1) := by decide +kernel
theorem dX8_crowd_51 : decode cX8_crowd 51 = .ok (.iload_n 3, 1) := by decide +kernel
theorem dX8_crowd_52 : decode cX8_crowd 52 = .ok (.iconst 0, 1) := by decide +kernel
theorem dX8_crowd_53 : decode cX8_crowd 53 = .ok (.sipush 999, 3) := by decide +kernel
theorem dX8_crowd_56 : decode cX8_crowd 56 = .ok (.invokevirtual 373, 3) := by decide +kernel
theorem dX8_crowd_59 : decode cX8_crowd 59 = .ok (.if_icmp .le 8, 3) := by decide +kernel
theorem dX8_crowd_62 : decode cX8_crowd 62 = .ok (.iload 4, 2) := by decide +kernel
theorem dX8_crowd_64 : decode cX8_crowd 64 = .ok (.goto 4, 3) := by decide +kernel
theorem dX8_crowd_67 : decode cX8_crowd 67 = .ok (.iload_n 3, 1) := by decide +kernel
theorem dX8_crowd_68 : decode cX8_crowd 68 = .ok (.istore_n 3, 1) := by decide +kernel
theorem dX8_crowd_69 : decode cX8_crowd 69 = .ok (.iinc 4 1, 3) := by decide +kernel
theorem dX8_crowd_72 : decode cX8_crowd 72 = .ok (.goto (-60), 3) := by decide +kernel
theorem dX8_crowd_75 : decode cX8_crowd 75 = .ok (.iload_n 1, 1) := by decide +kernel
theorem dX8_crowd_76 : decode cX8_crowd 76 = .ok (.tableswitch 52 0 3 #[32, 34, 40, 42], 32) := by decide +kernel
theorem dX8_crowd_108 : decode cX8_crowd 108 = .ok (.iload_n 2, 1) := by decide +kernel
theorem dX8_crowd_109 : decode cX8_crowd 109 = .ok (.ireturn, 1) := by decide +kernel
theorem dX8_crowd_110 : decode cX8_crowd 110 = .ok (.aload_n 0, 1) := by decide +kernel
theorem dX8_crowd_111 : decode cX8_crowd 111 = .ok (.iload_n 2, 1) := by decide +kernel
theorem dX8_crowd_112 : decode cX8_crowd 112 = .ok (.invokevirtual 370, 3) := by decide +kernel
theorem dX8_crowd_115 : decode cX8_crowd 115 = .ok (.ireturn, 1) := by decide +kernel
theorem dX8_crowd_116 : decode cX8_crowd 116 = .ok (.iload_n 3, 1) := by decide +kernel
theorem dX8_crowd_117 : decode cX8_crowd 117 = .ok (.ireturn, 1) := by decide +kernel
theorem dX8_crowd_118 : decode cX8_crowd 118 = .ok (.aload_n 0, 1) := by decide +kernel
theorem dX8_crowd_119 : decode cX8_crowd 119 = .ok (.iload_n 3, 1) := by decide +kernel
theorem dX8_crowd_120 : decode cX8_crowd 120 = .ok (.iconst 0, 1) := by decide +kernel
theorem dX8_crowd_121 : decode cX8_crowd 121 = .ok (.sipush 999, 3) := by decide +kernel
theorem dX8_crowd_124 : decode cX8_crowd 124 = .ok (.invokevirtual 373, 3) := by decide +kernel
theorem dX8_crowd_127 : decode cX8_crowd 127 = .ok (.ireturn, 1) := by decide +kernel
theorem dX8_crowd_128 : decode cX8_crowd 128 = .ok (.iconst (-1), 1) := by decide +kernel
theorem dX8_crowd_129 : decode cX8_crowd 129 = .ok (.ireturn, 1) := by decide +kernel
theorem dX8_firstHour_0 : decode cX8_firstHour 0 = .ok (.iload_n 0, 1) := by decide +kernel
theorem dX8_firstHour_1 : decode cX8_firstHour 1 = .ok (.istore_n 1, 1) := by decide +kernel
theorem dX8_firstHour_2 : decode cX8_firstHour 2 = .ok (.iload_n 1, 1) := by decide +kernel
theorem dX8_firstHour_3 : decode cX8_firstHour 3 = .ok (.bipush 64, 2) := by decide +kernel
theorem dX8_firstHour_5 : decode cX8_firstHour 5 = .ok (.if_icmp .ge 10, 3) := by decide +kernel
theorem dX8_firstHour_8 : decode cX8_firstHour 8 = .ok (.iload_n 1, 1) := by decide +kernel
theorem dX8_firstHour_9 : decode cX8_firstHour 9 = .ok (.iconst 2, 1) := by decide +kernel
theorem dX8_firstHour_10 : decode cX8_firstHour 10 = .ok (.imul, 1) := by decide +kernel
theorem dX8_firstHour_11 : decode cX8_firstHour 11 = .ok (.istore_n 1, 1) := by decide +kernel
theorem dX8_firstHour_12 : decode cX8_firstHour 12 = .ok (.goto (-10), 3) := by decide +kernel
theorem dX8_firstHour_15 : decode cX8_firstHour 15 = .ok (.iload_n 1, 1) := by decide +kernel
theorem dX8_firstHour_16 : decode cX8_firstHour 16 = .ok (.bipush 64, 2) := by decide +kernel
theorem dX8_firstHour_18 : decode cX8_firstHour 18 = .ok (.isub, 1) := by decide +kernel
theorem dX8_firstHour_19 : decode cX8_firstHour 19 = .ok (.ireturn, 1) := by decide +kernel
theorem dX8_hoursIn_0 : decode cX8_hoursIn 0 = .ok (.bipush 64, 2) := by decide +kernel
theorem dX8_hoursIn_2 : decode cX8_hoursIn 2 = .ok (.istore_n 1, 1) := by decide +kernel
theorem dX8_hoursIn_3 : decode cX8_hoursIn 3 = .ok (.iload_n 0, 1) := by decide +kernel
theorem dX8_hoursIn_4 : decode cX8_hoursIn 4 = .ok (.istore_n 2, 1) := by decide +kernel
theorem dX8_hoursIn_5 : decode cX8_hoursIn 5 = .ok (.iload_n 2, 1) := by decide +kernel
theorem dX8_hoursIn_6 : decode cX8_hoursIn 6 = .ok (.iconst 1, 1) := by decide +kernel
theorem dX8_hoursIn_7 : decode cX8_hoursIn 7 = .ok (.if_icmp .le 14, 3) := by decide +kernel
theorem dX8_hoursIn_10 : decode cX8_hoursIn 10 = .ok (.iload_n 1, 1) := by decide +kernel
theorem dX8_hoursIn_11 : decode cX8_hoursIn 11 = .ok (.iconst 2, 1) := by decide +kernel
theorem dX8_hoursIn_12 : decode cX8_hoursIn 12 = .ok (.idiv, 1) := by decide +kernel
theorem dX8_hoursIn_13 : decode cX8_hoursIn 13 = .ok (.istore_n 1, 1) := by decide +kernel
theorem dX8_hoursIn_14 : decode cX8_hoursIn 14 = .ok (.iload_n 2, 1) := by decide +kernel
theorem dX8_hoursIn_15 : decode cX8_hoursIn 15 = .ok (.iconst 2, 1) := by decide +kernel
theorem dX8_hoursIn_16 : decode cX8_hoursIn 16 = .ok (.idiv, 1) := by decide +kernel
theorem dX8_hoursIn_17 : decode cX8_hoursIn 17 = .ok (.istore_n 2, 1) := by decide +kernel
theorem dX8_hoursIn_18 : decode cX8_hoursIn 18 = .ok (.goto (-13), 3) := by decide +kernel
theorem dX8_hoursIn_21 : decode cX8_hoursIn 21 = .ok (.iload_n 1, 1) := by decide +kernel
theorem dX8_hoursIn_22 : decode cX8_hoursIn 22 = .ok (.ireturn, 1) := by decide +kernel
set_option maxRecDepth 20000 in
theorem ggX8_isWithin_X8_firstHour : GoodIn wsX8_isWithin wsX8_firstHour := goodIn_r _ [4] (by decide +kernel) (by decide +kernel)
set_option maxRecDepth 20000 in
theorem gX8_isWithin_X8_firstHour : GoodIn wsX8_isWithin (va_wsS RX8 432 yX8_firstHour wsX8_firstHour) := goodIn_app (goodIn_of _ (by decide +kernel)) ggX8_isWithin_X8_firstHour
set_option maxRecDepth 20000 in
theorem ggX8_isWithin_X8_its : GoodIn wsX8_isWithin wsX8_its := goodIn_r _ [8, 9, 10, 11, 3, 12, 16, 17, 18, 19, 20, 21, 22, 23, 24, 25, 26, 27, 28, 29, 30, 31, 32, 33, 34, 35, 36, 37, 38, 39, 40, 41, 42, 43, 44, 45, 46, 47, 48] (by decide +kernel) (by decide +kernel)
set_option maxRecDepth 20000 in
theorem gX8_isWithin_X8_its : GoodIn wsX8_isWithin (wsV RX8 123 RX8 yX8_its wsX8_its) := goodIn_app (goodIn_of _ (by decide +kernel)) ggX8_isWithin_X8_its
set_option maxRecDepth 20000 in
theorem ggX8_isWithin_X8_hoursIn : GoodIn wsX8_isWithin wsX8_hoursIn := goodIn_r _ [15] (by decide +kernel) (by decide +kernel)
set_option maxRecDepth 20000 in
theorem gX8_isWithin_X8_hoursIn : GoodIn wsX8_isWithin (va_wsS RX8 435 yX8_hoursIn wsX8_hoursIn) := goodIn_app (goodIn_of _ (by decide +kernel)) ggX8_isWithin_X8_hoursIn
theorem dX8_isWithin_0 : decode cX8_isWithin 0 = .ok (.iload_n 1, 1) := by decide +kernel
theorem dX8_isWithin_1 : decode cX8_isWithin 1 = .ok (.invokestatic 432, 3) := by decide +kernel
theorem dX8_isWithin_4 : decode cX8_isWithin 4 = .ok (.istore_n 3, 1) := by decide +kernel
theorem dX8_isWithin_5 : decode cX8_isWithin 5 = .ok (.aload_n 0, 1) := by decide +kernel
theorem dX8_isWithin_6 : decode cX8_isWithin 6 = .ok (.iload_n 2, 1) := by decide +kernel
theorem dX8_isWithin_7 : decode cX8_isWithin 7 = .ok (.iconst 1, 1) := by decide +kernel
theorem dX8_isWithin_8 : decode cX8_isWithin 8 = .ok (.invokevirtual 123, 3) := by decide +kernel
theorem dX8_isWithin_11 : decode cX8_isWithin 11 = .ok (.iload_n 3, 1) := by decide +kernel
theorem dX8_isWithin_12 : decode cX8_isWithin 12 = .ok (.if_icmp .gt 22, 3) := by decide +kernel
theorem dX8_isWithin_15 : decode cX8_isWithin 15 = .ok (.iload_n 3, 1) := by decide +kernel
theorem dX8_isWithin_16 : decode cX8_isWithin 16 = .ok (.iload_n 1, 1) := by decide +kernel
theorem dX8_isWithin_17 : decode cX8_isWithin 17 = .ok (.invokestatic 435, 3) := by decide +kernel
theorem dX8_isWithin_20 : decode cX8_isWithin 20 = .ok (.iadd, 1) := by decide +kernel
theorem dX8_isWithin_21 : decode cX8_isWithin 21 = .ok (.aload_n 0, 1) := by decide +kernel
theorem dX8_isWithin_22 : decode cX8_isWithin 22 = .ok (.iload_n 2, 1) := by decide +kernel
theorem dX8_isWithin_23 : decode cX8_isWithin 23 = .ok (.iconst 2, 1) := by decide +kernel
theorem dX8_isWithin_24 : decode cX8_isWithin 24 = .ok (.invokevirtual 123, 3) := by decide +kernel
theorem dX8_isWithin_27 : decode cX8_isWithin 27 = .ok (.if_icmp .gt 7, 3) := by decide +kernel
theorem dX8_isWithin_30 : decode cX8_isWithin 30 = .ok (.iconst 1, 1) := by decide +kernel
theorem dX8_isWithin_31 : decode cX8_isWithin 31 = .ok (.goto 4, 3) := by decide +kernel
theorem dX8_isWithin_34 : decode cX8_isWithin 34 = .ok (.iconst 0, 1) := by decide +kernel
theorem dX8_isWithin_35 : decode cX8_isWithin 35 = .ok (.ireturn, 1) := by decide +kernel
set_option maxRecDepth 20000 in
theorem ggX8_isOf_X8_isWithin : GoodIn wsX8_isOf wsX8_isWithin := goodIn_r _ [5, 6, 7, 4, 8, 9, 10, 11, 12, 13, 14, 15, 16, 17, 18, 19, 20, 21, 22, 23, 24, 25, 26, 27, 28, 29, 30, 31, 32, 33, 34, 35, 36, 37, 38, 39, 40, 41, 42, 43, 44, 45, 46, 47, 48, 49, 50, 51, 52] (by decide +kernel) (by decide +kernel)
set_option maxRecDepth 20000 in
theorem gX8_isOf_X8_isWithin : GoodIn wsX8_isOf (wsV RX8 438 RX8 yX8_isWithin wsX8_isWithin) := goodIn_app (goodIn_of _ (by decide +kernel)) ggX8_isOf_X8_isWithin
theorem dX8_isOf_0 : decode cX8_isOf 0 = .ok (.aload_n 0, 1) := by decide +kernel
theorem dX8_isOf_1 : decode cX8_isOf 1 = .ok (.iload_n 1, 1) := by decide +kernel
theorem dX8_isOf_2 : decode cX8_isOf 2 = .ok (.iload_n 2, 1) := by decide +kernel
theorem dX8_isOf_3 : decode cX8_isOf 3 = .ok (.invokevirtual 438, 3) := by decide +kernel
theorem dX8_isOf_6 : decode cX8_isOf 6 = .ok (.ifCond .eq 23, 3) := by decide +kernel
theorem dX8_isOf_9 : decode cX8_isOf 9 = .ok (.iload_n 1, 1) := by decide +kernel
theorem dX8_isOf_10 : decode cX8_isOf 10 = .ok (.iconst 1, 1) := by decide +kernel
theorem dX8_isOf_11 : decode cX8_isOf 11 = .ok (.if_icmp .eq 14, 3) := by decide +kernel
theorem dX8_isOf_14 : decode cX8_isOf 14 = .ok (.aload_n 0, 1) := by decide +kernel
theorem dX8_isOf_15 : decode cX8_isOf 15 = .ok (.iload_n 1, 1) := by decide +kernel
theorem dX8_isOf_16 : decode cX8_isOf 16 = .ok (.iconst 2, 1) := by decide +kernel
theorem dX8_isOf_17 : decode cX8_isOf 17 = .ok (.idiv, 1) := by decide +kernel
theorem dX8_isOf_18 : decode cX8_isOf 18 = .ok (.iload_n 2, 1) := by decide +kernel
theorem dX8_isOf_19 : decode cX8_isOf 19 = .ok (.invokevirtual 438, 3) := by decide +kernel
theorem dX8_isOf_22 : decode cX8_isOf 22 = .ok (.ifCond .ne 7, 3) := by decide +kernel
theorem dX8_isOf_25 : decode cX8_isOf 25 = .ok (.iconst 1, 1) := by decide +kernel
theorem dX8_isOf_26 : decode cX8_isOf 26 = .ok (.goto 4, 3) := by decide +kernel
theorem dX8_isOf_29 : decode cX8_isOf 29 = .ok (.iconst 0, 1) := by decide +kernel
theorem dX8_isOf_30 : decode cX8_isOf 30 = .ok (.ireturn, 1) := by decide +kernel
set_option maxRecDepth 20000 in
theorem ggX8_piecesOf_X8_isOf : GoodIn wsX8_piecesOf wsX8_isOf := goodIn_r _ [5, 6, 7, 8, 4, 9, 10, 11, 12, 13, 14, 15, 16, 17, 18, 19, 20, 21, 22, 23, 24, 25, 26, 27, 28, 29, 30, 31, 32, 33, 34, 35, 36, 37, 38, 39, 40, 41, 42, 43, 44, 45, 46, 47, 48, 49, 50, 51, 52, 53, 54, 55, 56] (by decide +kernel) (by decide +kernel)
set_option maxRecDepth 20000 in
theorem gX8_piecesOf_X8_isOf : GoodIn wsX8_piecesOf (wsV RX8 441 RX8 yX8_isOf wsX8_isOf) := goodIn_app (goodIn_of _ (by decide +kernel)) ggX8_piecesOf_X8_isOf
theorem dX8_piecesOf_0 : decode cX8_piecesOf 0 = .ok (.iconst 0, 1) := by decide +kernel
theorem dX8_piecesOf_1 : decode cX8_piecesOf 1 = .ok (.istore_n 2, 1) := by decide +kernel
theorem dX8_piecesOf_2 : decode cX8_piecesOf 2 = .ok (.iconst 1, 1) := by decide +kernel
theorem dX8_piecesOf_3 : decode cX8_piecesOf 3 = .ok (.istore_n 3, 1) := by decide +kernel
theorem dX8_piecesOf_4 : decode cX8_piecesOf 4 = .ok (.iload_n 3, 1) := by decide +kernel
theorem dX8_piecesOf_5 : decode cX8_piecesOf 5 = .ok (.sipush 128, 3) := by decide +kernel
theorem dX8_piecesOf_8 : decode cX8_piecesOf 8 = .ok (.if_icmp .ge 26, 3) := by decide +kernel
theorem dX8_piecesOf_11 : decode cX8_piecesOf 11 = .ok (.iload_n 2, 1) := by decide +kernel
theorem dX8_piecesOf_12 : decode cX8_piecesOf 12 = .ok (.aload_n 0, 1) := by decide +kernel
theorem dX8_piecesOf_13 : decode cX8_piecesOf 13 = .ok (.iload_n 3, 1) := by decide +kernel
theorem dX8_piecesOf_14 : decode cX8_piecesOf 14 = .ok (.iload_n 1, 1) := by decide +kernel
theorem dX8_piecesOf_15 : decode cX8_piecesOf 15 = .ok (.invokevirtual 441, 3) := by decide +kernel
theorem dX8_piecesOf_18 : decode cX8_piecesOf 18 = .ok (.ifCond .eq 7, 3) := by decide +kernel
theorem dX8_piecesOf_21 : decode cX8_piecesOf 21 = .ok (.iconst 1, 1) := by decide +kernel
theorem dX8_piecesOf_22 : decode cX8_piecesOf 22 = .ok (.goto 4, 3) := by decide +kernel
theorem dX8_piecesOf_25 : decode cX8_piecesOf 25 = .ok (.iconst 0, 1) := by decide +kernel
theorem dX8_piecesOf_26 : decode cX8_piecesOf 26 = .ok (.iadd, 1) := by decide +kernel
theorem dX8_piecesOf_27 : decode cX8_piecesOf 27 = .ok (.istore_n 2, 1) := by decide +kernel
theorem dX8_piecesOf_28 : decode cX8_piecesOf 28 = .ok (.iinc 3 1, 3) := by decide +kernel
theorem dX8_piecesOf_31 : decode cX8_piecesOf 31 = .ok (.goto (-27), 3) := by decide +kernel
theorem dX8_piecesOf_34 : decode cX8_piecesOf 34 = .ok (.iload_n 2, 1) := by decide +kernel
theorem dX8_piecesOf_35 : decode cX8_piecesOf 35 = .ok (.ireturn, 1) := by decide +kernel
set_option maxRecDepth 20000 in
theorem ggX8_cover_X8_isNumber : GoodIn wsX8_cover wsX8_isNumber := goodIn_r _ [6, 7, 8, 9, 5, 10] (by decide +kernel) (by decide +kernel)
set_option maxRecDepth 20000 in
theorem gX8_cover_X8_isNumber : GoodIn wsX8_cover (va_wsS RX8 101 yX8_isNumber wsX8_isNumber) := goodIn_app (goodIn_of _ (by decide +kernel)) ggX8_cover_X8_isNumber
set_option maxRecDepth 20000 in
theorem ggX8_cover_X8_isHour : GoodIn wsX8_cover wsX8_isHour := goodIn_r _ [13, 14, 8, 9, 5, 10] (by decide +kernel) (by decide +kernel)
set_option maxRecDepth 20000 in
theorem gX8_cover_X8_isHour : GoodIn wsX8_cover (va_wsS RX8 104 yX8_isHour wsX8_isHour) := goodIn_app (goodIn_of _ (by decide +kernel)) ggX8_cover_X8_isHour
set_option maxRecDepth 20000 in
theorem ggX8_cover_X8_lifeAt : GoodIn wsX8_cover wsX8_lifeAt := goodIn_r _ [17, 18, 19, 5, 20, 21, 22, 23] (by decide +kernel) (by decide +kernel)
set_option maxRecDepth 20000 in
theorem gX8_cover_X8_lifeAt : GoodIn wsX8_cover (va_wsS RX8 74 yX8_lifeAt wsX8_lifeAt) := goodIn_app (goodIn_of _ (by decide +kernel)) ggX8_cover_X8_lifeAt
set_option maxRecDepth 20000 in
theorem ggX8_cover_X8_isOf : GoodIn wsX8_cover wsX8_isOf := goodIn_r _ [27, 28, 29, 30, 5, 31, 32, 33, 34, 35, 36, 37, 38, 2, 18, 19, 20, 39, 40, 41, 42, 43, 44, 45, 46, 47, 48, 49, 50, 51, 52, 53, 54, 55, 56, 57, 58, 59, 60, 61, 62, 63, 64, 65, 66, 67, 68, 69, 70, 71, 72, 73, 74] (by decide +kernel) (by decide +kernel)
set_option maxRecDepth 20000 in
theorem gX8_cover_X8_isOf : GoodIn wsX8_cover (wsV RX8 441 RX8 yX8_isOf wsX8_isOf) := goodIn_app (goodIn_of _ (by decide +kernel)) ggX8_cover_X8_isOf
theorem dX8_cover_0 : decode cX8_cover 0 = .ok (.aload_n 0, 1) := by decide +kernel
theorem dX8_cover_1 : decode cX8_cover 1 = .ok (.iconst 0, 1) := by decide +kernel
theorem dX8_cover_2 : decode cX8_cover 2 = .ok (.putfield 1, 3) := by decide +kernel
theorem dX8_cover_5 : decode cX8_cover 5 = .ok (.iload_n 1, 1) := by decide +kernel
theorem dX8_cover_6 : decode cX8_cover 6 = .ok (.invokestatic 101, 3) := by decide +kernel
theorem dX8_cover_9 : decode cX8_cover 9 = .ok (.ifCond .eq 10, 3) := by decide +kernel
theorem dX8_cover_12 : decode cX8_cover 12 = .ok (.iload_n 2, 1) := by decide +kernel
theorem dX8_cover_13 : decode cX8_cover 13 = .ok (.invokestatic 104, 3) := by decide +kernel
theorem dX8_cover_16 : decode cX8_cover 16 = .ok (.ifCond .ne 5, 3) := by decide +kernel
theorem dX8_cover_19 : decode cX8_cover 19 = .ok (.iconst (-1), 1) := by decide +kernel
theorem dX8_cover_20 : decode cX8_cover 20 = .ok (.ireturn, 1) := by decide +kernel
theorem dX8_cover_21 : decode cX8_cover 21 = .ok (.aload_n 0, 1) := by decide +kernel
theorem dX8_cover_22 : decode cX8_cover 22 = .ok (.getfield 13, 3) := by decide +kernel
theorem dX8_cover_25 : decode cX8_cover 25 = .ok (.iload_n 1, 1) := by decide +kernel
theorem dX8_cover_26 : decode cX8_cover 26 = .ok (.iload_n 2, 1) := by decide +kernel
theorem dX8_cover_27 : decode cX8_cover 27 = .ok (.invokestatic 74, 3) := by decide +kernel
theorem dX8_cover_30 : decode cX8_cover 30 = .ok (.istore_n 3, 1) := by decide +kernel
theorem dX8_cover_31 : decode cX8_cover 31 = .ok (.iload_n 3, 1) := by decide +kernel
theorem dX8_cover_32 : decode cX8_cover 32 = .ok (.iconst (-1), 1) := by decide +kernel
theorem dX8_cover_33 : decode cX8_cover 33 = .ok (.if_icmp .ne 6, 3) := by decide +kernel
theorem dX8_cover_36 : decode cX8_cover 36 = .ok (.bipush (-2), 2) := by decide +kernel
theorem dX8_cover_38 : decode cX8_cover 38 = .ok (.ireturn, 1) := by decide +kernel
theorem dX8_cover_39 : decode cX8_cover 39 = .ok (.bipush 64, 2) := by decide +kernel
theorem dX8_cover_41 : decode cX8_cover 41 = .ok (.iload_n 2, 1) := by decide +kernel
theorem dX8_cover_42 : decode cX8_cover 42 = .ok (.iadd, 1) := by decide +kernel
theorem dX8_cover_43 : decode cX8_cover 43 = .ok (.istore 4, 2) := by decide +kernel
theorem dX8_cover_45 : decode cX8_cover 45 = .ok (.aload_n 0, 1) := by decide +kernel
theorem dX8_cover_46 : decode cX8_cover 46 = .ok (.iload 4, 2) := by decide +kernel
theorem dX8_cover_48 : decode cX8_cover 48 = .ok (.iload_n 3, 1) := by decide +kernel
theorem dX8_cover_49 : decode cX8_cover 49 = .ok (.invokevirtual 441, 3) := by decide +kernel
theorem dX8_cover_52 : decode cX8_cover 52 = .ok (.ifCond .ne 12, 3) := by decide +kernel
theorem dX8_cover_55 : decode cX8_cover 55 = .ok (.iload 4, 2) := by decide +kernel
theorem dX8_cover_57 : decode cX8_cover 57 = .ok (.iconst 2, 1) := by decide +kernel
theorem dX8_cover_58 : decode cX8_cover 58 = .ok (.idiv, 1) := by decide +kernel
theorem dX8_cover_59 : decode cX8_cover 59 = .ok (.istore 4, 2) := by decide +kernel
theorem dX8_cover_61 : decode cX8_cover 61 = .ok (.goto (-16), 3) := by decide +kernel
theorem dX8_cover_64 : decode cX8_cover 64 = .ok (.iload 4, 2) := by decide +kernel
theorem dX8_cover_66 : decode cX8_cover 66 = .ok (.ireturn, 1) := by decide +kernel
set_option maxRecDepth 20000 in
theorem ggX8_onOf_X8_isOf : GoodIn wsX8_onOf wsX8_isOf := goodIn_r _ [6, 7, 8, 9, 5, 10, 11, 12, 13, 14, 15, 16, 17, 1, 18, 19, 20, 21, 22, 23, 24, 25, 26, 27, 28, 29, 30, 31, 32, 33, 34, 35, 36, 37, 38, 39, 40, 41, 42, 43, 44, 45, 46, 47, 48, 49, 50, 51, 52, 53, 54, 55, 56] (by decide +kernel) (by decide +kernel)
set_option maxRecDepth 20000 in
theorem gX8_onOf_X8_isOf : GoodIn wsX8_onOf (wsV RX8 441 RX8 yX8_isOf wsX8_isOf) := goodIn_app (goodIn_of _ (by decide +kernel)) ggX8_onOf_X8_isOf
set_option maxRecDepth 20000 in
theorem ggX8_onOf_X8_its : GoodIn wsX8_onOf wsX8_its := goodIn_r _ [17, 1, 18, 19, 5, 20, 24, 25, 26, 27, 28, 29, 30, 31, 32, 33, 34, 35, 36, 37, 38, 39, 40, 41, 42, 43, 44, 45, 46, 47, 48, 49, 50, 51, 52, 53, 54, 55, 56] (by decide +kernel) (by decide +kernel)
set_option maxRecDepth 20000 in
theorem gX8_onOf_X8_its : GoodIn wsX8_onOf (wsV RX8 123 RX8 yX8_its wsX8_its) := goodIn_app (goodIn_of _ (by decide +kernel)) ggX8_onOf_X8_its
theorem dX8_onOf_0 : decode cX8_onOf 0 = .ok (.iconst 0, 1) := by decide +kernel
theorem dX8_onOf_1 : decode cX8_onOf 1 = .ok (.istore_n 3, 1) := by decide +kernel
theorem dX8_onOf_2 : decode cX8_onOf 2 = .ok (.iconst 0, 1) := by decide +kernel
theorem dX8_onOf_3 : decode cX8_onOf 3 = .ok (.istore 4, 2) := by decide +kernel
theorem dX8_onOf_5 : decode cX8_onOf 5 = .ok (.iload 4, 2) := by decide +kernel
theorem dX8_onOf_7 : decode cX8_onOf 7 = .ok (.aload_n 0, 1) := by decide +kernel
theorem dX8_onOf_8 : decode cX8_onOf 8 = .ok (.getfield 13, 3) := by decide +kernel
theorem dX8_onOf_11 : decode cX8_onOf 11 = .ok (.iconst 0, 1) := by decide +kernel
theorem dX8_onOf_12 : decode cX8_onOf 12 = .ok (.iaload, 1) := by decide +kernel
theorem dX8_onOf_13 : decode cX8_onOf 13 = .ok (.if_icmp .ge 35, 3) := by decide +kernel
theorem dX8_onOf_16 : decode cX8_onOf 16 = .ok (.aload_n 0, 1) := by decide +kernel
theorem dX8_onOf_17 : decode cX8_onOf 17 = .ok (.iload_n 1, 1) := by decide +kernel
theorem dX8_onOf_18 : decode cX8_onOf 18 = .ok (.iload 4, 2) := by decide +kernel
theorem dX8_onOf_20 : decode cX8_onOf 20 = .ok (.invokevirtual 441, 3) := by decide +kernel
theorem dX8_onOf_23 : decode cX8_onOf 23 = .ok (.ifCond .eq 19, 3) := by decide +kernel
theorem dX8_onOf_26 : decode cX8_onOf 26 = .ok (.iload_n 3, 1) := by decide +kernel
theorem dX8_onOf_27 : decode cX8_onOf 27 = .ok (.iload_n 2, 1) := by decide +kernel
theorem dX8_onOf_28 : decode cX8_onOf 28 = .ok (.if_icmp .ne 11, 3) := by decide +kernel
theorem dX8_onOf_31 : decode cX8_onOf 31 = .ok (.aload_n 0, 1) := by decide +kernel
theorem dX8_onOf_32 : decode cX8_onOf 32 = .ok (.iload 4, 2) := by decide +kernel
theorem dX8_onOf_34 : decode cX8_onOf 34 = .ok (.iconst 0, 1) := by decide +kernel
theorem dX8_onOf_35 : decode cX8_onOf 35 = .ok (.invokevirtual 123, 3) := by decide +kernel
theorem dX8_onOf_38 : decode cX8_onOf 38 = .ok (.ireturn, 1) := by decide +kernel
theorem dX8_onOf_39 : decode cX8_onOf 39 = .ok (.iinc 3 1, 3) := by decide +kernel
theorem dX8_onOf_42 : decode cX8_onOf 42 = .ok (.iinc 4 1, 3) := by decide +kernel
theorem dX8_onOf_45 : decode cX8_onOf 45 = .ok (.goto (-40), 3) := by decide +kernel
theorem dX8_onOf_48 : decode cX8_onOf 48 = .ok (.iload_n 2, 1) := by decide +kernel
theorem dX8_onOf_49 : decode cX8_onOf 49 = .ok (.iconst (-1), 1) := by decide +kernel
theorem dX8_onOf_50 : decode cX8_onOf 50 = .ok (.if_icmp .ne 7, 3) := by decide +kernel
theorem dX8_onOf_53 : decode cX8_onOf 53 = .ok (.iload_n 3, 1) := by decide +kernel
theorem dX8_onOf_54 : decode cX8_onOf 54 = .ok (.goto 5, 3) := by decide +kernel
theorem dX8_onOf_57 : decode cX8_onOf 57 = .ok (.bipush (-2), 2) := by decide +kernel
theorem dX8_onOf_59 : decode cX8_onOf 59 = .ok (.ireturn, 1) := by decide +kernel
set_option maxRecDepth 20000 in
theorem ggX8_on_X8_within : GoodIn wsX8_on wsX8_within := goodIn_r _ [6] (by decide +kernel) (by decide +kernel)
set_option maxRecDepth 20000 in
theorem gX8_on_X8_within : GoodIn wsX8_on (va_wsS RX8 60 yX8_within wsX8_within) := goodIn_app (goodIn_of _ (by decide +kernel)) ggX8_on_X8_within
set_option maxRecDepth 20000 in
theorem ggX8_on_X8_onOf : GoodIn wsX8_on wsX8_onOf := goodIn_r _ [10, 11, 12, 13, 14, 5, 15, 16, 17, 18, 19, 20, 21, 22, 23, 24, 25, 26, 27, 28, 29, 30, 31, 32, 33, 34, 35, 36, 37, 38, 39, 40, 41, 42, 43, 44, 45, 46, 47, 48, 49, 50, 51, 52, 53, 54, 55, 56, 57, 58, 59, 60, 61, 62, 63, 64, 65] (by decide +kernel) (by decide +kernel)
set_option maxRecDepth 20000 in
theorem gX8_on_X8_onOf : GoodIn wsX8_on (wsV RX8 446 RX8 yX8_onOf wsX8_onOf) := goodIn_app (goodIn_of _ (by decide +kernel)) ggX8_on_X8_onOf
theorem dX8_on_0 : decode cX8_on 0 = .ok (.aload_n 0, 1) := by decide +kernel
theorem dX8_on_1 : decode cX8_on 1 = .ok (.iconst 0, 1) := by decide +kernel
theorem dX8_on_2 : decode cX8_on 2 = .ok (.putfield 1, 3) := by decide +kernel
theorem dX8_on_5 : decode cX8_on 5 = .ok (.iload_n 1, 1) := by decide +kernel
theorem dX8_on_6 : decode cX8_on 6 = .ok (.i2l, 1) := by decide +kernel
theorem dX8_on_7 : decode cX8_on 7 = .ok (.lconst 1, 1) := by decide +kernel
theorem dX8_on_8 : decode cX8_on 8 = .ok (.ldc2_w 444, 3) := by decide +kernel
theorem dX8_on_11 : decode cX8_on 11 = .ok (.invokestatic 60, 3) := by decide +kernel
theorem dX8_on_14 : decode cX8_on 14 = .ok (.ifCond .eq 12, 3) := by decide +kernel
theorem dX8_on_17 : decode cX8_on 17 = .ok (.aload_n 0, 1) := by decide +kernel
theorem dX8_on_18 : decode cX8_on 18 = .ok (.iload_n 1, 1) := by decide +kernel
theorem dX8_on_19 : decode cX8_on 19 = .ok (.iconst (-1), 1) := by decide +kernel
theorem dX8_on_20 : decode cX8_on 20 = .ok (.invokevirtual 446, 3) := by decide +kernel
theorem dX8_on_23 : decode cX8_on 23 = .ok (.goto 4, 3) := by decide +kernel
theorem dX8_on_26 : decode cX8_on 26 = .ok (.iconst (-1), 1) := by decide +kernel
theorem dX8_on_27 : decode cX8_on 27 = .ok (.ireturn, 1) := by decide +kernel
set_option maxRecDepth 20000 in
theorem ggX8_onAt_X8_within : GoodIn wsX8_onAt wsX8_within := goodIn_r _ [6] (by decide +kernel) (by decide +kernel)
set_option maxRecDepth 20000 in
theorem gX8_onAt_X8_within : GoodIn wsX8_onAt (va_wsS RX8 60 yX8_within wsX8_within) := goodIn_app (goodIn_of _ (by decide +kernel)) ggX8_onAt_X8_within
set_option maxRecDepth 20000 in
theorem ggX8_onAt_X8_onOf : GoodIn wsX8_onAt wsX8_onOf := goodIn_r _ [10, 11, 12, 13, 14, 5, 15, 16, 17, 18, 19, 20, 21, 22, 23, 24, 25, 26, 27, 28, 29, 30, 31, 32, 33, 34, 35, 36, 37, 38, 39, 40, 41, 42, 43, 44, 45, 46, 47, 48, 49, 50, 51, 52, 53, 54, 55, 56, 57, 58, 59, 60, 61, 62, 63, 64, 65] (by decide +kernel) (by decide +kernel)
set_option maxRecDepth 20000 in
theorem gX8_onAt_X8_onOf : GoodIn wsX8_onAt (wsV RX8 446 RX8 yX8_onOf wsX8_onOf) := goodIn_app (goodIn_of _ (by decide +kernel)) ggX8_onAt_X8_onOf
theorem dX8_onAt_0 : decode cX8_onAt 0 = .ok (.aload_n 0, 1) := by decide +kernel
theorem dX8_onAt_1 : decode cX8_onAt 1 = .ok (.iconst 0, 1) := by decide +kernel
theorem dX8_onAt_2 : decode cX8_onAt 2 = .ok (.putfield 1, 3) := by decide +kernel
theorem dX8_onAt_5 : decode cX8_onAt 5 = .ok (.iload_n 1, 1) := by decide +kernel
theorem dX8_onAt_6 : decode cX8_onAt 6 = .ok (.i2l, 1) := by decide +kernel
theorem dX8_onAt_7 : decode cX8_onAt 7 = .ok (.lconst 1, 1) := by decide +kernel
theorem dX8_onAt_8 : decode cX8_onAt 8 = .ok (.ldc2_w 444, 3) := by decide +kernel
theorem dX8_onAt_11 : decode cX8_onAt 11 = .ok (.invokestatic 60, 3) := by decide +kernel
theorem dX8_onAt_14 : decode cX8_onAt 14 = .ok (.ifCond .eq 16, 3) := by decide +kernel
theorem dX8_onAt_17 : decode cX8_onAt 17 = .ok (.iload_n 2, 1) := by decide +kernel
theorem dX8_onAt_18 : decode cX8_onAt 18 = .ok (.ifCond .lt 12, 3) := by decide +kernel
theorem dX8_onAt_21 : decode cX8_onAt 21 = .ok (.aload_n 0, 1) := by decide +kernel
theorem dX8_onAt_22 : decode cX8_onAt 22 = .ok (.iload_n 1, 1) := by decide +kernel
theorem dX8_onAt_23 : decode cX8_onAt 23 = .ok (.iload_n 2, 1) := by decide +kernel
theorem dX8_onAt_24 : decode cX8_onAt 24 = .ok (.invokevirtual 446, 3) := by decide +kernel
theorem dX8_onAt_27 : decode cX8_onAt 27 = .ok (.goto 4, 3) := by decide +kernel
theorem dX8_onAt_30 : decode cX8_onAt 30 = .ok (.iconst (-1), 1) := by decide +kernel
theorem dX8_onAt_31 : decode cX8_onAt 31 = .ok (.ireturn, 1) := by decide +kernel
