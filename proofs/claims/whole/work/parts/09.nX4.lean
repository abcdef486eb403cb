theorem dX4_init_0 : decode cX4_init 0 = .ok (.aload_n 0, 1) := by decide +kernel
theorem dX4_init_1 : decode cX4_init 1 = .ok (.invokespecial 3, 3) := by decide +kernel
theorem dX4_init_4 : decode cX4_init 4 = .ok (.aload_n 0, 1) := by decide +kernel
theorem dX4_init_5 : decode cX4_init 5 = .ok (.bipush 6, 2) := by decide +kernel
theorem dX4_init_7 : decode cX4_init 7 = .ok (.newarray .int, 2) := by decide +kernel
theorem dX4_init_9 : decode cX4_init 9 = .ok (.putfield 11, 3) := by decide +kernel
theorem dX4_init_12 : decode cX4_init 12 = .ok (.aload_n 0, 1) := by decide +kernel
theorem dX4_init_13 : decode cX4_init 13 = .ok (.getstatic 15, 3) := by decide +kernel
theorem dX4_init_16 : decode cX4_init 16 = .ok (.putfield 21, 3) := by decide +kernel
theorem dX4_init_19 : decode cX4_init 19 = .ok (.aload_n 0, 1) := by decide +kernel
theorem dX4_init_20 : decode cX4_init 20 = .ok (.iconst 0, 1) := by decide +kernel
theorem dX4_init_21 : decode cX4_init 21 = .ok (.putfield 24, 3) := by decide +kernel
theorem dX4_init_24 : decode cX4_init 24 = .ok (.aload_n 0, 1) := by decide +kernel
theorem dX4_init_25 : decode cX4_init 25 = .ok (.iconst 0, 1) := by decide +kernel
theorem dX4_init_26 : decode cX4_init 26 = .ok (.putfield 28, 3) := by decide +kernel
theorem dX4_init_29 : decode cX4_init 29 = .ok (.aload_n 0, 1) := by decide +kernel
theorem dX4_init_30 : decode cX4_init 30 = .ok (.aload_n 1, 1) := by decide +kernel
theorem dX4_init_31 : decode cX4_init 31 = .ok (.putfield 32, 3) := by decide +kernel
theorem dX4_init_34 : decode cX4_init 34 = .ok (.return_, 1) := by decide +kernel
theorem dX4_what_0 : decode cX4_what 0 = .ok (.aload_n 0, 1) := by decide +kernel
theorem dX4_what_1 : decode cX4_what 1 = .ok (.getfield 21, 3) := by decide +kernel
theorem dX4_what_4 : decode cX4_what 4 = .ok (.areturn, 1) := by decide +kernel
set_option maxRecDepth 20000 in
theorem ggX4_read_X6_sign : GoodIn wsX4_read wsX6_sign := goodIn_r _ [15, 16, 17, 18, 19, 20, 88, 89, 90, 91, 92, 93, 94, 95, 96] (by decide +kernel) (by decide +kernel)
set_option maxRecDepth 20000 in
theorem gX4_read_X6_sign : GoodIn wsX4_read (wsV RX4 36 RX6 yX6_sign wsX6_sign) := goodIn_app (goodIn_of _ (by decide +kernel)) ggX4_read_X6_sign
set_option maxRecDepth 20000 in
theorem ggX4_read_X6_fail : GoodIn wsX4_read wsX6_fail := goodIn_r _ [24, 16, 17, 25, 26, 88, 89, 90, 91, 92, 93, 94, 95, 96] (by decide +kernel) (by decide +kernel)
set_option maxRecDepth 20000 in
theorem gX4_read_X6_fail : GoodIn wsX4_read (wsV RX4 51 RX6 yX6_fail wsX6_fail) := goodIn_app (goodIn_of _ (by decide +kernel)) ggX4_read_X6_fail
set_option maxRecDepth 20000 in
theorem ggX4_read_X6_pass : GoodIn wsX4_read wsX6_pass := goodIn_r _ [30, 17, 18, 31, 88, 89, 90, 91, 92, 93, 94, 95, 96] (by decide +kernel) (by decide +kernel)
set_option maxRecDepth 20000 in
theorem gX4_read_X6_pass : GoodIn wsX4_read (wsV RX4 55 RX6 yX6_pass wsX6_pass) := goodIn_app (goodIn_of _ (by decide +kernel)) ggX4_read_X6_pass
set_option maxRecDepth 20000 in
theorem ggX4_read_X6_expect : GoodIn wsX4_read wsX6_expect := goodIn_r _ [35, 36, 37, 38, 14, 39, 40, 12, 13, 15, 16, 17, 18, 19, 20, 41, 28, 29, 30, 31, 42, 22, 23, 24, 25, 26, 88, 89, 90, 91, 92, 93, 94, 95, 96] (by decide +kernel) (by decide +kernel)
set_option maxRecDepth 20000 in
theorem gX4_read_X6_expect : GoodIn wsX4_read (wsV RX4 62 RX6 yX6_expect wsX6_expect) := goodIn_app (goodIn_of _ (by decide +kernel)) ggX4_read_X6_expect
set_option maxRecDepth 20000 in
theorem ggX4_read_X6_cursor : GoodIn wsX4_read wsX6_cursor := goodIn_r _ [46, 17, 88, 89, 90, 91, 92, 93, 94, 95, 96] (by decide +kernel) (by decide +kernel)
set_option maxRecDepth 20000 in
theorem gX4_read_X6_cursor : GoodIn wsX4_read (wsV RX4 66 RX6 yX6_cursor wsX6_cursor) := goodIn_app (goodIn_of _ (by decide +kernel)) ggX4_read_X6_cursor
set_option maxRecDepth 20000 in
theorem ggX4_read_X4_condHolds : GoodIn wsX4_read wsX4_condHolds := goodIn_r _ [51, 1, 52, 53, 54, 55, 56, 50, 57, 37, 38, 14, 39, 40, 12, 13, 15, 16, 17, 18, 19, 20, 41, 28, 29, 30, 31, 58, 59, 60, 61, 11, 62, 63, 64, 65, 66, 67, 68, 69, 70, 71, 72, 73, 74, 75, 76, 77, 78, 79, 5, 80, 81, 82, 27, 21, 22, 23, 24, 25, 26, 47, 48, 49, 32, 33, 34, 35, 36, 42, 83, 84, 85, 86, 87, 88, 89, 90, 91, 92, 93, 94, 95, 96] (by decide +kernel) (by decide +kernel)
set_option maxRecDepth 20000 in
theorem gX4_read_X4_condHolds : GoodIn wsX4_read (wsV RX4 69 RX4 yX4_condHolds wsX4_condHolds) := goodIn_app (goodIn_of _ (by decide +kernel)) ggX4_read_X4_condHolds
theorem dX4_read_0 : decode cX4_read 0 = .ok (.aload_n 0, 1) := by decide +kernel
theorem dX4_read_1 : decode cX4_read 1 = .ok (.aload_n 0, 1) := by decide +kernel
theorem dX4_read_2 : decode cX4_read 2 = .ok (.getfield 32, 3) := by decide +kernel
theorem dX4_read_5 : decode cX4_read 5 = .ok (.invokevirtual 36, 3) := by decide +kernel
theorem dX4_read_8 : decode cX4_read 8 = .ok (.putfield 21, 3) := by decide +kernel
theorem dX4_read_11 : decode cX4_read 11 = .ok (.aload_n 0, 1) := by decide +kernel
theorem dX4_read_12 : decode cX4_read 12 = .ok (.aload_n 0, 1) := by decide +kernel
theorem dX4_read_13 : decode cX4_read 13 = .ok (.getfield 21, 3) := by decide +kernel
theorem dX4_read_16 : decode cX4_read 16 = .ok (.getstatic 42, 3) := by decide +kernel
theorem dX4_read_19 : decode cX4_read 19 = .ok (.if_acmp .eq 13, 3) := by decide +kernel
theorem dX4_read_22 : decode cX4_read 22 = .ok (.aload_n 0, 1) := by decide +kernel
theorem dX4_read_23 : decode cX4_read 23 = .ok (.getfield 21, 3) := by decide +kernel
theorem dX4_read_26 : decode cX4_read 26 = .ok (.getstatic 45, 3) := by decide +kernel
theorem dX4_read_29 : decode cX4_read 29 = .ok (.if_acmp .ne 7, 3) := by decide +kernel
theorem dX4_read_32 : decode cX4_read 32 = .ok (.iconst 1, 1) := by decide +kernel
theorem dX4_read_33 : decode cX4_read 33 = .ok (.goto 4, 3) := by decide +kernel
theorem dX4_read_36 : decode cX4_read 36 = .ok (.iconst 0, 1) := by decide +kernel
theorem dX4_read_37 : decode cX4_read 37 = .ok (.putfield 24, 3) := by decide +kernel
theorem dX4_read_40 : decode cX4_read 40 = .ok (.aload_n 0, 1) := by decide +kernel
theorem dX4_read_41 : decode cX4_read 41 = .ok (.getfield 24, 3) := by decide +kernel
theorem dX4_read_44 : decode cX4_read 44 = .ok (.ifCond .ne 31, 3) := by decide +kernel
theorem dX4_read_47 : decode cX4_read 47 = .ok (.aload_n 0, 1) := by decide +kernel
theorem dX4_read_48 : decode cX4_read 48 = .ok (.getfield 21, 3) := by decide +kernel
theorem dX4_read_51 : decode cX4_read 51 = .ok (.getstatic 15, 3) := by decide +kernel
theorem dX4_read_54 : decode cX4_read 54 = .ok (.if_acmp .eq 21, 3) := by decide +kernel
theorem dX4_read_57 : decode cX4_read 57 = .ok (.aload_n 0, 1) := by decide +kernel
theorem dX4_read_58 : decode cX4_read 58 = .ok (.getfield 21, 3) := by decide +kernel
theorem dX4_read_61 : decode cX4_read 61 = .ok (.getstatic 48, 3) := by decide +kernel
theorem dX4_read_64 : decode cX4_read 64 = .ok (.if_acmp .eq 11, 3) := by decide +kernel
theorem dX4_read_67 : decode cX4_read 67 = .ok (.aload_n 0, 1) := by decide +kernel
theorem dX4_read_68 : decode cX4_read 68 = .ok (.getfield 32, 3) := by decide +kernel
theorem dX4_read_71 : decode cX4_read 71 = .ok (.iconst 1, 1) := by decide +kernel
theorem dX4_read_72 : decode cX4_read 72 = .ok (.invokevirtual 51, 3) := by decide +kernel
theorem dX4_read_75 : decode cX4_read 75 = .ok (.aload_n 0, 1) := by decide +kernel
theorem dX4_read_76 : decode cX4_read 76 = .ok (.getfield 32, 3) := by decide +kernel
theorem dX4_read_79 : decode cX4_read 79 = .ok (.invokevirtual 55, 3) := by decide +kernel
theorem dX4_read_82 : decode cX4_read 82 = .ok (.pop, 1) := by decide +kernel
theorem dX4_read_83 : decode cX4_read 83 = .ok (.aload_n 0, 1) := by decide +kernel
theorem dX4_read_84 : decode cX4_read 84 = .ok (.getfield 32, 3) := by decide +kernel
theorem dX4_read_87 : decode cX4_read 87 = .ok (.getstatic 59, 3) := by decide +kernel
theorem dX4_read_90 : decode cX4_read 90 = .ok (.invokevirtual 62, 3) := by decide +kernel
theorem dX4_read_93 : decode cX4_read 93 = .ok (.aload_n 0, 1) := by decide +kernel
theorem dX4_read_94 : decode cX4_read 94 = .ok (.aload_n 0, 1) := by decide +kernel
theorem dX4_read_95 : decode cX4_read 95 = .ok (.getfield 32, 3) := by decide +kernel
theorem dX4_read_98 : decode cX4_read 98 = .ok (.invokevirtual 66, 3) := by decide +kernel
theorem dX4_read_101 : decode cX4_read 101 = .ok (.putfield 28, 3) := by decide +kernel
theorem dX4_read_104 : decode cX4_read 104 = .ok (.aload_n 0, 1) := by decide +kernel
theorem dX4_read_105 : decode cX4_read 105 = .ok (.iconst 0, 1) := by decide +kernel
theorem dX4_read_106 : decode cX4_read 106 = .ok (.invokevirtual 69, 3) := by decide +kernel
theorem dX4_read_109 : decode cX4_read 109 = .ok (.pop, 1) := by decide +kernel
theorem dX4_read_110 : decode cX4_read 110 = .ok (.aload_n 0, 1) := by decide +kernel
theorem dX4_read_111 : decode cX4_read 111 = .ok (.getfield 32, 3) := by decide +kernel
theorem dX4_read_114 : decode cX4_read 114 = .ok (.getstatic 73, 3) := by decide +kernel
theorem dX4_read_117 : decode cX4_read 117 = .ok (.invokevirtual 62, 3) := by decide +kernel
theorem dX4_read_120 : decode cX4_read 120 = .ok (.return_, 1) := by decide +kernel
set_option maxRecDepth 20000 in
theorem ggX4_tellLife_X1_birthOf : GoodIn wsX4_tellLife wsX1_birthOf := goodIn_r _ [8, 9, 36] (by decide +kernel) (by decide +kernel)
set_option maxRecDepth 20000 in
theorem gX4_tellLife_X1_birthOf : GoodIn wsX4_tellLife (wsV RX4 76 RX1 yX1_birthOf wsX1_birthOf) := goodIn_app (goodIn_of _ (by decide +kernel)) ggX4_tellLife_X1_birthOf
set_option maxRecDepth 20000 in
theorem ggX4_tellLife_X1_deathOf : GoodIn wsX4_tellLife wsX1_deathOf := goodIn_r _ [13, 9, 36] (by decide +kernel) (by decide +kernel)
set_option maxRecDepth 20000 in
theorem gX4_tellLife_X1_deathOf : GoodIn wsX4_tellLife (wsV RX4 82 RX1 yX1_deathOf wsX1_deathOf) := goodIn_app (goodIn_of _ (by decide +kernel)) ggX4_tellLife_X1_deathOf
set_option maxRecDepth 20000 in
theorem ggX4_tellLife_X1_numberOf : GoodIn wsX4_tellLife wsX1_numberOf := goodIn_r _ [17, 9, 36] (by decide +kernel) (by decide +kernel)
set_option maxRecDepth 20000 in
theorem gX4_tellLife_X1_numberOf : GoodIn wsX4_tellLife (wsV RX4 85 RX1 yX1_numberOf wsX1_numberOf) := goodIn_app (goodIn_of _ (by decide +kernel)) ggX4_tellLife_X1_numberOf
set_option maxRecDepth 20000 in
theorem ggX4_tellLife_X1_worthOf : GoodIn wsX4_tellLife wsX1_worthOf := goodIn_r _ [21, 9, 36] (by decide +kernel) (by decide +kernel)
set_option maxRecDepth 20000 in
theorem gX4_tellLife_X1_worthOf : GoodIn wsX4_tellLife (wsV RX4 88 RX1 yX1_worthOf wsX1_worthOf) := goodIn_app (goodIn_of _ (by decide +kernel)) ggX4_tellLife_X1_worthOf
set_option maxRecDepth 20000 in
theorem ggX4_tellLife_X7_piecesOf : GoodIn wsX4_tellLife wsX7_piecesOf := goodIn_r _ [24] (by decide +kernel) (by decide +kernel)
set_option maxRecDepth 20000 in
theorem gX4_tellLife_X7_piecesOf_n91 : GoodIn wsX4_tellLife (wsX7_piecesOf) := ggX4_tellLife_X7_piecesOf
set_option maxRecDepth 20000 in
theorem ggX4_tellLife_X6_goTo : GoodIn wsX4_tellLife wsX6_goTo := goodIn_r _ [29, 30, 37, 38, 39, 40, 41, 42, 43, 44, 45] (by decide +kernel) (by decide +kernel)
set_option maxRecDepth 20000 in
theorem gX4_tellLife_X6_goTo : GoodIn wsX4_tellLife (wsV RX4 95 RX6 yX6_goTo wsX6_goTo) := goodIn_app (goodIn_of _ (by decide +kernel)) ggX4_tellLife_X6_goTo
theorem dX4_tellLife_0 : decode cX4_tellLife 0 = .ok (.aload_n 1, 1) := by decide +kernel
theorem dX4_tellLife_1 : decode cX4_tellLife 1 = .ok (.ifnonnull 4, 3) := by decide +kernel
theorem dX4_tellLife_4 : decode cX4_tellLife 4 = .ok (.return_, 1) := by decide +kernel
theorem dX4_tellLife_5 : decode cX4_tellLife 5 = .ok (.aload_n 1, 1) := by decide +kernel
theorem dX4_tellLife_6 : decode cX4_tellLife 6 = .ok (.iload_n 2, 1) := by decide +kernel
theorem dX4_tellLife_7 : decode cX4_tellLife 7 = .ok (.invokevirtual 76, 3) := by decide +kernel
theorem dX4_tellLife_10 : decode cX4_tellLife 10 = .ok (.istore_n 3, 1) := by decide +kernel
theorem dX4_tellLife_11 : decode cX4_tellLife 11 = .ok (.aload_n 1, 1) := by decide +kernel
theorem dX4_tellLife_12 : decode cX4_tellLife 12 = .ok (.iload_n 2, 1) := by decide +kernel
theorem dX4_tellLife_13 : decode cX4_tellLife 13 = .ok (.invokevirtual 82, 3) := by decide +kernel
theorem dX4_tellLife_16 : decode cX4_tellLife 16 = .ok (.istore 4, 2) := by decide +kernel
theorem dX4_tellLife_18 : decode cX4_tellLife 18 = .ok (.aload_n 0, 1) := by decide +kernel
theorem dX4_tellLife_19 : decode cX4_tellLife 19 = .ok (.getfield 11, 3) := by decide +kernel
theorem dX4_tellLife_22 : decode cX4_tellLife 22 = .ok (.iconst 0, 1) := by decide +kernel
theorem dX4_tellLife_23 : decode cX4_tellLife 23 = .ok (.aload_n 1, 1) := by decide +kernel
theorem dX4_tellLife_24 : decode cX4_tellLife 24 = .ok (.iload_n 2, 1) := by decide +kernel
theorem dX4_tellLife_25 : decode cX4_tellLife 25 = .ok (.invokevirtual 85, 3) := by decide +kernel
theorem dX4_tellLife_28 : decode cX4_tellLife 28 = .ok (.iastore, 1) := by decide +kernel
theorem dX4_tellLife_29 : decode cX4_tellLife 29 = .ok (.aload_n 0, 1) := by decide +kernel
theorem dX4_tellLife_30 : decode cX4_tellLife 30 = .ok (.getfield 11, 3) := by decide +kernel
theorem dX4_tellLife_33 : decode cX4_tellLife 33 = .ok (.iconst 1, 1) := by decide +kernel
theorem dX4_tellLife_34 : decode cX4_tellLife 34 = .ok (.iload_n 3, 1) := by decide +kernel
theorem dX4_tellLife_35 : decode cX4_tellLife 35 = .ok (.iastore, 1) := by decide +kernel
theorem dX4_tellLife_36 : decode cX4_tellLife 36 = .ok (.aload_n 0, 1) := by decide +kernel
theorem dX4_tellLife_37 : decode cX4_tellLife 37 = .ok (.getfield 11, 3) := by decide +kernel
theorem dX4_tellLife_40 : decode cX4_tellLife 40 = .ok (.iconst 2, 1) := by decide +kernel
theorem dX4_tellLife_41 : decode cX4_tellLife 41 = .ok (.iload 4, 2) := by decide +kernel
theorem dX4_tellLife_43 : decode cX4_tellLife 43 = .ok (.iastore, 1) := by decide +kernel
theorem dX4_tellLife_44 : decode cX4_tellLife 44 = .ok (.aload_n 0, 1) := by decide +kernel
theorem dX4_tellLife_45 : decode cX4_tellLife 45 = .ok (.getfield 11, 3) := by decide +kernel
theorem dX4_tellLife_48 : decode cX4_tellLife 48 = .ok (.iconst 3, 1) := by decide +kernel
theorem dX4_tellLife_49 : decode cX4_tellLife 49 = .ok (.iload 4, 2) := by decide +kernel
theorem dX4_tellLife_51 : decode cX4_tellLife 51 = .ok (.iload_n 3, 1) := by decide +kernel
theorem dX4_tellLife_52 : decode cX4_tellLife 52 = .ok (.isub, 1) := by decide +kernel
theorem dX4_tellLife_53 : decode cX4_tellLife 53 = .ok (.iastore, 1) := by decide +kernel
theorem dX4_tellLife_54 : decode cX4_tellLife 54 = .ok (.aload_n 0, 1) := by decide +kernel
theorem dX4_tellLife_55 : decode cX4_tellLife 55 = .ok (.getfield 11, 3) := by decide +kernel
theorem dX4_tellLife_58 : decode cX4_tellLife 58 = .ok (.iconst 4, 1) := by decide +kernel
theorem dX4_tellLife_59 : decode cX4_tellLife 59 = .ok (.aload_n 1, 1) := by decide +kernel
theorem dX4_tellLife_60 : decode cX4_tellLife 60 = .ok (.iload_n 2, 1) := by decide +kernel
theorem dX4_tellLife_61 : decode cX4_tellLife 61 = .ok (.invokevirtual 88, 3) := by decide +kernel
theorem dX4_tellLife_64 : decode cX4_tellLife 64 = .ok (.iastore, 1) := by decide +kernel
theorem dX4_tellLife_65 : decode cX4_tellLife 65 = .ok (.aload_n 0, 1) := by decide +kernel
theorem dX4_tellLife_66 : decode cX4_tellLife 66 = .ok (.getfield 11, 3) := by decide +kernel
theorem dX4_tellLife_69 : decode cX4_tellLife 69 = .ok (.iconst 5, 1) := by decide +kernel
theorem dX4_tellLife_70 : decode cX4_tellLife 70 = .ok (.iload_n 3, 1) := by decide +kernel
theorem dX4_tellLife_71 : decode cX4_tellLife 71 = .ok (.iload 4, 2) := by decide +kernel
theorem dX4_tellLife_73 : decode cX4_tellLife 73 = .ok (.invokestatic 91, 3) := by decide +kernel
theorem dX4_tellLife_76 : decode cX4_tellLife 76 = .ok (.iastore, 1) := by decide +kernel
theorem dX4_tellLife_77 : decode cX4_tellLife 77 = .ok (.aload_n 0, 1) := by decide +kernel
theorem dX4_tellLife_78 : decode cX4_tellLife 78 = .ok (.getfield 32, 3) := by decide +kernel
theorem dX4_tellLife_81 : decode cX4_tellLife 81 = .ok (.aload_n 0, 1) := by decide +kernel
theorem dX4_tellLife_82 : decode cX4_tellLife 82 = .ok (.getfield 28, 3) := by decide +kernel
theorem dX4_tellLife_85 : decode cX4_tellLife 85 = .ok (.invokevirtual 95, 3) := by decide +kernel
theorem dX4_tellLife_88 : decode cX4_tellLife 88 = .ok (.return_, 1) := by decide +kernel
set_option maxRecDepth 20000 in
theorem ggX4_tellHour_X1_firstAt : GoodIn wsX4_tellHour wsX1_firstAt := goodIn_r _ [8, 9, 10, 11, 7, 12, 13, 14, 15, 16, 17, 18, 19, 20, 21, 22, 23, 24, 25, 26, 27, 28, 29, 58] (by decide +kernel) (by decide +kernel)
set_option maxRecDepth 20000 in
theorem gX4_tellHour_X1_firstAt : GoodIn wsX4_tellHour (wsV RX4 98 RX1 yX1_firstAt wsX1_firstAt) := goodIn_app (goodIn_of _ (by decide +kernel)) ggX4_tellHour_X1_firstAt
set_option maxRecDepth 20000 in
theorem ggX4_tellHour_X1_lastAt : GoodIn wsX4_tellHour wsX1_lastAt := goodIn_r _ [33, 9, 10, 11, 7, 12, 13, 14, 15, 16, 17, 18, 19, 20, 21, 22, 23, 24, 25, 26, 27, 28, 29, 58] (by decide +kernel) (by decide +kernel)
set_option maxRecDepth 20000 in
theorem gX4_tellHour_X1_lastAt : GoodIn wsX4_tellHour (wsV RX4 101 RX1 yX1_lastAt wsX1_lastAt) := goodIn_app (goodIn_of _ (by decide +kernel)) ggX4_tellHour_X1_lastAt
set_option maxRecDepth 20000 in
theorem ggX4_tellHour_X1_countAt : GoodIn wsX4_tellHour wsX1_countAt := goodIn_r _ [37, 9, 10, 11, 7, 12, 13, 18, 19, 20, 21, 22, 23, 24, 25, 26, 27, 28, 29, 58] (by decide +kernel) (by decide +kernel)
set_option maxRecDepth 20000 in
theorem gX4_tellHour_X1_countAt : GoodIn wsX4_tellHour (wsV RX4 104 RX1 yX1_countAt wsX1_countAt) := goodIn_app (goodIn_of _ (by decide +kernel)) ggX4_tellHour_X1_countAt
set_option maxRecDepth 20000 in
theorem ggX4_tellHour_X1_worthsAt : GoodIn wsX4_tellHour wsX1_worthsAt := goodIn_r _ [41, 9, 10, 11, 7, 12, 13, 18, 19, 20, 21, 22, 23, 24, 25, 26, 27, 28, 29, 14, 15, 16, 17, 42, 43, 44, 45, 58] (by decide +kernel) (by decide +kernel)
set_option maxRecDepth 20000 in
theorem gX4_tellHour_X1_worthsAt : GoodIn wsX4_tellHour (wsV RX4 107 RX1 yX1_worthsAt wsX1_worthsAt) := goodIn_app (goodIn_of _ (by decide +kernel)) ggX4_tellHour_X1_worthsAt
set_option maxRecDepth 20000 in
theorem ggX4_tellHour_X1_numberOf : GoodIn wsX4_tellHour wsX1_numberOf := goodIn_r _ [17, 13, 58] (by decide +kernel) (by decide +kernel)
set_option maxRecDepth 20000 in
theorem gX4_tellHour_X1_numberOf : GoodIn wsX4_tellHour (wsV RX4 85 RX1 yX1_numberOf wsX1_numberOf) := goodIn_app (goodIn_of _ (by decide +kernel)) ggX4_tellHour_X1_numberOf
set_option maxRecDepth 20000 in
theorem ggX4_tellHour_X6_goTo : GoodIn wsX4_tellHour wsX6_goTo := goodIn_r _ [51, 52, 59, 60, 61, 62, 63, 64, 65, 66, 67] (by decide +kernel) (by decide +kernel)
set_option maxRecDepth 20000 in
theorem gX4_tellHour_X6_goTo : GoodIn wsX4_tellHour (wsV RX4 95 RX6 yX6_goTo wsX6_goTo) := goodIn_app (goodIn_of _ (by decide +kernel)) ggX4_tellHour_X6_goTo
theorem dX4_tellHour_0 : decode cX4_tellHour 0 = .ok (.aload_n 1, 1) := by decide +kernel
theorem dX4_tellHour_1 : decode cX4_tellHour 1 = .ok (.ifnonnull 4, 3) := by decide +kernel
theorem dX4_tellHour_4 : decode cX4_tellHour 4 = .ok (.return_, 1) := by decide +kernel
theorem dX4_tellHour_5 : decode cX4_tellHour 5 = .ok (.aload_n 1, 1) := by decide +kernel
theorem dX4_tellHour_6 : decode cX4_tellHour 6 = .ok (.iload_n 2, 1) := by decide +kernel
theorem dX4_tellHour_7 : decode cX4_tellHour 7 = .ok (.iconst 0, 1) := by decide +kernel
theorem dX4_tellHour_8 : decode cX4_tellHour 8 = .ok (.invokevirtual 98, 3) := by decide +kernel
theorem dX4_tellHour_11 : decode cX4_tellHour 11 = .ok (.istore_n 3, 1) := by decide +kernel
theorem dX4_tellHour_12 : decode cX4_tellHour 12 = .ok (.aload_n 1, 1) := by decide +kernel
theorem dX4_tellHour_13 : decode cX4_tellHour 13 = .ok (.iload_n 2, 1) := by decide +kernel
theorem dX4_tellHour_14 : decode cX4_tellHour 14 = .ok (.sipush 999, 3) := by decide +kernel
theorem dX4_tellHour_17 : decode cX4_tellHour 17 = .ok (.invokevirtual 101, 3) := by decide +kernel
theorem dX4_tellHour_20 : decode cX4_tellHour 20 = .ok (.istore 4, 2) := by decide +kernel
theorem dX4_tellHour_22 : decode cX4_tellHour 22 = .ok (.aload_n 0, 1) := by decide +kernel
theorem dX4_tellHour_23 : decode cX4_tellHour 23 = .ok (.getfield 11, 3) := by decide +kernel
theorem dX4_tellHour_26 : decode cX4_tellHour 26 = .ok (.iconst 0, 1) := by decide +kernel
theorem dX4_tellHour_27 : decode cX4_tellHour 27 = .ok (.iload_n 2, 1) := by decide +kernel
theorem dX4_tellHour_28 : decode cX4_tellHour 28 = .ok (.iastore, 1) := by decide +kernel
theorem dX4_tellHour_29 : decode cX4_tellHour 29 = .ok (.aload_n 0, 1) := by decide +kernel
theorem dX4_tellHour_30 : decode cX4_tellHour 30 = .ok (.getfield 11, 3) := by decide +kernel
theorem dX4_tellHour_33 : decode cX4_tellHour 33 = .ok (.iconst 1, 1) := by decide +kernel
theorem dX4_tellHour_34 : decode cX4_tellHour 34 = .ok (.aload_n 1, 1) := by decide +kernel
theorem dX4_tellHour_35 : decode cX4_tellHour 35 = .ok (.iload_n 2, 1) := by decide +kernel
theorem dX4_tellHour_36 : decode cX4_tellHour 36 = .ok (.invokevirtual 104, 3) := by decide +kernel
theorem dX4_tellHour_39 : decode cX4_tellHour 39 = .ok (.iastore, 1) := by decide +kernel
theorem dX4_tellHour_40 : decode cX4_tellHour 40 = .ok (.aload_n 0, 1) := by decide +kernel
theorem dX4_tellHour_41 : decode cX4_tellHour 41 = .ok (.getfield 11, 3) := by decide +kernel
theorem dX4_tellHour_44 : decode cX4_tellHour 44 = .ok (.iconst 2, 1) := by decide +kernel
theorem dX4_tellHour_45 : decode cX4_tellHour 45 = .ok (.aload_n 1, 1) := by decide +kernel
theorem dX4_tellHour_46 : decode cX4_tellHour 46 = .ok (.iload_n 2, 1) := by decide +kernel
theorem dX4_tellHour_47 : decode cX4_tellHour 47 = .ok (.iconst 0, 1) := by decide +kernel
theorem dX4_tellHour_48 : decode cX4_tellHour 48 = .ok (.sipush 999, 3) := by decide +kernel
theorem dX4_tellHour_51 : decode cX4_tellHour 51 = .ok (.invokevirtual 107, 3) := by decide +kernel
theorem dX4_tellHour_54 : decode cX4_tellHour 54 = .ok (.iastore, 1) := by decide +kernel
theorem dX4_tellHour_55 : decode cX4_tellHour 55 = .ok (.aload_n 0, 1) := by decide +kernel
theorem dX4_tellHour_56 : decode cX4_tellHour 56 = .ok (.getfield 11, 3) := by decide +kernel
theorem dX4_tellHour_59 : decode cX4_tellHour 59 = .ok (.iconst 3, 1) := by decide +kernel
theorem dX4_tellHour_60 : decode cX4_tellHour 60 = .ok (.iload_n 3, 1) := by decide +kernel
theorem dX4_tellHour_61 : decode cX4_tellHour 61 = .ok (.ifCond .ge 7, 3) := by decide +kernel
theorem dX4_tellHour_64 : decode cX4_tellHour 64 = .ok (.iconst (-1), 1) := by decide +kernel
theorem dX4_tellHour_65 : decode cX4_tellHour 65 = .ok (.goto 8, 3) := by decide +kernel
theorem dX4_tellHour_68 : decode cX4_tellHour 68 = .ok (.aload_n 1, 1) := by decide +kernel
theorem dX4_tellHour_69 : decode cX4_tellHour 69 = .ok (.iload_n 3, 1) := by decide +kernel
theorem dX4_tellHour_70 : decode cX4_tellHour 70 = .ok (.invokevirtual 85, 3) := by decide +kernel
theorem dX4_tellHour_73 : decode cX4_tellHour 73 = .ok (.iastore, 1) := by decide +kernel
theorem dX4_tellHour_74 : decode cX4_tellHour 74 = .ok (.aload_n 0, 1) := by decide +kernel
theorem dX4_tellHour_75 : decode cX4_tellHour 75 = .ok (.getfield 11, 3) := by decide +kernel
theorem dX4_tellHour_78 : decode cX4_tellHour 78 = .ok (.iconst 4, 1) := by decide +kernel
theorem dX4_tellHour_79 : decode cX4_tellHour 79 = .ok (.iload 4, 2) := by decide +kernel
theorem dX4_tellHour_81 : decode cX4_tellHour 81 = .ok (.ifCond .ge 7, 3) := by decide +kernel
theorem dX4_tellHour_84 : decode cX4_tellHour 84 = .ok (.iconst (-1), 1) := by decide +kernel
theorem dX4_tellHour_85 : decode cX4_tellHour 85 = .ok (.goto 9, 3) := by decide +kernel
theorem dX4_tellHour_88 : decode cX4_tellHour 88 = .ok (.aload_n 1, 1) := by decide +kernel
theorem dX4_tellHour_89 : decode cX4_tellHour 89 = .ok (.iload 4, 2) := by decide +kernel
theorem dX4_tellHour_91 : decode cX4_tellHour 91 = .ok (.invokevirtual 85, 3) := by decide +kernel
theorem dX4_tellHour_94 : decode cX4_tellHour 94 = .ok (.iastore, 1) := by decide +kernel
theorem dX4_tellHour_95 : decode cX4_tellHour 95 = .ok (.aload_n 0, 1) := by decide +kernel
theorem dX4_tellHour_96 : decode cX4_tellHour 96 = .ok (.getfield 32, 3) := by decide +kernel
theorem dX4_tellHour_99 : decode cX4_tellHour 99 = .ok (.aload_n 0, 1) := by decide +kernel
theorem dX4_tellHour_100 : decode cX4_tellHour 100 = .ok (.getfield 28, 3) := by decide +kernel
theorem dX4_tellHour_103 : decode cX4_tellHour 103 = .ok (.invokevirtual 95, 3) := by decide +kernel
theorem dX4_tellHour_106 : decode cX4_tellHour 106 = .ok (.return_, 1) := by decide +kernel
set_option maxRecDepth 20000 in
theorem ggX4_condHolds_X4_factHolds : GoodIn wsX4_condHolds wsX4_factHolds := goodIn_r _ [27, 1, 28, 29, 30, 31, 14, 15, 11, 16, 17, 18, 19, 20, 21, 32, 33, 34, 7, 35, 36, 37, 38, 39, 40, 41, 42, 43, 44, 45, 46, 47, 48, 49, 50, 51, 52, 53, 54, 23, 24, 25, 26, 55, 56, 57, 58, 59, 60, 8, 9, 10, 12, 13, 22, 4, 5, 6, 61, 62, 63, 64, 65, 66, 67, 68, 69, 0, 2, 3, 70, 71, 72, 73, 74, 75, 76, 77, 78, 79, 80, 81, 82, 83] (by decide +kernel) (by decide +kernel)
set_option maxRecDepth 20000 in
theorem gX4_condHolds_X4_factHolds : GoodIn wsX4_condHolds (wsV RX4 111 RX4 yX4_factHolds wsX4_factHolds) := goodIn_app (goodIn_of _ (by decide +kernel)) ggX4_condHolds_X4_factHolds
set_option maxRecDepth 20000 in
theorem ggX4_condHolds_X6_takes : GoodIn wsX4_condHolds wsX6_takes := goodIn_r _ [12, 13, 14, 15, 11, 16, 17, 18, 19, 20, 21, 22, 23, 24, 25, 26, 75, 76, 77, 78, 79, 80, 81, 82, 83] (by decide +kernel) (by decide +kernel)
set_option maxRecDepth 20000 in
theorem gX4_condHolds_X6_takes : GoodIn wsX4_condHolds (wsV RX4 117 RX6 yX6_takes wsX6_takes) := goodIn_app (goodIn_of _ (by decide +kernel)) ggX4_condHolds_X6_takes
theorem dX4_condHolds_0 : decode cX4_condHolds 0 = .ok (.iconst 0, 1) := by decide +kernel
theorem dX4_condHolds_1 : decode cX4_condHolds 1 = .ok (.istore_n 2, 1) := by decide +kernel
theorem dX4_condHolds_2 : decode cX4_condHolds 2 = .ok (.aload_n 0, 1) := by decide +kernel
theorem dX4_condHolds_3 : decode cX4_condHolds 3 = .ok (.iload_n 1, 1) := by decide +kernel
theorem dX4_condHolds_4 : decode cX4_condHolds 4 = .ok (.invokevirtual 111, 3) := by decide +kernel
theorem dX4_condHolds_7 : decode cX4_condHolds 7 = .ok (.istore_n 3, 1) := by decide +kernel
theorem dX4_condHolds_8 : decode cX4_condHolds 8 = .ok (.iconst 0, 1) := by decide +kernel
theorem dX4_condHolds_9 : decode cX4_condHolds 9 = .ok (.istore 4, 2) := by decide +kernel
theorem dX4_condHolds_11 : decode cX4_condHolds 11 = .ok (.iload 4, 2) := by decide +kernel
theorem dX4_condHolds_13 : decode cX4_condHolds 13 = .ok (.sipush 600, 3) := by decide +kernel
theorem dX4_condHolds_16 : decode cX4_condHolds 16 = .ok (.if_icmp .ge 56, 3) := by decide +kernel
theorem dX4_condHolds_19 : decode cX4_condHolds 19 = .ok (.aload_n 0, 1) := by decide +kernel
theorem dX4_condHolds_20 : decode cX4_condHolds 20 = .ok (.getfield 32, 3) := by decide +kernel
theorem dX4_condHolds_23 : decode cX4_condHolds 23 = .ok (.getstatic 114, 3) := by decide +kernel
theorem dX4_condHolds_26 : decode cX4_condHolds 26 = .ok (.invokevirtual 117, 3) := by decide +kernel
theorem dX4_condHolds_29 : decode cX4_condHolds 29 = .ok (.ifCond .eq 14, 3) := by decide +kernel
theorem dX4_condHolds_32 : decode cX4_condHolds 32 = .ok (.iload_n 3, 1) := by decide +kernel
theorem dX4_condHolds_33 : decode cX4_condHolds 33 = .ok (.aload_n 0, 1) := by decide +kernel
theorem dX4_condHolds_34 : decode cX4_condHolds 34 = .ok (.iload_n 1, 1) := by decide +kernel
theorem dX4_condHolds_35 : decode cX4_condHolds 35 = .ok (.invokevirtual 111, 3) := by decide +kernel
theorem dX4_condHolds_38 : decode cX4_condHolds 38 = .ok (.iand, 1) := by decide +kernel
theorem dX4_condHolds_39 : decode cX4_condHolds 39 = .ok (.istore_n 3, 1) := by decide +kernel
theorem dX4_condHolds_40 : decode cX4_condHolds 40 = .ok (.goto 26, 3) := by decide +kernel
theorem dX4_condHolds_43 : decode cX4_condHolds 43 = .ok (.aload_n 0, 1) := by decide +kernel
theorem dX4_condHolds_44 : decode cX4_condHolds 44 = .ok (.getfield 32, 3) := by decide +kernel
theorem dX4_condHolds_47 : decode cX4_condHolds 47 = .ok (.getstatic 121, 3) := by decide +kernel
theorem dX4_condHolds_50 : decode cX4_condHolds 50 = .ok (.invokevirtual 117, 3) := by decide +kernel
theorem dX4_condHolds_53 : decode cX4_condHolds 53 = .ok (.ifCond .eq 19, 3) := by decide +kernel
theorem dX4_condHolds_56 : decode cX4_condHolds 56 = .ok (.iload_n 2, 1) := by decide +kernel
theorem dX4_condHolds_57 : decode cX4_condHolds 57 = .ok (.iload_n 3, 1) := by decide +kernel
theorem dX4_condHolds_58 : decode cX4_condHolds 58 = .ok (.ior, 1) := by decide +kernel
theorem dX4_condHolds_59 : decode cX4_condHolds 59 = .ok (.istore_n 2, 1) := by decide +kernel
theorem dX4_condHolds_60 : decode cX4_condHolds 60 = .ok (.aload_n 0, 1) := by decide +kernel
theorem dX4_condHolds_61 : decode cX4_condHolds 61 = .ok (.iload_n 1, 1) := by decide +kernel
theorem dX4_condHolds_62 : decode cX4_condHolds 62 = .ok (.invokevirtual 111, 3) := by decide +kernel
theorem dX4_condHolds_65 : decode cX4_condHolds 65 = .ok (.istore_n 3, 1) := by decide +kernel
theorem dX4_condHolds_66 : decode cX4_condHolds 66 = .ok (.iinc 4 1, 3) := by decide +kernel
theorem dX4_condHolds_69 : decode cX4_condHolds 69 = .ok (.goto (-58), 3) := by decide +kernel
theorem dX4_condHolds_72 : decode cX4_condHolds 72 = .ok (.iload_n 2, 1) := by decide +kernel
theorem dX4_condHolds_73 : decode cX4_condHolds 73 = .ok (.ifCond .ne 7, 3) := by decide +kernel
theorem dX4_condHolds_76 : decode cX4_condHolds 76 = .ok (.iload_n 3, 1) := by decide +kernel
theorem dX4_condHolds_77 : decode cX4_condHolds 77 = .ok (.ifCond .eq 7, 3) := by decide +kernel
theorem dX4_condHolds_80 : decode cX4_condHolds 80 = .ok (.iconst 1, 1) := by decide +kernel
theorem dX4_condHolds_81 : decode cX4_condHolds 81 = .ok (.goto 4, 3) := by decide +kernel
theorem dX4_condHolds_84 : decode cX4_condHolds 84 = .ok (.iconst 0, 1) := by decide +kernel
theorem dX4_condHolds_85 : decode cX4_condHolds 85 = .ok (.ireturn, 1) := by decide +kernel
set_option maxRecDepth 20000 in
theorem ggX4_factHolds_X6_sign : GoodIn wsX4_factHolds wsX6_sign := goodIn_r _ [9, 10, 11, 12, 13, 14, 75, 76, 77, 78, 79, 80, 81, 82, 83] (by decide +kernel) (by decide +kernel)
set_option maxRecDepth 20000 in
theorem gX4_factHolds_X6_sign : GoodIn wsX4_factHolds (wsV RX4 36 RX6 yX6_sign wsX6_sign) := goodIn_app (goodIn_of _ (by decide +kernel)) ggX4_factHolds_X6_sign
set_option maxRecDepth 20000 in
theorem ggX4_factHolds_X4_comparisonHolds : GoodIn wsX4_factHolds wsX4_comparisonHolds := goodIn_r _ [19, 1, 20, 21, 22, 23, 24, 25, 18, 26, 27, 28, 29, 30, 31, 32, 33, 34, 35, 36, 37, 5, 6, 7, 8, 9, 10, 11, 12, 13, 14, 38, 39, 40, 41, 42, 43, 44, 45, 46, 47, 48, 49, 50, 51, 52, 53, 54, 70, 71, 72, 73, 74, 75, 76, 77, 78, 79, 80, 81, 82, 83] (by decide +kernel) (by decide +kernel)
set_option maxRecDepth 20000 in
theorem gX4_factHolds_X4_comparisonHolds : GoodIn wsX4_factHolds (wsV RX4 130 RX4 yX4_comparisonHolds wsX4_comparisonHolds) := goodIn_app (goodIn_of _ (by decide +kernel)) ggX4_factHolds_X4_comparisonHolds
set_option maxRecDepth 20000 in
theorem ggX4_factHolds_X6_fail : GoodIn wsX4_factHolds wsX6_fail := goodIn_r _ [46, 10, 11, 47, 48, 75, 76, 77, 78, 79, 80, 81, 82, 83] (by decide +kernel) (by decide +kernel)
set_option maxRecDepth 20000 in
theorem gX4_factHolds_X6_fail : GoodIn wsX4_factHolds (wsV RX4 51 RX6 yX6_fail wsX6_fail) := goodIn_app (goodIn_of _ (by decide +kernel)) ggX4_factHolds_X6_fail
set_option maxRecDepth 20000 in
theorem ggX4_factHolds_X6_pass : GoodIn wsX4_factHolds wsX6_pass := goodIn_r _ [41, 11, 12, 42, 75, 76, 77, 78, 79, 80, 81, 82, 83] (by decide +kernel) (by decide +kernel)
set_option maxRecDepth 20000 in
theorem gX4_factHolds_X6_pass : GoodIn wsX4_factHolds (wsV RX4 55 RX6 yX6_pass wsX6_pass) := goodIn_app (goodIn_of _ (by decide +kernel)) ggX4_factHolds_X6_pass
set_option maxRecDepth 20000 in
theorem ggX4_factHolds_X4_factHolds : GoodIn wsX4_factHolds wsX4_factHolds := goodIn_r _ [0, 1, 2, 3, 4, 5, 6, 7, 8, 9, 10, 11, 12, 13, 14, 15, 16, 17, 18, 19, 20, 21, 22, 23, 24, 25, 26, 27, 28, 29, 30, 31, 32, 33, 34, 35, 36, 37, 38, 39, 40, 41, 42, 43, 44, 45, 46, 47, 48, 49, 50, 51, 52, 53, 54, 55, 56, 57, 58, 59, 60, 61, 62, 63, 64, 65, 66, 67, 68, 69, 70, 71, 72, 73, 74, 75, 76, 77, 78, 79, 80, 81, 82, 83] (by decide +kernel) (by decide +kernel)
set_option maxRecDepth 20000 in
theorem gX4_factHolds_X4_factHolds : GoodIn wsX4_factHolds (wsV RX4 111 RX4 yX4_factHolds wsX4_factHolds) := goodIn_app (goodIn_of _ (by decide +kernel)) ggX4_factHolds_X4_factHolds
set_option maxRecDepth 20000 in
theorem ggX4_factHolds_X4_condHolds : GoodIn wsX4_factHolds wsX4_condHolds := goodIn_r _ [67, 1, 68, 69, 55, 56, 57, 18, 49, 50, 51, 8, 52, 53, 6, 7, 9, 10, 11, 12, 13, 14, 54, 39, 40, 41, 42, 0, 2, 3, 4, 5, 15, 16, 17, 19, 20, 21, 22, 23, 24, 25, 26, 27, 28, 29, 30, 31, 32, 33, 34, 35, 36, 37, 38, 43, 44, 45, 46, 47, 48, 58, 59, 60, 61, 62, 63, 64, 65, 66, 70, 71, 72, 73, 74, 75, 76, 77, 78, 79, 80, 81, 82, 83] (by decide +kernel) (by decide +kernel)
set_option maxRecDepth 20000 in
theorem gX4_factHolds_X4_condHolds : GoodIn wsX4_factHolds (wsV RX4 69 RX4 yX4_condHolds wsX4_condHolds) := goodIn_app (goodIn_of _ (by decide +kernel)) ggX4_factHolds_X4_condHolds
set_option maxRecDepth 20000 in
theorem ggX4_factHolds_X6_expect : GoodIn wsX4_factHolds wsX6_expect := goodIn_r _ [64, 65, 50, 51, 8, 52, 53, 6, 7, 9, 10, 11, 12, 13, 14, 54, 39, 40, 41, 42, 66, 44, 45, 46, 47, 48, 75, 76, 77, 78, 79, 80, 81, 82, 83] (by decide +kernel) (by decide +kernel)
set_option maxRecDepth 20000 in
theorem gX4_factHolds_X6_expect : GoodIn wsX4_factHolds (wsV RX4 62 RX6 yX6_expect wsX6_expect) := goodIn_app (goodIn_of _ (by decide +kernel)) ggX4_factHolds_X6_expect
theorem dX4_factHolds_0 : decode cX4_factHolds 0 = .ok (.aload_n 0, 1) := by decide +kernel
theorem dX4_factHolds_1 : decode cX4_factHolds 1 = .ok (.getfield 32, 3) := by decide +kernel
theorem dX4_factHolds_4 : decode cX4_factHolds 4 = .ok (.invokevirtual 36, 3) := by decide +kernel
theorem dX4_factHolds_7 : decode cX4_factHolds 7 = .ok (.astore_n 2, 1) := by decide +kernel
theorem dX4_factHolds_8 : decode cX4_factHolds 8 = .ok (.aload_n 2, 1) := by decide +kernel
theorem dX4_factHolds_9 : decode cX4_factHolds 9 = .ok (.getstatic 124, 3) := by decide +kernel
theorem dX4_factHolds_12 : decode cX4_factHolds 12 = .ok (.if_acmp .eq 15, 3) := by decide +kernel
theorem dX4_factHolds_15 : decode cX4_factHolds 15 = .ok (.aload_n 2, 1) := by decide +kernel
theorem dX4_factHolds_16 : decode cX4_factHolds 16 = .ok (.getstatic 127, 3) := by decide +kernel
theorem dX4_factHolds_19 : decode cX4_factHolds 19 = .ok (.if_acmp .eq 8, 3) := by decide +kernel
theorem dX4_factHolds_22 : decode cX4_factHolds 22 = .ok (.aload_n 0, 1) := by decide +kernel
theorem dX4_factHolds_23 : decode cX4_factHolds 23 = .ok (.invokevirtual 130, 3) := by decide +kernel
theorem dX4_factHolds_26 : decode cX4_factHolds 26 = .ok (.ireturn, 1) := by decide +kernel
theorem dX4_factHolds_27 : decode cX4_factHolds 27 = .ok (.iload_n 1, 1) := by decide +kernel
theorem dX4_factHolds_28 : decode cX4_factHolds 28 = .ok (.iconst 5, 1) := by decide +kernel
theorem dX4_factHolds_29 : decode cX4_factHolds 29 = .ok (.if_icmp .lt 13, 3) := by decide +kernel
theorem dX4_factHolds_32 : decode cX4_factHolds 32 = .ok (.aload_n 0, 1) := by decide +kernel
theorem dX4_factHolds_33 : decode cX4_factHolds 33 = .ok (.getfield 32, 3) := by decide +kernel
theorem dX4_factHolds_36 : decode cX4_factHolds 36 = .ok (.iconst 2, 1) := by decide +kernel
theorem dX4_factHolds_37 : decode cX4_factHolds 37 = .ok (.invokevirtual 51, 3) := by decide +kernel
theorem dX4_factHolds_40 : decode cX4_factHolds 40 = .ok (.iconst 0, 1) := by decide +kernel
theorem dX4_factHolds_41 : decode cX4_factHolds 41 = .ok (.ireturn, 1) := by decide +kernel
theorem dX4_factHolds_42 : decode cX4_factHolds 42 = .ok (.aload_n 0, 1) := by decide +kernel
theorem dX4_factHolds_43 : decode cX4_factHolds 43 = .ok (.getfield 32, 3) := by decide +kernel
theorem dX4_factHolds_46 : decode cX4_factHolds 46 = .ok (.invokevirtual 55, 3) := by decide +kernel
theorem dX4_factHolds_49 : decode cX4_factHolds 49 = .ok (.pop, 1) := by decide +kernel
theorem dX4_factHolds_50 : decode cX4_factHolds 50 = .ok (.aload_n 2, 1) := by decide +kernel
theorem dX4_factHolds_51 : decode cX4_factHolds 51 = .ok (.getstatic 124, 3) := by decide +kernel
theorem dX4_factHolds_54 : decode cX4_factHolds 54 = .ok (.if_acmp .ne 19, 3) := by decide +kernel
theorem dX4_factHolds_57 : decode cX4_factHolds 57 = .ok (.aload_n 0, 1) := by decide +kernel
theorem dX4_factHolds_58 : decode cX4_factHolds 58 = .ok (.iload_n 1, 1) := by decide +kernel
theorem dX4_factHolds_59 : decode cX4_factHolds 59 = .ok (.iconst 1, 1) := by decide +kernel
theorem dX4_factHolds_60 : decode cX4_factHolds 60 = .ok (.iadd, 1) := by decide +kernel
theorem dX4_factHolds_61 : decode cX4_factHolds 61 = .ok (.invokevirtual 111, 3) := by decide +kernel
theorem dX4_factHolds_64 : decode cX4_factHolds 64 = .ok (.ifCond .ne 7, 3) := by decide +kernel
theorem dX4_factHolds_67 : decode cX4_factHolds 67 = .ok (.iconst 1, 1) := by decide +kernel
theorem dX4_factHolds_68 : decode cX4_factHolds 68 = .ok (.goto 4, 3) := by decide +kernel
theorem dX4_factHolds_71 : decode cX4_factHolds 71 = .ok (.iconst 0, 1) := by decide +kernel
theorem dX4_factHolds_72 : decode cX4_factHolds 72 = .ok (.ireturn, 1) := by decide +kernel
theorem dX4_factHolds_73 : decode cX4_factHolds 73 = .ok (.aload_n 0, 1) := by decide +kernel
theorem dX4_factHolds_74 : decode cX4_factHolds 74 = .ok (.iload_n 1, 1) := by decide +kernel
theorem dX4_factHolds_75 : decode cX4_factHolds 75 = .ok (.iconst 1, 1) := by decide +kernel
theorem dX4_factHolds_76 : decode cX4_factHolds 76 = .ok (.iadd, 1) := by decide +kernel
theorem dX4_factHolds_77 : decode cX4_factHolds 77 = .ok (.invokevirtual 69, 3) := by decide +kernel
theorem dX4_factHolds_80 : decode cX4_factHolds 80 = .ok (.istore_n 3, 1) := by decide +kernel
theorem dX4_factHolds_81 : decode cX4_factHolds 81 = .ok (.aload_n 0, 1) := by decide +kernel
theorem dX4_factHolds_82 : decode cX4_factHolds 82 = .ok (.getfield 32, 3) := by decide +kernel
theorem dX4_factHolds_85 : decode cX4_factHolds 85 = .ok (.getstatic 134, 3) := by decide +kernel
theorem dX4_factHolds_88 : decode cX4_factHolds 88 = .ok (.invokevirtual 62, 3) := by decide +kernel
theorem dX4_factHolds_91 : decode cX4_factHolds 91 = .ok (.iload_n 3, 1) := by decide +kernel
theorem dX4_factHolds_92 : decode cX4_factHolds 92 = .ok (.ireturn, 1) := by decide +kernel
set_option maxRecDepth 20000 in
theorem ggX4_comparisonHolds_X4_total : GoodIn wsX4_comparisonHolds wsX4_total := goodIn_r _ [9, 1, 10, 11, 12, 13, 14, 8, 15, 16, 17, 18, 19, 20, 21, 22, 23, 24, 25, 26, 27, 28, 29, 30, 31, 32, 33, 34, 35, 36, 37, 38, 39, 40, 41, 42, 43, 44, 45, 46, 47, 48, 49, 50, 51, 52, 53, 54, 55, 56, 57, 58, 59, 60, 61] (by decide +kernel) (by decide +kernel)
set_option maxRecDepth 20000 in
theorem gX4_comparisonHolds_X4_total : GoodIn wsX4_comparisonHolds (wsV RX4 137 RX4 yX4_total wsX4_total) := goodIn_app (goodIn_of _ (by decide +kernel)) ggX4_comparisonHolds_X4_total
set_option maxRecDepth 20000 in
theorem ggX4_comparisonHolds_X6_sign : GoodIn wsX4_comparisonHolds wsX6_sign := goodIn_r _ [25, 26, 27, 28, 29, 30, 53, 54, 55, 56, 57, 58, 59, 60, 61] (by decide +kernel) (by decide +kernel)
set_option maxRecDepth 20000 in
theorem gX4_comparisonHolds_X6_sign : GoodIn wsX4_comparisonHolds (wsV RX4 36 RX6 yX6_sign wsX6_sign) := goodIn_app (goodIn_of _ (by decide +kernel)) ggX4_comparisonHolds_X6_sign
set_option maxRecDepth 20000 in
theorem ggX4_comparisonHolds_X6_fail : GoodIn wsX4_comparisonHolds wsX6_fail := goodIn_r _ [39, 26, 27, 40, 41, 53, 54, 55, 56, 57, 58, 59, 60, 61] (by decide +kernel) (by decide +kernel)
set_option maxRecDepth 20000 in
theorem gX4_comparisonHolds_X6_fail : GoodIn wsX4_comparisonHolds (wsV RX4 51 RX6 yX6_fail wsX6_fail) := goodIn_app (goodIn_of _ (by decide +kernel)) ggX4_comparisonHolds_X6_fail
set_option maxRecDepth 20000 in
theorem ggX4_comparisonHolds_X6_pass : GoodIn wsX4_comparisonHolds wsX6_pass := goodIn_r _ [34, 27, 28, 35, 53, 54, 55, 56, 57, 58, 59, 60, 61] (by decide +kernel) (by decide +kernel)
set_option maxRecDepth 20000 in
theorem gX4_comparisonHolds_X6_pass : GoodIn wsX4_comparisonHolds (wsV RX4 55 RX6 yX6_pass wsX6_pass) := goodIn_app (goodIn_of _ (by decide +kernel)) ggX4_comparisonHolds_X6_pass
theorem dX4_comparisonHolds_0 : decode cX4_comparisonHolds 0 = .ok (.aload_n 0, 1) := by decide +kernel
theorem dX4_comparisonHolds_1 : decode cX4_comparisonHolds 1 = .ok (.invokevirtual 137, 3) := by decide +kernel
theorem dX4_comparisonHolds_4 : decode cX4_comparisonHolds 4 = .ok (.istore_n 1, 1) := by decide +kernel
theorem dX4_comparisonHolds_5 : decode cX4_comparisonHolds 5 = .ok (.aload_n 0, 1) := by decide +kernel
theorem dX4_comparisonHolds_6 : decode cX4_comparisonHolds 6 = .ok (.getfield 32, 3) := by decide +kernel
theorem dX4_comparisonHolds_9 : decode cX4_comparisonHolds 9 = .ok (.invokevirtual 36, 3) := by decide +kernel
theorem dX4_comparisonHolds_12 : decode cX4_comparisonHolds 12 = .ok (.astore_n 2, 1) := by decide +kernel
theorem dX4_comparisonHolds_13 : decode cX4_comparisonHolds 13 = .ok (.aload_n 2, 1) := by decide +kernel
theorem dX4_comparisonHolds_14 : decode cX4_comparisonHolds 14 = .ok (.getstatic 140, 3) := by decide +kernel
theorem dX4_comparisonHolds_17 : decode cX4_comparisonHolds 17 = .ok (.if_acmp .eq 27, 3) := by decide +kernel
theorem dX4_comparisonHolds_20 : decode cX4_comparisonHolds 20 = .ok (.aload_n 2, 1) := by decide +kernel
theorem dX4_comparisonHolds_21 : decode cX4_comparisonHolds 21 = .ok (.getstatic 143, 3) := by decide +kernel
theorem dX4_comparisonHolds_24 : decode cX4_comparisonHolds 24 = .ok (.if_acmp .eq 20, 3) := by decide +kernel
theorem dX4_comparisonHolds_27 : decode cX4_comparisonHolds 27 = .ok (.aload_n 2, 1) := by decide +kernel
theorem dX4_comparisonHolds_28 : decode cX4_comparisonHolds 28 = .ok (.getstatic 146, 3) := by decide +kernel
theorem dX4_comparisonHolds_31 : decode cX4_comparisonHolds 31 = .ok (.if_acmp .eq 13, 3) := by decide +kernel
theorem dX4_comparisonHolds_34 : decode cX4_comparisonHolds 34 = .ok (.aload_n 0, 1) := by decide +kernel
theorem dX4_comparisonHolds_35 : decode cX4_comparisonHolds 35 = .ok (.getfield 32, 3) := by decide +kernel
theorem dX4_comparisonHolds_38 : decode cX4_comparisonHolds 38 = .ok (.iconst 1, 1) := by decide +kernel
theorem dX4_comparisonHolds_39 : decode cX4_comparisonHolds 39 = .ok (.invokevirtual 51, 3) := by decide +kernel
theorem dX4_comparisonHolds_42 : decode cX4_comparisonHolds 42 = .ok (.iconst 0, 1) := by decide +kernel
theorem dX4_comparisonHolds_43 : decode cX4_comparisonHolds 43 = .ok (.ireturn, 1) := by decide +kernel
theorem dX4_comparisonHolds_44 : decode cX4_comparisonHolds 44 = .ok (.aload_n 0, 1) := by decide +kernel
theorem dX4_comparisonHolds_45 : decode cX4_comparisonHolds 45 = .ok (.getfield 32, 3) := by decide +kernel
theorem dX4_comparisonHolds_48 : decode cX4_comparisonHolds 48 = .ok (.invokevirtual 55, 3) := by decide +kernel
theorem dX4_comparisonHolds_51 : decode cX4_comparisonHolds 51 = .ok (.pop, 1) := by decide +kernel
theorem dX4_comparisonHolds_52 : decode cX4_comparisonHolds 52 = .ok (.aload_n 0, 1) := by decide +kernel
theorem dX4_comparisonHolds_53 : decode cX4_comparisonHolds 53 = .ok (.invokevirtual 137, 3) := by decide +kernel
theorem dX4_comparisonHolds_56 : decode cX4_comparisonHolds 56 = .ok (.istore_n 3, 1) := by decide +kernel
theorem dX4_comparisonHolds_57 : decode cX4_comparisonHolds 57 = .ok (.aload_n 2, 1) := by decide +kernel
theorem dX4_comparisonHolds_58 : decode cX4_comparisonHolds 58 = .ok (.getstatic 140, 3) := by decide +kernel
theorem dX4_comparisonHolds_61 : decode cX4_comparisonHolds 61 = .ok (.if_acmp .ne 14, 3) := by decide +kernel
theorem dX4_comparisonHolds_64 : decode cX4_comparisonHolds 64 = .ok (.iload_n 1, 1) := by decide +kernel
theorem dX4_comparisonHolds_65 : decode cX4_comparisonHolds 65 = .ok (.iload_n 3, 1) := by decide +kernel
theorem dX4_comparisonHolds_66 : decode cX4_comparisonHolds 66 = .ok (.if_icmp .ge 7, 3) := by decide +kernel
theorem dX4_comparisonHolds_69 : decode cX4_comparisonHolds 69 = .ok (.iconst 1, 1) := by decide +kernel
theorem dX4_comparisonHolds_70 : decode cX4_comparisonHolds 70 = .ok (.goto 4, 3) := by decide +kernel
theorem dX4_comparisonHolds_73 : decode cX4_comparisonHolds 73 = .ok (.iconst 0, 1) := by decide +kernel
theorem dX4_comparisonHolds_74 : decode cX4_comparisonHolds 74 = .ok (.ireturn, 1) := by decide +kernel
theorem dX4_comparisonHolds_75 : decode cX4_comparisonHolds 75 = .ok (.aload_n 2, 1) := by decide +kernel
theorem dX4_comparisonHolds_76 : decode cX4_comparisonHolds 76 = .ok (.getstatic 146, 3) := by decide +kernel
theorem dX4_comparisonHolds_79 : decode cX4_comparisonHolds 79 = .ok (.if_acmp .ne 16, 3) := by decide +kernel
theorem dX4_comparisonHolds_82 : decode cX4_comparisonHolds 82 = .ok (.iload_n 1, 1) := by decide +kernel
theorem dX4_comparisonHolds_83 : decode cX4_comparisonHolds 83 = .ok (.iload_n 3, 1) := by decide +kernel
theorem dX4_comparisonHolds_84 : decode cX4_comparisonHolds 84 = .ok (.if_icmp .le 7, 3) := by decide +kernel
theorem dX4_comparisonHolds_87 : decode cX4_comparisonHolds 87 = .ok (.iconst 1, 1) := by decide +kernel
theorem dX4_comparisonHolds_88 : decode cX4_comparisonHolds 88 = .ok (.goto 17, 3) := by decide +kernel
theorem dX4_comparisonHolds_91 : decode cX4_comparisonHolds 91 = .ok (.iconst 0, 1) := by decide +kernel
theorem dX4_comparisonHolds_92 : decode cX4_comparisonHolds 92 = .ok (.goto 13, 3) := by decide +kernel
theorem dX4_comparisonHolds_95 : decode cX4_comparisonHolds 95 = .ok (.iload_n 1, 1) := by decide +kernel
theorem dX4_comparisonHolds_96 : decode cX4_comparisonHolds 96 = .ok (.iload_n 3, 1) := by decide +kernel
theorem dX4_comparisonHolds_97 : decode cX4_comparisonHolds 97 = .ok (.if_icmp .ne 7, 3) := by decide +kernel
theorem dX4_comparisonHolds_100 : decode cX4_comparisonHolds 100 = .ok (.iconst 1, 1) := by decide +kernel
theorem dX4_comparisonHolds_101 : decode cX4_comparisonHolds 101 = .ok (.goto 4, 3) := by decide +kernel
theorem dX4_comparisonHolds_104 : decode cX4_comparisonHolds 104 = .ok (.iconst 0, 1) := by decide +kernel
theorem dX4_comparisonHolds_105 : decode cX4_comparisonHolds 105 = .ok (.ireturn, 1) := by decide +kernel
set_option maxRecDepth 20000 in
theorem ggX4_total_X4_value : GoodIn wsX4_total wsX4_value := goodIn_r _ [8, 1, 9, 10, 11, 12, 13, 14, 15, 16, 17, 18, 19, 20, 21, 22, 23, 24, 25, 26, 27, 28, 29, 30, 31, 32, 33, 34, 41, 42, 43, 44, 45, 46, 47, 48, 49, 50, 51, 52, 53, 54] (by decide +kernel) (by decide +kernel)
set_option maxRecDepth 20000 in
theorem gX4_total_X4_value : GoodIn wsX4_total (wsV RX4 149 RX4 yX4_value wsX4_value) := goodIn_app (goodIn_of _ (by decide +kernel)) ggX4_total_X4_value
set_option maxRecDepth 20000 in
theorem ggX4_total_X6_takes : GoodIn wsX4_total wsX6_takes := goodIn_r _ [38, 39, 15, 16, 17, 18, 19, 20, 21, 22, 23, 40, 25, 26, 27, 28, 46, 47, 48, 49, 50, 51, 52, 53, 54] (by decide +kernel) (by decide +kernel)
set_option maxRecDepth 20000 in
theorem gX4_total_X6_takes : GoodIn wsX4_total (wsV RX4 117 RX6 yX6_takes wsX6_takes) := goodIn_app (goodIn_of _ (by decide +kernel)) ggX4_total_X6_takes
theorem dX4_total_0 : decode cX4_total 0 = .ok (.aload_n 0, 1) := by decide +kernel
theorem dX4_total_1 : decode cX4_total 1 = .ok (.invokevirtual 149, 3) := by decide +kernel
theorem dX4_total_4 : decode cX4_total 4 = .ok (.istore_n 1, 1) := by decide +kernel
theorem dX4_total_5 : decode cX4_total 5 = .ok (.iconst 0, 1) := by decide +kernel
theorem dX4_total_6 : decode cX4_total 6 = .ok (.istore_n 2, 1) := by decide +kernel
theorem dX4_total_7 : decode cX4_total 7 = .ok (.iload_n 2, 1) := by decide +kernel
theorem dX4_total_8 : decode cX4_total 8 = .ok (.sipush 600, 3) := by decide +kernel
theorem dX4_total_11 : decode cX4_total 11 = .ok (.if_icmp .ge 52, 3) := by decide +kernel
theorem dX4_total_14 : decode cX4_total 14 = .ok (.aload_n 0, 1) := by decide +kernel
theorem dX4_total_15 : decode cX4_total 15 = .ok (.getfield 32, 3) := by decide +kernel
theorem dX4_total_18 : decode cX4_total 18 = .ok (.getstatic 152, 3) := by decide +kernel
theorem dX4_total_21 : decode cX4_total 21 = .ok (.invokevirtual 117, 3) := by decide +kernel
theorem dX4_total_24 : decode cX4_total 24 = .ok (.ifCond .eq 13, 3) := by decide +kernel
theorem dX4_total_27 : decode cX4_total 27 = .ok (.iload_n 1, 1) := by decide +kernel
theorem dX4_total_28 : decode cX4_total 28 = .ok (.aload_n 0, 1) := by decide +kernel
theorem dX4_total_29 : decode cX4_total 29 = .ok (.invokevirtual 149, 3) := by decide +kernel
theorem dX4_total_32 : decode cX4_total 32 = .ok (.iadd, 1) := by decide +kernel
theorem dX4_total_33 : decode cX4_total 33 = .ok (.istore_n 1, 1) := by decide +kernel
theorem dX4_total_34 : decode cX4_total 34 = .ok (.goto 23, 3) := by decide +kernel
theorem dX4_total_37 : decode cX4_total 37 = .ok (.aload_n 0, 1) := by decide +kernel
theorem dX4_total_38 : decode cX4_total 38 = .ok (.getfield 32, 3) := by decide +kernel
theorem dX4_total_41 : decode cX4_total 41 = .ok (.getstatic 155, 3) := by decide +kernel
theorem dX4_total_44 : decode cX4_total 44 = .ok (.invokevirtual 117, 3) := by decide +kernel
theorem dX4_total_47 : decode cX4_total 47 = .ok (.ifCond .eq 16, 3) := by decide +kernel
theorem dX4_total_50 : decode cX4_total 50 = .ok (.iload_n 1, 1) := by decide +kernel
theorem dX4_total_51 : decode cX4_total 51 = .ok (.aload_n 0, 1) := by decide +kernel
theorem dX4_total_52 : decode cX4_total 52 = .ok (.invokevirtual 149, 3) := by decide +kernel
theorem dX4_total_55 : decode cX4_total 55 = .ok (.isub, 1) := by decide +kernel
theorem dX4_total_56 : decode cX4_total 56 = .ok (.istore_n 1, 1) := by decide +kernel
theorem dX4_total_57 : decode cX4_total 57 = .ok (.iinc 2 1, 3) := by decide +kernel
theorem dX4_total_60 : decode cX4_total 60 = .ok (.goto (-53), 3) := by decide +kernel
theorem dX4_total_63 : decode cX4_total 63 = .ok (.iload_n 1, 1) := by decide +kernel
theorem dX4_total_64 : decode cX4_total 64 = .ok (.ireturn, 1) := by decide +kernel
set_option maxRecDepth 20000 in
theorem ggX4_value_X6_sign : GoodIn wsX4_value wsX6_sign := goodIn_r _ [11, 12, 13, 14, 15, 16, 33, 34, 35, 36, 37, 38, 39, 40, 41] (by decide +kernel) (by decide +kernel)
set_option maxRecDepth 20000 in
theorem gX4_value_X6_sign : GoodIn wsX4_value (wsV RX4 36 RX6 yX6_sign wsX6_sign) := goodIn_app (goodIn_of _ (by decide +kernel)) ggX4_value_X6_sign
set_option maxRecDepth 20000 in
theorem ggX4_value_X6_pass : GoodIn wsX4_value wsX6_pass := goodIn_r _ [20, 13, 14, 21, 33, 34, 35, 36, 37, 38, 39, 40, 41] (by decide +kernel) (by decide +kernel)
set_option maxRecDepth 20000 in
theorem gX4_value_X6_pass : GoodIn wsX4_value (wsV RX4 55 RX6 yX6_pass wsX6_pass) := goodIn_app (goodIn_of _ (by decide +kernel)) ggX4_value_X6_pass
set_option maxRecDepth 20000 in
theorem ggX4_value_X6_fail : GoodIn wsX4_value wsX6_fail := goodIn_r _ [25, 12, 13, 26, 27, 33, 34, 35, 36, 37, 38, 39, 40, 41] (by decide +kernel) (by decide +kernel)
set_option maxRecDepth 20000 in
theorem gX4_value_X6_fail : GoodIn wsX4_value (wsV RX4 51 RX6 yX6_fail wsX6_fail) := goodIn_app (goodIn_of _ (by decide +kernel)) ggX4_value_X6_fail
theorem dX4_value_0 : decode cX4_value 0 = .ok (.aload_n 0, 1) := by decide +kernel
theorem dX4_value_1 : decode cX4_value 1 = .ok (.getfield 32, 3) := by decide +kernel
theorem dX4_value_4 : decode cX4_value 4 = .ok (.invokevirtual 36, 3) := by decide +kernel
theorem dX4_value_7 : decode cX4_value 7 = .ok (.astore_n 1, 1) := by decide +kernel
theorem dX4_value_8 : decode cX4_value 8 = .ok (.aload_n 1, 1) := by decide +kernel
theorem dX4_value_9 : decode cX4_value 9 = .ok (.ifnonnull 5, 3) := by decide +kernel
theorem dX4_value_12 : decode cX4_value 12 = .ok (.iconst 0, 1) := by decide +kernel
theorem dX4_value_13 : decode cX4_value 13 = .ok (.ireturn, 1) := by decide +kernel
theorem dX4_value_14 : decode cX4_value 14 = .ok (.aload_n 1, 1) := by decide +kernel
theorem dX4_value_15 : decode cX4_value 15 = .ok (.getstatic 158, 3) := by decide +kernel
theorem dX4_value_18 : decode cX4_value 18 = .ok (.if_acmp .ne 11, 3) := by decide +kernel
theorem dX4_value_21 : decode cX4_value 21 = .ok (.aload_n 0, 1) := by decide +kernel
theorem dX4_value_22 : decode cX4_value 22 = .ok (.getfield 32, 3) := by decide +kernel
theorem dX4_value_25 : decode cX4_value 25 = .ok (.invokevirtual 55, 3) := by decide +kernel
theorem dX4_value_28 : decode cX4_value 28 = .ok (.ireturn, 1) := by decide +kernel
theorem dX4_value_29 : decode cX4_value 29 = .ok (.aload_n 0, 1) := by decide +kernel
theorem dX4_value_30 : decode cX4_value 30 = .ok (.getfield 24, 3) := by decide +kernel
theorem dX4_value_33 : decode cX4_value 33 = .ok (.ifCond .eq 10, 3) := by decide +kernel
theorem dX4_value_36 : decode cX4_value 36 = .ok (.aload_n 1, 1) := by decide +kernel
theorem dX4_value_37 : decode cX4_value 37 = .ok (.getfield 161, 3) := by decide +kernel
theorem dX4_value_40 : decode cX4_value 40 = .ok (.goto 7, 3) := by decide +kernel
theorem dX4_value_43 : decode cX4_value 43 = .ok (.aload_n 1, 1) := by decide +kernel
theorem dX4_value_44 : decode cX4_value 44 = .ok (.getfield 164, 3) := by decide +kernel
theorem dX4_value_47 : decode cX4_value 47 = .ok (.istore_n 2, 1) := by decide +kernel
theorem dX4_value_48 : decode cX4_value 48 = .ok (.iload_n 2, 1) := by decide +kernel
theorem dX4_value_49 : decode cX4_value 49 = .ok (.ifCond .lt 9, 3) := by decide +kernel
theorem dX4_value_52 : decode cX4_value 52 = .ok (.iload_n 2, 1) := by decide +kernel
theorem dX4_value_53 : decode cX4_value 53 = .ok (.bipush 6, 2) := by decide +kernel
theorem dX4_value_55 : decode cX4_value 55 = .ok (.if_icmp .lt 13, 3) := by decide +kernel
theorem dX4_value_58 : decode cX4_value 58 = .ok (.aload_n 0, 1) := by decide +kernel
theorem dX4_value_59 : decode cX4_value 59 = .ok (.getfield 32, 3) := by decide +kernel
theorem dX4_value_62 : decode cX4_value 62 = .ok (.iconst 1, 1) := by decide +kernel
theorem dX4_value_63 : decode cX4_value 63 = .ok (.invokevirtual 51, 3) := by decide +kernel
theorem dX4_value_66 : decode cX4_value 66 = .ok (.iconst 0, 1) := by decide +kernel
theorem dX4_value_67 : decode cX4_value 67 = .ok (.ireturn, 1) := by decide +kernel
theorem dX4_value_68 : decode cX4_value 68 = .ok (.aload_n 0, 1) := by decide +kernel
theorem dX4_value_69 : decode cX4_value 69 = .ok (.getfield 32, 3) := by decide +kernel
theorem dX4_value_72 : decode cX4_value 72 = .ok (.invokevirtual 55, 3) := by decide +kernel
theorem dX4_value_75 : decode cX4_value 75 = .ok (.pop, 1) := by decide +kernel
theorem dX4_value_76 : decode cX4_value 76 = .ok (.aload_n 0, 1) := by decide +kernel
theorem dX4_value_77 : decode cX4_value 77 = .ok (.getfield 11, 3) := by decide +kernel
theorem dX4_value_80 : decode cX4_value 80 = .ok (.iload_n 2, 1) := by decide +kernel
theorem dX4_value_81 : decode cX4_value 81 = .ok (.iaload, 1) := by decide +kernel
theorem dX4_value_82 : decode cX4_value 82 = .ok (.ireturn, 1) := by decide +kernel
