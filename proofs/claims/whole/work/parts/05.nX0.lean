theorem dX0_init_0 : decode cX0_init 0 = .ok (.aload_n 0, 1) := by decide +kernel
theorem dX0_init_1 : decode cX0_init 1 = .ok (.invokespecial 3, 3) := by decide +kernel
theorem dX0_init_4 : decode cX0_init 4 = .ok (.aload_n 0, 1) := by decide +kernel
theorem dX0_init_5 : decode cX0_init 5 = .ok (.getstatic 9, 3) := by decide +kernel
theorem dX0_init_8 : decode cX0_init 8 = .ok (.putfield 15, 3) := by decide +kernel
theorem dX0_init_11 : decode cX0_init 11 = .ok (.aload_n 0, 1) := by decide +kernel
theorem dX0_init_12 : decode cX0_init 12 = .ok (.iconst 0, 1) := by decide +kernel
theorem dX0_init_13 : decode cX0_init 13 = .ok (.putfield 20, 3) := by decide +kernel
theorem dX0_init_16 : decode cX0_init 16 = .ok (.aload_n 0, 1) := by decide +kernel
theorem dX0_init_17 : decode cX0_init 17 = .ok (.iconst 0, 1) := by decide +kernel
theorem dX0_init_18 : decode cX0_init 18 = .ok (.putfield 24, 3) := by decide +kernel
theorem dX0_init_21 : decode cX0_init 21 = .ok (.aload_n 0, 1) := by decide +kernel
theorem dX0_init_22 : decode cX0_init 22 = .ok (.iconst 0, 1) := by decide +kernel
theorem dX0_init_23 : decode cX0_init 23 = .ok (.putfield 27, 3) := by decide +kernel
theorem dX0_init_26 : decode cX0_init 26 = .ok (.aload_n 0, 1) := by decide +kernel
theorem dX0_init_27 : decode cX0_init 27 = .ok (.iconst 0, 1) := by decide +kernel
theorem dX0_init_28 : decode cX0_init 28 = .ok (.putfield 30, 3) := by decide +kernel
theorem dX0_init_31 : decode cX0_init 31 = .ok (.aload_n 0, 1) := by decide +kernel
theorem dX0_init_32 : decode cX0_init 32 = .ok (.aload_n 1, 1) := by decide +kernel
theorem dX0_init_33 : decode cX0_init 33 = .ok (.putfield 33, 3) := by decide +kernel
theorem dX0_init_36 : decode cX0_init 36 = .ok (.return_, 1) := by decide +kernel
theorem dX0_verb_0 : decode cX0_verb 0 = .ok (.aload_n 0, 1) := by decide +kernel
theorem dX0_verb_1 : decode cX0_verb 1 = .ok (.getfield 15, 3) := by decide +kernel
theorem dX0_verb_4 : decode cX0_verb 4 = .ok (.areturn, 1) := by decide +kernel
theorem dX0_number_0 : decode cX0_number 0 = .ok (.aload_n 0, 1) := by decide +kernel
theorem dX0_number_1 : decode cX0_number 1 = .ok (.getfield 20, 3) := by decide +kernel
theorem dX0_number_4 : decode cX0_number 4 = .ok (.ireturn, 1) := by decide +kernel
theorem dX0_hour_0 : decode cX0_hour 0 = .ok (.aload_n 0, 1) := by decide +kernel
theorem dX0_hour_1 : decode cX0_hour 1 = .ok (.getfield 24, 3) := by decide +kernel
theorem dX0_hour_4 : decode cX0_hour 4 = .ok (.ireturn, 1) := by decide +kernel
theorem dX0_other_0 : decode cX0_other 0 = .ok (.aload_n 0, 1) := by decide +kernel
theorem dX0_other_1 : decode cX0_other 1 = .ok (.getfield 27, 3) := by decide +kernel
theorem dX0_other_4 : decode cX0_other 4 = .ok (.ireturn, 1) := by decide +kernel
theorem dX0_worth_0 : decode cX0_worth 0 = .ok (.aload_n 0, 1) := by decide +kernel
theorem dX0_worth_1 : decode cX0_worth 1 = .ok (.getfield 30, 3) := by decide +kernel
theorem dX0_worth_4 : decode cX0_worth 4 = .ok (.ireturn, 1) := by decide +kernel
set_option maxRecDepth 20000 in
theorem ggX0_read_X0_readsVerb : GoodIn wsX0_read wsX0_readsVerb := goodIn_r _ [13, 6, 14, 15, 16, 17, 18, 19, 20, 21, 22, 23, 24, 25, 26, 27, 28, 29, 30, 31, 32, 33, 70, 71, 72, 73, 74, 75, 76, 77, 78, 79, 80, 81, 82, 83, 84] (by decide +kernel) (by decide +kernel)
set_option maxRecDepth 20000 in
theorem gX0_read_X0_readsVerb : GoodIn wsX0_read (wsV RX0 40 RX0 yX0_readsVerb wsX0_readsVerb) := goodIn_app (goodIn_of _ (by decide +kernel)) ggX0_read_X0_readsVerb
set_option maxRecDepth 20000 in
theorem ggX0_read_X6_expectWhole : GoodIn wsX0_read wsX6_expectWhole := goodIn_r _ [37, 38, 20, 21, 22, 18, 23, 24, 25, 26, 27, 28, 39, 40, 41, 42, 43, 44, 29, 30, 31, 32, 33, 76, 77, 78, 79, 80, 81, 82, 83, 84] (by decide +kernel) (by decide +kernel)
set_option maxRecDepth 20000 in
theorem gX0_read_X6_expectWhole : GoodIn wsX0_read (wsV RX0 44 RX6 yX6_expectWhole wsX6_expectWhole) := goodIn_app (goodIn_of _ (by decide +kernel)) ggX0_read_X6_expectWhole
set_option maxRecDepth 20000 in
theorem ggX0_read_X0_readDeed : GoodIn wsX0_read wsX0_readDeed := goodIn_r _ [48, 49, 6, 2, 50, 51, 3, 52, 53, 54, 55, 4, 56, 57, 58, 59, 9, 10, 11, 12, 13, 14, 15, 16, 17, 18, 19, 20, 21, 22, 23, 24, 25, 26, 27, 28, 29, 30, 31, 32, 33, 34, 35, 36, 37, 38, 39, 40, 41, 42, 43, 44, 60, 61, 62, 63, 64, 65, 66, 67, 68, 69, 70, 71, 72, 73, 74, 75, 76, 77, 78, 79, 80, 81, 82, 83, 84] (by decide +kernel) (by decide +kernel)
set_option maxRecDepth 20000 in
theorem gX0_read_X0_readDeed : GoodIn wsX0_read (wsV RX0 50 RX0 yX0_readDeed wsX0_readDeed) := goodIn_app (goodIn_of _ (by decide +kernel)) ggX0_read_X0_readDeed
set_option maxRecDepth 20000 in
theorem ggX0_read_X6_expect : GoodIn wsX0_read wsX6_expect := goodIn_r _ [67, 68, 16, 17, 18, 19, 20, 21, 22, 23, 24, 25, 26, 27, 28, 29, 30, 31, 32, 33, 39, 40, 41, 42, 43, 44, 76, 77, 78, 79, 80, 81, 82, 83, 84] (by decide +kernel) (by decide +kernel)
set_option maxRecDepth 20000 in
theorem gX0_read_X6_expect : GoodIn wsX0_read (wsV RX0 56 RX6 yX6_expect wsX6_expect) := goodIn_app (goodIn_of _ (by decide +kernel)) ggX0_read_X6_expect
theorem dX0_read_0 : decode cX0_read 0 = .ok (.aload_n 0, 1) := by decide +kernel
theorem dX0_read_1 : decode cX0_read 1 = .ok (.iconst 0, 1) := by decide +kernel
theorem dX0_read_2 : decode cX0_read 2 = .ok (.putfield 20, 3) := by decide +kernel
theorem dX0_read_5 : decode cX0_read 5 = .ok (.aload_n 0, 1) := by decide +kernel
theorem dX0_read_6 : decode cX0_read 6 = .ok (.iconst 0, 1) := by decide +kernel
theorem dX0_read_7 : decode cX0_read 7 = .ok (.putfield 24, 3) := by decide +kernel
theorem dX0_read_10 : decode cX0_read 10 = .ok (.aload_n 0, 1) := by decide +kernel
theorem dX0_read_11 : decode cX0_read 11 = .ok (.iconst 0, 1) := by decide +kernel
theorem dX0_read_12 : decode cX0_read 12 = .ok (.putfield 27, 3) := by decide +kernel
theorem dX0_read_15 : decode cX0_read 15 = .ok (.aload_n 0, 1) := by decide +kernel
theorem dX0_read_16 : decode cX0_read 16 = .ok (.iconst 0, 1) := by decide +kernel
theorem dX0_read_17 : decode cX0_read 17 = .ok (.putfield 30, 3) := by decide +kernel
theorem dX0_read_20 : decode cX0_read 20 = .ok (.aload_n 0, 1) := by decide +kernel
theorem dX0_read_21 : decode cX0_read 21 = .ok (.getstatic 37, 3) := by decide +kernel
theorem dX0_read_24 : decode cX0_read 24 = .ok (.invokevirtual 40, 3) := by decide +kernel
theorem dX0_read_27 : decode cX0_read 27 = .ok (.ifCond .eq 17, 3) := by decide +kernel
theorem dX0_read_30 : decode cX0_read 30 = .ok (.aload_n 0, 1) := by decide +kernel
theorem dX0_read_31 : decode cX0_read 31 = .ok (.aload_n 0, 1) := by decide +kernel
theorem dX0_read_32 : decode cX0_read 32 = .ok (.getfield 33, 3) := by decide +kernel
theorem dX0_read_35 : decode cX0_read 35 = .ok (.invokevirtual 44, 3) := by decide +kernel
theorem dX0_read_38 : decode cX0_read 38 = .ok (.putfield 24, 3) := by decide +kernel
theorem dX0_read_41 : decode cX0_read 41 = .ok (.goto 28, 3) := by decide +kernel
theorem dX0_read_44 : decode cX0_read 44 = .ok (.aload_n 0, 1) := by decide +kernel
theorem dX0_read_45 : decode cX0_read 45 = .ok (.getstatic 9, 3) := by decide +kernel
theorem dX0_read_48 : decode cX0_read 48 = .ok (.invokevirtual 40, 3) := by decide +kernel
theorem dX0_read_51 : decode cX0_read 51 = .ok (.ifCond .ne 18, 3) := by decide +kernel
theorem dX0_read_54 : decode cX0_read 54 = .ok (.aload_n 0, 1) := by decide +kernel
theorem dX0_read_55 : decode cX0_read 55 = .ok (.aload_n 0, 1) := by decide +kernel
theorem dX0_read_56 : decode cX0_read 56 = .ok (.getfield 33, 3) := by decide +kernel
theorem dX0_read_59 : decode cX0_read 59 = .ok (.invokevirtual 44, 3) := by decide +kernel
theorem dX0_read_62 : decode cX0_read 62 = .ok (.putfield 20, 3) := by decide +kernel
theorem dX0_read_65 : decode cX0_read 65 = .ok (.aload_n 0, 1) := by decide +kernel
theorem dX0_read_66 : decode cX0_read 66 = .ok (.invokevirtual 50, 3) := by decide +kernel
theorem dX0_read_69 : decode cX0_read 69 = .ok (.aload_n 0, 1) := by decide +kernel
theorem dX0_read_70 : decode cX0_read 70 = .ok (.getfield 33, 3) := by decide +kernel
theorem dX0_read_73 : decode cX0_read 73 = .ok (.getstatic 53, 3) := by decide +kernel
theorem dX0_read_76 : decode cX0_read 76 = .ok (.invokevirtual 56, 3) := by decide +kernel
theorem dX0_read_79 : decode cX0_read 79 = .ok (.return_, 1) := by decide +kernel
set_option maxRecDepth 20000 in
theorem ggX0_readDeed_X0_readsVerb : GoodIn wsX0_readDeed wsX0_readsVerb := goodIn_r _ [20, 2, 21, 22, 23, 24, 25, 26, 27, 28, 29, 30, 31, 32, 33, 34, 35, 36, 37, 38, 39, 40, 62, 63, 64, 65, 66, 67, 68, 69, 70, 71, 72, 73, 74, 75, 76] (by decide +kernel) (by decide +kernel)
set_option maxRecDepth 20000 in
theorem gX0_readDeed_X0_readsVerb : GoodIn wsX0_readDeed (wsV RX0 40 RX0 yX0_readsVerb wsX0_readsVerb) := goodIn_app (goodIn_of _ (by decide +kernel)) ggX0_readDeed_X0_readsVerb
set_option maxRecDepth 20000 in
theorem ggX0_readDeed_X6_expectWhole : GoodIn wsX0_readDeed wsX6_expectWhole := goodIn_r _ [44, 45, 27, 28, 29, 25, 30, 31, 32, 33, 34, 35, 46, 47, 48, 49, 50, 51, 36, 37, 38, 39, 40, 68, 69, 70, 71, 72, 73, 74, 75, 76] (by decide +kernel) (by decide +kernel)
set_option maxRecDepth 20000 in
theorem gX0_readDeed_X6_expectWhole : GoodIn wsX0_readDeed (wsV RX0 44 RX6 yX6_expectWhole wsX6_expectWhole) := goodIn_app (goodIn_of _ (by decide +kernel)) ggX0_readDeed_X6_expectWhole
set_option maxRecDepth 20000 in
theorem ggX0_readDeed_X0_readWorthIfTold : GoodIn wsX0_readDeed wsX0_readWorthIfTold := goodIn_r _ [55, 2, 10, 11, 22, 23, 24, 25, 26, 27, 28, 29, 30, 31, 32, 33, 34, 35, 36, 37, 38, 39, 40, 41, 42, 43, 44, 45, 46, 47, 48, 49, 50, 51, 62, 63, 64, 65, 66, 67, 68, 69, 70, 71, 72, 73, 74, 75, 76] (by decide +kernel) (by decide +kernel)
set_option maxRecDepth 20000 in
theorem gX0_readDeed_X0_readWorthIfTold : GoodIn wsX0_readDeed (wsV RX0 63 RX0 yX0_readWorthIfTold wsX0_readWorthIfTold) := goodIn_app (goodIn_of _ (by decide +kernel)) ggX0_readDeed_X0_readWorthIfTold
set_option maxRecDepth 20000 in
theorem ggX0_readDeed_X6_expect : GoodIn wsX0_readDeed wsX6_expect := goodIn_r _ [59, 60, 23, 24, 25, 26, 27, 28, 29, 30, 31, 32, 33, 34, 35, 36, 37, 38, 39, 40, 46, 47, 48, 49, 50, 51, 68, 69, 70, 71, 72, 73, 74, 75, 76] (by decide +kernel) (by decide +kernel)
set_option maxRecDepth 20000 in
theorem gX0_readDeed_X6_expect : GoodIn wsX0_readDeed (wsV RX0 56 RX6 yX6_expect wsX6_expect) := goodIn_app (goodIn_of _ (by decide +kernel)) ggX0_readDeed_X6_expect
set_option maxRecDepth 20000 in
theorem ggX0_readDeed_X6_takes : GoodIn wsX0_readDeed wsX6_takes := goodIn_r _ [26, 27, 28, 29, 25, 30, 31, 32, 33, 34, 35, 36, 37, 38, 39, 40, 68, 69, 70, 71, 72, 73, 74, 75, 76] (by decide +kernel) (by decide +kernel)
set_option maxRecDepth 20000 in
theorem gX0_readDeed_X6_takes : GoodIn wsX0_readDeed (wsV RX0 81 RX6 yX6_takes wsX6_takes) := goodIn_app (goodIn_of _ (by decide +kernel)) ggX0_readDeed_X6_takes
set_option maxRecDepth 20000 in
theorem ggX0_readDeed_X6_fail : GoodIn wsX0_readDeed wsX6_fail := goodIn_r _ [49, 31, 32, 50, 51, 68, 69, 70, 71, 72, 73, 74, 75, 76] (by decide +kernel) (by decide +kernel)
set_option maxRecDepth 20000 in
theorem gX0_readDeed_X6_fail : GoodIn wsX0_readDeed (wsV RX0 99 RX6 yX6_fail wsX6_fail) := goodIn_app (goodIn_of _ (by decide +kernel)) ggX0_readDeed_X6_fail
theorem dX0_readDeed_0 : decode cX0_readDeed 0 = .ok (.aload_n 0, 1) := by decide +kernel
theorem dX0_readDeed_1 : decode cX0_readDeed 1 = .ok (.getstatic 60, 3) := by decide +kernel
theorem dX0_readDeed_4 : decode cX0_readDeed 4 = .ok (.invokevirtual 40, 3) := by decide +kernel
theorem dX0_readDeed_7 : decode cX0_readDeed 7 = .ok (.ifCond .eq 21, 3) := by decide +kernel
theorem dX0_readDeed_10 : decode cX0_readDeed 10 = .ok (.aload_n 0, 1) := by decide +kernel
theorem dX0_readDeed_11 : decode cX0_readDeed 11 = .ok (.aload_n 0, 1) := by decide +kernel
theorem dX0_readDeed_12 : decode cX0_readDeed 12 = .ok (.getfield 33, 3) := by decide +kernel
theorem dX0_readDeed_15 : decode cX0_readDeed 15 = .ok (.invokevirtual 44, 3) := by decide +kernel
theorem dX0_readDeed_18 : decode cX0_readDeed 18 = .ok (.putfield 24, 3) := by decide +kernel
theorem dX0_readDeed_21 : decode cX0_readDeed 21 = .ok (.aload_n 0, 1) := by decide +kernel
theorem dX0_readDeed_22 : decode cX0_readDeed 22 = .ok (.invokevirtual 63, 3) := by decide +kernel
theorem dX0_readDeed_25 : decode cX0_readDeed 25 = .ok (.goto 220, 3) := by decide +kernel
theorem dX0_readDeed_28 : decode cX0_readDeed 28 = .ok (.aload_n 0, 1) := by decide +kernel
theorem dX0_readDeed_29 : decode cX0_readDeed 29 = .ok (.getstatic 66, 3) := by decide +kernel
theorem dX0_readDeed_32 : decode cX0_readDeed 32 = .ok (.invokevirtual 40, 3) := by decide +kernel
theorem dX0_readDeed_35 : decode cX0_readDeed 35 = .ok (.ifCond .eq 42, 3) := by decide +kernel
theorem dX0_readDeed_38 : decode cX0_readDeed 38 = .ok (.aload_n 0, 1) := by decide +kernel
theorem dX0_readDeed_39 : decode cX0_readDeed 39 = .ok (.aload_n 0, 1) := by decide +kernel
theorem dX0_readDeed_40 : decode cX0_readDeed 40 = .ok (.getfield 33, 3) := by decide +kernel
theorem dX0_readDeed_43 : decode cX0_readDeed 43 = .ok (.invokevirtual 44, 3) := by decide +kernel
theorem dX0_readDeed_46 : decode cX0_readDeed 46 = .ok (.putfield 24, 3) := by decide +kernel
theorem dX0_readDeed_49 : decode cX0_readDeed 49 = .ok (.aload_n 0, 1) := by decide +kernel
theorem dX0_readDeed_50 : decode cX0_readDeed 50 = .ok (.getfield 33, 3) := by decide +kernel
theorem dX0_readDeed_53 : decode cX0_readDeed 53 = .ok (.getstatic 69, 3) := by decide +kernel
theorem dX0_readDeed_56 : decode cX0_readDeed 56 = .ok (.invokevirtual 56, 3) := by decide +kernel
theorem dX0_readDeed_59 : decode cX0_readDeed 59 = .ok (.aload_n 0, 1) := by decide +kernel
theorem dX0_readDeed_60 : decode cX0_readDeed 60 = .ok (.aload_n 0, 1) := by decide +kernel
theorem dX0_readDeed_61 : decode cX0_readDeed 61 = .ok (.getfield 33, 3) := by decide +kernel
theorem dX0_readDeed_64 : decode cX0_readDeed 64 = .ok (.invokevirtual 44, 3) := by decide +kernel
theorem dX0_readDeed_67 : decode cX0_readDeed 67 = .ok (.putfield 27, 3) := by decide +kernel
theorem dX0_readDeed_70 : decode cX0_readDeed 70 = .ok (.aload_n 0, 1) := by decide +kernel
theorem dX0_readDeed_71 : decode cX0_readDeed 71 = .ok (.invokevirtual 63, 3) := by decide +kernel
theorem dX0_readDeed_74 : decode cX0_readDeed 74 = .ok (.goto 171, 3) := by decide +kernel
theorem dX0_readDeed_77 : decode cX0_readDeed 77 = .ok (.aload_n 0, 1) := by decide +kernel
theorem dX0_readDeed_78 : decode cX0_readDeed 78 = .ok (.getstatic 72, 3) := by decide +kernel
theorem dX0_readDeed_81 : decode cX0_readDeed 81 = .ok (.invokevirtual 40, 3) := by decide +kernel
theorem dX0_readDeed_84 : decode cX0_readDeed 84 = .ok (.ifCond .eq 64, 3) := by decide +kernel
theorem dX0_readDeed_87 : decode cX0_readDeed 87 = .ok (.aload_n 0, 1) := by decide +kernel
theorem dX0_readDeed_88 : decode cX0_readDeed 88 = .ok (.aload_n 0, 1) := by decide +kernel
theorem dX0_readDeed_89 : decode cX0_readDeed 89 = .ok (.getfield 33, 3) := by decide +kernel
theorem dX0_readDeed_92 : decode cX0_readDeed 92 = .ok (.invokevirtual 44, 3) := by decide +kernel
theorem dX0_readDeed_95 : decode cX0_readDeed 95 = .ok (.putfield 24, 3) := by decide +kernel
theorem dX0_readDeed_98 : decode cX0_readDeed 98 = .ok (.aload_n 0, 1) := by decide +kernel
theorem dX0_readDeed_99 : decode cX0_readDeed 99 = .ok (.getfield 33, 3) := by decide +kernel
theorem dX0_readDeed_102 : decode cX0_readDeed 102 = .ok (.getstatic 75, 3) := by decide +kernel
theorem dX0_readDeed_105 : decode cX0_readDeed 105 = .ok (.invokevirtual 56, 3) := by decide +kernel
theorem dX0_readDeed_108 : decode cX0_readDeed 108 = .ok (.aload_n 0, 1) := by decide +kernel
theorem dX0_readDeed_109 : decode cX0_readDeed 109 = .ok (.getfield 33, 3) := by decide +kernel
theorem dX0_readDeed_112 : decode cX0_readDeed 112 = .ok (.getstatic 78, 3) := by decide +kernel
theorem dX0_readDeed_115 : decode cX0_readDeed 115 = .ok (.invokevirtual 81, 3) := by decide +kernel
theorem dX0_readDeed_118 : decode cX0_readDeed 118 = .ok (.istore_n 1, 1) := by decide +kernel
theorem dX0_readDeed_119 : decode cX0_readDeed 119 = .ok (.aload_n 0, 1) := by decide +kernel
theorem dX0_readDeed_120 : decode cX0_readDeed 120 = .ok (.iload_n 1, 1) := by decide +kernel
theorem dX0_readDeed_121 : decode cX0_readDeed 121 = .ok (.ifCond .eq 14, 3) := by decide +kernel
theorem dX0_readDeed_124 : decode cX0_readDeed 124 = .ok (.aload_n 0, 1) := by decide +kernel
theorem dX0_readDeed_125 : decode cX0_readDeed 125 = .ok (.getfield 33, 3) := by decide +kernel
theorem dX0_readDeed_128 : decode cX0_readDeed 128 = .ok (.invokevirtual 44, 3) := by decide +kernel
theorem dX0_readDeed_131 : decode cX0_readDeed 131 = .ok (.ineg, 1) := by decide +kernel
theorem dX0_readDeed_132 : decode cX0_readDeed 132 = .ok (.goto 10, 3) := by decide +kernel
theorem dX0_readDeed_135 : decode cX0_readDeed 135 = .ok (.aload_n 0, 1) := by decide +kernel
theorem dX0_readDeed_136 : decode cX0_readDeed 136 = .ok (.getfield 33, 3) := by decide +kernel
theorem dX0_readDeed_139 : decode cX0_readDeed 139 = .ok (.invokevirtual 44, 3) := by decide +kernel
theorem dX0_readDeed_142 : decode cX0_readDeed 142 = .ok (.putfield 27, 3) := by decide +kernel
theorem dX0_readDeed_145 : decode cX0_readDeed 145 = .ok (.goto 100, 3) := by decide +kernel
theorem dX0_readDeed_148 : decode cX0_readDeed 148 = .ok (.aload_n 0, 1) := by decide +kernel
theorem dX0_readDeed_149 : decode cX0_readDeed 149 = .ok (.getstatic 84, 3) := by decide +kernel
theorem dX0_readDeed_152 : decode cX0_readDeed 152 = .ok (.invokevirtual 40, 3) := by decide +kernel
theorem dX0_readDeed_155 : decode cX0_readDeed 155 = .ok (.ifCond .eq 38, 3) := by decide +kernel
theorem dX0_readDeed_158 : decode cX0_readDeed 158 = .ok (.aload_n 0, 1) := by decide +kernel
theorem dX0_readDeed_159 : decode cX0_readDeed 159 = .ok (.aload_n 0, 1) := by decide +kernel
theorem dX0_readDeed_160 : decode cX0_readDeed 160 = .ok (.getfield 33, 3) := by decide +kernel
theorem dX0_readDeed_163 : decode cX0_readDeed 163 = .ok (.invokevirtual 44, 3) := by decide +kernel
theorem dX0_readDeed_166 : decode cX0_readDeed 166 = .ok (.putfield 30, 3) := by decide +kernel
theorem dX0_readDeed_169 : decode cX0_readDeed 169 = .ok (.aload_n 0, 1) := by decide +kernel
theorem dX0_readDeed_170 : decode cX0_readDeed 170 = .ok (.getfield 33, 3) := by decide +kernel
theorem dX0_readDeed_173 : decode cX0_readDeed 173 = .ok (.getstatic 87, 3) := by decide +kernel
theorem dX0_readDeed_176 : decode cX0_readDeed 176 = .ok (.invokevirtual 56, 3) := by decide +kernel
theorem dX0_readDeed_179 : decode cX0_readDeed 179 = .ok (.aload_n 0, 1) := by decide +kernel
theorem dX0_readDeed_180 : decode cX0_readDeed 180 = .ok (.aload_n 0, 1) := by decide +kernel
theorem dX0_readDeed_181 : decode cX0_readDeed 181 = .ok (.getfield 33, 3) := by decide +kernel
theorem dX0_readDeed_184 : decode cX0_readDeed 184 = .ok (.invokevirtual 44, 3) := by decide +kernel
theorem dX0_readDeed_187 : decode cX0_readDeed 187 = .ok (.putfield 24, 3) := by decide +kernel
theorem dX0_readDeed_190 : decode cX0_readDeed 190 = .ok (.goto 55, 3) := by decide +kernel
theorem dX0_readDeed_193 : decode cX0_readDeed 193 = .ok (.aload_n 0, 1) := by decide +kernel
theorem dX0_readDeed_194 : decode cX0_readDeed 194 = .ok (.getstatic 90, 3) := by decide +kernel
theorem dX0_readDeed_197 : decode cX0_readDeed 197 = .ok (.invokevirtual 40, 3) := by decide +kernel
theorem dX0_readDeed_200 : decode cX0_readDeed 200 = .ok (.ifCond .ne 23, 3) := by decide +kernel
theorem dX0_readDeed_203 : decode cX0_readDeed 203 = .ok (.aload_n 0, 1) := by decide +kernel
theorem dX0_readDeed_204 : decode cX0_readDeed 204 = .ok (.getstatic 93, 3) := by decide +kernel
theorem dX0_readDeed_207 : decode cX0_readDeed 207 = .ok (.invokevirtual 40, 3) := by decide +kernel
theorem dX0_readDeed_210 : decode cX0_readDeed 210 = .ok (.ifCond .ne 13, 3) := by decide +kernel
theorem dX0_readDeed_213 : decode cX0_readDeed 213 = .ok (.aload_n 0, 1) := by decide +kernel
theorem dX0_readDeed_214 : decode cX0_readDeed 214 = .ok (.getstatic 96, 3) := by decide +kernel
theorem dX0_readDeed_217 : decode cX0_readDeed 217 = .ok (.invokevirtual 40, 3) := by decide +kernel
theorem dX0_readDeed_220 : decode cX0_readDeed 220 = .ok (.ifCond .eq 17, 3) := by decide +kernel
theorem dX0_readDeed_223 : decode cX0_readDeed 223 = .ok (.aload_n 0, 1) := by decide +kernel
theorem dX0_readDeed_224 : decode cX0_readDeed 224 = .ok (.aload_n 0, 1) := by decide +kernel
theorem dX0_readDeed_225 : decode cX0_readDeed 225 = .ok (.getfield 33, 3) := by decide +kernel
theorem dX0_readDeed_228 : decode cX0_readDeed 228 = .ok (.invokevirtual 44, 3) := by decide +kernel
theorem dX0_readDeed_231 : decode cX0_readDeed 231 = .ok (.putfield 24, 3) := by decide +kernel
theorem dX0_readDeed_234 : decode cX0_readDeed 234 = .ok (.goto 11, 3) := by decide +kernel
theorem dX0_readDeed_237 : decode cX0_readDeed 237 = .ok (.aload_n 0, 1) := by decide +kernel
theorem dX0_readDeed_238 : decode cX0_readDeed 238 = .ok (.getfield 33, 3) := by decide +kernel
theorem dX0_readDeed_241 : decode cX0_readDeed 241 = .ok (.iconst 1, 1) := by decide +kernel
theorem dX0_readDeed_242 : decode cX0_readDeed 242 = .ok (.invokevirtual 99, 3) := by decide +kernel
theorem dX0_readDeed_245 : decode cX0_readDeed 245 = .ok (.return_, 1) := by decide +kernel
set_option maxRecDepth 20000 in
theorem ggX0_readsVerb_X6_takes : GoodIn wsX0_readsVerb wsX6_takes := goodIn_r _ [7, 8, 9, 10, 6, 11, 12, 13, 14, 15, 16, 17, 18, 19, 20, 21, 28, 29, 30, 31, 32, 33, 34, 35, 36] (by decide +kernel) (by decide +kernel)
set_option maxRecDepth 20000 in
theorem gX0_readsVerb_X6_takes : GoodIn wsX0_readsVerb (wsV RX0 81 RX6 yX6_takes wsX6_takes) := goodIn_app (goodIn_of _ (by decide +kernel)) ggX0_readsVerb_X6_takes
theorem dX0_readsVerb_0 : decode cX0_readsVerb 0 = .ok (.aload_n 0, 1) := by decide +kernel
theorem dX0_readsVerb_1 : decode cX0_readsVerb 1 = .ok (.getfield 33, 3) := by decide +kernel
theorem dX0_readsVerb_4 : decode cX0_readsVerb 4 = .ok (.aload_n 1, 1) := by decide +kernel
theorem dX0_readsVerb_5 : decode cX0_readsVerb 5 = .ok (.invokevirtual 81, 3) := by decide +kernel
theorem dX0_readsVerb_8 : decode cX0_readsVerb 8 = .ok (.ifCond .ne 5, 3) := by decide +kernel
theorem dX0_readsVerb_11 : decode cX0_readsVerb 11 = .ok (.iconst 0, 1) := by decide +kernel
theorem dX0_readsVerb_12 : decode cX0_readsVerb 12 = .ok (.ireturn, 1) := by decide +kernel
theorem dX0_readsVerb_13 : decode cX0_readsVerb 13 = .ok (.aload_n 0, 1) := by decide +kernel
theorem dX0_readsVerb_14 : decode cX0_readsVerb 14 = .ok (.aload_n 1, 1) := by decide +kernel
theorem dX0_readsVerb_15 : decode cX0_readsVerb 15 = .ok (.putfield 15, 3) := by decide +kernel
theorem dX0_readsVerb_18 : decode cX0_readsVerb 18 = .ok (.iconst 1, 1) := by decide +kernel
theorem dX0_readsVerb_19 : decode cX0_readsVerb 19 = .ok (.ireturn, 1) := by decide +kernel
set_option maxRecDepth 20000 in
theorem ggX0_readWorthIfTold_X6_takes : GoodIn wsX0_readWorthIfTold wsX6_takes := goodIn_r _ [8, 9, 10, 11, 7, 12, 13, 14, 15, 16, 17, 18, 19, 20, 21, 22, 40, 41, 42, 43, 44, 45, 46, 47, 48] (by decide +kernel) (by decide +kernel)
set_option maxRecDepth 20000 in
theorem gX0_readWorthIfTold_X6_takes : GoodIn wsX0_readWorthIfTold (wsV RX0 81 RX6 yX6_takes wsX6_takes) := goodIn_app (goodIn_of _ (by decide +kernel)) ggX0_readWorthIfTold_X6_takes
set_option maxRecDepth 20000 in
theorem ggX0_readWorthIfTold_X6_expectWhole : GoodIn wsX0_readWorthIfTold wsX6_expectWhole := goodIn_r _ [26, 27, 9, 10, 11, 7, 12, 13, 14, 15, 16, 17, 28, 29, 30, 31, 32, 33, 18, 19, 20, 21, 22, 40, 41, 42, 43, 44, 45, 46, 47, 48] (by decide +kernel) (by decide +kernel)
set_option maxRecDepth 20000 in
theorem gX0_readWorthIfTold_X6_expectWhole : GoodIn wsX0_readWorthIfTold (wsV RX0 44 RX6 yX6_expectWhole wsX6_expectWhole) := goodIn_app (goodIn_of _ (by decide +kernel)) ggX0_readWorthIfTold_X6_expectWhole
theorem dX0_readWorthIfTold_0 : decode cX0_readWorthIfTold 0 = .ok (.aload_n 0, 1) := by decide +kernel
theorem dX0_readWorthIfTold_1 : decode cX0_readWorthIfTold 1 = .ok (.getfield 33, 3) := by decide +kernel
theorem dX0_readWorthIfTold_4 : decode cX0_readWorthIfTold 4 = .ok (.getstatic 84, 3) := by decide +kernel
theorem dX0_readWorthIfTold_7 : decode cX0_readWorthIfTold 7 = .ok (.invokevirtual 81, 3) := by decide +kernel
theorem dX0_readWorthIfTold_10 : decode cX0_readWorthIfTold 10 = .ok (.ifCond .eq 14, 3) := by decide +kernel
theorem dX0_readWorthIfTold_13 : decode cX0_readWorthIfTold 13 = .ok (.aload_n 0, 1) := by decide +kernel
theorem dX0_readWorthIfTold_14 : decode cX0_readWorthIfTold 14 = .ok (.aload_n 0, 1) := by decide +kernel
theorem dX0_readWorthIfTold_15 : decode cX0_readWorthIfTold 15 = .ok (.getfield 33, 3) := by decide +kernel
theorem dX0_readWorthIfTold_18 : decode cX0_readWorthIfTold 18 = .ok (.invokevirtual 44, 3) := by decide +kernel
theorem dX0_readWorthIfTold_21 : decode cX0_readWorthIfTold 21 = .ok (.putfield 30, 3) := by decide +kernel
theorem dX0_readWorthIfTold_24 : decode cX0_readWorthIfTold 24 = .ok (.return_, 1) := by decide +kernel
