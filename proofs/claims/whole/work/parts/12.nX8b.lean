theorem dX8_number_15 : decode cX8_number 15 = .ok (.aload_n 0, 1) := by decide +kernel
theorem dX8_number_16 : decode cX8_number 16 = .ok (.getfield 155, 3) := by decide +kernel
theorem dX8_number_19 : decode cX8_number 19 = .ok (.putfield 189, 3) := by decide +kernel
theorem dX8_number_22 : decode cX8_number 22 = .ok (.aload_n 0, 1) := by decide +kernel
theorem dX8_number_23 : decode cX8_number 23 = .ok (.invokevirtual 180, 3) := by decide +kernel
theorem dX8_number_26 : decode cX8_number 26 = .ok (.iconst 1, 1) := by decide +kernel
theorem dX8_number_27 : decode cX8_number 27 = .ok (.ireturn, 1) := by decide +kernel
set_option maxRecDepth 20000 in
theorem ggX8_passes_X8_is : GoodIn wsX8_passes wsX8_is := goodIn_r _ [5, 6, 7, 36, 37, 38, 39, 40, 41, 42, 43, 44, 45, 46, 47, 48, 49, 50, 51, 52, 53, 54, 55, 56, 57, 58, 59, 60, 61, 62, 63, 64, 65, 66, 67, 68] (by decide +kernel) (by decide +kernel)
set_option maxRecDepth 20000 in
theorem gX8_passes_X8_is : GoodIn wsX8_passes (wsV RX8 192 RX8 yX8_is wsX8_is) := goodIn_app (goodIn_of _ (by decide +kernel)) ggX8_passes_X8_is
set_option maxRecDepth 20000 in
theorem ggX8_passes_X8_bad : GoodIn wsX8_passes wsX8_bad := goodIn_r _ [11, 12, 13, 14, 36, 37, 38, 39, 40, 41, 42, 43, 44, 45, 46, 47, 48, 49, 50, 51, 52, 53, 54, 55, 56, 57, 58, 59, 60, 61, 62, 63, 64, 65, 66, 67, 68] (by decide +kernel) (by decide +kernel)
set_option maxRecDepth 20000 in
theorem gX8_passes_X8_bad : GoodIn wsX8_passes (wsV RX8 186 RX8 yX8_bad wsX8_bad) := goodIn_app (goodIn_of _ (by decide +kernel)) ggX8_passes_X8_bad
set_option maxRecDepth 20000 in
theorem ggX8_passes_X8_go : GoodIn wsX8_passes wsX8_go := goodIn_r _ [18, 19, 13, 20, 7, 6, 21, 22, 23, 24, 25, 26, 27, 28, 29, 4, 30, 31, 32, 33, 34, 35, 36, 37, 38, 39, 40, 41, 42, 43, 44, 45, 46, 47, 48, 49, 50, 51, 52, 53, 54, 55, 56, 57, 58, 59, 60, 61, 62, 63, 64, 65, 66, 67, 68] (by decide +kernel) (by decide +kernel)
set_option maxRecDepth 20000 in
theorem gX8_passes_X8_go : GoodIn wsX8_passes (wsV RX8 180 RX8 yX8_go wsX8_go) := goodIn_app (goodIn_of _ (by decide +kernel)) ggX8_passes_X8_go
theorem dX8_passes_0 : decode cX8_passes 0 = .ok (.aload_n 0, 1) := by decide +kernel
theorem dX8_passes_1 : decode cX8_passes 1 = .ok (.lload_n 1, 1) := by decide +kernel
theorem dX8_passes_2 : decode cX8_passes 2 = .ok (.invokevirtual 192, 3) := by decide +kernel
theorem dX8_passes_5 : decode cX8_passes 5 = .ok (.ifCond .ne 9, 3) := by decide +kernel
theorem dX8_passes_8 : decode cX8_passes 8 = .ok (.aload_n 0, 1) := by decide +kernel
theorem dX8_passes_9 : decode cX8_passes 9 = .ok (.iconst 1, 1) := by decide +kernel
theorem dX8_passes_10 : decode cX8_passes 10 = .ok (.invokevirtual 186, 3) := by decide +kernel
theorem dX8_passes_13 : decode cX8_passes 13 = .ok (.ireturn, 1) := by decide +kernel
theorem dX8_passes_14 : decode cX8_passes 14 = .ok (.aload_n 0, 1) := by decide +kernel
theorem dX8_passes_15 : decode cX8_passes 15 = .ok (.invokevirtual 180, 3) := by decide +kernel
theorem dX8_passes_18 : decode cX8_passes 18 = .ok (.iconst 1, 1) := by decide +kernel
theorem dX8_passes_19 : decode cX8_passes 19 = .ok (.ireturn, 1) := by decide +kernel
set_option maxRecDepth 20000 in
theorem ggX8_told_X8_number : GoodIn wsX8_told wsX8_number := goodIn_r _ [8, 9, 10, 3, 11, 12, 13, 7, 14, 15, 16, 17, 18, 19, 20, 21, 22, 23, 24, 25, 26, 27, 28, 29, 30, 31, 32, 33, 34, 35, 36, 37, 38, 39, 40, 41, 42, 43, 44, 45, 46, 47, 48, 49, 50, 51, 52, 53, 54, 55, 56, 57, 58, 59, 60, 61, 62, 63, 64, 65, 66, 67, 68, 69, 70, 71] (by decide +kernel) (by decide +kernel)
set_option maxRecDepth 20000 in
theorem gX8_told_X8_number : GoodIn wsX8_told (wsV RX8 196 RX8 yX8_number wsX8_number) := goodIn_app (goodIn_of _ (by decide +kernel)) ggX8_told_X8_number
theorem dX8_told_0 : decode cX8_told 0 = .ok (.aload_n 0, 1) := by decide +kernel
theorem dX8_told_1 : decode cX8_told 1 = .ok (.invokevirtual 196, 3) := by decide +kernel
theorem dX8_told_4 : decode cX8_told 4 = .ok (.ifCond .ne 5, 3) := by decide +kernel
theorem dX8_told_7 : decode cX8_told 7 = .ok (.iconst 0, 1) := by decide +kernel
theorem dX8_told_8 : decode cX8_told 8 = .ok (.ireturn, 1) := by decide +kernel
theorem dX8_told_9 : decode cX8_told 9 = .ok (.aload_n 0, 1) := by decide +kernel
theorem dX8_told_10 : decode cX8_told 10 = .ok (.getfield 37, 3) := by decide +kernel
theorem dX8_told_13 : decode cX8_told 13 = .ok (.iconst 4, 1) := by decide +kernel
theorem dX8_told_14 : decode cX8_told 14 = .ok (.aload_n 0, 1) := by decide +kernel
theorem dX8_told_15 : decode cX8_told 15 = .ok (.getfield 200, 3) := by decide +kernel
theorem dX8_told_18 : decode cX8_told 18 = .ok (.imul, 1) := by decide +kernel
theorem dX8_told_19 : decode cX8_told 19 = .ok (.iload_n 1, 1) := by decide +kernel
theorem dX8_told_20 : decode cX8_told 20 = .ok (.iadd, 1) := by decide +kernel
theorem dX8_told_21 : decode cX8_told 21 = .ok (.aload_n 0, 1) := by decide +kernel
theorem dX8_told_22 : decode cX8_told 22 = .ok (.getfield 189, 3) := by decide +kernel
theorem dX8_told_25 : decode cX8_told 25 = .ok (.iastore, 1) := by decide +kernel
theorem dX8_told_26 : decode cX8_told 26 = .ok (.iconst 1, 1) := by decide +kernel
theorem dX8_told_27 : decode cX8_told 27 = .ok (.ireturn, 1) := by decide +kernel
set_option maxRecDepth 20000 in
theorem ggX8_toldWorth_X8_is : GoodIn wsX8_toldWorth wsX8_is := goodIn_r _ [8, 9, 10, 48, 49, 50, 51, 52, 53, 54, 55, 56, 57, 58, 59, 60, 61, 62, 63, 64, 65, 66, 67, 68, 69, 70, 71, 72, 73, 74, 75, 76, 77, 78, 79, 80] (by decide +kernel) (by decide +kernel)
set_option maxRecDepth 20000 in
theorem gX8_toldWorth_X8_is : GoodIn wsX8_toldWorth (wsV RX8 192 RX8 yX8_is wsX8_is) := goodIn_app (goodIn_of _ (by decide +kernel)) ggX8_toldWorth_X8_is
set_option maxRecDepth 20000 in
theorem ggX8_toldWorth_X8_go : GoodIn wsX8_toldWorth wsX8_go := goodIn_r _ [14, 15, 16, 17, 10, 9, 18, 19, 20, 21, 22, 23, 24, 25, 26, 7, 27, 28, 29, 30, 31, 32, 48, 49, 50, 51, 52, 53, 54, 55, 56, 57, 58, 59, 60, 61, 62, 63, 64, 65, 66, 67, 68, 69, 70, 71, 72, 73, 74, 75, 76, 77, 78, 79, 80] (by decide +kernel) (by decide +kernel)
set_option maxRecDepth 20000 in
theorem gX8_toldWorth_X8_go : GoodIn wsX8_toldWorth (wsV RX8 180 RX8 yX8_go wsX8_go) := goodIn_app (goodIn_of _ (by decide +kernel)) ggX8_toldWorth_X8_go
set_option maxRecDepth 20000 in
theorem ggX8_toldWorth_X8_told : GoodIn wsX8_toldWorth wsX8_told := goodIn_r _ [36, 1, 2, 37, 38, 39, 40, 7, 41, 9, 17, 42, 43, 44, 45, 46, 16, 47, 11, 12, 13, 14, 15, 10, 18, 19, 20, 21, 22, 23, 24, 25, 26, 27, 28, 29, 30, 31, 32, 48, 49, 50, 51, 52, 53, 54, 55, 56, 57, 58, 59, 60, 61, 62, 63, 64, 65, 66, 67, 68, 69, 70, 71, 72, 73, 74, 75, 76, 77, 78, 79, 80] (by decide +kernel) (by decide +kernel)
set_option maxRecDepth 20000 in
theorem gX8_toldWorth_X8_told : GoodIn wsX8_toldWorth (wsV RX8 205 RX8 yX8_told wsX8_told) := goodIn_app (goodIn_of _ (by decide +kernel)) ggX8_toldWorth_X8_told
theorem dX8_toldWorth_0 : decode cX8_toldWorth 0 = .ok (.aload_n 0, 1) := by decide +kernel
theorem dX8_toldWorth_1 : decode cX8_toldWorth 1 = .ok (.getfield 37, 3) := by decide +kernel
theorem dX8_toldWorth_4 : decode cX8_toldWorth 4 = .ok (.iconst 4, 1) := by decide +kernel
theorem dX8_toldWorth_5 : decode cX8_toldWorth 5 = .ok (.aload_n 0, 1) := by decide +kernel
theorem dX8_toldWorth_6 : decode cX8_toldWorth 6 = .ok (.getfield 200, 3) := by decide +kernel
theorem dX8_toldWorth_9 : decode cX8_toldWorth 9 = .ok (.imul, 1) := by decide +kernel
theorem dX8_toldWorth_10 : decode cX8_toldWorth 10 = .ok (.iload_n 1, 1) := by decide +kernel
theorem dX8_toldWorth_11 : decode cX8_toldWorth 11 = .ok (.iadd, 1) := by decide +kernel
theorem dX8_toldWorth_12 : decode cX8_toldWorth 12 = .ok (.iconst 0, 1) := by decide +kernel
theorem dX8_toldWorth_13 : decode cX8_toldWorth 13 = .ok (.iastore, 1) := by decide +kernel
theorem dX8_toldWorth_14 : decode cX8_toldWorth 14 = .ok (.aload_n 0, 1) := by decide +kernel
theorem dX8_toldWorth_15 : decode cX8_toldWorth 15 = .ok (.ldc2_w 203, 3) := by decide +kernel
theorem dX8_toldWorth_18 : decode cX8_toldWorth 18 = .ok (.invokevirtual 192, 3) := by decide +kernel
theorem dX8_toldWorth_21 : decode cX8_toldWorth 21 = .ok (.ifCond .ne 5, 3) := by decide +kernel
theorem dX8_toldWorth_24 : decode cX8_toldWorth 24 = .ok (.iconst 1, 1) := by decide +kernel
theorem dX8_toldWorth_25 : decode cX8_toldWorth 25 = .ok (.ireturn, 1) := by decide +kernel
theorem dX8_toldWorth_26 : decode cX8_toldWorth 26 = .ok (.aload_n 0, 1) := by decide +kernel
theorem dX8_toldWorth_27 : decode cX8_toldWorth 27 = .ok (.invokevirtual 180, 3) := by decide +kernel
theorem dX8_toldWorth_30 : decode cX8_toldWorth 30 = .ok (.aload_n 0, 1) := by decide +kernel
theorem dX8_toldWorth_31 : decode cX8_toldWorth 31 = .ok (.iload_n 1, 1) := by decide +kernel
theorem dX8_toldWorth_32 : decode cX8_toldWorth 32 = .ok (.invokevirtual 205, 3) := by decide +kernel
theorem dX8_toldWorth_35 : decode cX8_toldWorth 35 = .ok (.ireturn, 1) := by decide +kernel
set_option maxRecDepth 20000 in
theorem ggX8_shiftsLine_X8_told : GoodIn wsX8_shiftsLine wsX8_told := goodIn_r _ [9, 2, 3, 4, 10, 11, 12, 8, 13, 14, 15, 16, 17, 18, 19, 20, 21, 22, 23, 24, 25, 26, 27, 28, 29, 30, 31, 32, 33, 34, 35, 36, 37, 38, 39, 40, 41, 42, 43, 56, 57, 58, 59, 60, 61, 62, 63, 64, 65, 66, 67, 68, 69, 70, 71, 72, 73, 74, 75, 76, 77, 78, 79, 80, 81, 82, 83, 84, 85, 86, 87, 88] (by decide +kernel) (by decide +kernel)
set_option maxRecDepth 20000 in
theorem gX8_shiftsLine_X8_told : GoodIn wsX8_shiftsLine (wsV RX8 205 RX8 yX8_told wsX8_told) := goodIn_app (goodIn_of _ (by decide +kernel)) ggX8_shiftsLine_X8_told
set_option maxRecDepth 20000 in
theorem ggX8_shiftsLine_X8_passes : GoodIn wsX8_shiftsLine wsX8_passes := goodIn_r _ [47, 48, 49, 50, 8, 51, 14, 28, 16, 17, 18, 19, 20, 21, 22, 23, 24, 25, 26, 27, 15, 29, 30, 31, 32, 33, 34, 35, 36, 37, 38, 39, 40, 41, 42, 43, 56, 57, 58, 59, 60, 61, 62, 63, 64, 65, 66, 67, 68, 69, 70, 71, 72, 73, 74, 75, 76, 77, 78, 79, 80, 81, 82, 83, 84, 85, 86, 87, 88] (by decide +kernel) (by decide +kernel)
set_option maxRecDepth 20000 in
theorem gX8_shiftsLine_X8_passes : GoodIn wsX8_shiftsLine (wsV RX8 210 RX8 yX8_passes wsX8_passes) := goodIn_app (goodIn_of _ (by decide +kernel)) ggX8_shiftsLine_X8_passes
set_option maxRecDepth 20000 in
theorem ggX8_shiftsLine_X8_isSign : GoodIn wsX8_shiftsLine wsX8_isSign := goodIn_r _ [55, 14, 15, 56, 57, 58, 59, 60, 61, 62, 63, 64, 65, 66, 67, 68, 69, 70, 71, 72, 73, 74, 75, 76, 77, 78, 79, 80, 81, 82, 83, 84, 85, 86, 87, 88] (by decide +kernel) (by decide +kernel)
set_option maxRecDepth 20000 in
theorem gX8_shiftsLine_X8_isSign : GoodIn wsX8_shiftsLine (wsV RX8 213 RX8 yX8_isSign wsX8_isSign) := goodIn_app (goodIn_of _ (by decide +kernel)) ggX8_shiftsLine_X8_isSign
set_option maxRecDepth 20000 in
theorem ggX8_shiftsLine_X8_go : GoodIn wsX8_shiftsLine wsX8_go := goodIn_r _ [26, 27, 21, 15, 28, 14, 29, 30, 31, 32, 33, 34, 35, 36, 37, 8, 38, 39, 40, 41, 42, 43, 56, 57, 58, 59, 60, 61, 62, 63, 64, 65, 66, 67, 68, 69, 70, 71, 72, 73, 74, 75, 76, 77, 78, 79, 80, 81, 82, 83, 84, 85, 86, 87, 88] (by decide +kernel) (by decide +kernel)
set_option maxRecDepth 20000 in
theorem gX8_shiftsLine_X8_go : GoodIn wsX8_shiftsLine (wsV RX8 180 RX8 yX8_go wsX8_go) := goodIn_app (goodIn_of _ (by decide +kernel)) ggX8_shiftsLine_X8_go
theorem dX8_shiftsLine_0 : decode cX8_shiftsLine 0 = .ok (.aload_n 0, 1) := by decide +kernel
theorem dX8_shiftsLine_1 : decode cX8_shiftsLine 1 = .ok (.iconst 1, 1) := by decide +kernel
theorem dX8_shiftsLine_2 : decode cX8_shiftsLine 2 = .ok (.invokevirtual 205, 3) := by decide +kernel
theorem dX8_shiftsLine_5 : decode cX8_shiftsLine 5 = .ok (.ifCond .eq 13, 3) := by decide +kernel
theorem dX8_shiftsLine_8 : decode cX8_shiftsLine 8 = .ok (.aload_n 0, 1) := by decide +kernel
theorem dX8_shiftsLine_9 : decode cX8_shiftsLine 9 = .ok (.ldc2_w 208, 3) := by decide +kernel
theorem dX8_shiftsLine_12 : decode cX8_shiftsLine 12 = .ok (.invokevirtual 210, 3) := by decide +kernel
theorem dX8_shiftsLine_15 : decode cX8_shiftsLine 15 = .ok (.ifCond .ne 5, 3) := by decide +kernel
theorem dX8_shiftsLine_18 : decode cX8_shiftsLine 18 = .ok (.iconst 0, 1) := by decide +kernel
theorem dX8_shiftsLine_19 : decode cX8_shiftsLine 19 = .ok (.ireturn, 1) := by decide +kernel
theorem dX8_shiftsLine_20 : decode cX8_shiftsLine 20 = .ok (.aload_n 0, 1) := by decide +kernel
theorem dX8_shiftsLine_21 : decode cX8_shiftsLine 21 = .ok (.bipush 45, 2) := by decide +kernel
theorem dX8_shiftsLine_23 : decode cX8_shiftsLine 23 = .ok (.invokevirtual 213, 3) := by decide +kernel
theorem dX8_shiftsLine_26 : decode cX8_shiftsLine 26 = .ok (.istore_n 1, 1) := by decide +kernel
theorem dX8_shiftsLine_27 : decode cX8_shiftsLine 27 = .ok (.iload_n 1, 1) := by decide +kernel
theorem dX8_shiftsLine_28 : decode cX8_shiftsLine 28 = .ok (.ifCond .eq 7, 3) := by decide +kernel
theorem dX8_shiftsLine_31 : decode cX8_shiftsLine 31 = .ok (.aload_n 0, 1) := by decide +kernel
theorem dX8_shiftsLine_32 : decode cX8_shiftsLine 32 = .ok (.invokevirtual 180, 3) := by decide +kernel
theorem dX8_shiftsLine_35 : decode cX8_shiftsLine 35 = .ok (.aload_n 0, 1) := by decide +kernel
theorem dX8_shiftsLine_36 : decode cX8_shiftsLine 36 = .ok (.iconst 2, 1) := by decide +kernel
theorem dX8_shiftsLine_37 : decode cX8_shiftsLine 37 = .ok (.invokevirtual 205, 3) := by decide +kernel
theorem dX8_shiftsLine_40 : decode cX8_shiftsLine 40 = .ok (.ifCond .ne 5, 3) := by decide +kernel
theorem dX8_shiftsLine_43 : decode cX8_shiftsLine 43 = .ok (.iconst 0, 1) := by decide +kernel
theorem dX8_shiftsLine_44 : decode cX8_shiftsLine 44 = .ok (.ireturn, 1) := by decide +kernel
theorem dX8_shiftsLine_45 : decode cX8_shiftsLine 45 = .ok (.aload_n 0, 1) := by decide +kernel
theorem dX8_shiftsLine_46 : decode cX8_shiftsLine 46 = .ok (.getfield 37, 3) := by decide +kernel
theorem dX8_shiftsLine_49 : decode cX8_shiftsLine 49 = .ok (.iconst 4, 1) := by decide +kernel
theorem dX8_shiftsLine_50 : decode cX8_shiftsLine 50 = .ok (.aload_n 0, 1) := by decide +kernel
theorem dX8_shiftsLine_51 : decode cX8_shiftsLine 51 = .ok (.getfield 200, 3) := by decide +kernel
theorem dX8_shiftsLine_54 : decode cX8_shiftsLine 54 = .ok (.imul, 1) := by decide +kernel
theorem dX8_shiftsLine_55 : decode cX8_shiftsLine 55 = .ok (.iconst 2, 1) := by decide +kernel
theorem dX8_shiftsLine_56 : decode cX8_shiftsLine 56 = .ok (.iadd, 1) := by decide +kernel
theorem dX8_shiftsLine_57 : decode cX8_shiftsLine 57 = .ok (.iload_n 1, 1) := by decide +kernel
theorem dX8_shiftsLine_58 : decode cX8_shiftsLine 58 = .ok (.ifCond .eq 11, 3) := by decide +kernel
theorem dX8_shiftsLine_61 : decode cX8_shiftsLine 61 = .ok (.aload_n 0, 1) := by decide +kernel
theorem dX8_shiftsLine_62 : decode cX8_shiftsLine 62 = .ok (.getfield 189, 3) := by decide +kernel
theorem dX8_shiftsLine_65 : decode cX8_shiftsLine 65 = .ok (.ineg, 1) := by decide +kernel
theorem dX8_shiftsLine_66 : decode cX8_shiftsLine 66 = .ok (.goto 7, 3) := by decide +kernel
theorem dX8_shiftsLine_69 : decode cX8_shiftsLine 69 = .ok (.aload_n 0, 1) := by decide +kernel
theorem dX8_shiftsLine_70 : decode cX8_shiftsLine 70 = .ok (.getfield 189, 3) := by decide +kernel
theorem dX8_shiftsLine_73 : decode cX8_shiftsLine 73 = .ok (.iastore, 1) := by decide +kernel
theorem dX8_shiftsLine_74 : decode cX8_shiftsLine 74 = .ok (.iconst 1, 1) := by decide +kernel
theorem dX8_shiftsLine_75 : decode cX8_shiftsLine 75 = .ok (.ireturn, 1) := by decide +kernel
set_option maxRecDepth 20000 in
theorem ggX8_numberLine_X8_told : GoodIn wsX8_numberLine wsX8_told := goodIn_r _ [16, 17, 9, 18, 19, 20, 21, 15, 22, 23, 24, 25, 26, 27, 28, 29, 30, 31, 32, 33, 34, 35, 36, 37, 38, 39, 40, 41, 42, 43, 44, 45, 46, 47, 48, 49, 50, 51, 52, 74, 75, 76, 77, 78, 79, 80, 81, 82, 83, 84, 85, 86, 87, 88, 89, 90, 91, 92, 93, 94, 95, 96, 97, 98, 99, 100, 101, 102, 103, 104, 105, 106] (by decide +kernel) (by decide +kernel)
set_option maxRecDepth 20000 in
theorem gX8_numberLine_X8_told : GoodIn wsX8_numberLine (wsV RX8 205 RX8 yX8_told wsX8_told) := goodIn_app (goodIn_of _ (by decide +kernel)) ggX8_numberLine_X8_told
set_option maxRecDepth 20000 in
theorem ggX8_numberLine_X8_is : GoodIn wsX8_numberLine wsX8_is := goodIn_r _ [56, 23, 37, 74, 75, 76, 77, 78, 79, 80, 81, 82, 83, 84, 85, 86, 87, 88, 89, 90, 91, 92, 93, 94, 95, 96, 97, 98, 99, 100, 101, 102, 103, 104, 105, 106] (by decide +kernel) (by decide +kernel)
set_option maxRecDepth 20000 in
theorem gX8_numberLine_X8_is : GoodIn wsX8_numberLine (wsV RX8 192 RX8 yX8_is wsX8_is) := goodIn_app (goodIn_of _ (by decide +kernel)) ggX8_numberLine_X8_is
set_option maxRecDepth 20000 in
theorem ggX8_numberLine_X8_bad : GoodIn wsX8_numberLine wsX8_bad := goodIn_r _ [28, 29, 30, 31, 74, 75, 76, 77, 78, 79, 80, 81, 82, 83, 84, 85, 86, 87, 88, 89, 90, 91, 92, 93, 94, 95, 96, 97, 98, 99, 100, 101, 102, 103, 104, 105, 106] (by decide +kernel) (by decide +kernel)
set_option maxRecDepth 20000 in
theorem gX8_numberLine_X8_bad : GoodIn wsX8_numberLine (wsV RX8 186 RX8 yX8_bad wsX8_bad) := goodIn_app (goodIn_of _ (by decide +kernel)) ggX8_numberLine_X8_bad
set_option maxRecDepth 20000 in
theorem ggX8_numberLine_X8_go : GoodIn wsX8_numberLine wsX8_go := goodIn_r _ [35, 36, 30, 24, 37, 23, 38, 39, 40, 41, 42, 43, 44, 45, 46, 15, 47, 48, 49, 50, 51, 52, 74, 75, 76, 77, 78, 79, 80, 81, 82, 83, 84, 85, 86, 87, 88, 89, 90, 91, 92, 93, 94, 95, 96, 97, 98, 99, 100, 101, 102, 103, 104, 105, 106] (by decide +kernel) (by decide +kernel)
set_option maxRecDepth 20000 in
theorem gX8_numberLine_X8_go : GoodIn wsX8_numberLine (wsV RX8 180 RX8 yX8_go wsX8_go) := goodIn_app (goodIn_of _ (by decide +kernel)) ggX8_numberLine_X8_go
set_option maxRecDepth 20000 in
theorem ggX8_numberLine_X8_toldWorth : GoodIn wsX8_numberLine wsX8_toldWorth := goodIn_r _ [60, 17, 9, 7, 53, 54, 55, 15, 56, 23, 37, 32, 33, 34, 35, 36, 30, 24, 38, 39, 40, 41, 42, 43, 44, 45, 46, 47, 48, 49, 50, 51, 52, 12, 13, 14, 16, 18, 19, 20, 21, 22, 25, 26, 27, 28, 29, 31, 74, 75, 76, 77, 78, 79, 80, 81, 82, 83, 84, 85, 86, 87, 88, 89, 90, 91, 92, 93, 94, 95, 96, 97, 98, 99, 100, 101, 102, 103, 104, 105, 106] (by decide +kernel) (by decide +kernel)
set_option maxRecDepth 20000 in
theorem gX8_numberLine_X8_toldWorth : GoodIn wsX8_numberLine (wsV RX8 228 RX8 yX8_toldWorth wsX8_toldWorth) := goodIn_app (goodIn_of _ (by decide +kernel)) ggX8_numberLine_X8_toldWorth
set_option maxRecDepth 20000 in
theorem ggX8_numberLine_X8_passes : GoodIn wsX8_numberLine wsX8_passes := goodIn_r _ [64, 53, 54, 55, 15, 56, 23, 37, 25, 26, 27, 28, 29, 30, 31, 32, 33, 34, 35, 36, 24, 38, 39, 40, 41, 42, 43, 44, 45, 46, 47, 48, 49, 50, 51, 52, 74, 75, 76, 77, 78, 79, 80, 81, 82, 83, 84, 85, 86, 87, 88, 89, 90, 91, 92, 93, 94, 95, 96, 97, 98, 99, 100, 101, 102, 103, 104, 105, 106] (by decide +kernel) (by decide +kernel)
set_option maxRecDepth 20000 in
theorem gX8_numberLine_X8_passes : GoodIn wsX8_numberLine (wsV RX8 210 RX8 yX8_passes wsX8_passes) := goodIn_app (goodIn_of _ (by decide +kernel)) ggX8_numberLine_X8_passes
set_option maxRecDepth 20000 in
theorem ggX8_numberLine_X8_shiftsLine : GoodIn wsX8_numberLine wsX8_shiftsLine := goodIn_r _ [68, 69, 17, 9, 18, 12, 13, 14, 15, 16, 19, 20, 21, 22, 23, 24, 25, 26, 27, 28, 29, 30, 31, 32, 33, 34, 35, 36, 37, 38, 39, 40, 41, 42, 43, 44, 45, 46, 47, 48, 49, 50, 51, 52, 61, 62, 63, 64, 53, 54, 55, 56, 70, 71, 72, 73, 74, 75, 76, 77, 78, 79, 80, 81, 82, 83, 84, 85, 86, 87, 88, 89, 90, 91, 92, 93, 94, 95, 96, 97, 98, 99, 100, 101, 102, 103, 104, 105, 106] (by decide +kernel) (by decide +kernel)
set_option maxRecDepth 20000 in
theorem gX8_numberLine_X8_shiftsLine : GoodIn wsX8_numberLine (wsV RX8 233 RX8 yX8_shiftsLine wsX8_shiftsLine) := goodIn_app (goodIn_of _ (by decide +kernel)) ggX8_numberLine_X8_shiftsLine
theorem dX8_numberLine_0 : decode cX8_numberLine 0 = .ok (.aload_n 0, 1) := by decide +kernel
theorem dX8_numberLine_1 : decode cX8_numberLine 1 = .ok (.iconst 0, 1) := by decide +kernel
theorem dX8_numberLine_2 : decode cX8_numberLine 2 = .ok (.invokevirtual 205, 3) := by decide +kernel
theorem dX8_numberLine_5 : decode cX8_numberLine 5 = .ok (.ifCond .ne 5, 3) := by decide +kernel
theorem dX8_numberLine_8 : decode cX8_numberLine 8 = .ok (.iconst 0, 1) := by decide +kernel
theorem dX8_numberLine_9 : decode cX8_numberLine 9 = .ok (.ireturn, 1) := by decide +kernel
theorem dX8_numberLine_10 : decode cX8_numberLine 10 = .ok (.aload_n 0, 1) := by decide +kernel
theorem dX8_numberLine_11 : decode cX8_numberLine 11 = .ok (.ldc2_w 216, 3) := by decide +kernel
theorem dX8_numberLine_14 : decode cX8_numberLine 14 = .ok (.invokevirtual 192, 3) := by decide +kernel
theorem dX8_numberLine_17 : decode cX8_numberLine 17 = .ok (.ifCond .eq 7, 3) := by decide +kernel
theorem dX8_numberLine_20 : decode cX8_numberLine 20 = .ok (.iconst 0, 1) := by decide +kernel
theorem dX8_numberLine_21 : decode cX8_numberLine 21 = .ok (.goto 89, 3) := by decide +kernel
theorem dX8_numberLine_24 : decode cX8_numberLine 24 = .ok (.aload_n 0, 1) := by decide +kernel
theorem dX8_numberLine_25 : decode cX8_numberLine 25 = .ok (.ldc2_w 218, 3) := by decide +kernel
theorem dX8_numberLine_28 : decode cX8_numberLine 28 = .ok (.invokevirtual 192, 3) := by decide +kernel
theorem dX8_numberLine_31 : decode cX8_numberLine 31 = .ok (.ifCond .eq 7, 3) := by decide +kernel
theorem dX8_numberLine_34 : decode cX8_numberLine 34 = .ok (.iconst 1, 1) := by decide +kernel
theorem dX8_numberLine_35 : decode cX8_numberLine 35 = .ok (.goto 75, 3) := by decide +kernel
theorem dX8_numberLine_38 : decode cX8_numberLine 38 = .ok (.aload_n 0, 1) := by decide +kernel
theorem dX8_numberLine_39 : decode cX8_numberLine 39 = .ok (.ldc2_w 220, 3) := by decide +kernel
theorem dX8_numberLine_42 : decode cX8_numberLine 42 = .ok (.invokevirtual 192, 3) := by decide +kernel
theorem dX8_numberLine_45 : decode cX8_numberLine 45 = .ok (.ifCond .eq 7, 3) := by decide +kernel
theorem dX8_numberLine_48 : decode cX8_numberLine 48 = .ok (.iconst 2, 1) := by decide +kernel
theorem dX8_numberLine_49 : decode cX8_numberLine 49 = .ok (.goto 61, 3) := by decide +kernel
theorem dX8_numberLine_52 : decode cX8_numberLine 52 = .ok (.aload_n 0, 1) := by decide +kernel
theorem dX8_numberLine_53 : decode cX8_numberLine 53 = .ok (.ldc2_w 222, 3) := by decide +kernel
theorem dX8_numberLine_56 : decode cX8_numberLine 56 = .ok (.invokevirtual 192, 3) := by decide +kernel
theorem dX8_numberLine_59 : decode cX8_numberLine 59 = .ok (.ifCond .eq 7, 3) := by decide +kernel
theorem dX8_numberLine_62 : decode cX8_numberLine 62 = .ok (.iconst 3, 1) := by decide +kernel
theorem dX8_numberLine_63 : decode cX8_numberLine 63 = .ok (.goto 47, 3) := by decide +kernel
theorem dX8_numberLine_66 : decode cX8_numberLine 66 = .ok (.aload_n 0, 1) := by decide +kernel
theorem dX8_numberLine_67 : decode cX8_numberLine 67 = .ok (.ldc2_w 224, 3) := by decide +kernel
theorem dX8_numberLine_70 : decode cX8_numberLine 70 = .ok (.invokevirtual 192, 3) := by decide +kernel
theorem dX8_numberLine_73 : decode cX8_numberLine 73 = .ok (.ifCond .eq 7, 3) := by decide +kernel
theorem dX8_numberLine_76 : decode cX8_numberLine 76 = .ok (.iconst 4, 1) := by decide +kernel
theorem dX8_numberLine_77 : decode cX8_numberLine 77 = .ok (.goto 33, 3) := by decide +kernel
theorem dX8_numberLine_80 : decode cX8_numberLine 80 = .ok (.aload_n 0, 1) := by decide +kernel
theorem dX8_numberLine_81 : decode cX8_numberLine 81 = .ok (.ldc2_w 226, 3) := by decide +kernel
theorem dX8_numberLine_84 : decode cX8_numberLine 84 = .ok (.invokevirtual 192, 3) := by decide +kernel
theorem dX8_numberLine_87 : decode cX8_numberLine 87 = .ok (.ifCond .eq 7, 3) := by decide +kernel
theorem dX8_numberLine_90 : decode cX8_numberLine 90 = .ok (.iconst 5, 1) := by decide +kernel
theorem dX8_numberLine_91 : decode cX8_numberLine 91 = .ok (.goto 19, 3) := by decide +kernel
theorem dX8_numberLine_94 : decode cX8_numberLine 94 = .ok (.aload_n 0, 1) := by decide +kernel
theorem dX8_numberLine_95 : decode cX8_numberLine 95 = .ok (.ldc2_w 203, 3) := by decide +kernel
theorem dX8_numberLine_98 : decode cX8_numberLine 98 = .ok (.invokevirtual 192, 3) := by decide +kernel
theorem dX8_numberLine_101 : decode cX8_numberLine 101 = .ok (.ifCond .eq 8, 3) := by decide +kernel
theorem dX8_numberLine_104 : decode cX8_numberLine 104 = .ok (.bipush 6, 2) := by decide +kernel
theorem dX8_numberLine_106 : decode cX8_numberLine 106 = .ok (.goto 4, 3) := by decide +kernel
theorem dX8_numberLine_109 : decode cX8_numberLine 109 = .ok (.iconst (-1), 1) := by decide +kernel
theorem dX8_numberLine_110 : decode cX8_numberLine 110 = .ok (.istore_n 1, 1) := by decide +kernel
theorem dX8_numberLine_111 : decode cX8_numberLine 111 = .ok (.iload_n 1, 1) := by decide +kernel
theorem dX8_numberLine_112 : decode cX8_numberLine 112 = .ok (.iconst (-1), 1) := by decide +kernel
theorem dX8_numberLine_113 : decode cX8_numberLine 113 = .ok (.if_icmp .ne 9, 3) := by decide +kernel
theorem dX8_numberLine_116 : decode cX8_numberLine 116 = .ok (.aload_n 0, 1) := by decide +kernel
theorem dX8_numberLine_117 : decode cX8_numberLine 117 = .ok (.iconst 1, 1) := by decide +kernel
theorem dX8_numberLine_118 : decode cX8_numberLine 118 = .ok (.invokevirtual 186, 3) := by decide +kernel
theorem dX8_numberLine_121 : decode cX8_numberLine 121 = .ok (.ireturn, 1) := by decide +kernel
theorem dX8_numberLine_122 : decode cX8_numberLine 122 = .ok (.aload_n 0, 1) := by decide +kernel
theorem dX8_numberLine_123 : decode cX8_numberLine 123 = .ok (.getfield 34, 3) := by decide +kernel
theorem dX8_numberLine_126 : decode cX8_numberLine 126 = .ok (.aload_n 0, 1) := by decide +kernel
theorem dX8_numberLine_127 : decode cX8_numberLine 127 = .ok (.getfield 200, 3) := by decide +kernel
theorem dX8_numberLine_130 : decode cX8_numberLine 130 = .ok (.iload_n 1, 1) := by decide +kernel
theorem dX8_numberLine_131 : decode cX8_numberLine 131 = .ok (.iastore, 1) := by decide +kernel
theorem dX8_numberLine_132 : decode cX8_numberLine 132 = .ok (.aload_n 0, 1) := by decide +kernel
theorem dX8_numberLine_133 : decode cX8_numberLine 133 = .ok (.invokevirtual 180, 3) := by decide +kernel
theorem dX8_numberLine_136 : decode cX8_numberLine 136 = .ok (.iload_n 1, 1) := by decide +kernel
theorem dX8_numberLine_137 : decode cX8_numberLine 137 = .ok (.tableswitch 142 0 6 #[43, 65, 142, 142, 142, 105, 110], 43) := by decide +kernel
theorem dX8_numberLine_180 : decode cX8_numberLine 180 = .ok (.aload_n 0, 1) := by decide +kernel
theorem dX8_numberLine_181 : decode cX8_numberLine 181 = .ok (.iconst 1, 1) := by decide +kernel
theorem dX8_numberLine_182 : decode cX8_numberLine 182 = .ok (.invokevirtual 205, 3) := by decide +kernel
theorem dX8_numberLine_185 : decode cX8_numberLine 185 = .ok (.ifCond .eq 15, 3) := by decide +kernel
theorem dX8_numberLine_188 : decode cX8_numberLine 188 = .ok (.aload_n 0, 1) := by decide +kernel
theorem dX8_numberLine_189 : decode cX8_numberLine 189 = .ok (.iconst 2, 1) := by decide +kernel
theorem dX8_numberLine_190 : decode cX8_numberLine 190 = .ok (.invokevirtual 228, 3) := by decide +kernel
theorem dX8_numberLine_193 : decode cX8_numberLine 193 = .ok (.ifCond .eq 7, 3) := by decide +kernel
theorem dX8_numberLine_196 : decode cX8_numberLine 196 = .ok (.iconst 1, 1) := by decide +kernel
theorem dX8_numberLine_197 : decode cX8_numberLine 197 = .ok (.goto 4, 3) := by decide +kernel
theorem dX8_numberLine_200 : decode cX8_numberLine 200 = .ok (.iconst 0, 1) := by decide +kernel
theorem dX8_numberLine_201 : decode cX8_numberLine 201 = .ok (.ireturn, 1) := by decide +kernel
theorem dX8_numberLine_202 : decode cX8_numberLine 202 = .ok (.aload_n 0, 1) := by decide +kernel
theorem dX8_numberLine_203 : decode cX8_numberLine 203 = .ok (.iconst 1, 1) := by decide +kernel
theorem dX8_numberLine_204 : decode cX8_numberLine 204 = .ok (.invokevirtual 205, 3) := by decide +kernel
theorem dX8_numberLine_207 : decode cX8_numberLine 207 = .ok (.ifCond .eq 33, 3) := by decide +kernel
theorem dX8_numberLine_210 : decode cX8_numberLine 210 = .ok (.aload_n 0, 1) := by decide +kernel
theorem dX8_numberLine_211 : decode cX8_numberLine 211 = .ok (.ldc2_w 231, 3) := by decide +kernel
theorem dX8_numberLine_214 : decode cX8_numberLine 214 = .ok (.invokevirtual 210, 3) := by decide +kernel
theorem dX8_numberLine_217 : decode cX8_numberLine 217 = .ok (.ifCond .eq 23, 3) := by decide +kernel
theorem dX8_numberLine_220 : decode cX8_numberLine 220 = .ok (.aload_n 0, 1) := by decide +kernel
theorem dX8_numberLine_221 : decode cX8_numberLine 221 = .ok (.iconst 2, 1) := by decide +kernel
theorem dX8_numberLine_222 : decode cX8_numberLine 222 = .ok (.invokevirtual 205, 3) := by decide +kernel
theorem dX8_numberLine_225 : decode cX8_numberLine 225 = .ok (.ifCond .eq 15, 3) := by decide +kernel
theorem dX8_numberLine_228 : decode cX8_numberLine 228 = .ok (.aload_n 0, 1) := by decide +kernel
theorem dX8_numberLine_229 : decode cX8_numberLine 229 = .ok (.iconst 3, 1) := by decide +kernel
theorem dX8_numberLine_230 : decode cX8_numberLine 230 = .ok (.invokevirtual 228, 3) := by decide +kernel
theorem dX8_numberLine_233 : decode cX8_numberLine 233 = .ok (.ifCond .eq 7, 3) := by decide +kernel
theorem dX8_numberLine_236 : decode cX8_numberLine 236 = .ok (.iconst 1, 1) := by decide +kernel
theorem dX8_numberLine_237 : decode cX8_numberLine 237 = .ok (.goto 4, 3) := by decide +kernel
theorem dX8_numberLine_240 : decode cX8_numberLine 240 = .ok (.iconst 0, 1) := by decide +kernel
theorem dX8_numberLine_241 : decode cX8_numberLine 241 = .ok (.ireturn, 1) := by decide +kernel
theorem dX8_numberLine_242 : decode cX8_numberLine 242 = .ok (.aload_n 0, 1) := by decide +kernel
theorem dX8_numberLine_243 : decode cX8_numberLine 243 = .ok (.invokevirtual 233, 3) := by decide +kernel
theorem dX8_numberLine_246 : decode cX8_numberLine 246 = .ok (.ireturn, 1) := by decide +kernel
theorem dX8_numberLine_247 : decode cX8_numberLine 247 = .ok (.aload_n 0, 1) := by decide +kernel
theorem dX8_numberLine_248 : decode cX8_numberLine 248 = .ok (.iconst 2, 1) := by decide +kernel
theorem dX8_numberLine_249 : decode cX8_numberLine 249 = .ok (.invokevirtual 205, 3) := by decide +kernel
theorem dX8_numberLine_252 : decode cX8_numberLine 252 = .ok (.ifCond .eq 25, 3) := by decide +kernel
theorem dX8_numberLine_255 : decode cX8_numberLine 255 = .ok (.aload_n 0, 1) := by decide +kernel
theorem dX8_numberLine_256 : decode cX8_numberLine 256 = .ok (.ldc2_w 236, 3) := by decide +kernel
theorem dX8_numberLine_259 : decode cX8_numberLine 259 = .ok (.invokevirtual 210, 3) := by decide +kernel
theorem dX8_numberLine_262 : decode cX8_numberLine 262 = .ok (.ifCond .eq 15, 3) := by decide +kernel
theorem dX8_numberLine_265 : decode cX8_numberLine 265 = .ok (.aload_n 0, 1) := by decide +kernel
theorem dX8_numberLine_266 : decode cX8_numberLine 266 = .ok (.iconst 1, 1) := by decide +kernel
theorem dX8_numberLine_267 : decode cX8_numberLine 267 = .ok (.invokevirtual 205, 3) := by decide +kernel
theorem dX8_numberLine_270 : decode cX8_numberLine 270 = .ok (.ifCond .eq 7, 3) := by decide +kernel
theorem dX8_numberLine_273 : decode cX8_numberLine 273 = .ok (.iconst 1, 1) := by decide +kernel
theorem dX8_numberLine_274 : decode cX8_numberLine 274 = .ok (.goto 4, 3) := by decide +kernel
theorem dX8_numberLine_277 : decode cX8_numberLine 277 = .ok (.iconst 0, 1) := by decide +kernel
theorem dX8_numberLine_278 : decode cX8_numberLine 278 = .ok (.ireturn, 1) := by decide +kernel
theorem dX8_numberLine_279 : decode cX8_numberLine 279 = .ok (.aload_n 0, 1) := by decide +kernel
theorem dX8_numberLine_280 : decode cX8_numberLine 280 = .ok (.iconst 1, 1) := by decide +kernel
theorem dX8_numberLine_281 : decode cX8_numberLine 281 = .ok (.invokevirtual 205, 3) := by decide +kernel
theorem dX8_numberLine_284 : decode cX8_numberLine 284 = .ok (.ireturn, 1) := by decide +kernel
set_option maxRecDepth 20000 in
theorem ggX8_line_X8_numberLine : GoodIn wsX8_line wsX8_numberLine := goodIn_r _ [10, 11, 12, 13, 14, 15, 16, 17, 3, 4, 18, 19, 20, 21, 22, 9, 23, 24, 25, 26, 27, 28, 29, 1, 30, 31, 32, 33, 34, 35, 36, 37, 38, 39, 40, 41, 42, 43, 44, 45, 46, 47, 48, 49, 50, 51, 52, 53, 54, 55, 56, 57, 58, 59, 60, 61, 62, 63, 64, 65, 66, 67, 68, 69, 70, 71, 72, 73, 74, 75, 76, 77, 78, 79, 80, 81, 82, 83, 84, 85, 86, 87, 88, 89, 90, 91, 92, 93, 94, 95, 96, 97, 98, 99, 100, 101, 102, 103, 104, 105, 106, 107, 108, 109, 110, 111, 112] (by decide +kernel) (by decide +kernel)
set_option maxRecDepth 20000 in
theorem gX8_line_X8_numberLine : GoodIn wsX8_line (wsV RX8 238 RX8 yX8_numberLine wsX8_numberLine) := goodIn_app (goodIn_of _ (by decide +kernel)) ggX8_line_X8_numberLine
set_option maxRecDepth 20000 in
theorem ggX8_line_X8_is : GoodIn wsX8_line wsX8_is := goodIn_r _ [62, 1, 43, 80, 81, 82, 83, 84, 85, 86, 87, 88, 89, 90, 91, 92, 93, 94, 95, 96, 97, 98, 99, 100, 101, 102, 103, 104, 105, 106, 107, 108, 109, 110, 111, 112] (by decide +kernel) (by decide +kernel)
set_option maxRecDepth 20000 in
theorem gX8_line_X8_is : GoodIn wsX8_line (wsV RX8 192 RX8 yX8_is wsX8_is) := goodIn_app (goodIn_of _ (by decide +kernel)) ggX8_line_X8_is
set_option maxRecDepth 20000 in
theorem ggX8_line_X8_go : GoodIn wsX8_line wsX8_go := goodIn_r _ [41, 42, 36, 30, 43, 1, 44, 45, 46, 47, 48, 49, 50, 51, 52, 9, 53, 54, 55, 56, 57, 58, 80, 81, 82, 83, 84, 85, 86, 87, 88, 89, 90, 91, 92, 93, 94, 95, 96, 97, 98, 99, 100, 101, 102, 103, 104, 105, 106, 107, 108, 109, 110, 111, 112] (by decide +kernel) (by decide +kernel)
set_option maxRecDepth 20000 in
theorem gX8_line_X8_go : GoodIn wsX8_line (wsV RX8 180 RX8 yX8_go wsX8_go) := goodIn_app (goodIn_of _ (by decide +kernel)) ggX8_line_X8_go
set_option maxRecDepth 20000 in
theorem ggX8_line_X8_told : GoodIn wsX8_line wsX8_told := goodIn_r _ [23, 24, 4, 25, 26, 27, 28, 9, 29, 1, 30, 31, 32, 33, 34, 35, 36, 37, 38, 39, 40, 41, 42, 43, 44, 45, 46, 47, 48, 49, 50, 51, 52, 53, 54, 55, 56, 57, 58, 80, 81, 82, 83, 84, 85, 86, 87, 88, 89, 90, 91, 92, 93, 94, 95, 96, 97, 98, 99, 100, 101, 102, 103, 104, 105, 106, 107, 108, 109, 110, 111, 112] (by decide +kernel) (by decide +kernel)
set_option maxRecDepth 20000 in
theorem gX8_line_X8_told : GoodIn wsX8_line (wsV RX8 205 RX8 yX8_told wsX8_told) := goodIn_app (goodIn_of _ (by decide +kernel)) ggX8_line_X8_told
set_option maxRecDepth 20000 in
theorem ggX8_line_X8_passes : GoodIn wsX8_line wsX8_passes := goodIn_r _ [70, 59, 60, 61, 9, 62, 1, 43, 31, 32, 33, 34, 35, 36, 37, 38, 39, 40, 41, 42, 30, 44, 45, 46, 47, 48, 49, 50, 51, 52, 53, 54, 55, 56, 57, 58, 80, 81, 82, 83, 84, 85, 86, 87, 88, 89, 90, 91, 92, 93, 94, 95, 96, 97, 98, 99, 100, 101, 102, 103, 104, 105, 106, 107, 108, 109, 110, 111, 112] (by decide +kernel) (by decide +kernel)
set_option maxRecDepth 20000 in
theorem gX8_line_X8_passes : GoodIn wsX8_line (wsV RX8 210 RX8 yX8_passes wsX8_passes) := goodIn_app (goodIn_of _ (by decide +kernel)) ggX8_line_X8_passes
theorem dX8_line_0 : decode cX8_line 0 = .ok (.aload_n 0, 1) := by decide +kernel
theorem dX8_line_1 : decode cX8_line 1 = .ok (.getfield 162, 3) := by decide +kernel
theorem dX8_line_4 : decode cX8_line 4 = .ok (.iconst 2, 1) := by decide +kernel
theorem dX8_line_5 : decode cX8_line 5 = .ok (.if_icmp .ne 8, 3) := by decide +kernel
theorem dX8_line_8 : decode cX8_line 8 = .ok (.aload_n 0, 1) := by decide +kernel
theorem dX8_line_9 : decode cX8_line 9 = .ok (.invokevirtual 238, 3) := by decide +kernel
theorem dX8_line_12 : decode cX8_line 12 = .ok (.ireturn, 1) := by decide +kernel
theorem dX8_line_13 : decode cX8_line 13 = .ok (.aload_n 0, 1) := by decide +kernel
theorem dX8_line_14 : decode cX8_line 14 = .ok (.ldc2_w 241, 3) := by decide +kernel
theorem dX8_line_17 : decode cX8_line 17 = .ok (.invokevirtual 192, 3) := by decide +kernel
theorem dX8_line_20 : decode cX8_line 20 = .ok (.ifCond .eq 24, 3) := by decide +kernel
theorem dX8_line_23 : decode cX8_line 23 = .ok (.aload_n 0, 1) := by decide +kernel
theorem dX8_line_24 : decode cX8_line 24 = .ok (.getfield 34, 3) := by decide +kernel
theorem dX8_line_27 : decode cX8_line 27 = .ok (.aload_n 0, 1) := by decide +kernel
theorem dX8_line_28 : decode cX8_line 28 = .ok (.getfield 200, 3) := by decide +kernel
theorem dX8_line_31 : decode cX8_line 31 = .ok (.bipush 7, 2) := by decide +kernel
theorem dX8_line_33 : decode cX8_line 33 = .ok (.iastore, 1) := by decide +kernel
theorem dX8_line_34 : decode cX8_line 34 = .ok (.aload_n 0, 1) := by decide +kernel
theorem dX8_line_35 : decode cX8_line 35 = .ok (.invokevirtual 180, 3) := by decide +kernel
theorem dX8_line_38 : decode cX8_line 38 = .ok (.aload_n 0, 1) := by decide +kernel
theorem dX8_line_39 : decode cX8_line 39 = .ok (.iconst 0, 1) := by decide +kernel
theorem dX8_line_40 : decode cX8_line 40 = .ok (.invokevirtual 205, 3) := by decide +kernel
theorem dX8_line_43 : decode cX8_line 43 = .ok (.ireturn, 1) := by decide +kernel
theorem dX8_line_44 : decode cX8_line 44 = .ok (.aload_n 0, 1) := by decide +kernel
theorem dX8_line_45 : decode cX8_line 45 = .ok (.getfield 34, 3) := by decide +kernel
theorem dX8_line_48 : decode cX8_line 48 = .ok (.aload_n 0, 1) := by decide +kernel
theorem dX8_line_49 : decode cX8_line 49 = .ok (.getfield 200, 3) := by decide +kernel
theorem dX8_line_52 : decode cX8_line 52 = .ok (.bipush 8, 2) := by decide +kernel
theorem dX8_line_54 : decode cX8_line 54 = .ok (.iastore, 1) := by decide +kernel
theorem dX8_line_55 : decode cX8_line 55 = .ok (.aload_n 0, 1) := by decide +kernel
theorem dX8_line_56 : decode cX8_line 56 = .ok (.ldc2_w 243, 3) := by decide +kernel
theorem dX8_line_59 : decode cX8_line 59 = .ok (.invokevirtual 210, 3) := by decide +kernel
theorem dX8_line_62 : decode cX8_line 62 = .ok (.ireturn, 1) := by decide +kernel
set_option maxRecDepth 20000 in
theorem ggX8_does_X8_born : GoodIn wsX8_does wsX8_born := goodIn_r _ [7, 8, 9, 10, 11, 6, 12, 13, 14, 15, 16, 17, 18, 19, 20, 21, 22, 23, 24, 25, 26, 27, 28, 29, 30, 31, 32, 33, 34, 35, 36, 37, 38, 39, 40, 41, 42, 43, 44, 45, 46, 47, 48, 49, 50, 51, 52, 53, 54, 55, 56, 57, 58, 59, 60, 61, 62, 63, 64, 65, 66, 67, 68, 69, 115, 116, 117, 118, 119, 120, 121, 122, 123, 124, 125, 126, 127, 128, 129, 130, 131, 132, 133, 134, 135, 136, 137, 138, 139, 140, 141, 142, 143, 144, 145, 146, 147] (by decide +kernel) (by decide +kernel)
set_option maxRecDepth 20000 in
theorem gX8_does_X8_born : GoodIn wsX8_does (wsV RX8 245 RX8 yX8_born wsX8_born) := goodIn_app (goodIn_of _ (by decide +kernel)) ggX8_does_X8_born
set_option maxRecDepth 20000 in
theorem ggX8_does_X8_span : GoodIn wsX8_does wsX8_span := goodIn_r _ [73, 8, 9, 10, 11, 6, 12, 13, 14, 15, 16, 17, 18, 19, 20, 21, 22, 23, 24, 25, 26, 27, 28, 29, 30, 31, 32, 33, 34, 35, 36, 37, 38, 39, 40, 41, 42, 43, 44, 45, 46, 47, 48, 49, 50, 51, 52, 53, 54, 55, 56, 57, 58, 59, 60, 61, 62, 63, 64, 65, 66, 67, 68, 69, 115, 116, 117, 118, 119, 120, 121, 122, 123, 124, 125, 126, 127, 128, 129, 130, 131, 132, 133, 134, 135, 136, 137, 138, 139, 140, 141, 142, 143, 144, 145, 146, 147] (by decide +kernel) (by decide +kernel)
set_option maxRecDepth 20000 in
theorem gX8_does_X8_span : GoodIn wsX8_does (wsV RX8 249 RX8 yX8_span wsX8_span) := goodIn_app (goodIn_of _ (by decide +kernel)) ggX8_does_X8_span
set_option maxRecDepth 20000 in
theorem ggX8_does_X8_died : GoodIn wsX8_does wsX8_died := goodIn_r _ [77, 8, 78, 79, 80, 6, 81, 15, 16, 17, 18, 19, 20, 21, 22, 23, 24, 25, 26, 27, 43, 44, 45, 46, 47, 48, 49, 50, 51, 28, 29, 30, 82, 83, 84, 85, 86, 87, 88, 89, 31, 32, 33, 34, 35, 36, 37, 38, 39, 40, 41, 42, 52, 53, 54, 55, 56, 57, 58, 59, 60, 61, 62, 63, 64, 65, 66, 67, 68, 69, 115, 116, 117, 118, 119, 120, 121, 122, 123, 124, 125, 126, 127, 128, 129, 130, 131, 132, 133, 134, 135, 136, 137, 138, 139, 140, 141, 142, 143, 144, 145, 146, 147] (by decide +kernel) (by decide +kernel)
set_option maxRecDepth 20000 in
theorem gX8_does_X8_died : GoodIn wsX8_does (wsV RX8 252 RX8 yX8_died wsX8_died) := goodIn_app (goodIn_of _ (by decide +kernel)) ggX8_does_X8_died
set_option maxRecDepth 20000 in
theorem ggX8_does_X8_unborn : GoodIn wsX8_does wsX8_unborn := goodIn_r _ [93, 8, 78, 79, 80, 6, 81, 15, 16, 17, 18, 19, 20, 21, 22, 23, 24, 25, 26, 27, 43, 44, 45, 46, 47, 48, 49, 50, 51, 28, 29, 30, 82, 83, 84, 85, 86, 87, 88, 89, 31, 32, 33, 34, 35, 36, 37, 38, 39, 40, 41, 42, 52, 53, 54, 55, 56, 57, 58, 59, 60, 61, 62, 63, 64, 65, 66, 67, 68, 69, 115, 116, 117, 118, 119, 120, 121, 122, 123, 124, 125, 126, 127, 128, 129, 130, 131, 132, 133, 134, 135, 136, 137, 138, 139, 140, 141, 142, 143, 144, 145, 146, 147] (by decide +kernel) (by decide +kernel)
set_option maxRecDepth 20000 in
theorem gX8_does_X8_unborn : GoodIn wsX8_does (wsV RX8 255 RX8 yX8_unborn wsX8_unborn) := goodIn_app (goodIn_of _ (by decide +kernel)) ggX8_does_X8_unborn
set_option maxRecDepth 20000 in
theorem ggX8_does_X8_revived : GoodIn wsX8_does wsX8_revived := goodIn_r _ [97, 8, 27, 15, 16, 17, 18, 6, 19, 20, 21, 22, 23, 82, 83, 84, 85, 46, 47, 48, 28, 29, 30, 31, 32, 33, 34, 35, 36, 37, 38, 39, 40, 41, 42, 43, 44, 45, 49, 50, 51, 52, 53, 54, 55, 56, 57, 58, 59, 60, 61, 62, 63, 64, 65, 66, 67, 68, 69, 115, 116, 117, 118, 119, 120, 121, 122, 123, 124, 125, 126, 127, 128, 129, 130, 131, 132, 133, 134, 135, 136, 137, 138, 139, 140, 141, 142, 143, 144, 145, 146, 147] (by decide +kernel) (by decide +kernel)
set_option maxRecDepth 20000 in
theorem gX8_does_X8_revived : GoodIn wsX8_does (wsV RX8 258 RX8 yX8_revived wsX8_revived) := goodIn_app (goodIn_of _ (by decide +kernel)) ggX8_does_X8_revived
set_option maxRecDepth 20000 in
theorem ggX8_does_X8_shifted : GoodIn wsX8_does wsX8_shifted := goodIn_r _ [101, 8, 102, 27, 15, 16, 17, 18, 6, 19, 20, 21, 22, 23, 24, 25, 26, 43, 44, 45, 46, 47, 48, 49, 50, 51, 82, 83, 84, 85, 28, 29, 30, 31, 32, 33, 34, 35, 36, 37, 38, 39, 40, 41, 42, 52, 53, 54, 55, 56, 57, 58, 59, 60, 61, 62, 63, 64, 65, 66, 67, 68, 69, 115, 116, 117, 118, 119, 120, 121, 122, 123, 124, 125, 126, 127, 128, 129, 130, 131, 132, 133, 134, 135, 136, 137, 138, 139, 140, 141, 142, 143, 144, 145, 146, 147] (by decide +kernel) (by decide +kernel)
set_option maxRecDepth 20000 in
theorem gX8_does_X8_shifted : GoodIn wsX8_does (wsV RX8 261 RX8 yX8_shifted wsX8_shifted) := goodIn_app (goodIn_of _ (by decide +kernel)) ggX8_does_X8_shifted
set_option maxRecDepth 20000 in
theorem ggX8_does_X8_worthed : GoodIn wsX8_does wsX8_worthed := goodIn_r _ [106, 8, 14, 15, 16, 17, 18, 6, 19, 20, 21, 22, 23, 24, 25, 26, 27, 43, 44, 45, 46, 47, 48, 49, 50, 51, 82, 83, 84, 85, 28, 29, 30, 31, 32, 33, 34, 64, 65, 66, 67, 68, 69, 115, 116, 117, 118, 119, 120, 121, 122, 123, 124, 125, 126, 127, 128, 129, 130, 131, 132, 133, 134, 135, 136, 137, 138, 139, 140, 141, 142, 143, 144, 145, 146, 147] (by decide +kernel) (by decide +kernel)
set_option maxRecDepth 20000 in
theorem gX8_does_X8_worthed : GoodIn wsX8_does (wsV RX8 264 RX8 yX8_worthed wsX8_worthed) := goodIn_app (goodIn_of _ (by decide +kernel)) ggX8_does_X8_worthed
set_option maxRecDepth 20000 in
theorem ggX8_does_X8_lock : GoodIn wsX8_does wsX8_lock := goodIn_r _ [110, 8, 13, 15, 21, 22, 6, 23, 115, 116, 117, 118, 119, 120, 121, 122, 123, 124, 125, 126, 127, 128, 129, 130, 131, 132, 133, 134, 135, 136, 137, 138, 139, 140, 141, 142, 143, 144, 145, 146, 147] (by decide +kernel) (by decide +kernel)
set_option maxRecDepth 20000 in
theorem gX8_does_X8_lock : GoodIn wsX8_does (wsV RX8 267 RX8 yX8_lock wsX8_lock) := goodIn_app (goodIn_of _ (by decide +kernel)) ggX8_does_X8_lock
set_option maxRecDepth 20000 in
theorem ggX8_does_X8_undo : GoodIn wsX8_does wsX8_undo := goodIn_r _ [114, 8, 68, 69, 15, 28, 29, 6, 30, 115, 116, 117, 118, 119, 120, 121, 122, 123, 124, 125, 126, 127, 128, 129, 130, 131, 132, 133, 134, 135, 136, 137, 138, 139, 140, 141, 142, 143, 144, 145, 146, 147] (by decide +kernel) (by decide +kernel)
set_option maxRecDepth 20000 in
theorem gX8_does_X8_undo : GoodIn wsX8_does (wsV RX8 270 RX8 yX8_undo wsX8_undo) := goodIn_app (goodIn_of _ (by decide +kernel)) ggX8_does_X8_undo
theorem dX8_does_0 : decode cX8_does 0 = .ok (.aload_n 0, 1) := by decide +kernel
theorem dX8_does_1 : decode cX8_does 1 = .ok (.getfield 37, 3) := by decide +kernel
theorem dX8_does_4 : decode cX8_does 4 = .ok (.iconst 4, 1) := by decide +kernel
theorem dX8_does_5 : decode cX8_does 5 = .ok (.iload_n 1, 1) := by decide +kernel
theorem dX8_does_6 : decode cX8_does 6 = .ok (.imul, 1) := by decide +kernel
theorem dX8_does_7 : decode cX8_does 7 = .ok (.iaload, 1) := by decide +kernel
theorem dX8_does_8 : decode cX8_does 8 = .ok (.istore_n 2, 1) := by decide +kernel
theorem dX8_does_9 : decode cX8_does 9 = .ok (.aload_n 0, 1) := by decide +kernel
theorem dX8_does_10 : decode cX8_does 10 = .ok (.getfield 37, 3) := by decide +kernel
theorem dX8_does_13 : decode cX8_does 13 = .ok (.iconst 4, 1) := by decide +kernel
theorem dX8_does_14 : decode cX8_does 14 = .ok (.iload_n 1, 1) := by decide +kernel
theorem dX8_does_15 : decode cX8_does 15 = .ok (.imul, 1) := by decide +kernel
theorem dX8_does_16 : decode cX8_does 16 = .ok (.iconst 1, 1) := by decide +kernel
theorem dX8_does_17 : decode cX8_does 17 = .ok (.iadd, 1) := by decide +kernel
theorem dX8_does_18 : decode cX8_does 18 = .ok (.iaload, 1) := by decide +kernel
theorem dX8_does_19 : decode cX8_does 19 = .ok (.istore_n 3, 1) := by decide +kernel
theorem dX8_does_20 : decode cX8_does 20 = .ok (.aload_n 0, 1) := by decide +kernel
theorem dX8_does_21 : decode cX8_does 21 = .ok (.getfield 37, 3) := by decide +kernel
theorem dX8_does_24 : decode cX8_does 24 = .ok (.iconst 4, 1) := by decide +kernel
theorem dX8_does_25 : decode cX8_does 25 = .ok (.iload_n 1, 1) := by decide +kernel
theorem dX8_does_26 : decode cX8_does 26 = .ok (.imul, 1) := by decide +kernel
theorem dX8_does_27 : decode cX8_does 27 = .ok (.iconst 2, 1) := by decide +kernel
theorem dX8_does_28 : decode cX8_does 28 = .ok (.iadd, 1) := by decide +kernel
theorem dX8_does_29 : decode cX8_does 29 = .ok (.iaload, 1) := by decide +kernel
theorem dX8_does_30 : decode cX8_does 30 = .ok (.istore 4, 2) := by decide +kernel
theorem dX8_does_32 : decode cX8_does 32 = .ok (.aload_n 0, 1) := by decide +kernel
theorem dX8_does_33 : decode cX8_does 33 = .ok (.getfield 34, 3) := by decide +kernel
theorem dX8_does_36 : decode cX8_does 36 = .ok (.iload_n 1, 1) := by decide +kernel
theorem dX8_does_37 : decode cX8_does 37 = .ok (.iaload, 1) := by decide +kernel
theorem dX8_does_38 : decode cX8_does 38 = .ok (.tableswitch 128 0 7 #[46, 55, 74, 81, 88, 95, 104, 113], 46) := by decide +kernel
theorem dX8_does_84 : decode cX8_does 84 = .ok (.aload_n 0, 1) := by decide +kernel
theorem dX8_does_85 : decode cX8_does 85 = .ok (.iload_n 2, 1) := by decide +kernel
theorem dX8_does_86 : decode cX8_does 86 = .ok (.iload_n 3, 1) := by decide +kernel
theorem dX8_does_87 : decode cX8_does 87 = .ok (.iload 4, 2) := by decide +kernel
theorem dX8_does_89 : decode cX8_does 89 = .ok (.invokevirtual 245, 3) := by decide +kernel
theorem dX8_does_92 : decode cX8_does 92 = .ok (.ireturn, 1) := by decide +kernel
theorem dX8_does_93 : decode cX8_does 93 = .ok (.aload_n 0, 1) := by decide +kernel
theorem dX8_does_94 : decode cX8_does 94 = .ok (.iload_n 2, 1) := by decide +kernel
theorem dX8_does_95 : decode cX8_does 95 = .ok (.iload_n 3, 1) := by decide +kernel
theorem dX8_does_96 : decode cX8_does 96 = .ok (.iload 4, 2) := by decide +kernel
theorem dX8_does_98 : decode cX8_does 98 = .ok (.aload_n 0, 1) := by decide +kernel
theorem dX8_does_99 : decode cX8_does 99 = .ok (.getfield 37, 3) := by decide +kernel
theorem dX8_does_102 : decode cX8_does 102 = .ok (.iconst 4, 1) := by decide +kernel
theorem dX8_does_103 : decode cX8_does 103 = .ok (.iload_n 1, 1) := by decide +kernel
theorem dX8_does_104 : decode cX8_does 104 = .ok (.imul, 1) := by decide +kernel
theorem dX8_does_105 : decode cX8_does 105 = .ok (.iconst 3, 1) := by decide +kernel
theorem dX8_does_106 : decode cX8_does 106 = .ok (.iadd, 1) := by decide +kernel
theorem dX8_does_107 : decode cX8_does 107 = .ok (.iaload, 1) := by decide +kernel
theorem dX8_does_108 : decode cX8_does 108 = .ok (.invokevirtual 249, 3) := by decide +kernel
theorem dX8_does_111 : decode cX8_does 111 = .ok (.ireturn, 1) := by decide +kernel
theorem dX8_does_112 : decode cX8_does 112 = .ok (.aload_n 0, 1) := by decide +kernel
theorem dX8_does_113 : decode cX8_does 113 = .ok (.iload_n 2, 1) := by decide +kernel
theorem dX8_does_114 : decode cX8_does 114 = .ok (.iload_n 3, 1) := by decide +kernel
theorem dX8_does_115 : decode cX8_does 115 = .ok (.invokevirtual 252, 3) := by decide +kernel
theorem dX8_does_118 : decode cX8_does 118 = .ok (.ireturn, 1) := by decide +kernel
theorem dX8_does_119 : decode cX8_does 119 = .ok (.aload_n 0, 1) := by decide +kernel
theorem dX8_does_120 : decode cX8_does 120 = .ok (.iload_n 2, 1) := by decide +kernel
theorem dX8_does_121 : decode cX8_does 121 = .ok (.iload_n 3, 1) := by decide +kernel
theorem dX8_does_122 : decode cX8_does 122 = .ok (.invokevirtual 255, 3) := by decide +kernel
theorem dX8_does_125 : decode cX8_does 125 = .ok (.ireturn, 1) := by decide +kernel
theorem dX8_does_126 : decode cX8_does 126 = .ok (.aload_n 0, 1) := by decide +kernel
theorem dX8_does_127 : decode cX8_does 127 = .ok (.iload_n 2, 1) := by decide +kernel
theorem dX8_does_128 : decode cX8_does 128 = .ok (.iload_n 3, 1) := by decide +kernel
theorem dX8_does_129 : decode cX8_does 129 = .ok (.invokevirtual 258, 3) := by decide +kernel
theorem dX8_does_132 : decode cX8_does 132 = .ok (.ireturn, 1) := by decide +kernel
theorem dX8_does_133 : decode cX8_does 133 = .ok (.aload_n 0, 1) := by decide +kernel
theorem dX8_does_134 : decode cX8_does 134 = .ok (.iload_n 2, 1) := by decide +kernel
theorem dX8_does_135 : decode cX8_does 135 = .ok (.iload_n 3, 1) := by decide +kernel
theorem dX8_does_136 : decode cX8_does 136 = .ok (.iload 4, 2) := by decide +kernel
theorem dX8_does_138 : decode cX8_does 138 = .ok (.invokevirtual 261, 3) := by decide +kernel
theorem dX8_does_141 : decode cX8_does 141 = .ok (.ireturn, 1) := by decide +kernel
theorem dX8_does_142 : decode cX8_does 142 = .ok (.aload_n 0, 1) := by decide +kernel
theorem dX8_does_143 : decode cX8_does 143 = .ok (.iload_n 2, 1) := by decide +kernel
theorem dX8_does_144 : decode cX8_does 144 = .ok (.iload_n 3, 1) := by decide +kernel
theorem dX8_does_145 : decode cX8_does 145 = .ok (.iload 4, 2) := by decide +kernel
theorem dX8_does_147 : decode cX8_does 147 = .ok (.invokevirtual 264, 3) := by decide +kernel
theorem dX8_does_150 : decode cX8_does 150 = .ok (.ireturn, 1) := by decide +kernel
theorem dX8_does_151 : decode cX8_does 151 = .ok (.aload_n 0, 1) := by decide +kernel
theorem dX8_does_152 : decode cX8_does 152 = .ok (.iload_n 2, 1) := by decide +kernel
theorem dX8_does_153 : decode cX8_does 153 = .ok (.invokevirtual 267, 3) := by decide +kernel
theorem dX8_does_156 : decode cX8_does 156 = .ok (.iconst (-1), 1) := by decide +kernel
theorem dX8_does_157 : decode cX8_does 157 = .ok (.if_icmp .ne 7, 3) := by decide +kernel
theorem dX8_does_160 : decode cX8_does 160 = .ok (.iconst 1, 1) := by decide +kernel
theorem dX8_does_161 : decode cX8_does 161 = .ok (.goto 4, 3) := by decide +kernel
theorem dX8_does_164 : decode cX8_does 164 = .ok (.iconst 0, 1) := by decide +kernel
theorem dX8_does_165 : decode cX8_does 165 = .ok (.ireturn, 1) := by decide +kernel
theorem dX8_does_166 : decode cX8_does 166 = .ok (.aload_n 0, 1) := by decide +kernel
theorem dX8_does_167 : decode cX8_does 167 = .ok (.invokevirtual 270, 3) := by decide +kernel
theorem dX8_does_170 : decode cX8_does 170 = .ok (.iconst (-1), 1) := by decide +kernel
theorem dX8_does_171 : decode cX8_does 171 = .ok (.if_icmp .ne 7, 3) := by decide +kernel
theorem dX8_does_174 : decode cX8_does 174 = .ok (.iconst 2, 1) := by decide +kernel
theorem dX8_does_175 : decode cX8_does 175 = .ok (.goto 4, 3) := by decide +kernel
theorem dX8_does_178 : decode cX8_does 178 = .ok (.iconst 0, 1) := by decide +kernel
theorem dX8_does_179 : decode cX8_does 179 = .ok (.ireturn, 1) := by decide +kernel
set_option maxRecDepth 20000 in
theorem ggX8_text_X8_begins : GoodIn wsX8_text wsX8_begins := goodIn_r _ [10, 11, 12, 13, 14, 3, 15, 16, 9, 17, 18, 19, 20, 21, 22, 23, 24, 2, 25, 26, 27, 28, 29, 30, 31, 32, 33, 34, 35, 203, 204, 205, 206, 207, 208, 209, 210, 211, 212, 213, 214, 215, 216, 217, 218, 219, 220, 221, 222, 223, 224, 225, 226, 227, 228, 229, 230, 231, 232, 233, 234, 235] (by decide +kernel) (by decide +kernel)
set_option maxRecDepth 20000 in
theorem gX8_text_X8_begins : GoodIn wsX8_text (wsV RX8 274 RX8 yX8_begins wsX8_begins) := goodIn_app (goodIn_of _ (by decide +kernel)) ggX8_text_X8_begins
set_option maxRecDepth 20000 in
theorem ggX8_text_X8_line : GoodIn wsX8_text wsX8_line := goodIn_r _ [39, 2, 40, 41, 1, 42, 43, 44, 45, 9, 46, 47, 48, 49, 50, 51, 52, 53, 54, 55, 56, 57, 58, 59, 60, 61, 62, 63, 64, 65, 23, 66, 67, 68, 69, 3, 22, 70, 18, 19, 20, 21, 14, 24, 25, 26, 27, 28, 29, 30, 31, 32, 33, 34, 13, 35, 15, 16, 17, 71, 72, 73, 74, 75, 76, 77, 78, 79, 80, 81, 82, 83, 84, 85, 86, 87, 88, 89, 90, 91, 203, 204, 205, 206, 207, 208, 209, 210, 211, 212, 213, 214, 215, 216, 217, 218, 219, 220, 221, 222, 223, 224, 225, 226, 227, 228, 229, 230, 231, 232, 233, 234, 235] (by decide +kernel) (by decide +kernel)
set_option maxRecDepth 20000 in
theorem gX8_text_X8_line : GoodIn wsX8_text (wsV RX8 277 RX8 yX8_line wsX8_line) := goodIn_app (goodIn_of _ (by decide +kernel)) ggX8_text_X8_line
set_option maxRecDepth 20000 in
theorem ggX8_text_X8_isSign : GoodIn wsX8_text wsX8_isSign := goodIn_r _ [91, 2, 23, 203, 204, 205, 206, 207, 208, 209, 210, 211, 212, 213, 214, 215, 216, 217, 218, 219, 220, 221, 222, 223, 224, 225, 226, 227, 228, 229, 230, 231, 232, 233, 234, 235] (by decide +kernel) (by decide +kernel)
set_option maxRecDepth 20000 in
theorem gX8_text_X8_isSign : GoodIn wsX8_text (wsV RX8 213 RX8 yX8_isSign wsX8_isSign) := goodIn_app (goodIn_of _ (by decide +kernel)) ggX8_text_X8_isSign
set_option maxRecDepth 20000 in
theorem ggX8_text_X8_bad : GoodIn wsX8_text wsX8_bad := goodIn_r _ [69, 3, 22, 70, 203, 204, 205, 206, 207, 208, 209, 210, 211, 212, 213, 214, 215, 216, 217, 218, 219, 220, 221, 222, 223, 224, 225, 226, 227, 228, 229, 230, 231, 232, 233, 234, 235] (by decide +kernel) (by decide +kernel)
set_option maxRecDepth 20000 in
theorem gX8_text_X8_bad : GoodIn wsX8_text (wsV RX8 186 RX8 yX8_bad wsX8_bad) := goodIn_app (goodIn_of _ (by decide +kernel)) ggX8_text_X8_bad
set_option maxRecDepth 20000 in
theorem ggX8_text_X8_go : GoodIn wsX8_text wsX8_go := goodIn_r _ [21, 14, 22, 23, 24, 2, 25, 26, 27, 28, 29, 30, 31, 32, 33, 9, 34, 13, 35, 15, 16, 17, 203, 204, 205, 206, 207, 208, 209, 210, 211, 212, 213, 214, 215, 216, 217, 218, 219, 220, 221, 222, 223, 224, 225, 226, 227, 228, 229, 230, 231, 232, 233, 234, 235] (by decide +kernel) (by decide +kernel)
set_option maxRecDepth 20000 in
theorem gX8_text_X8_go : GoodIn wsX8_text (wsV RX8 180 RX8 yX8_go wsX8_go) := goodIn_app (goodIn_of _ (by decide +kernel)) ggX8_text_X8_go
set_option maxRecDepth 20000 in
theorem ggX8_text_X8_does : GoodIn wsX8_text wsX8_does := goodIn_r _ [95, 60, 41, 96, 97, 98, 9, 99, 11, 100, 101, 102, 103, 104, 105, 106, 107, 108, 109, 110, 111, 15, 16, 17, 112, 113, 114, 115, 116, 117, 118, 119, 120, 121, 122, 123, 124, 125, 126, 127, 128, 129, 130, 131, 132, 133, 134, 135, 136, 137, 138, 139, 140, 141, 142, 143, 144, 145, 146, 147, 148, 149, 150, 151, 152, 153, 154, 155, 156, 157, 158, 159, 160, 161, 162, 163, 164, 165, 166, 167, 168, 169, 170, 171, 172, 173, 174, 175, 176, 177, 178, 179, 180, 181, 182, 183, 184, 185, 186, 187, 188, 189, 190, 191, 192, 193, 194, 195, 196, 197, 198, 199, 200, 201, 202, 203, 204, 205, 206, 207, 208, 209, 210, 211, 212, 213, 214, 215, 216, 217, 218, 219, 220, 221, 222, 223, 224, 225, 226, 227, 228, 229, 230, 231, 232, 233, 234, 235] (by decide +kernel) (by decide +kernel)
set_option maxRecDepth 20000 in
theorem gX8_text_X8_does : GoodIn wsX8_text (wsV RX8 284 RX8 yX8_does wsX8_does) := goodIn_app (goodIn_of _ (by decide +kernel)) ggX8_text_X8_does
theorem dX8_text_0 : decode cX8_text 0 = .ok (.aload_n 0, 1) := by decide +kernel
theorem dX8_text_1 : decode cX8_text 1 = .ok (.iload_n 1, 1) := by decide +kernel
theorem dX8_text_2 : decode cX8_text 2 = .ok (.invokevirtual 274, 3) := by decide +kernel
theorem dX8_text_5 : decode cX8_text 5 = .ok (.ifCond .ne 5, 3) := by decide +kernel
theorem dX8_text_8 : decode cX8_text 8 = .ok (.iconst (-1), 1) := by decide +kernel
theorem dX8_text_9 : decode cX8_text 9 = .ok (.ireturn, 1) := by decide +kernel
theorem dX8_text_10 : decode cX8_text 10 = .ok (.aload_n 0, 1) := by decide +kernel
theorem dX8_text_11 : decode cX8_text 11 = .ok (.iconst 0, 1) := by decide +kernel
theorem dX8_text_12 : decode cX8_text 12 = .ok (.putfield 200, 3) := by decide +kernel
theorem dX8_text_15 : decode cX8_text 15 = .ok (.aload_n 0, 1) := by decide +kernel
theorem dX8_text_16 : decode cX8_text 16 = .ok (.getfield 162, 3) := by decide +kernel
theorem dX8_text_19 : decode cX8_text 19 = .ok (.ifCond .eq 58, 3) := by decide +kernel
theorem dX8_text_22 : decode cX8_text 22 = .ok (.aload_n 0, 1) := by decide +kernel
theorem dX8_text_23 : decode cX8_text 23 = .ok (.invokevirtual 277, 3) := by decide +kernel
theorem dX8_text_26 : decode cX8_text 26 = .ok (.ifCond .ne 11, 3) := by decide +kernel
theorem dX8_text_29 : decode cX8_text 29 = .ok (.bipush (-2), 2) := by decide +kernel
theorem dX8_text_31 : decode cX8_text 31 = .ok (.aload_n 0, 1) := by decide +kernel
theorem dX8_text_32 : decode cX8_text 32 = .ok (.getfield 177, 3) := by decide +kernel
theorem dX8_text_35 : decode cX8_text 35 = .ok (.isub, 1) := by decide +kernel
theorem dX8_text_36 : decode cX8_text 36 = .ok (.ireturn, 1) := by decide +kernel
theorem dX8_text_37 : decode cX8_text 37 = .ok (.aload_n 0, 1) := by decide +kernel
theorem dX8_text_38 : decode cX8_text 38 = .ok (.bipush 59, 2) := by decide +kernel
theorem dX8_text_40 : decode cX8_text 40 = .ok (.invokevirtual 213, 3) := by decide +kernel
theorem dX8_text_43 : decode cX8_text 43 = .ok (.ifCond .ne 17, 3) := by decide +kernel
theorem dX8_text_46 : decode cX8_text 46 = .ok (.aload_n 0, 1) := by decide +kernel
theorem dX8_text_47 : decode cX8_text 47 = .ok (.iconst 1, 1) := by decide +kernel
theorem dX8_text_48 : decode cX8_text 48 = .ok (.invokevirtual 186, 3) := by decide +kernel
theorem dX8_text_51 : decode cX8_text 51 = .ok (.pop, 1) := by decide +kernel
theorem dX8_text_52 : decode cX8_text 52 = .ok (.bipush (-2), 2) := by decide +kernel
theorem dX8_text_54 : decode cX8_text 54 = .ok (.aload_n 0, 1) := by decide +kernel
theorem dX8_text_55 : decode cX8_text 55 = .ok (.getfield 177, 3) := by decide +kernel
theorem dX8_text_58 : decode cX8_text 58 = .ok (.isub, 1) := by decide +kernel
theorem dX8_text_59 : decode cX8_text 59 = .ok (.ireturn, 1) := by decide +kernel
theorem dX8_text_60 : decode cX8_text 60 = .ok (.aload_n 0, 1) := by decide +kernel
theorem dX8_text_61 : decode cX8_text 61 = .ok (.invokevirtual 180, 3) := by decide +kernel
theorem dX8_text_64 : decode cX8_text 64 = .ok (.aload_n 0, 1) := by decide +kernel
theorem dX8_text_65 : decode cX8_text 65 = .ok (.dup, 1) := by decide +kernel
theorem dX8_text_66 : decode cX8_text 66 = .ok (.getfield 200, 3) := by decide +kernel
theorem dX8_text_69 : decode cX8_text 69 = .ok (.iconst 1, 1) := by decide +kernel
theorem dX8_text_70 : decode cX8_text 70 = .ok (.iadd, 1) := by decide +kernel
theorem dX8_text_71 : decode cX8_text 71 = .ok (.putfield 200, 3) := by decide +kernel
theorem dX8_text_74 : decode cX8_text 74 = .ok (.goto (-59), 3) := by decide +kernel
theorem dX8_text_77 : decode cX8_text 77 = .ok (.aload_n 0, 1) := by decide +kernel
theorem dX8_text_78 : decode cX8_text 78 = .ok (.iconst 1, 1) := by decide +kernel
theorem dX8_text_79 : decode cX8_text 79 = .ok (.putfield 280, 3) := by decide +kernel
theorem dX8_text_82 : decode cX8_text 82 = .ok (.aload_n 0, 1) := by decide +kernel
theorem dX8_text_83 : decode cX8_text 83 = .ok (.getfield 40, 3) := by decide +kernel
theorem dX8_text_86 : decode cX8_text 86 = .ok (.iconst 0, 1) := by decide +kernel
theorem dX8_text_87 : decode cX8_text 87 = .ok (.aload_n 0, 1) := by decide +kernel
theorem dX8_text_88 : decode cX8_text 88 = .ok (.getfield 200, 3) := by decide +kernel
theorem dX8_text_91 : decode cX8_text 91 = .ok (.iastore, 1) := by decide +kernel
theorem dX8_text_92 : decode cX8_text 92 = .ok (.aload_n 0, 1) := by decide +kernel
theorem dX8_text_93 : decode cX8_text 93 = .ok (.getfield 40, 3) := by decide +kernel
theorem dX8_text_96 : decode cX8_text 96 = .ok (.iconst 1, 1) := by decide +kernel
theorem dX8_text_97 : decode cX8_text 97 = .ok (.iconst 0, 1) := by decide +kernel
theorem dX8_text_98 : decode cX8_text 98 = .ok (.iastore, 1) := by decide +kernel
theorem dX8_text_99 : decode cX8_text 99 = .ok (.aload_n 0, 1) := by decide +kernel
theorem dX8_text_100 : decode cX8_text 100 = .ok (.getfield 40, 3) := by decide +kernel
theorem dX8_text_103 : decode cX8_text 103 = .ok (.iconst 2, 1) := by decide +kernel
theorem dX8_text_104 : decode cX8_text 104 = .ok (.iconst (-1), 1) := by decide +kernel
theorem dX8_text_105 : decode cX8_text 105 = .ok (.iastore, 1) := by decide +kernel
theorem dX8_text_106 : decode cX8_text 106 = .ok (.aload_n 0, 1) := by decide +kernel
theorem dX8_text_107 : decode cX8_text 107 = .ok (.getfield 40, 3) := by decide +kernel
theorem dX8_text_110 : decode cX8_text 110 = .ok (.iconst 3, 1) := by decide +kernel
theorem dX8_text_111 : decode cX8_text 111 = .ok (.iconst 0, 1) := by decide +kernel
theorem dX8_text_112 : decode cX8_text 112 = .ok (.iastore, 1) := by decide +kernel
theorem dX8_text_113 : decode cX8_text 113 = .ok (.iconst 0, 1) := by decide +kernel
theorem dX8_text_114 : decode cX8_text 114 = .ok (.istore_n 2, 1) := by decide +kernel
theorem dX8_text_115 : decode cX8_text 115 = .ok (.iload_n 2, 1) := by decide +kernel
theorem dX8_text_116 : decode cX8_text 116 = .ok (.aload_n 0, 1) := by decide +kernel
theorem dX8_text_117 : decode cX8_text 117 = .ok (.getfield 200, 3) := by decide +kernel
theorem dX8_text_120 : decode cX8_text 120 = .ok (.if_icmp .ge 79, 3) := by decide +kernel
theorem dX8_text_123 : decode cX8_text 123 = .ok (.aload_n 0, 1) := by decide +kernel
theorem dX8_text_124 : decode cX8_text 124 = .ok (.iload_n 2, 1) := by decide +kernel
theorem dX8_text_125 : decode cX8_text 125 = .ok (.invokevirtual 284, 3) := by decide +kernel
theorem dX8_text_128 : decode cX8_text 128 = .ok (.istore_n 3, 1) := by decide +kernel
theorem dX8_text_129 : decode cX8_text 129 = .ok (.iload_n 3, 1) := by decide +kernel
theorem dX8_text_130 : decode cX8_text 130 = .ok (.ifCond .eq 63, 3) := by decide +kernel
theorem dX8_text_133 : decode cX8_text 133 = .ok (.aload_n 0, 1) := by decide +kernel
theorem dX8_text_134 : decode cX8_text 134 = .ok (.getfield 40, 3) := by decide +kernel
theorem dX8_text_137 : decode cX8_text 137 = .ok (.iconst 2, 1) := by decide +kernel
theorem dX8_text_138 : decode cX8_text 138 = .ok (.aload_n 0, 1) := by decide +kernel
theorem dX8_text_139 : decode cX8_text 139 = .ok (.getfield 40, 3) := by decide +kernel
theorem dX8_text_142 : decode cX8_text 142 = .ok (.iconst 1, 1) := by decide +kernel
theorem dX8_text_143 : decode cX8_text 143 = .ok (.iaload, 1) := by decide +kernel
theorem dX8_text_144 : decode cX8_text 144 = .ok (.ifCond .ne 7, 3) := by decide +kernel
theorem dX8_text_147 : decode cX8_text 147 = .ok (.iload_n 2, 1) := by decide +kernel
theorem dX8_text_148 : decode cX8_text 148 = .ok (.goto 9, 3) := by decide +kernel
theorem dX8_text_151 : decode cX8_text 151 = .ok (.aload_n 0, 1) := by decide +kernel
theorem dX8_text_152 : decode cX8_text 152 = .ok (.getfield 40, 3) := by decide +kernel
theorem dX8_text_155 : decode cX8_text 155 = .ok (.iconst 2, 1) := by decide +kernel
theorem dX8_text_156 : decode cX8_text 156 = .ok (.iaload, 1) := by decide +kernel
theorem dX8_text_157 : decode cX8_text 157 = .ok (.iastore, 1) := by decide +kernel
theorem dX8_text_158 : decode cX8_text 158 = .ok (.aload_n 0, 1) := by decide +kernel
theorem dX8_text_159 : decode cX8_text 159 = .ok (.getfield 40, 3) := by decide +kernel
theorem dX8_text_162 : decode cX8_text 162 = .ok (.iconst 3, 1) := by decide +kernel
theorem dX8_text_163 : decode cX8_text 163 = .ok (.aload_n 0, 1) := by decide +kernel
theorem dX8_text_164 : decode cX8_text 164 = .ok (.getfield 40, 3) := by decide +kernel
theorem dX8_text_167 : decode cX8_text 167 = .ok (.iconst 1, 1) := by decide +kernel
theorem dX8_text_168 : decode cX8_text 168 = .ok (.iaload, 1) := by decide +kernel
theorem dX8_text_169 : decode cX8_text 169 = .ok (.ifCond .ne 7, 3) := by decide +kernel
theorem dX8_text_172 : decode cX8_text 172 = .ok (.iload_n 3, 1) := by decide +kernel
theorem dX8_text_173 : decode cX8_text 173 = .ok (.goto 9, 3) := by decide +kernel
theorem dX8_text_176 : decode cX8_text 176 = .ok (.aload_n 0, 1) := by decide +kernel
theorem dX8_text_177 : decode cX8_text 177 = .ok (.getfield 40, 3) := by decide +kernel
theorem dX8_text_180 : decode cX8_text 180 = .ok (.iconst 3, 1) := by decide +kernel
theorem dX8_text_181 : decode cX8_text 181 = .ok (.iaload, 1) := by decide +kernel
theorem dX8_text_182 : decode cX8_text 182 = .ok (.iastore, 1) := by decide +kernel
theorem dX8_text_183 : decode cX8_text 183 = .ok (.aload_n 0, 1) := by decide +kernel
theorem dX8_text_184 : decode cX8_text 184 = .ok (.getfield 40, 3) := by decide +kernel
theorem dX8_text_187 : decode cX8_text 187 = .ok (.iconst 1, 1) := by decide +kernel
theorem dX8_text_188 : decode cX8_text 188 = .ok (.dup2, 1) := by decide +kernel
theorem dX8_text_189 : decode cX8_text 189 = .ok (.iaload, 1) := by decide +kernel
theorem dX8_text_190 : decode cX8_text 190 = .ok (.iconst 1, 1) := by decide +kernel
theorem dX8_text_191 : decode cX8_text 191 = .ok (.iadd, 1) := by decide +kernel
theorem dX8_text_192 : decode cX8_text 192 = .ok (.iastore, 1) := by decide +kernel
theorem dX8_text_193 : decode cX8_text 193 = .ok (.iinc 2 1, 3) := by decide +kernel
theorem dX8_text_196 : decode cX8_text 196 = .ok (.goto (-81), 3) := by decide +kernel
theorem dX8_text_199 : decode cX8_text 199 = .ok (.aload_n 0, 1) := by decide +kernel
theorem dX8_text_200 : decode cX8_text 200 = .ok (.getfield 200, 3) := by decide +kernel
theorem dX8_text_203 : decode cX8_text 203 = .ok (.aload_n 0, 1) := by decide +kernel
theorem dX8_text_204 : decode cX8_text 204 = .ok (.getfield 40, 3) := by decide +kernel
theorem dX8_text_207 : decode cX8_text 207 = .ok (.iconst 1, 1) := by decide +kernel
theorem dX8_text_208 : decode cX8_text 208 = .ok (.iaload, 1) := by decide +kernel
theorem dX8_text_209 : decode cX8_text 209 = .ok (.isub, 1) := by decide +kernel
theorem dX8_text_210 : decode cX8_text 210 = .ok (.ireturn, 1) := by decide +kernel
set_option maxRecDepth 20000 in
theorem ggX8_ran_X8_within : GoodIn wsX8_ran wsX8_within := goodIn_r _ [8] (by decide +kernel) (by decide +kernel)
set_option maxRecDepth 20000 in
theorem gX8_ran_X8_within : GoodIn wsX8_ran (va_wsS RX8 60 yX8_within wsX8_within) := goodIn_app (goodIn_of _ (by decide +kernel)) ggX8_ran_X8_within
theorem dX8_ran_0 : decode cX8_ran 0 = .ok (.aload_n 0, 1) := by decide +kernel
theorem dX8_ran_1 : decode cX8_ran 1 = .ok (.iconst 0, 1) := by decide +kernel
theorem dX8_ran_2 : decode cX8_ran 2 = .ok (.putfield 1, 3) := by decide +kernel
theorem dX8_ran_5 : decode cX8_ran 5 = .ok (.aload_n 0, 1) := by decide +kernel
theorem dX8_ran_6 : decode cX8_ran 6 = .ok (.getfield 280, 3) := by decide +kernel
theorem dX8_ran_9 : decode cX8_ran 9 = .ok (.ifCond .eq 24, 3) := by decide +kernel
theorem dX8_ran_12 : decode cX8_ran 12 = .ok (.iload_n 1, 1) := by decide +kernel
theorem dX8_ran_13 : decode cX8_ran 13 = .ok (.i2l, 1) := by decide +kernel
theorem dX8_ran_14 : decode cX8_ran 14 = .ok (.lconst 0, 1) := by decide +kernel
theorem dX8_ran_15 : decode cX8_ran 15 = .ok (.ldc2_w 287, 3) := by decide +kernel
theorem dX8_ran_18 : decode cX8_ran 18 = .ok (.invokestatic 60, 3) := by decide +kernel
theorem dX8_ran_21 : decode cX8_ran 21 = .ok (.ifCond .eq 12, 3) := by decide +kernel
theorem dX8_ran_24 : decode cX8_ran 24 = .ok (.aload_n 0, 1) := by decide +kernel
theorem dX8_ran_25 : decode cX8_ran 25 = .ok (.getfield 40, 3) := by decide +kernel
theorem dX8_ran_28 : decode cX8_ran 28 = .ok (.iload_n 1, 1) := by decide +kernel
theorem dX8_ran_29 : decode cX8_ran 29 = .ok (.iaload, 1) := by decide +kernel
theorem dX8_ran_30 : decode cX8_ran 30 = .ok (.goto 4, 3) := by decide +kernel
theorem dX8_ran_33 : decode cX8_ran 33 = .ok (.iconst (-1), 1) := by decide +kernel
theorem dX8_ran_34 : decode cX8_ran 34 = .ok (.ireturn, 1) := by decide +kernel
theorem dX8_code_0 : decode cX8_code 0 = .ok (.aload_n 0, 1) := by decide +kernel
theorem dX8_code_1 : decode cX8_code 1 = .ok (.getfield 43, 3) := by decide +kernel
theorem dX8_code_4 : decode cX8_code 4 = .ok (.aload_n 0, 1) := by decide +kernel
theorem dX8_code_5 : decode cX8_code 5 = .ok (.getfield 289, 3) := by decide +kernel
theorem dX8_code_8 : decode cX8_code 8 = .ok (.sipush 1000, 3) := by decide +kernel
theorem dX8_code_11 : decode cX8_code 11 = .ok (.iload_n 1, 1) := by decide +kernel
theorem dX8_code_12 : decode cX8_code 12 = .ok (.imul, 1) := by decide +kernel
theorem dX8_code_13 : decode cX8_code 13 = .ok (.iload_n 2, 1) := by decide +kernel
theorem dX8_code_14 : decode cX8_code 14 = .ok (.iadd, 1) := by decide +kernel
theorem dX8_code_15 : decode cX8_code 15 = .ok (.iastore, 1) := by decide +kernel
theorem dX8_code_16 : decode cX8_code 16 = .ok (.aload_n 0, 1) := by decide +kernel
theorem dX8_code_17 : decode cX8_code 17 = .ok (.dup, 1) := by decide +kernel
theorem dX8_code_18 : decode cX8_code 18 = .ok (.getfield 289, 3) := by decide +kernel
theorem dX8_code_21 : decode cX8_code 21 = .ok (.iconst 1, 1) := by decide +kernel
theorem dX8_code_22 : decode cX8_code 22 = .ok (.iadd, 1) := by decide +kernel
theorem dX8_code_23 : decode cX8_code 23 = .ok (.putfield 289, 3) := by decide +kernel
theorem dX8_code_26 : decode cX8_code 26 = .ok (.return_, 1) := by decide +kernel
set_option maxRecDepth 20000 in
theorem ggX8_field_X8_is : GoodIn wsX8_field wsX8_is := goodIn_r _ [17, 18, 19, 20, 21, 22, 23, 24, 25, 26, 27, 28, 29, 30, 31, 32, 33, 34, 35, 36, 37, 38, 39, 40, 41, 42, 43, 44, 45, 46, 47, 48, 49, 50, 51, 52] (by decide +kernel) (by decide +kernel)
set_option maxRecDepth 20000 in
theorem gX8_field_X8_is : GoodIn wsX8_field (wsV RX8 192 RX8 yX8_is wsX8_is) := goodIn_app (goodIn_of _ (by decide +kernel)) ggX8_field_X8_is
theorem dX8_field_0 : decode cX8_field 0 = .ok (.aload_n 0, 1) := by decide +kernel
theorem dX8_field_1 : decode cX8_field 1 = .ok (.getfield 292, 3) := by decide +kernel
theorem dX8_field_4 : decode cX8_field 4 = .ok (.ifCond .eq 75, 3) := by decide +kernel
theorem dX8_field_7 : decode cX8_field 7 = .ok (.aload_n 0, 1) := by decide +kernel
theorem dX8_field_8 : decode cX8_field 8 = .ok (.ldc2_w 295, 3) := by decide +kernel
theorem dX8_field_11 : decode cX8_field 11 = .ok (.invokevirtual 192, 3) := by decide +kernel
theorem dX8_field_14 : decode cX8_field 14 = .ok (.ifCond .eq 7, 3) := by decide +kernel
theorem dX8_field_17 : decode cX8_field 17 = .ok (.iconst 0, 1) := by decide +kernel
theorem dX8_field_18 : decode cX8_field 18 = .ok (.goto 60, 3) := by decide +kernel
theorem dX8_field_21 : decode cX8_field 21 = .ok (.aload_n 0, 1) := by decide +kernel
theorem dX8_field_22 : decode cX8_field 22 = .ok (.ldc2_w 297, 3) := by decide +kernel
theorem dX8_field_25 : decode cX8_field 25 = .ok (.invokevirtual 192, 3) := by decide +kernel
theorem dX8_field_28 : decode cX8_field 28 = .ok (.ifCond .eq 7, 3) := by decide +kernel
theorem dX8_field_31 : decode cX8_field 31 = .ok (.iconst 1, 1) := by decide +kernel
theorem dX8_field_32 : decode cX8_field 32 = .ok (.goto 46, 3) := by decide +kernel
theorem dX8_field_35 : decode cX8_field 35 = .ok (.aload_n 0, 1) := by decide +kernel
theorem dX8_field_36 : decode cX8_field 36 = .ok (.ldc2_w 299, 3) := by decide +kernel
theorem dX8_field_39 : decode cX8_field 39 = .ok (.invokevirtual 192, 3) := by decide +kernel
theorem dX8_field_42 : decode cX8_field 42 = .ok (.ifCond .eq 7, 3) := by decide +kernel
theorem dX8_field_45 : decode cX8_field 45 = .ok (.iconst 2, 1) := by decide +kernel
theorem dX8_field_46 : decode cX8_field 46 = .ok (.goto 32, 3) := by decide +kernel
theorem dX8_field_49 : decode cX8_field 49 = .ok (.aload_n 0, 1) := by decide +kernel
theorem dX8_field_50 : decode cX8_field 50 = .ok (.ldc2_w 301, 3) := by decide +kernel
theorem dX8_field_53 : decode cX8_field 53 = .ok (.invokevirtual 192, 3) := by decide +kernel
theorem dX8_field_56 : decode cX8_field 56 = .ok (.ifCond .eq 7, 3) := by decide +kernel
theorem dX8_field_59 : decode cX8_field 59 = .ok (.iconst 3, 1) := by decide +kernel
theorem dX8_field_60 : decode cX8_field 60 = .ok (.goto 18, 3) := by decide +kernel
theorem dX8_field_63 : decode cX8_field 63 = .ok (.aload_n 0, 1) := by decide +kernel
theorem dX8_field_64 : decode cX8_field 64 = .ok (.ldc2_w 303, 3) := by decide +kernel
theorem dX8_field_67 : decode cX8_field 67 = .ok (.invokevirtual 192, 3) := by decide +kernel
theorem dX8_field_70 : decode cX8_field 70 = .ok (.ifCond .eq 7, 3) := by decide +kernel
theorem dX8_field_73 : decode cX8_field 73 = .ok (.iconst 4, 1) := by decide +kernel
theorem dX8_field_74 : decode cX8_field 74 = .ok (.goto 4, 3) := by decide +kernel
theorem dX8_field_77 : decode cX8_field 77 = .ok (.iconst (-1), 1) := by decide +kernel
theorem dX8_field_78 : decode cX8_field 78 = .ok (.ireturn, 1) := by decide +kernel
theorem dX8_field_79 : decode cX8_field 79 = .ok (.aload_n 0, 1) := by decide +kernel
theorem dX8_field_80 : decode cX8_field 80 = .ok (.ldc2_w 305, 3) := by decide +kernel
theorem dX8_field_83 : decode cX8_field 83 = .ok (.invokevirtual 192, 3) := by decide +kernel
theorem dX8_field_86 : decode cX8_field 86 = .ok (.ifCond .eq 7, 3) := by decide +kernel
theorem dX8_field_89 : decode cX8_field 89 = .ok (.iconst 0, 1) := by decide +kernel
theorem dX8_field_90 : decode cX8_field 90 = .ok (.goto 74, 3) := by decide +kernel
theorem dX8_field_93 : decode cX8_field 93 = .ok (.aload_n 0, 1) := by decide +kernel
theorem dX8_field_94 : decode cX8_field 94 = .ok (.ldc2_w 307, 3) := by decide +kernel
theorem dX8_field_97 : decode cX8_field 97 = .ok (.invokevirtual 192, 3) := by decide +kernel
theorem dX8_field_100 : decode cX8_field 100 = .ok (.ifCond .eq 7, 3) := by decide +kernel
theorem dX8_field_103 : decode cX8_field 103 = .ok (.iconst 1, 1) := by decide +kernel
theorem dX8_field_104 : decode cX8_field 104 = .ok (.goto 60, 3) := by decide +kernel
theorem dX8_field_107 : decode cX8_field 107 = .ok (.aload_n 0, 1) := by decide +kernel
theorem dX8_field_108 : decode cX8_field 108 = .ok (.ldc2_w 309, 3) := by decide +kernel
theorem dX8_field_111 : decode cX8_field 111 = .ok (.invokevirtual 192, 3) := by decide +kernel
theorem dX8_field_114 : decode cX8_field 114 = .ok (.ifCond .eq 7, 3) := by decide +kernel
theorem dX8_field_117 : decode cX8_field 117 = .ok (.iconst 2, 1) := by decide +kernel
theorem dX8_field_118 : decode cX8_field 118 = .ok (.goto 46, 3) := by decide +kernel
theorem dX8_field_121 : decode cX8_field 121 = .ok (.aload_n 0, 1) := by decide +kernel
theorem dX8_field_122 : decode cX8_field 122 = .ok (.ldc2_w 311, 3) := by decide +kernel
theorem dX8_field_125 : decode cX8_field 125 = .ok (.invokevirtual 192, 3) := by decide +kernel
theorem dX8_field_128 : decode cX8_field 128 = .ok (.ifCond .eq 7, 3) := by decide +kernel
theorem dX8_field_131 : decode cX8_field 131 = .ok (.iconst 3, 1) := by decide +kernel
theorem dX8_field_132 : decode cX8_field 132 = .ok (.goto 32, 3) := by decide +kernel
theorem dX8_field_135 : decode cX8_field 135 = .ok (.aload_n 0, 1) := by decide +kernel
theorem dX8_field_136 : decode cX8_field 136 = .ok (.ldc2_w 203, 3) := by decide +kernel
theorem dX8_field_139 : decode cX8_field 139 = .ok (.invokevirtual 192, 3) := by decide +kernel
theorem dX8_field_142 : decode cX8_field 142 = .ok (.ifCond .eq 7, 3) := by decide +kernel
theorem dX8_field_145 : decode cX8_field 145 = .ok (.iconst 4, 1) := by decide +kernel
theorem dX8_field_146 : decode cX8_field 146 = .ok (.goto 18, 3) := by decide +kernel
theorem dX8_field_149 : decode cX8_field 149 = .ok (.aload_n 0, 1) := by decide +kernel
theorem dX8_field_150 : decode cX8_field 150 = .ok (.ldc2_w 313, 3) := by decide +kernel
theorem dX8_field_153 : decode cX8_field 153 = .ok (.invokevirtual 192, 3) := by decide +kernel
theorem dX8_field_156 : decode cX8_field 156 = .ok (.ifCond .eq 7, 3) := by decide +kernel
theorem dX8_field_159 : decode cX8_field 159 = .ok (.iconst 5, 1) := by decide +kernel
theorem dX8_field_160 : decode cX8_field 160 = .ok (.goto 4, 3) := by decide +kernel
theorem dX8_field_163 : decode cX8_field 163 = .ok (.iconst (-1), 1) := by decide +kernel
theorem dX8_field_164 : decode cX8_field 164 = .ok (.ireturn, 1) := by decide +kernel
set_option maxRecDepth 20000 in
theorem ggX8_valueHere_X8_code : GoodIn wsX8_valueHere wsX8_code := goodIn_r _ [7, 8, 9, 58, 59, 60, 61, 62, 63, 64, 65, 66, 67, 68, 69, 70, 71, 72, 73, 74, 75, 76, 77, 78, 79, 80, 81, 82, 83, 84, 85, 86, 87, 88, 89, 90] (by decide +kernel) (by decide +kernel)
set_option maxRecDepth 20000 in
theorem gX8_valueHere_X8_code : GoodIn wsX8_valueHere (wsV RX8 315 RX8 yX8_code wsX8_code) := goodIn_app (goodIn_of _ (by decide +kernel)) ggX8_valueHere_X8_code
set_option maxRecDepth 20000 in
theorem ggX8_valueHere_X8_go : GoodIn wsX8_valueHere wsX8_go := goodIn_r _ [13, 14, 15, 2, 16, 1, 17, 18, 19, 20, 21, 22, 23, 24, 25, 6, 26, 27, 28, 29, 30, 31, 58, 59, 60, 61, 62, 63, 64, 65, 66, 67, 68, 69, 70, 71, 72, 73, 74, 75, 76, 77, 78, 79, 80, 81, 82, 83, 84, 85, 86, 87, 88, 89, 90] (by decide +kernel) (by decide +kernel)
set_option maxRecDepth 20000 in
theorem gX8_valueHere_X8_go : GoodIn wsX8_valueHere (wsV RX8 180 RX8 yX8_go wsX8_go) := goodIn_app (goodIn_of _ (by decide +kernel)) ggX8_valueHere_X8_go
set_option maxRecDepth 20000 in
theorem ggX8_valueHere_X8_field : GoodIn wsX8_valueHere wsX8_field := goodIn_r _ [35, 36, 37, 38, 39, 40, 41, 42, 43, 44, 45, 46, 47, 48, 49, 50, 6, 51, 1, 16, 58, 59, 60, 61, 62, 63, 64, 65, 66, 67, 68, 69, 70, 71, 72, 73, 74, 75, 76, 77, 78, 79, 80, 81, 82, 83, 84, 85, 86, 87, 88, 89, 90] (by decide +kernel) (by decide +kernel)
set_option maxRecDepth 20000 in
theorem gX8_valueHere_X8_field : GoodIn wsX8_valueHere (wsV RX8 319 RX8 yX8_field wsX8_field) := goodIn_app (goodIn_of _ (by decide +kernel)) ggX8_valueHere_X8_field
set_option maxRecDepth 20000 in
theorem ggX8_valueHere_X8_bad : GoodIn wsX8_valueHere wsX8_bad := goodIn_r _ [55, 56, 15, 57, 58, 59, 60, 61, 62, 63, 64, 65, 66, 67, 68, 69, 70, 71, 72, 73, 74, 75, 76, 77, 78, 79, 80, 81, 82, 83, 84, 85, 86, 87, 88, 89, 90] (by decide +kernel) (by decide +kernel)
set_option maxRecDepth 20000 in
theorem gX8_valueHere_X8_bad : GoodIn wsX8_valueHere (wsV RX8 186 RX8 yX8_bad wsX8_bad) := goodIn_app (goodIn_of _ (by decide +kernel)) ggX8_valueHere_X8_bad
theorem dX8_valueHere_0 : decode cX8_valueHere 0 = .ok (.aload_n 0, 1) := by decide +kernel
theorem dX8_valueHere_1 : decode cX8_valueHere 1 = .ok (.getfield 162, 3) := by decide +kernel
theorem dX8_valueHere_4 : decode cX8_valueHere 4 = .ok (.iconst 2, 1) := by decide +kernel
theorem dX8_valueHere_5 : decode cX8_valueHere 5 = .ok (.if_icmp .ne 18, 3) := by decide +kernel
theorem dX8_valueHere_8 : decode cX8_valueHere 8 = .ok (.aload_n 0, 1) := by decide +kernel
theorem dX8_valueHere_9 : decode cX8_valueHere 9 = .ok (.iconst 0, 1) := by decide +kernel
theorem dX8_valueHere_10 : decode cX8_valueHere 10 = .ok (.aload_n 0, 1) := by decide +kernel
theorem dX8_valueHere_11 : decode cX8_valueHere 11 = .ok (.getfield 155, 3) := by decide +kernel
theorem dX8_valueHere_14 : decode cX8_valueHere 14 = .ok (.invokevirtual 315, 3) := by decide +kernel
theorem dX8_valueHere_17 : decode cX8_valueHere 17 = .ok (.aload_n 0, 1) := by decide +kernel
theorem dX8_valueHere_18 : decode cX8_valueHere 18 = .ok (.invokevirtual 180, 3) := by decide +kernel
theorem dX8_valueHere_21 : decode cX8_valueHere 21 = .ok (.iconst 1, 1) := by decide +kernel
theorem dX8_valueHere_22 : decode cX8_valueHere 22 = .ok (.ireturn, 1) := by decide +kernel
theorem dX8_valueHere_23 : decode cX8_valueHere 23 = .ok (.aload_n 0, 1) := by decide +kernel
theorem dX8_valueHere_24 : decode cX8_valueHere 24 = .ok (.invokevirtual 319, 3) := by decide +kernel
theorem dX8_valueHere_27 : decode cX8_valueHere 27 = .ok (.istore_n 1, 1) := by decide +kernel
theorem dX8_valueHere_28 : decode cX8_valueHere 28 = .ok (.iload_n 1, 1) := by decide +kernel
theorem dX8_valueHere_29 : decode cX8_valueHere 29 = .ok (.iconst (-1), 1) := by decide +kernel
theorem dX8_valueHere_30 : decode cX8_valueHere 30 = .ok (.if_icmp .ne 9, 3) := by decide +kernel
theorem dX8_valueHere_33 : decode cX8_valueHere 33 = .ok (.aload_n 0, 1) := by decide +kernel
theorem dX8_valueHere_34 : decode cX8_valueHere 34 = .ok (.iconst 1, 1) := by decide +kernel
theorem dX8_valueHere_35 : decode cX8_valueHere 35 = .ok (.invokevirtual 186, 3) := by decide +kernel
theorem dX8_valueHere_38 : decode cX8_valueHere 38 = .ok (.ireturn, 1) := by decide +kernel
theorem dX8_valueHere_39 : decode cX8_valueHere 39 = .ok (.aload_n 0, 1) := by decide +kernel
theorem dX8_valueHere_40 : decode cX8_valueHere 40 = .ok (.iconst 1, 1) := by decide +kernel
theorem dX8_valueHere_41 : decode cX8_valueHere 41 = .ok (.iload_n 1, 1) := by decide +kernel
theorem dX8_valueHere_42 : decode cX8_valueHere 42 = .ok (.invokevirtual 315, 3) := by decide +kernel
theorem dX8_valueHere_45 : decode cX8_valueHere 45 = .ok (.aload_n 0, 1) := by decide +kernel
theorem dX8_valueHere_46 : decode cX8_valueHere 46 = .ok (.invokevirtual 180, 3) := by decide +kernel
theorem dX8_valueHere_49 : decode cX8_valueHere 49 = .ok (.iconst 1, 1) := by decide +kernel
theorem dX8_valueHere_50 : decode cX8_valueHere 50 = .ok (.ireturn, 1) := by decide +kernel
set_option maxRecDepth 20000 in
theorem ggX8_sumHere_X8_valueHere : GoodIn wsX8_sumHere wsX8_valueHere := goodIn_r _ [5, 6, 7, 8, 9, 10, 4, 11, 12, 13, 14, 15, 16, 17, 18, 19, 20, 21, 22, 23, 24, 25, 26, 27, 28, 29, 30, 31, 32, 33, 34, 35, 36, 37, 38, 39, 40, 41, 42, 43, 44, 45, 46, 47, 48, 49, 50, 51, 52, 53, 54, 55, 56, 57, 58, 59, 60, 61, 66, 67, 68, 69, 70, 71, 72, 73, 74, 75, 76, 77, 78, 79, 80, 81, 82, 83, 84, 85, 86, 87, 88, 89, 90, 91, 92, 93, 94, 95, 96, 97, 98] (by decide +kernel) (by decide +kernel)
set_option maxRecDepth 20000 in
theorem gX8_sumHere_X8_valueHere : GoodIn wsX8_sumHere (wsV RX8 322 RX8 yX8_valueHere wsX8_valueHere) := goodIn_app (goodIn_of _ (by decide +kernel)) ggX8_sumHere_X8_valueHere
set_option maxRecDepth 20000 in
theorem ggX8_sumHere_X8_isSign : GoodIn wsX8_sumHere wsX8_isSign := goodIn_r _ [65, 6, 7, 66, 67, 68, 69, 70, 71, 72, 73, 74, 75, 76, 77, 78, 79, 80, 81, 82, 83, 84, 85, 86, 87, 88, 89, 90, 91, 92, 93, 94, 95, 96, 97, 98] (by decide +kernel) (by decide +kernel)
set_option maxRecDepth 20000 in
theorem gX8_sumHere_X8_isSign : GoodIn wsX8_sumHere (wsV RX8 213 RX8 yX8_isSign wsX8_isSign) := goodIn_app (goodIn_of _ (by decide +kernel)) ggX8_sumHere_X8_isSign
set_option maxRecDepth 20000 in
theorem ggX8_sumHere_X8_go : GoodIn wsX8_sumHere wsX8_go := goodIn_r _ [17, 18, 19, 7, 20, 6, 21, 22, 23, 24, 25, 26, 27, 28, 29, 4, 30, 31, 32, 33, 34, 35, 66, 67, 68, 69, 70, 71, 72, 73, 74, 75, 76, 77, 78, 79, 80, 81, 82, 83, 84, 85, 86, 87, 88, 89, 90, 91, 92, 93, 94, 95, 96, 97, 98] (by decide +kernel) (by decide +kernel)
set_option maxRecDepth 20000 in
theorem gX8_sumHere_X8_go : GoodIn wsX8_sumHere (wsV RX8 180 RX8 yX8_go wsX8_go) := goodIn_app (goodIn_of _ (by decide +kernel)) ggX8_sumHere_X8_go
set_option maxRecDepth 20000 in
theorem ggX8_sumHere_X8_code : GoodIn wsX8_sumHere wsX8_code := goodIn_r _ [11, 12, 13, 66, 67, 68, 69, 70, 71, 72, 73, 74, 75, 76, 77, 78, 79, 80, 81, 82, 83, 84, 85, 86, 87, 88, 89, 90, 91, 92, 93, 94, 95, 96, 97, 98] (by decide +kernel) (by decide +kernel)
set_option maxRecDepth 20000 in
theorem gX8_sumHere_X8_code : GoodIn wsX8_sumHere (wsV RX8 315 RX8 yX8_code wsX8_code) := goodIn_app (goodIn_of _ (by decide +kernel)) ggX8_sumHere_X8_code
theorem dX8_sumHere_0 : decode cX8_sumHere 0 = .ok (.aload_n 0, 1) := by decide +kernel
theorem dX8_sumHere_1 : decode cX8_sumHere 1 = .ok (.invokevirtual 322, 3) := by decide +kernel
theorem dX8_sumHere_4 : decode cX8_sumHere 4 = .ok (.ifCond .ne 5, 3) := by decide +kernel
theorem dX8_sumHere_7 : decode cX8_sumHere 7 = .ok (.iconst 0, 1) := by decide +kernel
theorem dX8_sumHere_8 : decode cX8_sumHere 8 = .ok (.ireturn, 1) := by decide +kernel
theorem dX8_sumHere_9 : decode cX8_sumHere 9 = .ok (.aload_n 0, 1) := by decide +kernel
theorem dX8_sumHere_10 : decode cX8_sumHere 10 = .ok (.bipush 43, 2) := by decide +kernel
theorem dX8_sumHere_12 : decode cX8_sumHere 12 = .ok (.invokevirtual 213, 3) := by decide +kernel
theorem dX8_sumHere_15 : decode cX8_sumHere 15 = .ok (.ifCond .ne 12, 3) := by decide +kernel
theorem dX8_sumHere_18 : decode cX8_sumHere 18 = .ok (.aload_n 0, 1) := by decide +kernel
theorem dX8_sumHere_19 : decode cX8_sumHere 19 = .ok (.bipush 45, 2) := by decide +kernel
theorem dX8_sumHere_21 : decode cX8_sumHere 21 = .ok (.invokevirtual 213, 3) := by decide +kernel
theorem dX8_sumHere_24 : decode cX8_sumHere 24 = .ok (.ifCond .eq 40, 3) := by decide +kernel
theorem dX8_sumHere_27 : decode cX8_sumHere 27 = .ok (.aload_n 0, 1) := by decide +kernel
theorem dX8_sumHere_28 : decode cX8_sumHere 28 = .ok (.bipush 43, 2) := by decide +kernel
theorem dX8_sumHere_30 : decode cX8_sumHere 30 = .ok (.invokevirtual 213, 3) := by decide +kernel
theorem dX8_sumHere_33 : decode cX8_sumHere 33 = .ok (.ifCond .eq 7, 3) := by decide +kernel
theorem dX8_sumHere_36 : decode cX8_sumHere 36 = .ok (.iconst 2, 1) := by decide +kernel
theorem dX8_sumHere_37 : decode cX8_sumHere 37 = .ok (.goto 4, 3) := by decide +kernel
theorem dX8_sumHere_40 : decode cX8_sumHere 40 = .ok (.iconst 3, 1) := by decide +kernel
theorem dX8_sumHere_41 : decode cX8_sumHere 41 = .ok (.istore_n 1, 1) := by decide +kernel
theorem dX8_sumHere_42 : decode cX8_sumHere 42 = .ok (.aload_n 0, 1) := by decide +kernel
theorem dX8_sumHere_43 : decode cX8_sumHere 43 = .ok (.invokevirtual 180, 3) := by decide +kernel
theorem dX8_sumHere_46 : decode cX8_sumHere 46 = .ok (.aload_n 0, 1) := by decide +kernel
theorem dX8_sumHere_47 : decode cX8_sumHere 47 = .ok (.invokevirtual 322, 3) := by decide +kernel
theorem dX8_sumHere_50 : decode cX8_sumHere 50 = .ok (.ifCond .ne 5, 3) := by decide +kernel
theorem dX8_sumHere_53 : decode cX8_sumHere 53 = .ok (.iconst 0, 1) := by decide +kernel
theorem dX8_sumHere_54 : decode cX8_sumHere 54 = .ok (.ireturn, 1) := by decide +kernel
theorem dX8_sumHere_55 : decode cX8_sumHere 55 = .ok (.aload_n 0, 1) := by decide +kernel
theorem dX8_sumHere_56 : decode cX8_sumHere 56 = .ok (.iload_n 1, 1) := by decide +kernel
theorem dX8_sumHere_57 : decode cX8_sumHere 57 = .ok (.iconst 0, 1) := by decide +kernel
theorem dX8_sumHere_58 : decode cX8_sumHere 58 = .ok (.invokevirtual 315, 3) := by decide +kernel
theorem dX8_sumHere_61 : decode cX8_sumHere 61 = .ok (.goto (-52), 3) := by decide +kernel
theorem dX8_sumHere_64 : decode cX8_sumHere 64 = .ok (.iconst 1, 1) := by decide +kernel
theorem dX8_sumHere_65 : decode cX8_sumHere 65 = .ok (.ireturn, 1) := by decide +kernel
set_option maxRecDepth 20000 in
theorem ggX8_compared_X8_sumHere : GoodIn wsX8_compared wsX8_sumHere := goodIn_r _ [5, 6, 7, 8, 4, 9, 10, 11, 12, 13, 14, 15, 16, 17, 18, 19, 20, 21, 22, 23, 24, 25, 26, 27, 28, 29, 30, 31, 32, 33, 34, 35, 36, 37, 38, 39, 40, 41, 42, 43, 44, 45, 46, 47, 48, 49, 50, 51, 52, 53, 54, 55, 56, 57, 58, 59, 60, 61, 62, 63, 64, 65, 66, 67, 68, 69, 70, 71, 72, 73, 74, 75, 76, 77, 78, 79, 80, 81, 82, 83, 84, 85, 86, 87, 88, 89, 90, 91, 92, 93, 94, 95, 96, 97, 98, 99, 100, 101, 102] (by decide +kernel) (by decide +kernel)
set_option maxRecDepth 20000 in
theorem gX8_compared_X8_sumHere : GoodIn wsX8_compared (wsV RX8 325 RX8 yX8_sumHere wsX8_sumHere) := goodIn_app (goodIn_of _ (by decide +kernel)) ggX8_compared_X8_sumHere
set_option maxRecDepth 20000 in
theorem ggX8_compared_X8_isSign : GoodIn wsX8_compared wsX8_isSign := goodIn_r _ [69, 10, 11, 70, 71, 72, 73, 74, 75, 76, 77, 78, 79, 80, 81, 82, 83, 84, 85, 86, 87, 88, 89, 90, 91, 92, 93, 94, 95, 96, 97, 98, 99, 100, 101, 102] (by decide +kernel) (by decide +kernel)
set_option maxRecDepth 20000 in
theorem gX8_compared_X8_isSign : GoodIn wsX8_compared (wsV RX8 213 RX8 yX8_isSign wsX8_isSign) := goodIn_app (goodIn_of _ (by decide +kernel)) ggX8_compared_X8_isSign
set_option maxRecDepth 20000 in
theorem ggX8_compared_X8_bad : GoodIn wsX8_compared wsX8_bad := goodIn_r _ [63, 64, 23, 65, 70, 71, 72, 73, 74, 75, 76, 77, 78, 79, 80, 81, 82, 83, 84, 85, 86, 87, 88, 89, 90, 91, 92, 93, 94, 95, 96, 97, 98, 99, 100, 101, 102] (by decide +kernel) (by decide +kernel)
set_option maxRecDepth 20000 in
theorem gX8_compared_X8_bad : GoodIn wsX8_compared (wsV RX8 186 RX8 yX8_bad wsX8_bad) := goodIn_app (goodIn_of _ (by decide +kernel)) ggX8_compared_X8_bad
set_option maxRecDepth 20000 in
theorem ggX8_compared_X8_go : GoodIn wsX8_compared wsX8_go := goodIn_r _ [21, 22, 23, 11, 24, 10, 25, 26, 27, 28, 29, 30, 31, 32, 33, 4, 34, 35, 36, 37, 38, 39, 70, 71, 72, 73, 74, 75, 76, 77, 78, 79, 80, 81, 82, 83, 84, 85, 86, 87, 88, 89, 90, 91, 92, 93, 94, 95, 96, 97, 98, 99, 100, 101, 102] (by decide +kernel) (by decide +kernel)
set_option maxRecDepth 20000 in
theorem gX8_compared_X8_go : GoodIn wsX8_compared (wsV RX8 180 RX8 yX8_go wsX8_go) := goodIn_app (goodIn_of _ (by decide +kernel)) ggX8_compared_X8_go
set_option maxRecDepth 20000 in
theorem ggX8_compared_X8_code : GoodIn wsX8_compared wsX8_code := goodIn_r _ [15, 16, 17, 70, 71, 72, 73, 74, 75, 76, 77, 78, 79, 80, 81, 82, 83, 84, 85, 86, 87, 88, 89, 90, 91, 92, 93, 94, 95, 96, 97, 98, 99, 100, 101, 102] (by decide +kernel) (by decide +kernel)
set_option maxRecDepth 20000 in
theorem gX8_compared_X8_code : GoodIn wsX8_compared (wsV RX8 315 RX8 yX8_code wsX8_code) := goodIn_app (goodIn_of _ (by decide +kernel)) ggX8_compared_X8_code
theorem dX8_compared_0 : decode cX8_compared 0 = .ok (.aload_n 0, 1) := by decide +kernel
theorem dX8_compared_1 : decode cX8_compared 1 = .ok (.invokevirtual 325, 3) := by decide +kernel
theorem dX8_compared_4 : decode cX8_compared 4 = .ok (.ifCond .ne 5, 3) := by decide +kernel
theorem dX8_compared_7 : decode cX8_compared 7 = .ok (.iconst 0, 1) := by decide +kernel
theorem dX8_compared_8 : decode cX8_compared 8 = .ok (.ireturn, 1) := by decide +kernel
theorem dX8_compared_9 : decode cX8_compared 9 = .ok (.aload_n 0, 1) := by decide +kernel
theorem dX8_compared_10 : decode cX8_compared 10 = .ok (.bipush 60, 2) := by decide +kernel
theorem dX8_compared_12 : decode cX8_compared 12 = .ok (.invokevirtual 213, 3) := by decide +kernel
theorem dX8_compared_15 : decode cX8_compared 15 = .ok (.ifCond .eq 7, 3) := by decide +kernel
theorem dX8_compared_18 : decode cX8_compared 18 = .ok (.iconst 4, 1) := by decide +kernel
theorem dX8_compared_19 : decode cX8_compared 19 = .ok (.goto 31, 3) := by decide +kernel
theorem dX8_compared_22 : decode cX8_compared 22 = .ok (.aload_n 0, 1) := by decide +kernel
theorem dX8_compared_23 : decode cX8_compared 23 = .ok (.bipush 61, 2) := by decide +kernel
theorem dX8_compared_25 : decode cX8_compared 25 = .ok (.invokevirtual 213, 3) := by decide +kernel
theorem dX8_compared_28 : decode cX8_compared 28 = .ok (.ifCond .eq 7, 3) := by decide +kernel
theorem dX8_compared_31 : decode cX8_compared 31 = .ok (.iconst 5, 1) := by decide +kernel
theorem dX8_compared_32 : decode cX8_compared 32 = .ok (.goto 18, 3) := by decide +kernel
theorem dX8_compared_35 : decode cX8_compared 35 = .ok (.aload_n 0, 1) := by decide +kernel
theorem dX8_compared_36 : decode cX8_compared 36 = .ok (.bipush 62, 2) := by decide +kernel
theorem dX8_compared_38 : decode cX8_compared 38 = .ok (.invokevirtual 213, 3) := by decide +kernel
theorem dX8_compared_41 : decode cX8_compared 41 = .ok (.ifCond .eq 8, 3) := by decide +kernel
theorem dX8_compared_44 : decode cX8_compared 44 = .ok (.bipush 6, 2) := by decide +kernel
theorem dX8_compared_46 : decode cX8_compared 46 = .ok (.goto 4, 3) := by decide +kernel
theorem dX8_compared_49 : decode cX8_compared 49 = .ok (.iconst (-1), 1) := by decide +kernel
theorem dX8_compared_50 : decode cX8_compared 50 = .ok (.istore_n 1, 1) := by decide +kernel
theorem dX8_compared_51 : decode cX8_compared 51 = .ok (.iload_n 1, 1) := by decide +kernel
theorem dX8_compared_52 : decode cX8_compared 52 = .ok (.iconst (-1), 1) := by decide +kernel
theorem dX8_compared_53 : decode cX8_compared 53 = .ok (.if_icmp .ne 9, 3) := by decide +kernel
theorem dX8_compared_56 : decode cX8_compared 56 = .ok (.aload_n 0, 1) := by decide +kernel
theorem dX8_compared_57 : decode cX8_compared 57 = .ok (.iconst 1, 1) := by decide +kernel
theorem dX8_compared_58 : decode cX8_compared 58 = .ok (.invokevirtual 186, 3) := by decide +kernel
theorem dX8_compared_61 : decode cX8_compared 61 = .ok (.ireturn, 1) := by decide +kernel
theorem dX8_compared_62 : decode cX8_compared 62 = .ok (.aload_n 0, 1) := by decide +kernel
theorem dX8_compared_63 : decode cX8_compared 63 = .ok (.invokevirtual 180, 3) := by decide +kernel
theorem dX8_compared_66 : decode cX8_compared 66 = .ok (.aload_n 0, 1) := by decide +kernel
theorem dX8_compared_67 : decode cX8_compared 67 = .ok (.invokevirtual 325, 3) := by decide +kernel
theorem dX8_compared_70 : decode cX8_compared 70 = .ok (.ifCond .ne 5, 3) := by decide +kernel
theorem dX8_compared_73 : decode cX8_compared 73 = .ok (.iconst 0, 1) := by decide +kernel
theorem dX8_compared_74 : decode cX8_compared 74 = .ok (.ireturn, 1) := by decide +kernel
theorem dX8_compared_75 : decode cX8_compared 75 = .ok (.aload_n 0, 1) := by decide +kernel
theorem dX8_compared_76 : decode cX8_compared 76 = .ok (.iload_n 1, 1) := by decide +kernel
theorem dX8_compared_77 : decode cX8_compared 77 = .ok (.iconst 0, 1) := by decide +kernel
theorem dX8_compared_78 : decode cX8_compared 78 = .ok (.invokevirtual 315, 3) := by decide +kernel
theorem dX8_compared_81 : decode cX8_compared 81 = .ok (.iconst 1, 1) := by decide +kernel
theorem dX8_compared_82 : decode cX8_compared 82 = .ok (.ireturn, 1) := by decide +kernel
theorem dX8_isTop_0 : decode cX8_isTop 0 = .ok (.aload_n 0, 1) := by decide +kernel
theorem dX8_isTop_1 : decode cX8_isTop 1 = .ok (.getfield 328, 3) := by decide +kernel
theorem dX8_isTop_4 : decode cX8_isTop 4 = .ok (.ifCond .le 22, 3) := by decide +kernel
theorem dX8_isTop_7 : decode cX8_isTop 7 = .ok (.aload_n 0, 1) := by decide +kernel
theorem dX8_isTop_8 : decode cX8_isTop 8 = .ok (.getfield 46, 3) := by decide +kernel
theorem dX8_isTop_11 : decode cX8_isTop 11 = .ok (.aload_n 0, 1) := by decide +kernel
theorem dX8_isTop_12 : decode cX8_isTop 12 = .ok (.getfield 328, 3) := by decide +kernel
theorem dX8_isTop_15 : decode cX8_isTop 15 = .ok (.iconst 1, 1) := by decide +kernel
theorem dX8_isTop_16 : decode cX8_isTop 16 = .ok (.isub, 1) := by decide +kernel
theorem dX8_isTop_17 : decode cX8_isTop 17 = .ok (.iaload, 1) := by decide +kernel
theorem dX8_isTop_18 : decode cX8_isTop 18 = .ok (.iload_n 1, 1) := by decide +kernel
theorem dX8_isTop_19 : decode cX8_isTop 19 = .ok (.if_icmp .ne 7, 3) := by decide +kernel
theorem dX8_isTop_22 : decode cX8_isTop 22 = .ok (.iconst 1, 1) := by decide +kernel
theorem dX8_isTop_23 : decode cX8_isTop 23 = .ok (.goto 4, 3) := by decide +kernel
theorem dX8_isTop_26 : decode cX8_isTop 26 = .ok (.iconst 0, 1) := by decide +kernel
theorem dX8_isTop_27 : decode cX8_isTop 27 = .ok (.ireturn, 1) := by decide +kernel
set_option maxRecDepth 20000 in
theorem ggX8_drops_X8_code : GoodIn wsX8_drops wsX8_code := goodIn_r _ [7, 8, 9, 10, 11, 12, 13, 14, 15, 16, 17, 18, 19, 20, 21, 22, 23, 24, 25, 26, 27, 28, 29, 30, 31, 32, 33, 34, 35, 36, 37, 38, 39, 40, 41, 42] (by decide +kernel) (by decide +kernel)
set_option maxRecDepth 20000 in
theorem gX8_drops_X8_code : GoodIn wsX8_drops (wsV RX8 315 RX8 yX8_code wsX8_code) := goodIn_app (goodIn_of _ (by decide +kernel)) ggX8_drops_X8_code
theorem dX8_drops_0 : decode cX8_drops 0 = .ok (.aload_n 0, 1) := by decide +kernel
theorem dX8_drops_1 : decode cX8_drops 1 = .ok (.dup, 1) := by decide +kernel
theorem dX8_drops_2 : decode cX8_drops 2 = .ok (.getfield 328, 3) := by decide +kernel
theorem dX8_drops_5 : decode cX8_drops 5 = .ok (.iconst 1, 1) := by decide +kernel
theorem dX8_drops_6 : decode cX8_drops 6 = .ok (.isub, 1) := by decide +kernel
theorem dX8_drops_7 : decode cX8_drops 7 = .ok (.putfield 328, 3) := by decide +kernel
theorem dX8_drops_10 : decode cX8_drops 10 = .ok (.aload_n 0, 1) := by decide +kernel
theorem dX8_drops_11 : decode cX8_drops 11 = .ok (.aload_n 0, 1) := by decide +kernel
theorem dX8_drops_12 : decode cX8_drops 12 = .ok (.getfield 46, 3) := by decide +kernel
theorem dX8_drops_15 : decode cX8_drops 15 = .ok (.aload_n 0, 1) := by decide +kernel
theorem dX8_drops_16 : decode cX8_drops 16 = .ok (.getfield 328, 3) := by decide +kernel
theorem dX8_drops_19 : decode cX8_drops 19 = .ok (.iaload, 1) := by decide +kernel
theorem dX8_drops_20 : decode cX8_drops 20 = .ok (.iconst 0, 1) := by decide +kernel
theorem dX8_drops_21 : decode cX8_drops 21 = .ok (.invokevirtual 315, 3) := by decide +kernel
theorem dX8_drops_24 : decode cX8_drops 24 = .ok (.return_, 1) := by decide +kernel
set_option maxRecDepth 20000 in
theorem ggX8_dropsNots_X8_isTop : GoodIn wsX8_dropsNots wsX8_isTop := goodIn_r _ [6, 7, 8, 19, 20, 21, 22, 23, 24, 25, 26, 27, 28, 29, 30, 31, 32, 33, 34, 35, 36, 37, 38, 39, 40, 41, 42, 43, 44, 45, 46, 47, 48, 49, 50, 51] (by decide +kernel) (by decide +kernel)
set_option maxRecDepth 20000 in
theorem gX8_dropsNots_X8_isTop : GoodIn wsX8_dropsNots (wsV RX8 331 RX8 yX8_isTop wsX8_isTop) := goodIn_app (goodIn_of _ (by decide +kernel)) ggX8_dropsNots_X8_isTop
set_option maxRecDepth 20000 in
theorem ggX8_dropsNots_X8_drops : GoodIn wsX8_dropsNots wsX8_drops := goodIn_r _ [12, 7, 8, 13, 14, 15, 5, 16, 17, 18, 19, 20, 21, 22, 23, 24, 25, 26, 27, 28, 29, 30, 31, 32, 33, 34, 35, 36, 37, 38, 39, 40, 41, 42, 43, 44, 45, 46, 47, 48, 49, 50, 51] (by decide +kernel) (by decide +kernel)
set_option maxRecDepth 20000 in
theorem gX8_dropsNots_X8_drops : GoodIn wsX8_dropsNots (wsV RX8 334 RX8 yX8_drops wsX8_drops) := goodIn_app (goodIn_of _ (by decide +kernel)) ggX8_dropsNots_X8_drops
theorem dX8_dropsNots_0 : decode cX8_dropsNots 0 = .ok (.aload_n 0, 1) := by decide +kernel
theorem dX8_dropsNots_1 : decode cX8_dropsNots 1 = .ok (.bipush 7, 2) := by decide +kernel
theorem dX8_dropsNots_3 : decode cX8_dropsNots 3 = .ok (.invokevirtual 331, 3) := by decide +kernel
theorem dX8_dropsNots_6 : decode cX8_dropsNots 6 = .ok (.ifCond .eq 20, 3) := by decide +kernel
theorem dX8_dropsNots_9 : decode cX8_dropsNots 9 = .ok (.aload_n 0, 1) := by decide +kernel
theorem dX8_dropsNots_10 : decode cX8_dropsNots 10 = .ok (.invokevirtual 334, 3) := by decide +kernel
theorem dX8_dropsNots_13 : decode cX8_dropsNots 13 = .ok (.aload_n 0, 1) := by decide +kernel
theorem dX8_dropsNots_14 : decode cX8_dropsNots 14 = .ok (.dup, 1) := by decide +kernel
theorem dX8_dropsNots_15 : decode cX8_dropsNots 15 = .ok (.getfield 337, 3) := by decide +kernel
theorem dX8_dropsNots_18 : decode cX8_dropsNots 18 = .ok (.iconst 1, 1) := by decide +kernel
theorem dX8_dropsNots_19 : decode cX8_dropsNots 19 = .ok (.isub, 1) := by decide +kernel
theorem dX8_dropsNots_20 : decode cX8_dropsNots 20 = .ok (.putfield 337, 3) := by decide +kernel
theorem dX8_dropsNots_23 : decode cX8_dropsNots 23 = .ok (.goto (-23), 3) := by decide +kernel
theorem dX8_dropsNots_26 : decode cX8_dropsNots 26 = .ok (.return_, 1) := by decide +kernel
set_option maxRecDepth 20000 in
theorem ggX8_opens_X8_bad : GoodIn wsX8_opens wsX8_bad := goodIn_r _ [9, 10, 11, 12, 40, 41, 42, 43, 44, 45, 46, 47, 48, 49, 50, 51, 52, 53, 54, 55, 56, 57, 58, 59, 60, 61, 62, 63, 64, 65, 66, 67, 68, 69, 70, 71, 72] (by decide +kernel) (by decide +kernel)
set_option maxRecDepth 20000 in
theorem gX8_opens_X8_bad : GoodIn wsX8_opens (wsV RX8 186 RX8 yX8_bad wsX8_bad) := goodIn_app (goodIn_of _ (by decide +kernel)) ggX8_opens_X8_bad
set_option maxRecDepth 20000 in
theorem ggX8_opens_X8_is : GoodIn wsX8_opens wsX8_is := goodIn_r _ [16, 17, 18, 40, 41, 42, 43, 44, 45, 46, 47, 48, 49, 50, 51, 52, 53, 54, 55, 56, 57, 58, 59, 60, 61, 62, 63, 64, 65, 66, 67, 68, 69, 70, 71, 72] (by decide +kernel) (by decide +kernel)
set_option maxRecDepth 20000 in
theorem gX8_opens_X8_is : GoodIn wsX8_opens (wsV RX8 192 RX8 yX8_is wsX8_is) := goodIn_app (goodIn_of _ (by decide +kernel)) ggX8_opens_X8_is
set_option maxRecDepth 20000 in
theorem ggX8_opens_X8_go : GoodIn wsX8_opens wsX8_go := goodIn_r _ [22, 23, 11, 24, 18, 17, 25, 26, 27, 28, 29, 30, 31, 32, 33, 8, 34, 35, 36, 37, 38, 39, 40, 41, 42, 43, 44, 45, 46, 47, 48, 49, 50, 51, 52, 53, 54, 55, 56, 57, 58, 59, 60, 61, 62, 63, 64, 65, 66, 67, 68, 69, 70, 71, 72] (by decide +kernel) (by decide +kernel)
set_option maxRecDepth 20000 in
theorem gX8_opens_X8_go : GoodIn wsX8_opens (wsV RX8 180 RX8 yX8_go wsX8_go) := goodIn_app (goodIn_of _ (by decide +kernel)) ggX8_opens_X8_go
theorem dX8_opens_0 : decode cX8_opens 0 = .ok (.aload_n 0, 1) := by decide +kernel
theorem dX8_opens_1 : decode cX8_opens 1 = .ok (.getfield 337, 3) := by decide +kernel
theorem dX8_opens_4 : decode cX8_opens 4 = .ok (.iconst 5, 1) := by decide +kernel
theorem dX8_opens_5 : decode cX8_opens 5 = .ok (.if_icmp .ne 9, 3) := by decide +kernel
theorem dX8_opens_8 : decode cX8_opens 8 = .ok (.aload_n 0, 1) := by decide +kernel
theorem dX8_opens_9 : decode cX8_opens 9 = .ok (.iconst 2, 1) := by decide +kernel
theorem dX8_opens_10 : decode cX8_opens 10 = .ok (.invokevirtual 186, 3) := by decide +kernel
theorem dX8_opens_13 : decode cX8_opens 13 = .ok (.ireturn, 1) := by decide +kernel
theorem dX8_opens_14 : decode cX8_opens 14 = .ok (.aload_n 0, 1) := by decide +kernel
theorem dX8_opens_15 : decode cX8_opens 15 = .ok (.dup, 1) := by decide +kernel
theorem dX8_opens_16 : decode cX8_opens 16 = .ok (.getfield 337, 3) := by decide +kernel
theorem dX8_opens_19 : decode cX8_opens 19 = .ok (.iconst 1, 1) := by decide +kernel
theorem dX8_opens_20 : decode cX8_opens 20 = .ok (.iadd, 1) := by decide +kernel
theorem dX8_opens_21 : decode cX8_opens 21 = .ok (.putfield 337, 3) := by decide +kernel
theorem dX8_opens_24 : decode cX8_opens 24 = .ok (.aload_n 0, 1) := by decide +kernel
theorem dX8_opens_25 : decode cX8_opens 25 = .ok (.getfield 46, 3) := by decide +kernel
theorem dX8_opens_28 : decode cX8_opens 28 = .ok (.aload_n 0, 1) := by decide +kernel
theorem dX8_opens_29 : decode cX8_opens 29 = .ok (.getfield 328, 3) := by decide +kernel
theorem dX8_opens_32 : decode cX8_opens 32 = .ok (.aload_n 0, 1) := by decide +kernel
theorem dX8_opens_33 : decode cX8_opens 33 = .ok (.ldc2_w 340, 3) := by decide +kernel
theorem dX8_opens_36 : decode cX8_opens 36 = .ok (.invokevirtual 192, 3) := by decide +kernel
theorem dX8_opens_39 : decode cX8_opens 39 = .ok (.ifCond .eq 8, 3) := by decide +kernel
theorem dX8_opens_42 : decode cX8_opens 42 = .ok (.bipush 7, 2) := by decide +kernel
theorem dX8_opens_44 : decode cX8_opens 44 = .ok (.goto 5, 3) := by decide +kernel
theorem dX8_opens_47 : decode cX8_opens 47 = .ok (.bipush 10, 2) := by decide +kernel
theorem dX8_opens_49 : decode cX8_opens 49 = .ok (.iastore, 1) := by decide +kernel
theorem dX8_opens_50 : decode cX8_opens 50 = .ok (.aload_n 0, 1) := by decide +kernel
theorem dX8_opens_51 : decode cX8_opens 51 = .ok (.dup, 1) := by decide +kernel
theorem dX8_opens_52 : decode cX8_opens 52 = .ok (.getfield 328, 3) := by decide +kernel
theorem dX8_opens_55 : decode cX8_opens 55 = .ok (.iconst 1, 1) := by decide +kernel
theorem dX8_opens_56 : decode cX8_opens 56 = .ok (.iadd, 1) := by decide +kernel
theorem dX8_opens_57 : decode cX8_opens 57 = .ok (.putfield 328, 3) := by decide +kernel
theorem dX8_opens_60 : decode cX8_opens 60 = .ok (.aload_n 0, 1) := by decide +kernel
theorem dX8_opens_61 : decode cX8_opens 61 = .ok (.invokevirtual 180, 3) := by decide +kernel
theorem dX8_opens_64 : decode cX8_opens 64 = .ok (.iconst 1, 1) := by decide +kernel
theorem dX8_opens_65 : decode cX8_opens 65 = .ok (.ireturn, 1) := by decide +kernel
theorem dX8_hasRound_0 : decode cX8_hasRound 0 = .ok (.iconst 0, 1) := by decide +kernel
theorem dX8_hasRound_1 : decode cX8_hasRound 1 = .ok (.istore_n 1, 1) := by decide +kernel
theorem dX8_hasRound_2 : decode cX8_hasRound 2 = .ok (.iload_n 1, 1) := by decide +kernel
theorem dX8_hasRound_3 : decode cX8_hasRound 3 = .ok (.aload_n 0, 1) := by decide +kernel
theorem dX8_hasRound_4 : decode cX8_hasRound 4 = .ok (.getfield 328, 3) := by decide +kernel
theorem dX8_hasRound_7 : decode cX8_hasRound 7 = .ok (.if_icmp .ge 22, 3) := by decide +kernel
theorem dX8_hasRound_10 : decode cX8_hasRound 10 = .ok (.aload_n 0, 1) := by decide +kernel
theorem dX8_hasRound_11 : decode cX8_hasRound 11 = .ok (.getfield 46, 3) := by decide +kernel
theorem dX8_hasRound_14 : decode cX8_hasRound 14 = .ok (.iload_n 1, 1) := by decide +kernel
theorem dX8_hasRound_15 : decode cX8_hasRound 15 = .ok (.iaload, 1) := by decide +kernel
theorem dX8_hasRound_16 : decode cX8_hasRound 16 = .ok (.bipush 10, 2) := by decide +kernel
theorem dX8_hasRound_18 : decode cX8_hasRound 18 = .ok (.if_icmp .ne 5, 3) := by decide +kernel
theorem dX8_hasRound_21 : decode cX8_hasRound 21 = .ok (.iconst 1, 1) := by decide +kernel
theorem dX8_hasRound_22 : decode cX8_hasRound 22 = .ok (.ireturn, 1) := by decide +kernel
theorem dX8_hasRound_23 : decode cX8_hasRound 23 = .ok (.iinc 1 1, 3) := by decide +kernel
theorem dX8_hasRound_26 : decode cX8_hasRound 26 = .ok (.goto (-24), 3) := by decide +kernel
theorem dX8_hasRound_29 : decode cX8_hasRound 29 = .ok (.iconst 0, 1) := by decide +kernel
theorem dX8_hasRound_30 : decode cX8_hasRound 30 = .ok (.ireturn, 1) := by decide +kernel
set_option maxRecDepth 20000 in
theorem ggX8_closes_X8_isSign : GoodIn wsX8_closes wsX8_isSign := goodIn_r _ [7, 8, 9, 55, 56, 57, 58, 59, 60, 61, 62, 63, 64, 65, 66, 67, 68, 69, 70, 71, 72, 73, 74, 75, 76, 77, 78, 79, 80, 81, 82, 83, 84, 85, 86, 87] (by decide +kernel) (by decide +kernel)
set_option maxRecDepth 20000 in
theorem gX8_closes_X8_isSign : GoodIn wsX8_closes (wsV RX8 213 RX8 yX8_isSign wsX8_isSign) := goodIn_app (goodIn_of _ (by decide +kernel)) ggX8_closes_X8_isSign
set_option maxRecDepth 20000 in
theorem ggX8_closes_X8_hasRound : GoodIn wsX8_closes wsX8_hasRound := goodIn_r _ [13, 1, 14, 55, 56, 57, 58, 59, 60, 61, 62, 63, 64, 65, 66, 67, 68, 69, 70, 71, 72, 73, 74, 75, 76, 77, 78, 79, 80, 81, 82, 83, 84, 85, 86, 87] (by decide +kernel) (by decide +kernel)
set_option maxRecDepth 20000 in
theorem gX8_closes_X8_hasRound : GoodIn wsX8_closes (wsV RX8 342 RX8 yX8_hasRound wsX8_hasRound) := goodIn_app (goodIn_of _ (by decide +kernel)) ggX8_closes_X8_hasRound
set_option maxRecDepth 20000 in
theorem ggX8_closes_X8_isTop : GoodIn wsX8_closes wsX8_isTop := goodIn_r _ [18, 1, 14, 55, 56, 57, 58, 59, 60, 61, 62, 63, 64, 65, 66, 67, 68, 69, 70, 71, 72, 73, 74, 75, 76, 77, 78, 79, 80, 81, 82, 83, 84, 85, 86, 87] (by decide +kernel) (by decide +kernel)
set_option maxRecDepth 20000 in
theorem gX8_closes_X8_isTop : GoodIn wsX8_closes (wsV RX8 331 RX8 yX8_isTop wsX8_isTop) := goodIn_app (goodIn_of _ (by decide +kernel)) ggX8_closes_X8_isTop
set_option maxRecDepth 20000 in
theorem ggX8_closes_X8_drops : GoodIn wsX8_closes wsX8_drops := goodIn_r _ [22, 1, 14, 23, 24, 25, 6, 26, 27, 28, 55, 56, 57, 58, 59, 60, 61, 62, 63, 64, 65, 66, 67, 68, 69, 70, 71, 72, 73, 74, 75, 76, 77, 78, 79, 80, 81, 82, 83, 84, 85, 86, 87] (by decide +kernel) (by decide +kernel)
set_option maxRecDepth 20000 in
theorem gX8_closes_X8_drops : GoodIn wsX8_closes (wsV RX8 334 RX8 yX8_drops wsX8_drops) := goodIn_app (goodIn_of _ (by decide +kernel)) ggX8_closes_X8_drops
set_option maxRecDepth 20000 in
theorem ggX8_closes_X8_go : GoodIn wsX8_closes wsX8_go := goodIn_r _ [32, 33, 34, 9, 35, 8, 36, 37, 38, 39, 40, 41, 42, 43, 44, 6, 45, 46, 47, 48, 49, 50, 55, 56, 57, 58, 59, 60, 61, 62, 63, 64, 65, 66, 67, 68, 69, 70, 71, 72, 73, 74, 75, 76, 77, 78, 79, 80, 81, 82, 83, 84, 85, 86, 87] (by decide +kernel) (by decide +kernel)
set_option maxRecDepth 20000 in
theorem gX8_closes_X8_go : GoodIn wsX8_closes (wsV RX8 180 RX8 yX8_go wsX8_go) := goodIn_app (goodIn_of _ (by decide +kernel)) ggX8_closes_X8_go
set_option maxRecDepth 20000 in
theorem ggX8_closes_X8_dropsNots : GoodIn wsX8_closes wsX8_dropsNots := goodIn_r _ [54, 2, 15, 16, 17, 6, 18, 1, 14, 19, 20, 21, 22, 23, 24, 25, 26, 27, 28, 55, 56, 57, 58, 59, 60, 61, 62, 63, 64, 65, 66, 67, 68, 69, 70, 71, 72, 73, 74, 75, 76, 77, 78, 79, 80, 81, 82, 83, 84, 85, 86, 87] (by decide +kernel) (by decide +kernel)
set_option maxRecDepth 20000 in
theorem gX8_closes_X8_dropsNots : GoodIn wsX8_closes (wsV RX8 345 RX8 yX8_dropsNots wsX8_dropsNots) := goodIn_app (goodIn_of _ (by decide +kernel)) ggX8_closes_X8_dropsNots
theorem dX8_closes_0 : decode cX8_closes 0 = .ok (.aload_n 0, 1) := by decide +kernel
theorem dX8_closes_1 : decode cX8_closes 1 = .ok (.bipush 41, 2) := by decide +kernel
theorem dX8_closes_3 : decode cX8_closes 3 = .ok (.invokevirtual 213, 3) := by decide +kernel
theorem dX8_closes_6 : decode cX8_closes 6 = .ok (.ifCond .eq 57, 3) := by decide +kernel
theorem dX8_closes_9 : decode cX8_closes 9 = .ok (.aload_n 0, 1) := by decide +kernel
theorem dX8_closes_10 : decode cX8_closes 10 = .ok (.invokevirtual 342, 3) := by decide +kernel
theorem dX8_closes_13 : decode cX8_closes 13 = .ok (.ifCond .eq 50, 3) := by decide +kernel
theorem dX8_closes_16 : decode cX8_closes 16 = .ok (.aload_n 0, 1) := by decide +kernel
theorem dX8_closes_17 : decode cX8_closes 17 = .ok (.bipush 10, 2) := by decide +kernel
theorem dX8_closes_19 : decode cX8_closes 19 = .ok (.invokevirtual 331, 3) := by decide +kernel
theorem dX8_closes_22 : decode cX8_closes 22 = .ok (.ifCond .ne 10, 3) := by decide +kernel
theorem dX8_closes_25 : decode cX8_closes 25 = .ok (.aload_n 0, 1) := by decide +kernel
theorem dX8_closes_26 : decode cX8_closes 26 = .ok (.invokevirtual 334, 3) := by decide +kernel
theorem dX8_closes_29 : decode cX8_closes 29 = .ok (.goto (-13), 3) := by decide +kernel
theorem dX8_closes_32 : decode cX8_closes 32 = .ok (.aload_n 0, 1) := by decide +kernel
theorem dX8_closes_33 : decode cX8_closes 33 = .ok (.dup, 1) := by decide +kernel
theorem dX8_closes_34 : decode cX8_closes 34 = .ok (.getfield 328, 3) := by decide +kernel
theorem dX8_closes_37 : decode cX8_closes 37 = .ok (.iconst 1, 1) := by decide +kernel
theorem dX8_closes_38 : decode cX8_closes 38 = .ok (.isub, 1) := by decide +kernel
theorem dX8_closes_39 : decode cX8_closes 39 = .ok (.putfield 328, 3) := by decide +kernel
theorem dX8_closes_42 : decode cX8_closes 42 = .ok (.aload_n 0, 1) := by decide +kernel
theorem dX8_closes_43 : decode cX8_closes 43 = .ok (.dup, 1) := by decide +kernel
theorem dX8_closes_44 : decode cX8_closes 44 = .ok (.getfield 337, 3) := by decide +kernel
theorem dX8_closes_47 : decode cX8_closes 47 = .ok (.iconst 1, 1) := by decide +kernel
theorem dX8_closes_48 : decode cX8_closes 48 = .ok (.isub, 1) := by decide +kernel
theorem dX8_closes_49 : decode cX8_closes 49 = .ok (.putfield 337, 3) := by decide +kernel
theorem dX8_closes_52 : decode cX8_closes 52 = .ok (.aload_n 0, 1) := by decide +kernel
theorem dX8_closes_53 : decode cX8_closes 53 = .ok (.invokevirtual 180, 3) := by decide +kernel
theorem dX8_closes_56 : decode cX8_closes 56 = .ok (.aload_n 0, 1) := by decide +kernel
theorem dX8_closes_57 : decode cX8_closes 57 = .ok (.invokevirtual 345, 3) := by decide +kernel
theorem dX8_closes_60 : decode cX8_closes 60 = .ok (.goto (-60), 3) := by decide +kernel
theorem dX8_closes_63 : decode cX8_closes 63 = .ok (.return_, 1) := by decide +kernel
set_option maxRecDepth 20000 in
theorem ggX8_condition_X8_is : GoodIn wsX8_condition wsX8_is := goodIn_r _ [13, 8, 14, 104, 105, 106, 107, 108, 109, 110, 111, 112, 113, 114, 115, 116, 117, 118, 119, 120, 121, 122, 123, 124, 125, 126, 127, 128, 129, 130, 131, 132, 133, 134, 135, 136] (by decide +kernel) (by decide +kernel)
set_option maxRecDepth 20000 in
theorem gX8_condition_X8_is : GoodIn wsX8_condition (wsV RX8 192 RX8 yX8_is wsX8_is) := goodIn_app (goodIn_of _ (by decide +kernel)) ggX8_condition_X8_is
set_option maxRecDepth 20000 in
theorem ggX8_condition_X8_isSign : GoodIn wsX8_condition wsX8_isSign := goodIn_r _ [18, 8, 19, 104, 105, 106, 107, 108, 109, 110, 111, 112, 113, 114, 115, 116, 117, 118, 119, 120, 121, 122, 123, 124, 125, 126, 127, 128, 129, 130, 131, 132, 133, 134, 135, 136] (by decide +kernel) (by decide +kernel)
set_option maxRecDepth 20000 in
theorem gX8_condition_X8_isSign : GoodIn wsX8_condition (wsV RX8 213 RX8 yX8_isSign wsX8_isSign) := goodIn_app (goodIn_of _ (by decide +kernel)) ggX8_condition_X8_isSign
set_option maxRecDepth 20000 in
theorem ggX8_condition_X8_opens : GoodIn wsX8_condition wsX8_opens := goodIn_r _ [23, 2, 7, 1, 4, 24, 25, 26, 12, 27, 28, 29, 30, 9, 10, 11, 13, 8, 14, 31, 32, 33, 34, 35, 19, 36, 37, 38, 39, 40, 41, 42, 43, 44, 45, 46, 47, 48, 49, 50, 104, 105, 106, 107, 108, 109, 110, 111, 112, 113, 114, 115, 116, 117, 118, 119, 120, 121, 122, 123, 124, 125, 126, 127, 128, 129, 130, 131, 132, 133, 134, 135, 136] (by decide +kernel) (by decide +kernel)
set_option maxRecDepth 20000 in
theorem gX8_condition_X8_opens : GoodIn wsX8_condition (wsV RX8 348 RX8 yX8_opens wsX8_opens) := goodIn_app (goodIn_of _ (by decide +kernel)) ggX8_condition_X8_opens
set_option maxRecDepth 20000 in
theorem ggX8_condition_X8_compared : GoodIn wsX8_condition wsX8_compared := goodIn_r _ [54, 55, 56, 57, 12, 58, 59, 60, 61, 62, 8, 19, 63, 64, 65, 66, 67, 3, 31, 32, 33, 34, 35, 29, 14, 36, 37, 38, 39, 40, 41, 42, 43, 44, 45, 46, 47, 48, 49, 50, 68, 69, 70, 71, 72, 73, 74, 75, 76, 77, 78, 79, 80, 81, 82, 83, 9, 10, 11, 13, 24, 25, 26, 27, 28, 30, 15, 16, 17, 18, 104, 105, 106, 107, 108, 109, 110, 111, 112, 113, 114, 115, 116, 117, 118, 119, 120, 121, 122, 123, 124, 125, 126, 127, 128, 129, 130, 131, 132, 133, 134, 135, 136] (by decide +kernel) (by decide +kernel)
set_option maxRecDepth 20000 in
theorem gX8_condition_X8_compared : GoodIn wsX8_condition (wsV RX8 351 RX8 yX8_compared wsX8_compared) := goodIn_app (goodIn_of _ (by decide +kernel)) ggX8_condition_X8_compared
set_option maxRecDepth 20000 in
theorem ggX8_condition_X8_dropsNots : GoodIn wsX8_condition wsX8_dropsNots := goodIn_r _ [87, 2, 88, 89, 90, 12, 91, 1, 7, 92, 93, 94, 95, 63, 64, 65, 66, 67, 3, 104, 105, 106, 107, 108, 109, 110, 111, 112, 113, 114, 115, 116, 117, 118, 119, 120, 121, 122, 123, 124, 125, 126, 127, 128, 129, 130, 131, 132, 133, 134, 135, 136] (by decide +kernel) (by decide +kernel)
set_option maxRecDepth 20000 in
theorem gX8_condition_X8_dropsNots : GoodIn wsX8_condition (wsV RX8 345 RX8 yX8_dropsNots wsX8_dropsNots) := goodIn_app (goodIn_of _ (by decide +kernel)) ggX8_condition_X8_dropsNots
set_option maxRecDepth 20000 in
theorem ggX8_condition_X8_closes : GoodIn wsX8_condition wsX8_closes := goodIn_r _ [99, 1, 2, 15, 16, 17, 12, 18, 8, 19, 100, 101, 102, 103, 7, 88, 89, 90, 91, 92, 93, 94, 95, 63, 64, 65, 66, 67, 3, 31, 32, 33, 34, 35, 29, 14, 36, 37, 38, 39, 40, 41, 42, 43, 44, 45, 46, 47, 48, 49, 50, 84, 85, 86, 87, 104, 105, 106, 107, 108, 109, 110, 111, 112, 113, 114, 115, 116, 117, 118, 119, 120, 121, 122, 123, 124, 125, 126, 127, 128, 129, 130, 131, 132, 133, 134, 135, 136] (by decide +kernel) (by decide +kernel)
set_option maxRecDepth 20000 in
theorem gX8_condition_X8_closes : GoodIn wsX8_condition (wsV RX8 354 RX8 yX8_closes wsX8_closes) := goodIn_app (goodIn_of _ (by decide +kernel)) ggX8_condition_X8_closes
set_option maxRecDepth 20000 in
theorem ggX8_condition_X8_isTop : GoodIn wsX8_condition wsX8_isTop := goodIn_r _ [91, 1, 7, 104, 105, 106, 107, 108, 109, 110, 111, 112, 113, 114, 115, 116, 117, 118, 119, 120, 121, 122, 123, 124, 125, 126, 127, 128, 129, 130, 131, 132, 133, 134, 135, 136] (by decide +kernel) (by decide +kernel)
set_option maxRecDepth 20000 in
theorem gX8_condition_X8_isTop : GoodIn wsX8_condition (wsV RX8 331 RX8 yX8_isTop wsX8_isTop) := goodIn_app (goodIn_of _ (by decide +kernel)) ggX8_condition_X8_isTop
set_option maxRecDepth 20000 in
theorem ggX8_condition_X8_drops : GoodIn wsX8_condition wsX8_drops := goodIn_r _ [95, 1, 7, 63, 64, 65, 12, 66, 67, 3, 104, 105, 106, 107, 108, 109, 110, 111, 112, 113, 114, 115, 116, 117, 118, 119, 120, 121, 122, 123, 124, 125, 126, 127, 128, 129, 130, 131, 132, 133, 134, 135, 136] (by decide +kernel) (by decide +kernel)
set_option maxRecDepth 20000 in
theorem gX8_condition_X8_drops : GoodIn wsX8_condition (wsV RX8 334 RX8 yX8_drops wsX8_drops) := goodIn_app (goodIn_of _ (by decide +kernel)) ggX8_condition_X8_drops
set_option maxRecDepth 20000 in
theorem ggX8_condition_X8_go : GoodIn wsX8_condition wsX8_go := goodIn_r _ [34, 35, 29, 19, 14, 8, 36, 37, 38, 39, 40, 41, 42, 43, 44, 12, 45, 46, 47, 48, 49, 50, 104, 105, 106, 107, 108, 109, 110, 111, 112, 113, 114, 115, 116, 117, 118, 119, 120, 121, 122, 123, 124, 125, 126, 127, 128, 129, 130, 131, 132, 133, 134, 135, 136] (by decide +kernel) (by decide +kernel)
set_option maxRecDepth 20000 in
theorem gX8_condition_X8_go : GoodIn wsX8_condition (wsV RX8 180 RX8 yX8_go wsX8_go) := goodIn_app (goodIn_of _ (by decide +kernel)) ggX8_condition_X8_go
set_option maxRecDepth 20000 in
theorem ggX8_condition_X8_hasRound : GoodIn wsX8_condition wsX8_hasRound := goodIn_r _ [103, 1, 7, 104, 105, 106, 107, 108, 109, 110, 111, 112, 113, 114, 115, 116, 117, 118, 119, 120, 121, 122, 123, 124, 125, 126, 127, 128, 129, 130, 131, 132, 133, 134, 135, 136] (by decide +kernel) (by decide +kernel)
set_option maxRecDepth 20000 in
theorem gX8_condition_X8_hasRound : GoodIn wsX8_condition (wsV RX8 342 RX8 yX8_hasRound wsX8_hasRound) := goodIn_app (goodIn_of _ (by decide +kernel)) ggX8_condition_X8_hasRound
set_option maxRecDepth 20000 in
theorem ggX8_condition_X8_bad : GoodIn wsX8_condition wsX8_bad := goodIn_r _ [27, 28, 29, 30, 104, 105, 106, 107, 108, 109, 110, 111, 112, 113, 114, 115, 116, 117, 118, 119, 120, 121, 122, 123, 124, 125, 126, 127, 128, 129, 130, 131, 132, 133, 134, 135, 136] (by decide +kernel) (by decide +kernel)
set_option maxRecDepth 20000 in
theorem gX8_condition_X8_bad : GoodIn wsX8_condition (wsV RX8 186 RX8 yX8_bad wsX8_bad) := goodIn_app (goodIn_of _ (by decide +kernel)) ggX8_condition_X8_bad
theorem dX8_condition_0 : decode cX8_condition 0 = .ok (.aload_n 0, 1) := by decide +kernel
theorem dX8_condition_1 : decode cX8_condition 1 = .ok (.iconst 0, 1) := by decide +kernel
theorem dX8_condition_2 : decode cX8_condition 2 = .ok (.putfield 328, 3) := by decide +kernel
theorem dX8_condition_5 : decode cX8_condition 5 = .ok (.aload_n 0, 1) := by decide +kernel
theorem dX8_condition_6 : decode cX8_condition 6 = .ok (.iconst 0, 1) := by decide +kernel
theorem dX8_condition_7 : decode cX8_condition 7 = .ok (.putfield 337, 3) := by decide +kernel
theorem dX8_condition_10 : decode cX8_condition 10 = .ok (.aload_n 0, 1) := by decide +kernel
theorem dX8_condition_11 : decode cX8_condition 11 = .ok (.iconst 0, 1) := by decide +kernel
theorem dX8_condition_12 : decode cX8_condition 12 = .ok (.putfield 289, 3) := by decide +kernel
theorem dX8_condition_15 : decode cX8_condition 15 = .ok (.iconst 1, 1) := by decide +kernel
theorem dX8_condition_16 : decode cX8_condition 16 = .ok (.istore_n 1, 1) := by decide +kernel
theorem dX8_condition_17 : decode cX8_condition 17 = .ok (.iload_n 1, 1) := by decide +kernel
theorem dX8_condition_18 : decode cX8_condition 18 = .ok (.ifCond .eq 152, 3) := by decide +kernel
theorem dX8_condition_21 : decode cX8_condition 21 = .ok (.aload_n 0, 1) := by decide +kernel
theorem dX8_condition_22 : decode cX8_condition 22 = .ok (.ldc2_w 340, 3) := by decide +kernel
theorem dX8_condition_25 : decode cX8_condition 25 = .ok (.invokevirtual 192, 3) := by decide +kernel
theorem dX8_condition_28 : decode cX8_condition 28 = .ok (.ifCond .ne 12, 3) := by decide +kernel
theorem dX8_condition_31 : decode cX8_condition 31 = .ok (.aload_n 0, 1) := by decide +kernel
theorem dX8_condition_32 : decode cX8_condition 32 = .ok (.bipush 40, 2) := by decide +kernel
theorem dX8_condition_34 : decode cX8_condition 34 = .ok (.invokevirtual 213, 3) := by decide +kernel
theorem dX8_condition_37 : decode cX8_condition 37 = .ok (.ifCond .eq 12, 3) := by decide +kernel
theorem dX8_condition_40 : decode cX8_condition 40 = .ok (.aload_n 0, 1) := by decide +kernel
theorem dX8_condition_41 : decode cX8_condition 41 = .ok (.invokevirtual 348, 3) := by decide +kernel
theorem dX8_condition_44 : decode cX8_condition 44 = .ok (.ifCond .ne (-23), 3) := by decide +kernel
theorem dX8_condition_47 : decode cX8_condition 47 = .ok (.iconst 0, 1) := by decide +kernel
theorem dX8_condition_48 : decode cX8_condition 48 = .ok (.ireturn, 1) := by decide +kernel
theorem dX8_condition_49 : decode cX8_condition 49 = .ok (.aload_n 0, 1) := by decide +kernel
theorem dX8_condition_50 : decode cX8_condition 50 = .ok (.invokevirtual 351, 3) := by decide +kernel
theorem dX8_condition_53 : decode cX8_condition 53 = .ok (.ifCond .ne 5, 3) := by decide +kernel
theorem dX8_condition_56 : decode cX8_condition 56 = .ok (.iconst 0, 1) := by decide +kernel
theorem dX8_condition_57 : decode cX8_condition 57 = .ok (.ireturn, 1) := by decide +kernel
theorem dX8_condition_58 : decode cX8_condition 58 = .ok (.aload_n 0, 1) := by decide +kernel
theorem dX8_condition_59 : decode cX8_condition 59 = .ok (.invokevirtual 345, 3) := by decide +kernel
theorem dX8_condition_62 : decode cX8_condition 62 = .ok (.aload_n 0, 1) := by decide +kernel
theorem dX8_condition_63 : decode cX8_condition 63 = .ok (.invokevirtual 354, 3) := by decide +kernel
theorem dX8_condition_66 : decode cX8_condition 66 = .ok (.aload_n 0, 1) := by decide +kernel
theorem dX8_condition_67 : decode cX8_condition 67 = .ok (.ldc2_w 357, 3) := by decide +kernel
theorem dX8_condition_70 : decode cX8_condition 70 = .ok (.invokevirtual 192, 3) := by decide +kernel
theorem dX8_condition_73 : decode cX8_condition 73 = .ok (.ifCond .ne 13, 3) := by decide +kernel
theorem dX8_condition_76 : decode cX8_condition 76 = .ok (.aload_n 0, 1) := by decide +kernel
theorem dX8_condition_77 : decode cX8_condition 77 = .ok (.ldc2_w 359, 3) := by decide +kernel
theorem dX8_condition_80 : decode cX8_condition 80 = .ok (.invokevirtual 192, 3) := by decide +kernel
theorem dX8_condition_83 : decode cX8_condition 83 = .ok (.ifCond .eq 7, 3) := by decide +kernel
theorem dX8_condition_86 : decode cX8_condition 86 = .ok (.iconst 1, 1) := by decide +kernel
theorem dX8_condition_87 : decode cX8_condition 87 = .ok (.goto 4, 3) := by decide +kernel
theorem dX8_condition_90 : decode cX8_condition 90 = .ok (.iconst 0, 1) := by decide +kernel
theorem dX8_condition_91 : decode cX8_condition 91 = .ok (.istore_n 1, 1) := by decide +kernel
theorem dX8_condition_92 : decode cX8_condition 92 = .ok (.iload_n 1, 1) := by decide +kernel
theorem dX8_condition_93 : decode cX8_condition 93 = .ok (.ifCond .eq (-76), 3) := by decide +kernel
theorem dX8_condition_96 : decode cX8_condition 96 = .ok (.aload_n 0, 1) := by decide +kernel
theorem dX8_condition_97 : decode cX8_condition 97 = .ok (.ldc2_w 357, 3) := by decide +kernel
theorem dX8_condition_100 : decode cX8_condition 100 = .ok (.invokevirtual 192, 3) := by decide +kernel
theorem dX8_condition_103 : decode cX8_condition 103 = .ok (.istore_n 2, 1) := by decide +kernel
theorem dX8_condition_104 : decode cX8_condition 104 = .ok (.aload_n 0, 1) := by decide +kernel
theorem dX8_condition_105 : decode cX8_condition 105 = .ok (.bipush 8, 2) := by decide +kernel
theorem dX8_condition_107 : decode cX8_condition 107 = .ok (.invokevirtual 331, 3) := by decide +kernel
theorem dX8_condition_110 : decode cX8_condition 110 = .ok (.ifCond .ne 16, 3) := by decide +kernel
theorem dX8_condition_113 : decode cX8_condition 113 = .ok (.iload_n 2, 1) := by decide +kernel
theorem dX8_condition_114 : decode cX8_condition 114 = .ok (.ifCond .ne 19, 3) := by decide +kernel
theorem dX8_condition_117 : decode cX8_condition 117 = .ok (.aload_n 0, 1) := by decide +kernel
theorem dX8_condition_118 : decode cX8_condition 118 = .ok (.bipush 9, 2) := by decide +kernel
theorem dX8_condition_120 : decode cX8_condition 120 = .ok (.invokevirtual 331, 3) := by decide +kernel
theorem dX8_condition_123 : decode cX8_condition 123 = .ok (.ifCond .eq 10, 3) := by decide +kernel
theorem dX8_condition_126 : decode cX8_condition 126 = .ok (.aload_n 0, 1) := by decide +kernel
theorem dX8_condition_127 : decode cX8_condition 127 = .ok (.invokevirtual 334, 3) := by decide +kernel
theorem dX8_condition_130 : decode cX8_condition 130 = .ok (.goto (-26), 3) := by decide +kernel
theorem dX8_condition_133 : decode cX8_condition 133 = .ok (.aload_n 0, 1) := by decide +kernel
theorem dX8_condition_134 : decode cX8_condition 134 = .ok (.getfield 46, 3) := by decide +kernel
theorem dX8_condition_137 : decode cX8_condition 137 = .ok (.aload_n 0, 1) := by decide +kernel
theorem dX8_condition_138 : decode cX8_condition 138 = .ok (.getfield 328, 3) := by decide +kernel
theorem dX8_condition_141 : decode cX8_condition 141 = .ok (.iload_n 2, 1) := by decide +kernel
theorem dX8_condition_142 : decode cX8_condition 142 = .ok (.ifCond .eq 8, 3) := by decide +kernel
theorem dX8_condition_145 : decode cX8_condition 145 = .ok (.bipush 8, 2) := by decide +kernel
theorem dX8_condition_147 : decode cX8_condition 147 = .ok (.goto 5, 3) := by decide +kernel
theorem dX8_condition_150 : decode cX8_condition 150 = .ok (.bipush 9, 2) := by decide +kernel
theorem dX8_condition_152 : decode cX8_condition 152 = .ok (.iastore, 1) := by decide +kernel
theorem dX8_condition_153 : decode cX8_condition 153 = .ok (.aload_n 0, 1) := by decide +kernel
theorem dX8_condition_154 : decode cX8_condition 154 = .ok (.dup, 1) := by decide +kernel
theorem dX8_condition_155 : decode cX8_condition 155 = .ok (.getfield 328, 3) := by decide +kernel
theorem dX8_condition_158 : decode cX8_condition 158 = .ok (.iconst 1, 1) := by decide +kernel
theorem dX8_condition_159 : decode cX8_condition 159 = .ok (.iadd, 1) := by decide +kernel
theorem dX8_condition_160 : decode cX8_condition 160 = .ok (.putfield 328, 3) := by decide +kernel
theorem dX8_condition_163 : decode cX8_condition 163 = .ok (.aload_n 0, 1) := by decide +kernel
theorem dX8_condition_164 : decode cX8_condition 164 = .ok (.invokevirtual 180, 3) := by decide +kernel
theorem dX8_condition_167 : decode cX8_condition 167 = .ok (.goto (-150), 3) := by decide +kernel
theorem dX8_condition_170 : decode cX8_condition 170 = .ok (.aload_n 0, 1) := by decide +kernel
theorem dX8_condition_171 : decode cX8_condition 171 = .ok (.getfield 162, 3) := by decide +kernel
theorem dX8_condition_174 : decode cX8_condition 174 = .ok (.ifCond .ne 10, 3) := by decide +kernel
theorem dX8_condition_177 : decode cX8_condition 177 = .ok (.aload_n 0, 1) := by decide +kernel
theorem dX8_condition_178 : decode cX8_condition 178 = .ok (.invokevirtual 342, 3) := by decide +kernel
theorem dX8_condition_181 : decode cX8_condition 181 = .ok (.ifCond .eq 9, 3) := by decide +kernel
theorem dX8_condition_184 : decode cX8_condition 184 = .ok (.aload_n 0, 1) := by decide +kernel
theorem dX8_condition_185 : decode cX8_condition 185 = .ok (.iconst 1, 1) := by decide +kernel
theorem dX8_condition_186 : decode cX8_condition 186 = .ok (.invokevirtual 186, 3) := by decide +kernel
theorem dX8_condition_189 : decode cX8_condition 189 = .ok (.ireturn, 1) := by decide +kernel
theorem dX8_condition_190 : decode cX8_condition 190 = .ok (.aload_n 0, 1) := by decide +kernel
theorem dX8_condition_191 : decode cX8_condition 191 = .ok (.getfield 328, 3) := by decide +kernel
theorem dX8_condition_194 : decode cX8_condition 194 = .ok (.ifCond .le 10, 3) := by decide +kernel
theorem dX8_condition_197 : decode cX8_condition 197 = .ok (.aload_n 0, 1) := by decide +kernel
theorem dX8_condition_198 : decode cX8_condition 198 = .ok (.invokevirtual 334, 3) := by decide +kernel
theorem dX8_condition_201 : decode cX8_condition 201 = .ok (.goto (-11), 3) := by decide +kernel
theorem dX8_condition_204 : decode cX8_condition 204 = .ok (.iconst 1, 1) := by decide +kernel
theorem dX8_condition_205 : decode cX8_condition 205 = .ok (.ireturn, 1) := by decide +kernel
theorem dX8_joined_0 : decode cX8_joined 0 = .ok (.iload_n 0, 1) := by decide +kernel
theorem dX8_joined_1 : decode cX8_joined 1 = .ok (.tableswitch 88 2 8 #[43, 47, 51, 62, 73, 88, 84], 43) := by decide +kernel
theorem dX8_joined_44 : decode cX8_joined 44 = .ok (.iload_n 1, 1) := by decide +kernel
theorem dX8_joined_45 : decode cX8_joined 45 = .ok (.iload_n 2, 1) := by decide +kernel
theorem dX8_joined_46 : decode cX8_joined 46 = .ok (.iadd, 1) := by decide +kernel
theorem dX8_joined_47 : decode cX8_joined 47 = .ok (.ireturn, 1) := by decide +kernel
theorem dX8_joined_48 : decode cX8_joined 48 = .ok (.iload_n 1, 1) := by decide +kernel
theorem dX8_joined_49 : decode cX8_joined 49 = .ok (.iload_n 2, 1) := by decide +kernel
theorem dX8_joined_50 : decode cX8_joined 50 = .ok (.isub, 1) := by decide +kernel
theorem dX8_joined_51 : decode cX8_joined 51 = .ok (.ireturn, 1) := by decide +kernel
theorem dX8_joined_52 : decode cX8_joined 52 = .ok (.iload_n 1, 1) := by decide +kernel
theorem dX8_joined_53 : decode cX8_joined 53 = .ok (.iload_n 2, 1) := by decide +kernel
theorem dX8_joined_54 : decode cX8_joined 54 = .ok (.if_icmp .ge 7, 3) := by decide +kernel
theorem dX8_joined_57 : decode cX8_joined 57 = .ok (.iconst 1, 1) := by decide +kernel
theorem dX8_joined_58 : decode cX8_joined 58 = .ok (.goto 4, 3) := by decide +kernel
theorem dX8_joined_61 : decode cX8_joined 61 = .ok (.iconst 0, 1) := by decide +kernel
theorem dX8_joined_62 : decode cX8_joined 62 = .ok (.ireturn, 1) := by decide +kernel
theorem dX8_joined_63 : decode cX8_joined 63 = .ok (.iload_n 1, 1) := by decide +kernel
theorem dX8_joined_64 : decode cX8_joined 64 = .ok (.iload_n 2, 1) := by decide +kernel
theorem dX8_joined_65 : decode cX8_joined 65 = .ok (.if_icmp .ne 7, 3) := by decide +kernel
theorem dX8_joined_68 : decode cX8_joined 68 = .ok (.iconst 1, 1) := by decide +kernel
theorem dX8_joined_69 : decode cX8_joined 69 = .ok (.goto 4, 3) := by decide +kernel
theorem dX8_joined_72 : decode cX8_joined 72 = .ok (.iconst 0, 1) := by decide +kernel
theorem dX8_joined_73 : decode cX8_joined 73 = .ok (.ireturn, 1) := by decide +kernel
theorem dX8_joined_74 : decode cX8_joined 74 = .ok (.iload_n 1, 1) := by decide +kernel
theorem dX8_joined_75 : decode cX8_joined 75 = .ok (.iload_n 2, 1) := by decide +kernel
theorem dX8_joined_76 : decode cX8_joined 76 = .ok (.if_icmp .le 7, 3) := by decide +kernel
theorem dX8_joined_79 : decode cX8_joined 79 = .ok (.iconst 1, 1) := by decide +kernel
theorem dX8_joined_80 : decode cX8_joined 80 = .ok (.goto 4, 3) := by decide +kernel
theorem dX8_joined_83 : decode cX8_joined 83 = .ok (.iconst 0, 1) := by decide +kernel
theorem dX8_joined_84 : decode cX8_joined 84 = .ok (.ireturn, 1) := by decide +kernel
theorem dX8_joined_85 : decode cX8_joined 85 = .ok (.iload_n 1, 1) := by decide +kernel
theorem dX8_joined_86 : decode cX8_joined 86 = .ok (.iload_n 2, 1) := by decide +kernel
theorem dX8_joined_87 : decode cX8_joined 87 = .ok (.iand, 1) := by decide +kernel
theorem dX8_joined_88 : decode cX8_joined 88 = .ok (.ireturn, 1) := by decide +kernel
theorem dX8_joined_89 : decode cX8_joined 89 = .ok (.iload_n 1, 1) := by decide +kernel
theorem dX8_joined_90 : decode cX8_joined 90 = .ok (.iload_n 2, 1) := by decide +kernel
theorem dX8_joined_91 : decode cX8_joined 91 = .ok (.ior, 1) := by decide +kernel
theorem dX8_joined_92 : decode cX8_joined 92 = .ok (.ireturn, 1) := by decide +kernel
set_option maxRecDepth 20000 in
theorem ggX8_holds_X8_joined : GoodIn wsX8_holds wsX8_joined := goodIn_r _ [8] (by decide +kernel) (by decide +kernel)
set_option maxRecDepth 20000 in
theorem gX8_holds_X8_joined : GoodIn wsX8_holds (va_wsS RX8 361 yX8_joined wsX8_joined) := goodIn_app (goodIn_of _ (by decide +kernel)) ggX8_holds_X8_joined
theorem dX8_holds_0 : decode cX8_holds 0 = .ok (.iconst 0, 1) := by decide +kernel
theorem dX8_holds_1 : decode cX8_holds 1 = .ok (.istore_n 1, 1) := by decide +kernel
theorem dX8_holds_2 : decode cX8_holds 2 = .ok (.iconst 0, 1) := by decide +kernel
theorem dX8_holds_3 : decode cX8_holds 3 = .ok (.istore_n 2, 1) := by decide +kernel
theorem dX8_holds_4 : decode cX8_holds 4 = .ok (.iload_n 2, 1) := by decide +kernel
theorem dX8_holds_5 : decode cX8_holds 5 = .ok (.aload_n 0, 1) := by decide +kernel
theorem dX8_holds_6 : decode cX8_holds 6 = .ok (.getfield 289, 3) := by decide +kernel
theorem dX8_holds_9 : decode cX8_holds 9 = .ok (.if_icmp .ge 125, 3) := by decide +kernel
theorem dX8_holds_12 : decode cX8_holds 12 = .ok (.aload_n 0, 1) := by decide +kernel
theorem dX8_holds_13 : decode cX8_holds 13 = .ok (.getfield 43, 3) := by decide +kernel
theorem dX8_holds_16 : decode cX8_holds 16 = .ok (.iload_n 2, 1) := by decide +kernel
theorem dX8_holds_17 : decode cX8_holds 17 = .ok (.iaload, 1) := by decide +kernel
theorem dX8_holds_18 : decode cX8_holds 18 = .ok (.sipush 1000, 3) := by decide +kernel
theorem dX8_holds_21 : decode cX8_holds 21 = .ok (.idiv, 1) := by decide +kernel
theorem dX8_holds_22 : decode cX8_holds 22 = .ok (.istore_n 3, 1) := by decide +kernel
theorem dX8_holds_23 : decode cX8_holds 23 = .ok (.aload_n 0, 1) := by decide +kernel
theorem dX8_holds_24 : decode cX8_holds 24 = .ok (.getfield 43, 3) := by decide +kernel
theorem dX8_holds_27 : decode cX8_holds 27 = .ok (.iload_n 2, 1) := by decide +kernel
theorem dX8_holds_28 : decode cX8_holds 28 = .ok (.iaload, 1) := by decide +kernel
theorem dX8_holds_29 : decode cX8_holds 29 = .ok (.sipush 1000, 3) := by decide +kernel
theorem dX8_holds_32 : decode cX8_holds 32 = .ok (.irem, 1) := by decide +kernel
theorem dX8_holds_33 : decode cX8_holds 33 = .ok (.istore 4, 2) := by decide +kernel
theorem dX8_holds_35 : decode cX8_holds 35 = .ok (.iload_n 3, 1) := by decide +kernel
theorem dX8_holds_36 : decode cX8_holds 36 = .ok (.ifCond .eq 8, 3) := by decide +kernel
theorem dX8_holds_39 : decode cX8_holds 39 = .ok (.iload_n 3, 1) := by decide +kernel
theorem dX8_holds_40 : decode cX8_holds 40 = .ok (.iconst 1, 1) := by decide +kernel
theorem dX8_holds_41 : decode cX8_holds 41 = .ok (.if_icmp .ne 31, 3) := by decide +kernel
theorem dX8_holds_44 : decode cX8_holds 44 = .ok (.aload_n 0, 1) := by decide +kernel
theorem dX8_holds_45 : decode cX8_holds 45 = .ok (.getfield 52, 3) := by decide +kernel
theorem dX8_holds_48 : decode cX8_holds 48 = .ok (.iload_n 1, 1) := by decide +kernel
theorem dX8_holds_49 : decode cX8_holds 49 = .ok (.iload_n 3, 1) := by decide +kernel
theorem dX8_holds_50 : decode cX8_holds 50 = .ok (.ifCond .ne 8, 3) := by decide +kernel
theorem dX8_holds_53 : decode cX8_holds 53 = .ok (.iload 4, 2) := by decide +kernel
theorem dX8_holds_55 : decode cX8_holds 55 = .ok (.goto 10, 3) := by decide +kernel
theorem dX8_holds_58 : decode cX8_holds 58 = .ok (.aload_n 0, 1) := by decide +kernel
theorem dX8_holds_59 : decode cX8_holds 59 = .ok (.getfield 49, 3) := by decide +kernel
theorem dX8_holds_62 : decode cX8_holds 62 = .ok (.iload 4, 2) := by decide +kernel
theorem dX8_holds_64 : decode cX8_holds 64 = .ok (.iaload, 1) := by decide +kernel
theorem dX8_holds_65 : decode cX8_holds 65 = .ok (.iastore, 1) := by decide +kernel
theorem dX8_holds_66 : decode cX8_holds 66 = .ok (.iinc 1 1, 3) := by decide +kernel
theorem dX8_holds_69 : decode cX8_holds 69 = .ok (.goto 59, 3) := by decide +kernel
theorem dX8_holds_72 : decode cX8_holds 72 = .ok (.iload_n 3, 1) := by decide +kernel
theorem dX8_holds_73 : decode cX8_holds 73 = .ok (.bipush 7, 2) := by decide +kernel
theorem dX8_holds_75 : decode cX8_holds 75 = .ok (.if_icmp .ne 24, 3) := by decide +kernel
theorem dX8_holds_78 : decode cX8_holds 78 = .ok (.aload_n 0, 1) := by decide +kernel
theorem dX8_holds_79 : decode cX8_holds 79 = .ok (.getfield 52, 3) := by decide +kernel
theorem dX8_holds_82 : decode cX8_holds 82 = .ok (.iload_n 1, 1) := by decide +kernel
theorem dX8_holds_83 : decode cX8_holds 83 = .ok (.iconst 1, 1) := by decide +kernel
theorem dX8_holds_84 : decode cX8_holds 84 = .ok (.isub, 1) := by decide +kernel
theorem dX8_holds_85 : decode cX8_holds 85 = .ok (.iconst 1, 1) := by decide +kernel
theorem dX8_holds_86 : decode cX8_holds 86 = .ok (.aload_n 0, 1) := by decide +kernel
theorem dX8_holds_87 : decode cX8_holds 87 = .ok (.getfield 52, 3) := by decide +kernel
theorem dX8_holds_90 : decode cX8_holds 90 = .ok (.iload_n 1, 1) := by decide +kernel
theorem dX8_holds_91 : decode cX8_holds 91 = .ok (.iconst 1, 1) := by decide +kernel
theorem dX8_holds_92 : decode cX8_holds 92 = .ok (.isub, 1) := by decide +kernel
theorem dX8_holds_93 : decode cX8_holds 93 = .ok (.iaload, 1) := by decide +kernel
theorem dX8_holds_94 : decode cX8_holds 94 = .ok (.isub, 1) := by decide +kernel
theorem dX8_holds_95 : decode cX8_holds 95 = .ok (.iastore, 1) := by decide +kernel
theorem dX8_holds_96 : decode cX8_holds 96 = .ok (.goto 32, 3) := by decide +kernel
theorem dX8_holds_99 : decode cX8_holds 99 = .ok (.iinc 1 (-1), 3) := by decide +kernel
theorem dX8_holds_102 : decode cX8_holds 102 = .ok (.aload_n 0, 1) := by decide +kernel
theorem dX8_holds_103 : decode cX8_holds 103 = .ok (.getfield 52, 3) := by decide +kernel
theorem dX8_holds_106 : decode cX8_holds 106 = .ok (.iload_n 1, 1) := by decide +kernel
theorem dX8_holds_107 : decode cX8_holds 107 = .ok (.iconst 1, 1) := by decide +kernel
theorem dX8_holds_108 : decode cX8_holds 108 = .ok (.isub, 1) := by decide +kernel
theorem dX8_holds_109 : decode cX8_holds 109 = .ok (.iload_n 3, 1) := by decide +kernel
theorem dX8_holds_110 : decode cX8_holds 110 = .ok (.aload_n 0, 1) := by decide +kernel
theorem dX8_holds_111 : decode cX8_holds 111 = .ok (.getfield 52, 3) := by decide +kernel
theorem dX8_holds_114 : decode cX8_holds 114 = .ok (.iload_n 1, 1) := by decide +kernel
theorem dX8_holds_115 : decode cX8_holds 115 = .ok (.iconst 1, 1) := by decide +kernel
theorem dX8_holds_116 : decode cX8_holds 116 = .ok (.isub, 1) := by decide +kernel
theorem dX8_holds_117 : decode cX8_holds 117 = .ok (.iaload, 1) := by decide +kernel
theorem dX8_holds_118 : decode cX8_holds 118 = .ok (.aload_n 0, 1) := by decide +kernel
theorem dX8_holds_119 : decode cX8_holds 119 = .ok (.getfield 52, 3) := by decide +kernel
theorem dX8_holds_122 : decode cX8_holds 122 = .ok (.iload_n 1, 1) := by decide +kernel
theorem dX8_holds_123 : decode cX8_holds 123 = .ok (.iaload, 1) := by decide +kernel
theorem dX8_holds_124 : decode cX8_holds 124 = .ok (.invokestatic 361, 3) := by decide +kernel
theorem dX8_holds_127 : decode cX8_holds 127 = .ok (.iastore, 1) := by decide +kernel
theorem dX8_holds_128 : decode cX8_holds 128 = .ok (.iinc 2 1, 3) := by decide +kernel
theorem dX8_holds_131 : decode cX8_holds 131 = .ok (.goto (-127), 3) := by decide +kernel
theorem dX8_holds_134 : decode cX8_holds 134 = .ok (.aload_n 0, 1) := by decide +kernel
theorem dX8_holds_135 : decode cX8_holds 135 = .ok (.getfield 52, 3) := by decide +kernel
theorem dX8_holds_138 : decode cX8_holds 138 = .ok (.iconst 0, 1) := by decide +kernel
theorem dX8_holds_139 : decode cX8_holds 139 = .ok (.iaload, 1) := by decide +kernel
theorem dX8_holds_140 : decode cX8_holds 140 = .ok (.iconst 1, 1) := by decide +kernel
theorem dX8_holds_141 : decode cX8_holds 141 = .ok (.if_icmp .ne 7, 3) := by decide +kernel
theorem dX8_holds_144 : decode cX8_holds 144 = .ok (.iconst 1, 1) := by decide +kernel
theorem dX8_holds_145 : decode cX8_holds 145 = .ok (.goto 4, 3) := by decide +kernel
theorem dX8_holds_148 : decode cX8_holds 148 = .ok (.iconst 0, 1) := by decide +kernel
theorem dX8_holds_149 : decode cX8_holds 149 = .ok (.ireturn, 1) := by decide +kernel
set_option maxRecDepth 20000 in
theorem ggX8_askLives_X8_its : GoodIn wsX8_askLives wsX8_its := goodIn_r _ [7, 1, 8, 9, 6, 10, 39, 40, 41, 42, 43, 44, 45, 46, 47, 48, 49, 50, 51, 52, 53, 54, 55, 56, 57, 58, 59, 60, 61, 62, 63, 64, 65, 66, 67, 68, 69, 70, 71] (by decide +kernel) (by decide +kernel)
set_option maxRecDepth 20000 in
theorem gX8_askLives_X8_its : GoodIn wsX8_askLives (wsV RX8 123 RX8 yX8_its wsX8_its) := goodIn_app (goodIn_of _ (by decide +kernel)) ggX8_askLives_X8_its
set_option maxRecDepth 20000 in
theorem ggX8_askLives_X8_piecesOf : GoodIn wsX8_askLives wsX8_piecesOf := goodIn_r _ [14, 15, 16, 17, 6, 18, 19, 20, 21, 22, 23, 24, 25, 3, 4, 5, 7, 1, 8, 9, 10, 26, 27, 28, 39, 40, 41, 42, 43, 44, 45, 46, 47, 48, 49, 50, 51, 52, 53, 54, 55, 56, 57, 58, 59, 60, 61, 62, 63, 64, 65, 66, 67, 68, 69, 70, 71] (by decide +kernel) (by decide +kernel)
set_option maxRecDepth 20000 in
theorem gX8_askLives_X8_piecesOf : GoodIn wsX8_askLives (wsV RX8 364 RX8 yX8_piecesOf wsX8_piecesOf) := goodIn_app (goodIn_of _ (by decide +kernel)) ggX8_askLives_X8_piecesOf
set_option maxRecDepth 20000 in
theorem ggX8_askLives_X8_holds : GoodIn wsX8_askLives wsX8_holds := goodIn_r _ [32, 33, 34, 35, 2, 36, 37, 6, 38, 39, 40, 41, 42, 43, 44, 45, 46, 47, 48, 49, 50, 51, 52, 53, 54, 55, 56, 57, 58, 59, 60, 61, 62, 63, 64, 65, 66, 67, 68, 69, 70, 71] (by decide +kernel) (by decide +kernel)
set_option maxRecDepth 20000 in
theorem gX8_askLives_X8_holds : GoodIn wsX8_askLives (wsV RX8 367 RX8 yX8_holds wsX8_holds) := goodIn_app (goodIn_of _ (by decide +kernel)) ggX8_askLives_X8_holds
theorem dX8_askLives_0 : decode cX8_askLives 0 = .ok (.iconst 0, 1) := by decide +kernel
theorem dX8_askLives_1 : decode cX8_askLives 1 = .ok (.istore_n 2, 1) := by decide +kernel
theorem dX8_askLives_2 : decode cX8_askLives 2 = .ok (.iconst 0, 1) := by decide +kernel
theorem dX8_askLives_3 : decode cX8_askLives 3 = .ok (.istore_n 3, 1) := by decide +kernel
theorem dX8_askLives_4 : decode cX8_askLives 4 = .ok (.iload_n 3, 1) := by decide +kernel
theorem dX8_askLives_5 : decode cX8_askLives 5 = .ok (.aload_n 0, 1) := by decide +kernel
theorem dX8_askLives_6 : decode cX8_askLives 6 = .ok (.getfield 13, 3) := by decide +kernel
theorem dX8_askLives_9 : decode cX8_askLives 9 = .ok (.iconst 0, 1) := by decide +kernel
theorem dX8_askLives_10 : decode cX8_askLives 10 = .ok (.iaload, 1) := by decide +kernel
theorem dX8_askLives_11 : decode cX8_askLives 11 = .ok (.if_icmp .ge 115, 3) := by decide +kernel
theorem dX8_askLives_14 : decode cX8_askLives 14 = .ok (.aload_n 0, 1) := by decide +kernel
theorem dX8_askLives_15 : decode cX8_askLives 15 = .ok (.getfield 49, 3) := by decide +kernel
theorem dX8_askLives_18 : decode cX8_askLives 18 = .ok (.iconst 0, 1) := by decide +kernel
theorem dX8_askLives_19 : decode cX8_askLives 19 = .ok (.aload_n 0, 1) := by decide +kernel
theorem dX8_askLives_20 : decode cX8_askLives 20 = .ok (.iload_n 3, 1) := by decide +kernel
theorem dX8_askLives_21 : decode cX8_askLives 21 = .ok (.iconst 0, 1) := by decide +kernel
theorem dX8_askLives_22 : decode cX8_askLives 22 = .ok (.invokevirtual 123, 3) := by decide +kernel
theorem dX8_askLives_25 : decode cX8_askLives 25 = .ok (.iastore, 1) := by decide +kernel
theorem dX8_askLives_26 : decode cX8_askLives 26 = .ok (.aload_n 0, 1) := by decide +kernel
theorem dX8_askLives_27 : decode cX8_askLives 27 = .ok (.getfield 49, 3) := by decide +kernel
theorem dX8_askLives_30 : decode cX8_askLives 30 = .ok (.iconst 1, 1) := by decide +kernel
theorem dX8_askLives_31 : decode cX8_askLives 31 = .ok (.aload_n 0, 1) := by decide +kernel
theorem dX8_askLives_32 : decode cX8_askLives 32 = .ok (.iload_n 3, 1) := by decide +kernel
theorem dX8_askLives_33 : decode cX8_askLives 33 = .ok (.iconst 1, 1) := by decide +kernel
theorem dX8_askLives_34 : decode cX8_askLives 34 = .ok (.invokevirtual 123, 3) := by decide +kernel
theorem dX8_askLives_37 : decode cX8_askLives 37 = .ok (.iastore, 1) := by decide +kernel
theorem dX8_askLives_38 : decode cX8_askLives 38 = .ok (.aload_n 0, 1) := by decide +kernel
theorem dX8_askLives_39 : decode cX8_askLives 39 = .ok (.getfield 49, 3) := by decide +kernel
theorem dX8_askLives_42 : decode cX8_askLives 42 = .ok (.iconst 2, 1) := by decide +kernel
theorem dX8_askLives_43 : decode cX8_askLives 43 = .ok (.aload_n 0, 1) := by decide +kernel
theorem dX8_askLives_44 : decode cX8_askLives 44 = .ok (.iload_n 3, 1) := by decide +kernel
theorem dX8_askLives_45 : decode cX8_askLives 45 = .ok (.iconst 2, 1) := by decide +kernel
theorem dX8_askLives_46 : decode cX8_askLives 46 = .ok (.invokevirtual 123, 3) := by decide +kernel
theorem dX8_askLives_49 : decode cX8_askLives 49 = .ok (.iastore, 1) := by decide +kernel
theorem dX8_askLives_50 : decode cX8_askLives 50 = .ok (.aload_n 0, 1) := by decide +kernel
theorem dX8_askLives_51 : decode cX8_askLives 51 = .ok (.getfield 49, 3) := by decide +kernel
theorem dX8_askLives_54 : decode cX8_askLives 54 = .ok (.iconst 3, 1) := by decide +kernel
theorem dX8_askLives_55 : decode cX8_askLives 55 = .ok (.aload_n 0, 1) := by decide +kernel
theorem dX8_askLives_56 : decode cX8_askLives 56 = .ok (.iload_n 3, 1) := by decide +kernel
theorem dX8_askLives_57 : decode cX8_askLives 57 = .ok (.iconst 2, 1) := by decide +kernel
theorem dX8_askLives_58 : decode cX8_askLives 58 = .ok (.invokevirtual 123, 3) := by decide +kernel
theorem dX8_askLives_61 : decode cX8_askLives 61 = .ok (.aload_n 0, 1) := by decide +kernel
theorem dX8_askLives_62 : decode cX8_askLives 62 = .ok (.iload_n 3, 1) := by decide +kernel
theorem dX8_askLives_63 : decode cX8_askLives 63 = .ok (.iconst 1, 1) := by decide +kernel
theorem dX8_askLives_64 : decode cX8_askLives 64 = .ok (.invokevirtual 123, 3) := by decide +kernel
theorem dX8_askLives_67 : decode cX8_askLives 67 = .ok (.isub, 1) := by decide +kernel
theorem dX8_askLives_68 : decode cX8_askLives 68 = .ok (.iastore, 1) := by decide +kernel
theorem dX8_askLives_69 : decode cX8_askLives 69 = .ok (.aload_n 0, 1) := by decide +kernel
theorem dX8_askLives_70 : decode cX8_askLives 70 = .ok (.getfield 49, 3) := by decide +kernel
theorem dX8_askLives_73 : decode cX8_askLives 73 = .ok (.iconst 4, 1) := by decide +kernel
theorem dX8_askLives_74 : decode cX8_askLives 74 = .ok (.aload_n 0, 1) := by decide +kernel
theorem dX8_askLives_75 : decode cX8_askLives 75 = .ok (.iload_n 3, 1) := by decide +kernel
theorem dX8_askLives_76 : decode cX8_askLives 76 = .ok (.iconst 3, 1) := by decide +kernel
theorem dX8_askLives_77 : decode cX8_askLives 77 = .ok (.invokevirtual 123, 3) := by decide +kernel
theorem dX8_askLives_80 : decode cX8_askLives 80 = .ok (.iastore, 1) := by decide +kernel
theorem dX8_askLives_81 : decode cX8_askLives 81 = .ok (.aload_n 0, 1) := by decide +kernel
theorem dX8_askLives_82 : decode cX8_askLives 82 = .ok (.getfield 49, 3) := by decide +kernel
theorem dX8_askLives_85 : decode cX8_askLives 85 = .ok (.iconst 5, 1) := by decide +kernel
theorem dX8_askLives_86 : decode cX8_askLives 86 = .ok (.aload_n 0, 1) := by decide +kernel
theorem dX8_askLives_87 : decode cX8_askLives 87 = .ok (.iload_n 3, 1) := by decide +kernel
theorem dX8_askLives_88 : decode cX8_askLives 88 = .ok (.invokevirtual 364, 3) := by decide +kernel
theorem dX8_askLives_91 : decode cX8_askLives 91 = .ok (.iastore, 1) := by decide +kernel
theorem dX8_askLives_92 : decode cX8_askLives 92 = .ok (.iload_n 2, 1) := by decide +kernel
theorem dX8_askLives_93 : decode cX8_askLives 93 = .ok (.aload_n 0, 1) := by decide +kernel
theorem dX8_askLives_94 : decode cX8_askLives 94 = .ok (.invokevirtual 367, 3) := by decide +kernel
theorem dX8_askLives_97 : decode cX8_askLives 97 = .ok (.ifCond .eq 20, 3) := by decide +kernel
theorem dX8_askLives_100 : decode cX8_askLives 100 = .ok (.iload_n 1, 1) := by decide +kernel
theorem dX8_askLives_101 : decode cX8_askLives 101 = .ok (.ifCond .eq 12, 3) := by decide +kernel
theorem dX8_askLives_104 : decode cX8_askLives 104 = .ok (.aload_n 0, 1) := by decide +kernel
theorem dX8_askLives_105 : decode cX8_askLives 105 = .ok (.iload_n 3, 1) := by decide +kernel
theorem dX8_askLives_106 : decode cX8_askLives 106 = .ok (.iconst 3, 1) := by decide +kernel
theorem dX8_askLives_107 : decode cX8_askLives 107 = .ok (.invokevirtual 123, 3) := by decide +kernel
theorem dX8_askLives_110 : decode cX8_askLives 110 = .ok (.goto 8, 3) := by decide +kernel
theorem dX8_askLives_113 : decode cX8_askLives 113 = .ok (.iconst 1, 1) := by decide +kernel
theorem dX8_askLives_114 : decode cX8_askLives 114 = .ok (.goto 4, 3) := by decide +kernel
theorem dX8_askLives_117 : decode cX8_askLives 117 = .ok (.iconst 0, 1) := by decide +kernel
theorem dX8_askLives_118 : decode cX8_askLives 118 = .ok (.iadd, 1) := by decide +kernel
theorem dX8_askLives_119 : decode cX8_askLives 119 = .ok (.istore_n 2, 1) := by decide +kernel
theorem dX8_askLives_120 : decode cX8_askLives 120 = .ok (.iinc 3 1, 3) := by decide +kernel
theorem dX8_askLives_123 : decode cX8_askLives 123 = .ok (.goto (-119), 3) := by decide +kernel
theorem dX8_askLives_126 : decode cX8_askLives 126 = .ok (.iload_n 2, 1) := by decide +kernel
theorem dX8_askLives_127 : decode cX8_askLives 127 = .ok (.ireturn, 1) := by decide +kernel
set_option maxRecDepth 20000 in
theorem ggX8_askHours_X8_countAt : GoodIn wsX8_askHours wsX8_countAt := goodIn_r _ [6, 7, 8, 9, 5, 10, 11, 12, 13, 43, 44, 45, 46, 47, 48, 49, 50, 51, 52, 53, 54, 55, 56, 57, 58, 59, 60, 61, 62, 63, 64, 65, 66, 67, 68, 69, 70, 71, 72, 73, 74, 75] (by decide +kernel) (by decide +kernel)
set_option maxRecDepth 20000 in
theorem gX8_askHours_X8_countAt : GoodIn wsX8_askHours (wsV RX8 370 RX8 yX8_countAt wsX8_countAt) := goodIn_app (goodIn_of _ (by decide +kernel)) ggX8_askHours_X8_countAt
set_option maxRecDepth 20000 in
theorem ggX8_askHours_X8_sumAt : GoodIn wsX8_askHours wsX8_sumAt := goodIn_r _ [17, 7, 8, 9, 5, 10, 11, 12, 13, 18, 19, 20, 21, 22, 23, 24, 43, 44, 45, 46, 47, 48, 49, 50, 51, 52, 53, 54, 55, 56, 57, 58, 59, 60, 61, 62, 63, 64, 65, 66, 67, 68, 69, 70, 71, 72, 73, 74, 75] (by decide +kernel) (by decide +kernel)
set_option maxRecDepth 20000 in
theorem gX8_askHours_X8_sumAt : GoodIn wsX8_askHours (wsV RX8 373 RX8 yX8_sumAt wsX8_sumAt) := goodIn_app (goodIn_of _ (by decide +kernel)) ggX8_askHours_X8_sumAt
set_option maxRecDepth 20000 in
theorem ggX8_askHours_X8_leastFrom : GoodIn wsX8_askHours wsX8_leastFrom := goodIn_r _ [28, 7, 8, 9, 5, 10, 11, 12, 13, 18, 19, 20, 21, 43, 44, 45, 46, 47, 48, 49, 50, 51, 52, 53, 54, 55, 56, 57, 58, 59, 60, 61, 62, 63, 64, 65, 66, 67, 68, 69, 70, 71, 72, 73, 74, 75] (by decide +kernel) (by decide +kernel)
set_option maxRecDepth 20000 in
theorem gX8_askHours_X8_leastFrom : GoodIn wsX8_askHours (wsV RX8 376 RX8 yX8_leastFrom wsX8_leastFrom) := goodIn_app (goodIn_of _ (by decide +kernel)) ggX8_askHours_X8_leastFrom
set_option maxRecDepth 20000 in
theorem ggX8_askHours_X8_greatestTo : GoodIn wsX8_askHours wsX8_greatestTo := goodIn_r _ [32, 7, 8, 9, 5, 10, 11, 12, 13, 18, 19, 20, 21, 43, 44, 45, 46, 47, 48, 49, 50, 51, 52, 53, 54, 55, 56, 57, 58, 59, 60, 61, 62, 63, 64, 65, 66, 67, 68, 69, 70, 71, 72, 73, 74, 75] (by decide +kernel) (by decide +kernel)
set_option maxRecDepth 20000 in
theorem gX8_askHours_X8_greatestTo : GoodIn wsX8_askHours (wsV RX8 379 RX8 yX8_greatestTo wsX8_greatestTo) := goodIn_app (goodIn_of _ (by decide +kernel)) ggX8_askHours_X8_greatestTo
set_option maxRecDepth 20000 in
theorem ggX8_askHours_X8_holds : GoodIn wsX8_askHours wsX8_holds := goodIn_r _ [36, 37, 38, 39, 1, 40, 41, 5, 42, 43, 44, 45, 46, 47, 48, 49, 50, 51, 52, 53, 54, 55, 56, 57, 58, 59, 60, 61, 62, 63, 64, 65, 66, 67, 68, 69, 70, 71, 72, 73, 74, 75] (by decide +kernel) (by decide +kernel)
set_option maxRecDepth 20000 in
theorem gX8_askHours_X8_holds : GoodIn wsX8_askHours (wsV RX8 367 RX8 yX8_holds wsX8_holds) := goodIn_app (goodIn_of _ (by decide +kernel)) ggX8_askHours_X8_holds
theorem dX8_askHours_0 : decode cX8_askHours 0 = .ok (.iconst 0, 1) := by decide +kernel
theorem dX8_askHours_1 : decode cX8_askHours 1 = .ok (.istore_n 2, 1) := by decide +kernel
theorem dX8_askHours_2 : decode cX8_askHours 2 = .ok (.iconst 0, 1) := by decide +kernel
theorem dX8_askHours_3 : decode cX8_askHours 3 = .ok (.istore_n 3, 1) := by decide +kernel
theorem dX8_askHours_4 : decode cX8_askHours 4 = .ok (.iconst 0, 1) := by decide +kernel
theorem dX8_askHours_5 : decode cX8_askHours 5 = .ok (.istore 4, 2) := by decide +kernel
theorem dX8_askHours_7 : decode cX8_askHours 7 = .ok (.iconst 0, 1) := by decide +kernel
theorem dX8_askHours_8 : decode cX8_askHours 8 = .ok (.istore 5, 2) := by decide +kernel
theorem dX8_askHours_10 : decode cX8_askHours 10 = .ok (.iload 5, 2) := by decide +kernel
theorem dX8_askHours_12 : decode cX8_askHours 12 = .ok (.bipush 64, 2) := by decide +kernel
theorem dX8_askHours_14 : decode cX8_askHours 14 = .ok (.if_icmp .ge 120, 3) := by decide +kernel
theorem dX8_askHours_17 : decode cX8_askHours 17 = .ok (.aload_n 0, 1) := by decide +kernel
theorem dX8_askHours_18 : decode cX8_askHours 18 = .ok (.getfield 49, 3) := by decide +kernel
theorem dX8_askHours_21 : decode cX8_askHours 21 = .ok (.iconst 0, 1) := by decide +kernel
theorem dX8_askHours_22 : decode cX8_askHours 22 = .ok (.iload 5, 2) := by decide +kernel
theorem dX8_askHours_24 : decode cX8_askHours 24 = .ok (.iastore, 1) := by decide +kernel
theorem dX8_askHours_25 : decode cX8_askHours 25 = .ok (.aload_n 0, 1) := by decide +kernel
theorem dX8_askHours_26 : decode cX8_askHours 26 = .ok (.getfield 49, 3) := by decide +kernel
theorem dX8_askHours_29 : decode cX8_askHours 29 = .ok (.iconst 1, 1) := by decide +kernel
theorem dX8_askHours_30 : decode cX8_askHours 30 = .ok (.aload_n 0, 1) := by decide +kernel
theorem dX8_askHours_31 : decode cX8_askHours 31 = .ok (.iload 5, 2) := by decide +kernel
theorem dX8_askHours_33 : decode cX8_askHours 33 = .ok (.invokevirtual 370, 3) := by decide +kernel
theorem dX8_askHours_36 : decode cX8_askHours 36 = .ok (.iastore, 1) := by decide +kernel
theorem dX8_askHours_37 : decode cX8_askHours 37 = .ok (.aload_n 0, 1) := by decide +kernel
theorem dX8_askHours_38 : decode cX8_askHours 38 = .ok (.getfield 49, 3) := by decide +kernel
theorem dX8_askHours_41 : decode cX8_askHours 41 = .ok (.iconst 2, 1) := by decide +kernel
theorem dX8_askHours_42 : decode cX8_askHours 42 = .ok (.aload_n 0, 1) := by decide +kernel
theorem dX8_askHours_43 : decode cX8_askHours 43 = .ok (.iload 5, 2) := by decide +kernel
theorem dX8_askHours_45 : decode cX8_askHours 45 = .ok (.iconst 0, 1) := by decide +kernel
theorem dX8_askHours_46 : decode cX8_askHours 46 = .ok (.sipush 999, 3) := by decide +kernel
theorem dX8_askHours_49 : decode cX8_askHours 49 = .ok (.invokevirtual 373, 3) := by decide +kernel
theorem dX8_askHours_52 : decode cX8_askHours 52 = .ok (.iastore, 1) := by decide +kernel
theorem dX8_askHours_53 : decode cX8_askHours 53 = .ok (.aload_n 0, 1) := by decide +kernel
theorem dX8_askHours_54 : decode cX8_askHours 54 = .ok (.getfield 49, 3) := by decide +kernel
theorem dX8_askHours_57 : decode cX8_askHours 57 = .ok (.iconst 3, 1) := by decide +kernel
theorem dX8_askHours_58 : decode cX8_askHours 58 = .ok (.aload_n 0, 1) := by decide +kernel
theorem dX8_askHours_59 : decode cX8_askHours 59 = .ok (.iconst 0, 1) := by decide +kernel
theorem dX8_askHours_60 : decode cX8_askHours 60 = .ok (.iload 5, 2) := by decide +kernel
theorem dX8_askHours_62 : decode cX8_askHours 62 = .ok (.invokevirtual 376, 3) := by decide +kernel
theorem dX8_askHours_65 : decode cX8_askHours 65 = .ok (.iastore, 1) := by decide +kernel
theorem dX8_askHours_66 : decode cX8_askHours 66 = .ok (.aload_n 0, 1) := by decide +kernel
theorem dX8_askHours_67 : decode cX8_askHours 67 = .ok (.getfield 49, 3) := by decide +kernel
theorem dX8_askHours_70 : decode cX8_askHours 70 = .ok (.iconst 4, 1) := by decide +kernel
theorem dX8_askHours_71 : decode cX8_askHours 71 = .ok (.aload_n 0, 1) := by decide +kernel
theorem dX8_askHours_72 : decode cX8_askHours 72 = .ok (.sipush 999, 3) := by decide +kernel
theorem dX8_askHours_75 : decode cX8_askHours 75 = .ok (.iload 5, 2) := by decide +kernel
theorem dX8_askHours_77 : decode cX8_askHours 77 = .ok (.invokevirtual 379, 3) := by decide +kernel
theorem dX8_askHours_80 : decode cX8_askHours 80 = .ok (.iastore, 1) := by decide +kernel
theorem dX8_askHours_81 : decode cX8_askHours 81 = .ok (.aload_n 0, 1) := by decide +kernel
theorem dX8_askHours_82 : decode cX8_askHours 82 = .ok (.invokevirtual 367, 3) := by decide +kernel
theorem dX8_askHours_85 : decode cX8_askHours 85 = .ok (.istore 6, 2) := by decide +kernel
theorem dX8_askHours_87 : decode cX8_askHours 87 = .ok (.iload_n 2, 1) := by decide +kernel
theorem dX8_askHours_88 : decode cX8_askHours 88 = .ok (.iload 6, 2) := by decide +kernel
theorem dX8_askHours_90 : decode cX8_askHours 90 = .ok (.ifCond .eq 7, 3) := by decide +kernel
theorem dX8_askHours_93 : decode cX8_askHours 93 = .ok (.iconst 1, 1) := by decide +kernel
theorem dX8_askHours_94 : decode cX8_askHours 94 = .ok (.goto 4, 3) := by decide +kernel
theorem dX8_askHours_97 : decode cX8_askHours 97 = .ok (.iconst 0, 1) := by decide +kernel
theorem dX8_askHours_98 : decode cX8_askHours 98 = .ok (.iadd, 1) := by decide +kernel
theorem dX8_askHours_99 : decode cX8_askHours 99 = .ok (.istore_n 2, 1) := by decide +kernel
theorem dX8_askHours_100 : decode cX8_askHours 100 = .ok (.iload 6, 2) := by decide +kernel
theorem dX8_askHours_102 : decode cX8_askHours 102 = .ok (.ifCond .eq 10, 3) := by decide +kernel
theorem dX8_askHours_105 : decode cX8_askHours 105 = .ok (.iload 4, 2) := by decide +kernel
theorem dX8_askHours_107 : decode cX8_askHours 107 = .ok (.iconst 1, 1) := by decide +kernel
theorem dX8_askHours_108 : decode cX8_askHours 108 = .ok (.iadd, 1) := by decide +kernel
theorem dX8_askHours_109 : decode cX8_askHours 109 = .ok (.goto 4, 3) := by decide +kernel
theorem dX8_askHours_112 : decode cX8_askHours 112 = .ok (.iconst 0, 1) := by decide +kernel
theorem dX8_askHours_113 : decode cX8_askHours 113 = .ok (.istore 4, 2) := by decide +kernel
theorem dX8_askHours_115 : decode cX8_askHours 115 = .ok (.iload 4, 2) := by decide +kernel
theorem dX8_askHours_117 : decode cX8_askHours 117 = .ok (.iload_n 3, 1) := by decide +kernel
