theorem dX2_init_0 : decode cX2_init 0 = .ok (.aload_n 0, 1) := by decide +kernel
theorem dX2_init_1 : decode cX2_init 1 = .ok (.invokespecial 5, 3) := by decide +kernel
theorem dX2_init_4 : decode cX2_init 4 = .ok (.aload_n 0, 1) := by decide +kernel
theorem dX2_init_5 : decode cX2_init 5 = .ok (.sipush 1280, 3) := by decide +kernel
theorem dX2_init_8 : decode cX2_init 8 = .ok (.newarray .int, 2) := by decide +kernel
theorem dX2_init_10 : decode cX2_init 10 = .ok (.putfield 11, 3) := by decide +kernel
theorem dX2_init_13 : decode cX2_init 13 = .ok (.aload_n 0, 1) := by decide +kernel
theorem dX2_init_14 : decode cX2_init 14 = .ok (.iconst 0, 1) := by decide +kernel
theorem dX2_init_15 : decode cX2_init 15 = .ok (.putfield 15, 3) := by decide +kernel
theorem dX2_init_18 : decode cX2_init 18 = .ok (.return_, 1) := by decide +kernel
theorem dX2_length_0 : decode cX2_length 0 = .ok (.aload_n 0, 1) := by decide +kernel
theorem dX2_length_1 : decode cX2_length 1 = .ok (.getfield 15, 3) := by decide +kernel
theorem dX2_length_4 : decode cX2_length 4 = .ok (.ireturn, 1) := by decide +kernel
theorem dX2_byteAt_0 : decode cX2_byteAt 0 = .ok (.iload_n 1, 1) := by decide +kernel
theorem dX2_byteAt_1 : decode cX2_byteAt 1 = .ok (.ifCond .lt 10, 3) := by decide +kernel
theorem dX2_byteAt_4 : decode cX2_byteAt 4 = .ok (.iload_n 1, 1) := by decide +kernel
theorem dX2_byteAt_5 : decode cX2_byteAt 5 = .ok (.sipush 1280, 3) := by decide +kernel
theorem dX2_byteAt_8 : decode cX2_byteAt 8 = .ok (.if_icmp .lt 7, 3) := by decide +kernel
theorem dX2_byteAt_11 : decode cX2_byteAt 11 = .ok (.iconst 0, 1) := by decide +kernel
theorem dX2_byteAt_12 : decode cX2_byteAt 12 = .ok (.goto 9, 3) := by decide +kernel
theorem dX2_byteAt_15 : decode cX2_byteAt 15 = .ok (.aload_n 0, 1) := by decide +kernel
theorem dX2_byteAt_16 : decode cX2_byteAt 16 = .ok (.getfield 11, 3) := by decide +kernel
theorem dX2_byteAt_19 : decode cX2_byteAt 19 = .ok (.iload_n 1, 1) := by decide +kernel
theorem dX2_byteAt_20 : decode cX2_byteAt 20 = .ok (.iaload, 1) := by decide +kernel
theorem dX2_byteAt_21 : decode cX2_byteAt 21 = .ok (.ireturn, 1) := by decide +kernel
theorem dX2_clear_0 : decode cX2_clear 0 = .ok (.aload_n 0, 1) := by decide +kernel
theorem dX2_clear_1 : decode cX2_clear 1 = .ok (.iconst 0, 1) := by decide +kernel
theorem dX2_clear_2 : decode cX2_clear 2 = .ok (.putfield 15, 3) := by decide +kernel
theorem dX2_clear_5 : decode cX2_clear 5 = .ok (.return_, 1) := by decide +kernel
set_option maxRecDepth 20000 in
theorem ggX2_addText_J0_length_8abf5 : GoodIn wsX2_addText wsJ0_length_8abf5 := goodIn_r _ [5, 6, 7, 8, 9, 4, 10, 11, 12] (by decide +kernel) (by decide +kernel)
set_option maxRecDepth 20000 in
theorem gX2_addText_J0_length_8abf5 : GoodIn wsX2_addText (wsV RX2 19 RJ0 yJ0_length_8abf5 wsJ0_length_8abf5) := goodIn_app (goodIn_of _ (by decide +kernel)) ggX2_addText_J0_length_8abf5
set_option maxRecDepth 20000 in
theorem ggX2_addText_J0_charAt_5068e : GoodIn wsX2_addText wsJ0_charAt_5068e := goodIn_r _ [16, 6, 17, 18, 19, 4, 20, 11, 12, 21, 22, 23, 24, 25, 26, 27, 28, 29, 30, 31, 32, 33, 34, 35, 36, 37, 38, 39, 40, 41, 42, 43, 44, 45, 46, 47, 48, 49] (by decide +kernel) (by decide +kernel)
set_option maxRecDepth 20000 in
theorem gX2_addText_J0_charAt_5068e : GoodIn wsX2_addText (wsV RX2 24 RJ0 yJ0_charAt_5068e wsJ0_charAt_5068e) := goodIn_app (goodIn_of _ (by decide +kernel)) ggX2_addText_J0_charAt_5068e
set_option maxRecDepth 20000 in
theorem ggX2_addText_X2_addByte : GoodIn wsX2_addText wsX2_addByte := goodIn_r _ [54, 55, 56, 57, 58] (by decide +kernel) (by decide +kernel)
set_option maxRecDepth 20000 in
theorem gX2_addText_X2_addByte : GoodIn wsX2_addText (wsV RX2 28 RX2 yX2_addByte wsX2_addByte) := goodIn_app (goodIn_of _ (by decide +kernel)) ggX2_addText_X2_addByte
theorem dX2_addText_0 : decode cX2_addText 0 = .ok (.aload_n 1, 1) := by decide +kernel
theorem dX2_addText_1 : decode cX2_addText 1 = .ok (.ifnonnull 4, 3) := by decide +kernel
theorem dX2_addText_4 : decode cX2_addText 4 = .ok (.return_, 1) := by decide +kernel
theorem dX2_addText_5 : decode cX2_addText 5 = .ok (.iconst 0, 1) := by decide +kernel
theorem dX2_addText_6 : decode cX2_addText 6 = .ok (.istore_n 2, 1) := by decide +kernel
theorem dX2_addText_7 : decode cX2_addText 7 = .ok (.iload_n 2, 1) := by decide +kernel
theorem dX2_addText_8 : decode cX2_addText 8 = .ok (.aload_n 1, 1) := by decide +kernel
theorem dX2_addText_9 : decode cX2_addText 9 = .ok (.invokevirtual 19, 3) := by decide +kernel
theorem dX2_addText_12 : decode cX2_addText 12 = .ok (.if_icmp .ge 18, 3) := by decide +kernel
theorem dX2_addText_15 : decode cX2_addText 15 = .ok (.aload_n 0, 1) := by decide +kernel
theorem dX2_addText_16 : decode cX2_addText 16 = .ok (.aload_n 1, 1) := by decide +kernel
theorem dX2_addText_17 : decode cX2_addText 17 = .ok (.iload_n 2, 1) := by decide +kernel
theorem dX2_addText_18 : decode cX2_addText 18 = .ok (.invokevirtual 24, 3) := by decide +kernel
theorem dX2_addText_21 : decode cX2_addText 21 = .ok (.invokevirtual 28, 3) := by decide +kernel
theorem dX2_addText_24 : decode cX2_addText 24 = .ok (.iinc 2 1, 3) := by decide +kernel
theorem dX2_addText_27 : decode cX2_addText 27 = .ok (.goto (-20), 3) := by decide +kernel
theorem dX2_addText_30 : decode cX2_addText 30 = .ok (.return_, 1) := by decide +kernel
set_option maxRecDepth 20000 in
theorem ggX2_addNumber_X2_addByte : GoodIn wsX2_addNumber wsX2_addByte := goodIn_r _ [5, 6, 7, 8, 9] (by decide +kernel) (by decide +kernel)
set_option maxRecDepth 20000 in
theorem gX2_addNumber_X2_addByte : GoodIn wsX2_addNumber (wsV RX2 28 RX2 yX2_addByte wsX2_addByte) := goodIn_app (goodIn_of _ (by decide +kernel)) ggX2_addNumber_X2_addByte
theorem dX2_addNumber_0 : decode cX2_addNumber 0 = .ok (.iload_n 1, 1) := by decide +kernel
theorem dX2_addNumber_1 : decode cX2_addNumber 1 = .ok (.bipush 100, 2) := by decide +kernel
theorem dX2_addNumber_3 : decode cX2_addNumber 3 = .ok (.if_icmp .lt 14, 3) := by decide +kernel
theorem dX2_addNumber_6 : decode cX2_addNumber 6 = .ok (.aload_n 0, 1) := by decide +kernel
theorem dX2_addNumber_7 : decode cX2_addNumber 7 = .ok (.bipush 48, 2) := by decide +kernel
theorem dX2_addNumber_9 : decode cX2_addNumber 9 = .ok (.iload_n 1, 1) := by decide +kernel
theorem dX2_addNumber_10 : decode cX2_addNumber 10 = .ok (.bipush 100, 2) := by decide +kernel
theorem dX2_addNumber_12 : decode cX2_addNumber 12 = .ok (.idiv, 1) := by decide +kernel
theorem dX2_addNumber_13 : decode cX2_addNumber 13 = .ok (.iadd, 1) := by decide +kernel
theorem dX2_addNumber_14 : decode cX2_addNumber 14 = .ok (.invokevirtual 28, 3) := by decide +kernel
theorem dX2_addNumber_17 : decode cX2_addNumber 17 = .ok (.iload_n 1, 1) := by decide +kernel
theorem dX2_addNumber_18 : decode cX2_addNumber 18 = .ok (.bipush 10, 2) := by decide +kernel
theorem dX2_addNumber_20 : decode cX2_addNumber 20 = .ok (.if_icmp .lt 17, 3) := by decide +kernel
theorem dX2_addNumber_23 : decode cX2_addNumber 23 = .ok (.aload_n 0, 1) := by decide +kernel
theorem dX2_addNumber_24 : decode cX2_addNumber 24 = .ok (.bipush 48, 2) := by decide +kernel
theorem dX2_addNumber_26 : decode cX2_addNumber 26 = .ok (.iload_n 1, 1) := by decide +kernel
theorem dX2_addNumber_27 : decode cX2_addNumber 27 = .ok (.bipush 10, 2) := by decide +kernel
theorem dX2_addNumber_29 : decode cX2_addNumber 29 = .ok (.idiv, 1) := by decide +kernel
theorem dX2_addNumber_30 : decode cX2_addNumber 30 = .ok (.bipush 10, 2) := by decide +kernel
theorem dX2_addNumber_32 : decode cX2_addNumber 32 = .ok (.irem, 1) := by decide +kernel
theorem dX2_addNumber_33 : decode cX2_addNumber 33 = .ok (.iadd, 1) := by decide +kernel
theorem dX2_addNumber_34 : decode cX2_addNumber 34 = .ok (.invokevirtual 28, 3) := by decide +kernel
theorem dX2_addNumber_37 : decode cX2_addNumber 37 = .ok (.aload_n 0, 1) := by decide +kernel
theorem dX2_addNumber_38 : decode cX2_addNumber 38 = .ok (.bipush 48, 2) := by decide +kernel
theorem dX2_addNumber_40 : decode cX2_addNumber 40 = .ok (.iload_n 1, 1) := by decide +kernel
theorem dX2_addNumber_41 : decode cX2_addNumber 41 = .ok (.bipush 10, 2) := by decide +kernel
theorem dX2_addNumber_43 : decode cX2_addNumber 43 = .ok (.irem, 1) := by decide +kernel
theorem dX2_addNumber_44 : decode cX2_addNumber 44 = .ok (.iadd, 1) := by decide +kernel
theorem dX2_addNumber_45 : decode cX2_addNumber 45 = .ok (.invokevirtual 28, 3) := by decide +kernel
theorem dX2_addNumber_48 : decode cX2_addNumber 48 = .ok (.return_, 1) := by decide +kernel
theorem dX2_addByte_0 : decode cX2_addByte 0 = .ok (.aload_n 0, 1) := by decide +kernel
theorem dX2_addByte_1 : decode cX2_addByte 1 = .ok (.getfield 15, 3) := by decide +kernel
theorem dX2_addByte_4 : decode cX2_addByte 4 = .ok (.ifCond .lt 33, 3) := by decide +kernel
theorem dX2_addByte_7 : decode cX2_addByte 7 = .ok (.aload_n 0, 1) := by decide +kernel
theorem dX2_addByte_8 : decode cX2_addByte 8 = .ok (.getfield 15, 3) := by decide +kernel
theorem dX2_addByte_11 : decode cX2_addByte 11 = .ok (.sipush 1280, 3) := by decide +kernel
theorem dX2_addByte_14 : decode cX2_addByte 14 = .ok (.if_icmp .ge 23, 3) := by decide +kernel
theorem dX2_addByte_17 : decode cX2_addByte 17 = .ok (.aload_n 0, 1) := by decide +kernel
theorem dX2_addByte_18 : decode cX2_addByte 18 = .ok (.getfield 11, 3) := by decide +kernel
theorem dX2_addByte_21 : decode cX2_addByte 21 = .ok (.aload_n 0, 1) := by decide +kernel
theorem dX2_addByte_22 : decode cX2_addByte 22 = .ok (.getfield 15, 3) := by decide +kernel
theorem dX2_addByte_25 : decode cX2_addByte 25 = .ok (.iload_n 1, 1) := by decide +kernel
theorem dX2_addByte_26 : decode cX2_addByte 26 = .ok (.iastore, 1) := by decide +kernel
theorem dX2_addByte_27 : decode cX2_addByte 27 = .ok (.aload_n 0, 1) := by decide +kernel
theorem dX2_addByte_28 : decode cX2_addByte 28 = .ok (.dup, 1) := by decide +kernel
theorem dX2_addByte_29 : decode cX2_addByte 29 = .ok (.getfield 15, 3) := by decide +kernel
theorem dX2_addByte_32 : decode cX2_addByte 32 = .ok (.iconst 1, 1) := by decide +kernel
theorem dX2_addByte_33 : decode cX2_addByte 33 = .ok (.iadd, 1) := by decide +kernel
theorem dX2_addByte_34 : decode cX2_addByte 34 = .ok (.putfield 15, 3) := by decide +kernel
theorem dX2_addByte_37 : decode cX2_addByte 37 = .ok (.return_, 1) := by decide +kernel
