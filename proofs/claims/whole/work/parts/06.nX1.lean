theorem dX1_init_0 : decode cX1_init 0 = .ok (.aload_n 0, 1) := by decide +kernel
theorem dX1_init_1 : decode cX1_init 1 = .ok (.invokespecial 5, 3) := by decide +kernel
theorem dX1_init_4 : decode cX1_init 4 = .ok (.aload_n 0, 1) := by decide +kernel
theorem dX1_init_5 : decode cX1_init 5 = .ok (.sipush 162, 3) := by decide +kernel
theorem dX1_init_8 : decode cX1_init 8 = .ok (.newarray .int, 2) := by decide +kernel
theorem dX1_init_10 : decode cX1_init 10 = .ok (.putfield 11, 3) := by decide +kernel
theorem dX1_init_13 : decode cX1_init 13 = .ok (.return_, 1) := by decide +kernel
theorem dX1_lockHour_0 : decode cX1_lockHour 0 = .ok (.aload_n 0, 1) := by decide +kernel
theorem dX1_lockHour_1 : decode cX1_lockHour 1 = .ok (.getfield 11, 3) := by decide +kernel
theorem dX1_lockHour_4 : decode cX1_lockHour 4 = .ok (.iconst 0, 1) := by decide +kernel
theorem dX1_lockHour_5 : decode cX1_lockHour 5 = .ok (.iaload, 1) := by decide +kernel
theorem dX1_lockHour_6 : decode cX1_lockHour 6 = .ok (.ireturn, 1) := by decide +kernel
theorem dX1_setLock_0 : decode cX1_setLock 0 = .ok (.aload_n 0, 1) := by decide +kernel
theorem dX1_setLock_1 : decode cX1_setLock 1 = .ok (.getfield 11, 3) := by decide +kernel
theorem dX1_setLock_4 : decode cX1_setLock 4 = .ok (.iconst 0, 1) := by decide +kernel
theorem dX1_setLock_5 : decode cX1_setLock 5 = .ok (.iload_n 1, 1) := by decide +kernel
theorem dX1_setLock_6 : decode cX1_setLock 6 = .ok (.iastore, 1) := by decide +kernel
theorem dX1_setLock_7 : decode cX1_setLock 7 = .ok (.return_, 1) := by decide +kernel
theorem dX1_size_0 : decode cX1_size 0 = .ok (.aload_n 0, 1) := by decide +kernel
theorem dX1_size_1 : decode cX1_size 1 = .ok (.getfield 11, 3) := by decide +kernel
theorem dX1_size_4 : decode cX1_size 4 = .ok (.iconst 1, 1) := by decide +kernel
theorem dX1_size_5 : decode cX1_size 5 = .ok (.iaload, 1) := by decide +kernel
theorem dX1_size_6 : decode cX1_size 6 = .ok (.ireturn, 1) := by decide +kernel
theorem dX1_numberOf_0 : decode cX1_numberOf 0 = .ok (.iload_n 1, 1) := by decide +kernel
theorem dX1_numberOf_1 : decode cX1_numberOf 1 = .ok (.ifCond .lt 22, 3) := by decide +kernel
theorem dX1_numberOf_4 : decode cX1_numberOf 4 = .ok (.iload_n 1, 1) := by decide +kernel
theorem dX1_numberOf_5 : decode cX1_numberOf 5 = .ok (.bipush 40, 2) := by decide +kernel
theorem dX1_numberOf_7 : decode cX1_numberOf 7 = .ok (.if_icmp .ge 16, 3) := by decide +kernel
theorem dX1_numberOf_10 : decode cX1_numberOf 10 = .ok (.aload_n 0, 1) := by decide +kernel
theorem dX1_numberOf_11 : decode cX1_numberOf 11 = .ok (.getfield 11, 3) := by decide +kernel
theorem dX1_numberOf_14 : decode cX1_numberOf 14 = .ok (.iconst 2, 1) := by decide +kernel
theorem dX1_numberOf_15 : decode cX1_numberOf 15 = .ok (.iconst 4, 1) := by decide +kernel
theorem dX1_numberOf_16 : decode cX1_numberOf 16 = .ok (.iload_n 1, 1) := by decide +kernel
theorem dX1_numberOf_17 : decode cX1_numberOf 17 = .ok (.imul, 1) := by decide +kernel
theorem dX1_numberOf_18 : decode cX1_numberOf 18 = .ok (.iadd, 1) := by decide +kernel
theorem dX1_numberOf_19 : decode cX1_numberOf 19 = .ok (.iaload, 1) := by decide +kernel
theorem dX1_numberOf_20 : decode cX1_numberOf 20 = .ok (.goto 4, 3) := by decide +kernel
theorem dX1_numberOf_23 : decode cX1_numberOf 23 = .ok (.iconst 0, 1) := by decide +kernel
theorem dX1_numberOf_24 : decode cX1_numberOf 24 = .ok (.ireturn, 1) := by decide +kernel
theorem dX1_birthOf_0 : decode cX1_birthOf 0 = .ok (.iload_n 1, 1) := by decide +kernel
theorem dX1_birthOf_1 : decode cX1_birthOf 1 = .ok (.ifCond .lt 24, 3) := by decide +kernel
theorem dX1_birthOf_4 : decode cX1_birthOf 4 = .ok (.iload_n 1, 1) := by decide +kernel
theorem dX1_birthOf_5 : decode cX1_birthOf 5 = .ok (.bipush 40, 2) := by decide +kernel
theorem dX1_birthOf_7 : decode cX1_birthOf 7 = .ok (.if_icmp .ge 18, 3) := by decide +kernel
theorem dX1_birthOf_10 : decode cX1_birthOf 10 = .ok (.aload_n 0, 1) := by decide +kernel
theorem dX1_birthOf_11 : decode cX1_birthOf 11 = .ok (.getfield 11, 3) := by decide +kernel
theorem dX1_birthOf_14 : decode cX1_birthOf 14 = .ok (.iconst 2, 1) := by decide +kernel
theorem dX1_birthOf_15 : decode cX1_birthOf 15 = .ok (.iconst 4, 1) := by decide +kernel
theorem dX1_birthOf_16 : decode cX1_birthOf 16 = .ok (.iload_n 1, 1) := by decide +kernel
theorem dX1_birthOf_17 : decode cX1_birthOf 17 = .ok (.imul, 1) := by decide +kernel
theorem dX1_birthOf_18 : decode cX1_birthOf 18 = .ok (.iadd, 1) := by decide +kernel
theorem dX1_birthOf_19 : decode cX1_birthOf 19 = .ok (.iconst 1, 1) := by decide +kernel
theorem dX1_birthOf_20 : decode cX1_birthOf 20 = .ok (.iadd, 1) := by decide +kernel
theorem dX1_birthOf_21 : decode cX1_birthOf 21 = .ok (.iaload, 1) := by decide +kernel
theorem dX1_birthOf_22 : decode cX1_birthOf 22 = .ok (.goto 4, 3) := by decide +kernel
theorem dX1_birthOf_25 : decode cX1_birthOf 25 = .ok (.iconst 0, 1) := by decide +kernel
theorem dX1_birthOf_26 : decode cX1_birthOf 26 = .ok (.ireturn, 1) := by decide +kernel
theorem dX1_deathOf_0 : decode cX1_deathOf 0 = .ok (.iload_n 1, 1) := by decide +kernel
theorem dX1_deathOf_1 : decode cX1_deathOf 1 = .ok (.ifCond .lt 24, 3) := by decide +kernel
theorem dX1_deathOf_4 : decode cX1_deathOf 4 = .ok (.iload_n 1, 1) := by decide +kernel
theorem dX1_deathOf_5 : decode cX1_deathOf 5 = .ok (.bipush 40, 2) := by decide +kernel
theorem dX1_deathOf_7 : decode cX1_deathOf 7 = .ok (.if_icmp .ge 18, 3) := by decide +kernel
theorem dX1_deathOf_10 : decode cX1_deathOf 10 = .ok (.aload_n 0, 1) := by decide +kernel
theorem dX1_deathOf_11 : decode cX1_deathOf 11 = .ok (.getfield 11, 3) := by decide +kernel
theorem dX1_deathOf_14 : decode cX1_deathOf 14 = .ok (.iconst 2, 1) := by decide +kernel
theorem dX1_deathOf_15 : decode cX1_deathOf 15 = .ok (.iconst 4, 1) := by decide +kernel
theorem dX1_deathOf_16 : decode cX1_deathOf 16 = .ok (.iload_n 1, 1) := by decide +kernel
theorem dX1_deathOf_17 : decode cX1_deathOf 17 = .ok (.imul, 1) := by decide +kernel
theorem dX1_deathOf_18 : decode cX1_deathOf 18 = .ok (.iadd, 1) := by decide +kernel
theorem dX1_deathOf_19 : decode cX1_deathOf 19 = .ok (.iconst 2, 1) := by decide +kernel
theorem dX1_deathOf_20 : decode cX1_deathOf 20 = .ok (.iadd, 1) := by decide +kernel
theorem dX1_deathOf_21 : decode cX1_deathOf 21 = .ok (.iaload, 1) := by decide +kernel
theorem dX1_deathOf_22 : decode cX1_deathOf 22 = .ok (.goto 4, 3) := by decide +kernel
theorem dX1_deathOf_25 : decode cX1_deathOf 25 = .ok (.iconst 0, 1) := by decide +kernel
theorem dX1_deathOf_26 : decode cX1_deathOf 26 = .ok (.ireturn, 1) := by decide +kernel
theorem dX1_worthOf_0 : decode cX1_worthOf 0 = .ok (.iload_n 1, 1) := by decide +kernel
theorem dX1_worthOf_1 : decode cX1_worthOf 1 = .ok (.ifCond .lt 24, 3) := by decide +kernel
theorem dX1_worthOf_4 : decode cX1_worthOf 4 = .ok (.iload_n 1, 1) := by decide +kernel
theorem dX1_worthOf_5 : decode cX1_worthOf 5 = .ok (.bipush 40, 2) := by decide +kernel
theorem dX1_worthOf_7 : decode cX1_worthOf 7 = .ok (.if_icmp .ge 18, 3) := by decide +kernel
theorem dX1_worthOf_10 : decode cX1_worthOf 10 = .ok (.aload_n 0, 1) := by decide +kernel
theorem dX1_worthOf_11 : decode cX1_worthOf 11 = .ok (.getfield 11, 3) := by decide +kernel
theorem dX1_worthOf_14 : decode cX1_worthOf 14 = .ok (.iconst 2, 1) := by decide +kernel
theorem dX1_worthOf_15 : decode cX1_worthOf 15 = .ok (.iconst 4, 1) := by decide +kernel
theorem dX1_worthOf_16 : decode cX1_worthOf 16 = .ok (.iload_n 1, 1) := by decide +kernel
theorem dX1_worthOf_17 : decode cX1_worthOf 17 = .ok (.imul, 1) := by decide +kernel
theorem dX1_worthOf_18 : decode cX1_worthOf 18 = .ok (.iadd, 1) := by decide +kernel
theorem dX1_worthOf_19 : decode cX1_worthOf 19 = .ok (.iconst 3, 1) := by decide +kernel
theorem dX1_worthOf_20 : decode cX1_worthOf 20 = .ok (.iadd, 1) := by decide +kernel
theorem dX1_worthOf_21 : decode cX1_worthOf 21 = .ok (.iaload, 1) := by decide +kernel
theorem dX1_worthOf_22 : decode cX1_worthOf 22 = .ok (.goto 4, 3) := by decide +kernel
theorem dX1_worthOf_25 : decode cX1_worthOf 25 = .ok (.iconst 0, 1) := by decide +kernel
theorem dX1_worthOf_26 : decode cX1_worthOf 26 = .ok (.ireturn, 1) := by decide +kernel
theorem dX1_setWorth_0 : decode cX1_setWorth 0 = .ok (.iload_n 1, 1) := by decide +kernel
theorem dX1_setWorth_1 : decode cX1_setWorth 1 = .ok (.ifCond .lt 22, 3) := by decide +kernel
theorem dX1_setWorth_4 : decode cX1_setWorth 4 = .ok (.iload_n 1, 1) := by decide +kernel
theorem dX1_setWorth_5 : decode cX1_setWorth 5 = .ok (.bipush 40, 2) := by decide +kernel
theorem dX1_setWorth_7 : decode cX1_setWorth 7 = .ok (.if_icmp .ge 16, 3) := by decide +kernel
theorem dX1_setWorth_10 : decode cX1_setWorth 10 = .ok (.aload_n 0, 1) := by decide +kernel
theorem dX1_setWorth_11 : decode cX1_setWorth 11 = .ok (.getfield 11, 3) := by decide +kernel
theorem dX1_setWorth_14 : decode cX1_setWorth 14 = .ok (.iconst 2, 1) := by decide +kernel
theorem dX1_setWorth_15 : decode cX1_setWorth 15 = .ok (.iconst 4, 1) := by decide +kernel
theorem dX1_setWorth_16 : decode cX1_setWorth 16 = .ok (.iload_n 1, 1) := by decide +kernel
theorem dX1_setWorth_17 : decode cX1_setWorth 17 = .ok (.imul, 1) := by decide +kernel
theorem dX1_setWorth_18 : decode cX1_setWorth 18 = .ok (.iadd, 1) := by decide +kernel
theorem dX1_setWorth_19 : decode cX1_setWorth 19 = .ok (.iconst 3, 1) := by decide +kernel
theorem dX1_setWorth_20 : decode cX1_setWorth 20 = .ok (.iadd, 1) := by decide +kernel
theorem dX1_setWorth_21 : decode cX1_setWorth 21 = .ok (.iload_n 2, 1) := by decide +kernel
theorem dX1_setWorth_22 : decode cX1_setWorth 22 = .ok (.iastore, 1) := by decide +kernel
theorem dX1_setWorth_23 : decode cX1_setWorth 23 = .ok (.return_, 1) := by decide +kernel
theorem dX1_copyTo_0 : decode cX1_copyTo 0 = .ok (.aload_n 1, 1) := by decide +kernel
theorem dX1_copyTo_1 : decode cX1_copyTo 1 = .ok (.ifnull 24, 3) := by decide +kernel
theorem dX1_copyTo_4 : decode cX1_copyTo 4 = .ok (.aload_n 1, 1) := by decide +kernel
theorem dX1_copyTo_5 : decode cX1_copyTo 5 = .ok (.arraylength, 1) := by decide +kernel
theorem dX1_copyTo_6 : decode cX1_copyTo 6 = .ok (.sipush 162, 3) := by decide +kernel
theorem dX1_copyTo_9 : decode cX1_copyTo 9 = .ok (.if_icmp .lt 16, 3) := by decide +kernel
theorem dX1_copyTo_12 : decode cX1_copyTo 12 = .ok (.aload_n 0, 1) := by decide +kernel
theorem dX1_copyTo_13 : decode cX1_copyTo 13 = .ok (.getfield 11, 3) := by decide +kernel
theorem dX1_copyTo_16 : decode cX1_copyTo 16 = .ok (.iconst 0, 1) := by decide +kernel
theorem dX1_copyTo_17 : decode cX1_copyTo 17 = .ok (.aload_n 1, 1) := by decide +kernel
theorem dX1_copyTo_18 : decode cX1_copyTo 18 = .ok (.iconst 0, 1) := by decide +kernel
theorem dX1_copyTo_19 : decode cX1_copyTo 19 = .ok (.sipush 162, 3) := by decide +kernel
theorem dX1_copyTo_22 : decode cX1_copyTo 22 = .ok (.invokestatic 15, 3) := by decide +kernel
theorem dX1_copyTo_25 : decode cX1_copyTo 25 = .ok (.return_, 1) := by decide +kernel
theorem dX1_copyFrom_0 : decode cX1_copyFrom 0 = .ok (.aload_n 1, 1) := by decide +kernel
theorem dX1_copyFrom_1 : decode cX1_copyFrom 1 = .ok (.ifnull 24, 3) := by decide +kernel
theorem dX1_copyFrom_4 : decode cX1_copyFrom 4 = .ok (.aload_n 1, 1) := by decide +kernel
theorem dX1_copyFrom_5 : decode cX1_copyFrom 5 = .ok (.arraylength, 1) := by decide +kernel
theorem dX1_copyFrom_6 : decode cX1_copyFrom 6 = .ok (.sipush 162, 3) := by decide +kernel
theorem dX1_copyFrom_9 : decode cX1_copyFrom 9 = .ok (.if_icmp .lt 16, 3) := by decide +kernel
theorem dX1_copyFrom_12 : decode cX1_copyFrom 12 = .ok (.aload_n 1, 1) := by decide +kernel
theorem dX1_copyFrom_13 : decode cX1_copyFrom 13 = .ok (.iconst 0, 1) := by decide +kernel
theorem dX1_copyFrom_14 : decode cX1_copyFrom 14 = .ok (.aload_n 0, 1) := by decide +kernel
theorem dX1_copyFrom_15 : decode cX1_copyFrom 15 = .ok (.getfield 11, 3) := by decide +kernel
theorem dX1_copyFrom_18 : decode cX1_copyFrom 18 = .ok (.iconst 0, 1) := by decide +kernel
theorem dX1_copyFrom_19 : decode cX1_copyFrom 19 = .ok (.sipush 162, 3) := by decide +kernel
theorem dX1_copyFrom_22 : decode cX1_copyFrom 22 = .ok (.invokestatic 15, 3) := by decide +kernel
theorem dX1_copyFrom_25 : decode cX1_copyFrom 25 = .ok (.return_, 1) := by decide +kernel
set_option maxRecDepth 20000 in
theorem ggX1_insert_X1_size : GoodIn wsX1_insert wsX1_size := goodIn_r _ [10, 1, 19] (by decide +kernel) (by decide +kernel)
set_option maxRecDepth 20000 in
theorem gX1_insert_X1_size : GoodIn wsX1_insert (wsV RX1 21 RX1 yX1_size wsX1_size) := goodIn_app (goodIn_of _ (by decide +kernel)) ggX1_insert_X1_size
set_option maxRecDepth 20000 in
theorem ggX1_insert_X1_numberOf : GoodIn wsX1_insert wsX1_numberOf := goodIn_r _ [14, 1, 19] (by decide +kernel) (by decide +kernel)
set_option maxRecDepth 20000 in
theorem gX1_insert_X1_numberOf : GoodIn wsX1_insert (wsV RX1 25 RX1 yX1_numberOf wsX1_numberOf) := goodIn_app (goodIn_of _ (by decide +kernel)) ggX1_insert_X1_numberOf
set_option maxRecDepth 20000 in
theorem ggX1_insert_X1_birthOf : GoodIn wsX1_insert wsX1_birthOf := goodIn_r _ [18, 1, 19] (by decide +kernel) (by decide +kernel)
set_option maxRecDepth 20000 in
theorem gX1_insert_X1_birthOf : GoodIn wsX1_insert (wsV RX1 29 RX1 yX1_birthOf wsX1_birthOf) := goodIn_app (goodIn_of _ (by decide +kernel)) ggX1_insert_X1_birthOf
theorem dX1_insert_0 : decode cX1_insert 0 = .ok (.aload_n 0, 1) := by decide +kernel
theorem dX1_insert_1 : decode cX1_insert 1 = .ok (.invokevirtual 21, 3) := by decide +kernel
theorem dX1_insert_4 : decode cX1_insert 4 = .ok (.istore 5, 2) := by decide +kernel
theorem dX1_insert_6 : decode cX1_insert 6 = .ok (.iload 5, 2) := by decide +kernel
theorem dX1_insert_8 : decode cX1_insert 8 = .ok (.ifCond .lt 10, 3) := by decide +kernel
theorem dX1_insert_11 : decode cX1_insert 11 = .ok (.iload 5, 2) := by decide +kernel
theorem dX1_insert_13 : decode cX1_insert 13 = .ok (.bipush 40, 2) := by decide +kernel
theorem dX1_insert_15 : decode cX1_insert 15 = .ok (.if_icmp .lt 4, 3) := by decide +kernel
theorem dX1_insert_18 : decode cX1_insert 18 = .ok (.return_, 1) := by decide +kernel
theorem dX1_insert_19 : decode cX1_insert 19 = .ok (.iconst 0, 1) := by decide +kernel
theorem dX1_insert_20 : decode cX1_insert 20 = .ok (.istore 6, 2) := by decide +kernel
theorem dX1_insert_22 : decode cX1_insert 22 = .ok (.iconst 0, 1) := by decide +kernel
theorem dX1_insert_23 : decode cX1_insert 23 = .ok (.istore 7, 2) := by decide +kernel
theorem dX1_insert_25 : decode cX1_insert 25 = .ok (.iload 7, 2) := by decide +kernel
theorem dX1_insert_27 : decode cX1_insert 27 = .ok (.iload 5, 2) := by decide +kernel
theorem dX1_insert_29 : decode cX1_insert 29 = .ok (.if_icmp .ge 45, 3) := by decide +kernel
theorem dX1_insert_32 : decode cX1_insert 32 = .ok (.aload_n 0, 1) := by decide +kernel
theorem dX1_insert_33 : decode cX1_insert 33 = .ok (.iload 7, 2) := by decide +kernel
theorem dX1_insert_35 : decode cX1_insert 35 = .ok (.invokevirtual 25, 3) := by decide +kernel
theorem dX1_insert_38 : decode cX1_insert 38 = .ok (.iload_n 1, 1) := by decide +kernel
theorem dX1_insert_39 : decode cX1_insert 39 = .ok (.if_icmp .lt 23, 3) := by decide +kernel
theorem dX1_insert_42 : decode cX1_insert 42 = .ok (.aload_n 0, 1) := by decide +kernel
theorem dX1_insert_43 : decode cX1_insert 43 = .ok (.iload 7, 2) := by decide +kernel
theorem dX1_insert_45 : decode cX1_insert 45 = .ok (.invokevirtual 25, 3) := by decide +kernel
theorem dX1_insert_48 : decode cX1_insert 48 = .ok (.iload_n 1, 1) := by decide +kernel
theorem dX1_insert_49 : decode cX1_insert 49 = .ok (.if_icmp .ne 19, 3) := by decide +kernel
theorem dX1_insert_52 : decode cX1_insert 52 = .ok (.aload_n 0, 1) := by decide +kernel
theorem dX1_insert_53 : decode cX1_insert 53 = .ok (.iload 7, 2) := by decide +kernel
theorem dX1_insert_55 : decode cX1_insert 55 = .ok (.invokevirtual 29, 3) := by decide +kernel
theorem dX1_insert_58 : decode cX1_insert 58 = .ok (.iload_n 2, 1) := by decide +kernel
theorem dX1_insert_59 : decode cX1_insert 59 = .ok (.if_icmp .ge 9, 3) := by decide +kernel
theorem dX1_insert_62 : decode cX1_insert 62 = .ok (.iload 7, 2) := by decide +kernel
theorem dX1_insert_64 : decode cX1_insert 64 = .ok (.iconst 1, 1) := by decide +kernel
theorem dX1_insert_65 : decode cX1_insert 65 = .ok (.iadd, 1) := by decide +kernel
theorem dX1_insert_66 : decode cX1_insert 66 = .ok (.istore 6, 2) := by decide +kernel
theorem dX1_insert_68 : decode cX1_insert 68 = .ok (.iinc 7 1, 3) := by decide +kernel
theorem dX1_insert_71 : decode cX1_insert 71 = .ok (.goto (-46), 3) := by decide +kernel
theorem dX1_insert_74 : decode cX1_insert 74 = .ok (.iconst 2, 1) := by decide +kernel
theorem dX1_insert_75 : decode cX1_insert 75 = .ok (.iconst 4, 1) := by decide +kernel
theorem dX1_insert_76 : decode cX1_insert 76 = .ok (.iload 6, 2) := by decide +kernel
theorem dX1_insert_78 : decode cX1_insert 78 = .ok (.imul, 1) := by decide +kernel
theorem dX1_insert_79 : decode cX1_insert 79 = .ok (.iadd, 1) := by decide +kernel
theorem dX1_insert_80 : decode cX1_insert 80 = .ok (.istore 7, 2) := by decide +kernel
theorem dX1_insert_82 : decode cX1_insert 82 = .ok (.aload_n 0, 1) := by decide +kernel
theorem dX1_insert_83 : decode cX1_insert 83 = .ok (.getfield 11, 3) := by decide +kernel
theorem dX1_insert_86 : decode cX1_insert 86 = .ok (.iload 7, 2) := by decide +kernel
theorem dX1_insert_88 : decode cX1_insert 88 = .ok (.aload_n 0, 1) := by decide +kernel
theorem dX1_insert_89 : decode cX1_insert 89 = .ok (.getfield 11, 3) := by decide +kernel
theorem dX1_insert_92 : decode cX1_insert 92 = .ok (.iload 7, 2) := by decide +kernel
theorem dX1_insert_94 : decode cX1_insert 94 = .ok (.iconst 4, 1) := by decide +kernel
theorem dX1_insert_95 : decode cX1_insert 95 = .ok (.iadd, 1) := by decide +kernel
theorem dX1_insert_96 : decode cX1_insert 96 = .ok (.iconst 4, 1) := by decide +kernel
theorem dX1_insert_97 : decode cX1_insert 97 = .ok (.iload 5, 2) := by decide +kernel
theorem dX1_insert_99 : decode cX1_insert 99 = .ok (.iload 6, 2) := by decide +kernel
theorem dX1_insert_101 : decode cX1_insert 101 = .ok (.isub, 1) := by decide +kernel
theorem dX1_insert_102 : decode cX1_insert 102 = .ok (.imul, 1) := by decide +kernel
theorem dX1_insert_103 : decode cX1_insert 103 = .ok (.invokestatic 15, 3) := by decide +kernel
theorem dX1_insert_106 : decode cX1_insert 106 = .ok (.aload_n 0, 1) := by decide +kernel
theorem dX1_insert_107 : decode cX1_insert 107 = .ok (.getfield 11, 3) := by decide +kernel
theorem dX1_insert_110 : decode cX1_insert 110 = .ok (.iconst 1, 1) := by decide +kernel
theorem dX1_insert_111 : decode cX1_insert 111 = .ok (.iload 5, 2) := by decide +kernel
theorem dX1_insert_113 : decode cX1_insert 113 = .ok (.iconst 1, 1) := by decide +kernel
theorem dX1_insert_114 : decode cX1_insert 114 = .ok (.iadd, 1) := by decide +kernel
theorem dX1_insert_115 : decode cX1_insert 115 = .ok (.iastore, 1) := by decide +kernel
theorem dX1_insert_116 : decode cX1_insert 116 = .ok (.aload_n 0, 1) := by decide +kernel
theorem dX1_insert_117 : decode cX1_insert 117 = .ok (.getfield 11, 3) := by decide +kernel
theorem dX1_insert_120 : decode cX1_insert 120 = .ok (.iload 7, 2) := by decide +kernel
theorem dX1_insert_122 : decode cX1_insert 122 = .ok (.iload_n 1, 1) := by decide +kernel
theorem dX1_insert_123 : decode cX1_insert 123 = .ok (.iastore, 1) := by decide +kernel
theorem dX1_insert_124 : decode cX1_insert 124 = .ok (.aload_n 0, 1) := by decide +kernel
theorem dX1_insert_125 : decode cX1_insert 125 = .ok (.getfield 11, 3) := by decide +kernel
theorem dX1_insert_128 : decode cX1_insert 128 = .ok (.iload 7, 2) := by decide +kernel
theorem dX1_insert_130 : decode cX1_insert 130 = .ok (.iconst 1, 1) := by decide +kernel
theorem dX1_insert_131 : decode cX1_insert 131 = .ok (.iadd, 1) := by decide +kernel
theorem dX1_insert_132 : decode cX1_insert 132 = .ok (.iload_n 2, 1) := by decide +kernel
theorem dX1_insert_133 : decode cX1_insert 133 = .ok (.iastore, 1) := by decide +kernel
theorem dX1_insert_134 : decode cX1_insert 134 = .ok (.aload_n 0, 1) := by decide +kernel
theorem dX1_insert_135 : decode cX1_insert 135 = .ok (.getfield 11, 3) := by decide +kernel
theorem dX1_insert_138 : decode cX1_insert 138 = .ok (.iload 7, 2) := by decide +kernel
theorem dX1_insert_140 : decode cX1_insert 140 = .ok (.iconst 2, 1) := by decide +kernel
theorem dX1_insert_141 : decode cX1_insert 141 = .ok (.iadd, 1) := by decide +kernel
theorem dX1_insert_142 : decode cX1_insert 142 = .ok (.iload_n 3, 1) := by decide +kernel
theorem dX1_insert_143 : decode cX1_insert 143 = .ok (.iastore, 1) := by decide +kernel
theorem dX1_insert_144 : decode cX1_insert 144 = .ok (.aload_n 0, 1) := by decide +kernel
theorem dX1_insert_145 : decode cX1_insert 145 = .ok (.getfield 11, 3) := by decide +kernel
theorem dX1_insert_148 : decode cX1_insert 148 = .ok (.iload 7, 2) := by decide +kernel
theorem dX1_insert_150 : decode cX1_insert 150 = .ok (.iconst 3, 1) := by decide +kernel
theorem dX1_insert_151 : decode cX1_insert 151 = .ok (.iadd, 1) := by decide +kernel
theorem dX1_insert_152 : decode cX1_insert 152 = .ok (.iload 4, 2) := by decide +kernel
theorem dX1_insert_154 : decode cX1_insert 154 = .ok (.iastore, 1) := by decide +kernel
theorem dX1_insert_155 : decode cX1_insert 155 = .ok (.return_, 1) := by decide +kernel
set_option maxRecDepth 20000 in
theorem ggX1_remove_X1_size : GoodIn wsX1_remove wsX1_size := goodIn_r _ [10, 1, 11] (by decide +kernel) (by decide +kernel)
set_option maxRecDepth 20000 in
theorem gX1_remove_X1_size : GoodIn wsX1_remove (wsV RX1 21 RX1 yX1_size wsX1_size) := goodIn_app (goodIn_of _ (by decide +kernel)) ggX1_remove_X1_size
theorem dX1_remove_0 : decode cX1_remove 0 = .ok (.aload_n 0, 1) := by decide +kernel
theorem dX1_remove_1 : decode cX1_remove 1 = .ok (.invokevirtual 21, 3) := by decide +kernel
theorem dX1_remove_4 : decode cX1_remove 4 = .ok (.istore_n 2, 1) := by decide +kernel
theorem dX1_remove_5 : decode cX1_remove 5 = .ok (.iload_n 1, 1) := by decide +kernel
theorem dX1_remove_6 : decode cX1_remove 6 = .ok (.ifCond .lt 14, 3) := by decide +kernel
theorem dX1_remove_9 : decode cX1_remove 9 = .ok (.iload_n 1, 1) := by decide +kernel
theorem dX1_remove_10 : decode cX1_remove 10 = .ok (.iload_n 2, 1) := by decide +kernel
theorem dX1_remove_11 : decode cX1_remove 11 = .ok (.if_icmp .ge 9, 3) := by decide +kernel
theorem dX1_remove_14 : decode cX1_remove 14 = .ok (.iload_n 2, 1) := by decide +kernel
theorem dX1_remove_15 : decode cX1_remove 15 = .ok (.bipush 40, 2) := by decide +kernel
theorem dX1_remove_17 : decode cX1_remove 17 = .ok (.if_icmp .le 4, 3) := by decide +kernel
theorem dX1_remove_20 : decode cX1_remove 20 = .ok (.return_, 1) := by decide +kernel
theorem dX1_remove_21 : decode cX1_remove 21 = .ok (.iconst 2, 1) := by decide +kernel
theorem dX1_remove_22 : decode cX1_remove 22 = .ok (.iconst 4, 1) := by decide +kernel
theorem dX1_remove_23 : decode cX1_remove 23 = .ok (.iload_n 1, 1) := by decide +kernel
theorem dX1_remove_24 : decode cX1_remove 24 = .ok (.imul, 1) := by decide +kernel
theorem dX1_remove_25 : decode cX1_remove 25 = .ok (.iadd, 1) := by decide +kernel
theorem dX1_remove_26 : decode cX1_remove 26 = .ok (.istore_n 3, 1) := by decide +kernel
theorem dX1_remove_27 : decode cX1_remove 27 = .ok (.aload_n 0, 1) := by decide +kernel
theorem dX1_remove_28 : decode cX1_remove 28 = .ok (.getfield 11, 3) := by decide +kernel
theorem dX1_remove_31 : decode cX1_remove 31 = .ok (.iload_n 3, 1) := by decide +kernel
theorem dX1_remove_32 : decode cX1_remove 32 = .ok (.iconst 4, 1) := by decide +kernel
theorem dX1_remove_33 : decode cX1_remove 33 = .ok (.iadd, 1) := by decide +kernel
theorem dX1_remove_34 : decode cX1_remove 34 = .ok (.aload_n 0, 1) := by decide +kernel
theorem dX1_remove_35 : decode cX1_remove 35 = .ok (.getfield 11, 3) := by decide +kernel
theorem dX1_remove_38 : decode cX1_remove 38 = .ok (.iload_n 3, 1) := by decide +kernel
theorem dX1_remove_39 : decode cX1_remove 39 = .ok (.iconst 4, 1) := by decide +kernel
theorem dX1_remove_40 : decode cX1_remove 40 = .ok (.iload_n 2, 1) := by decide +kernel
theorem dX1_remove_41 : decode cX1_remove 41 = .ok (.iload_n 1, 1) := by decide +kernel
theorem dX1_remove_42 : decode cX1_remove 42 = .ok (.isub, 1) := by decide +kernel
theorem dX1_remove_43 : decode cX1_remove 43 = .ok (.iconst 1, 1) := by decide +kernel
theorem dX1_remove_44 : decode cX1_remove 44 = .ok (.isub, 1) := by decide +kernel
theorem dX1_remove_45 : decode cX1_remove 45 = .ok (.imul, 1) := by decide +kernel
theorem dX1_remove_46 : decode cX1_remove 46 = .ok (.invokestatic 15, 3) := by decide +kernel
theorem dX1_remove_49 : decode cX1_remove 49 = .ok (.aload_n 0, 1) := by decide +kernel
theorem dX1_remove_50 : decode cX1_remove 50 = .ok (.getfield 11, 3) := by decide +kernel
theorem dX1_remove_53 : decode cX1_remove 53 = .ok (.iconst 1, 1) := by decide +kernel
theorem dX1_remove_54 : decode cX1_remove 54 = .ok (.iload_n 2, 1) := by decide +kernel
theorem dX1_remove_55 : decode cX1_remove 55 = .ok (.iconst 1, 1) := by decide +kernel
theorem dX1_remove_56 : decode cX1_remove 56 = .ok (.isub, 1) := by decide +kernel
theorem dX1_remove_57 : decode cX1_remove 57 = .ok (.iastore, 1) := by decide +kernel
theorem dX1_remove_58 : decode cX1_remove 58 = .ok (.return_, 1) := by decide +kernel
set_option maxRecDepth 20000 in
theorem ggX1_isAlive_X1_birthOf : GoodIn wsX1_isAlive wsX1_birthOf := goodIn_r _ [5, 6, 11] (by decide +kernel) (by decide +kernel)
set_option maxRecDepth 20000 in
theorem gX1_isAlive_X1_birthOf : GoodIn wsX1_isAlive (wsV RX1 29 RX1 yX1_birthOf wsX1_birthOf) := goodIn_app (goodIn_of _ (by decide +kernel)) ggX1_isAlive_X1_birthOf
set_option maxRecDepth 20000 in
theorem ggX1_isAlive_X1_deathOf : GoodIn wsX1_isAlive wsX1_deathOf := goodIn_r _ [10, 6, 11] (by decide +kernel) (by decide +kernel)
set_option maxRecDepth 20000 in
theorem gX1_isAlive_X1_deathOf : GoodIn wsX1_isAlive (wsV RX1 32 RX1 yX1_deathOf wsX1_deathOf) := goodIn_app (goodIn_of _ (by decide +kernel)) ggX1_isAlive_X1_deathOf
theorem dX1_isAlive_0 : decode cX1_isAlive 0 = .ok (.aload_n 0, 1) := by decide +kernel
theorem dX1_isAlive_1 : decode cX1_isAlive 1 = .ok (.iload_n 1, 1) := by decide +kernel
theorem dX1_isAlive_2 : decode cX1_isAlive 2 = .ok (.invokevirtual 29, 3) := by decide +kernel
theorem dX1_isAlive_5 : decode cX1_isAlive 5 = .ok (.iload_n 2, 1) := by decide +kernel
theorem dX1_isAlive_6 : decode cX1_isAlive 6 = .ok (.if_icmp .gt 16, 3) := by decide +kernel
theorem dX1_isAlive_9 : decode cX1_isAlive 9 = .ok (.iload_n 2, 1) := by decide +kernel
theorem dX1_isAlive_10 : decode cX1_isAlive 10 = .ok (.aload_n 0, 1) := by decide +kernel
theorem dX1_isAlive_11 : decode cX1_isAlive 11 = .ok (.iload_n 1, 1) := by decide +kernel
theorem dX1_isAlive_12 : decode cX1_isAlive 12 = .ok (.invokevirtual 32, 3) := by decide +kernel
theorem dX1_isAlive_15 : decode cX1_isAlive 15 = .ok (.if_icmp .ge 7, 3) := by decide +kernel
theorem dX1_isAlive_18 : decode cX1_isAlive 18 = .ok (.iconst 1, 1) := by decide +kernel
theorem dX1_isAlive_19 : decode cX1_isAlive 19 = .ok (.goto 4, 3) := by decide +kernel
theorem dX1_isAlive_22 : decode cX1_isAlive 22 = .ok (.iconst 0, 1) := by decide +kernel
theorem dX1_isAlive_23 : decode cX1_isAlive 23 = .ok (.ireturn, 1) := by decide +kernel
set_option maxRecDepth 20000 in
theorem ggX1_isCoveredBy_X1_birthOf : GoodIn wsX1_isCoveredBy wsX1_birthOf := goodIn_r _ [5, 6, 14] (by decide +kernel) (by decide +kernel)
set_option maxRecDepth 20000 in
theorem gX1_isCoveredBy_X1_birthOf : GoodIn wsX1_isCoveredBy (wsV RX1 29 RX1 yX1_birthOf wsX1_birthOf) := goodIn_app (goodIn_of _ (by decide +kernel)) ggX1_isCoveredBy_X1_birthOf
set_option maxRecDepth 20000 in
theorem ggX1_isCoveredBy_X1_deathOf : GoodIn wsX1_isCoveredBy wsX1_deathOf := goodIn_r _ [10, 6, 14] (by decide +kernel) (by decide +kernel)
set_option maxRecDepth 20000 in
theorem gX1_isCoveredBy_X1_deathOf : GoodIn wsX1_isCoveredBy (wsV RX1 32 RX1 yX1_deathOf wsX1_deathOf) := goodIn_app (goodIn_of _ (by decide +kernel)) ggX1_isCoveredBy_X1_deathOf
set_option maxRecDepth 20000 in
theorem ggX1_isCoveredBy_X7_isWithin : GoodIn wsX1_isCoveredBy wsX7_isWithin := goodIn_r _ [13] (by decide +kernel) (by decide +kernel)
set_option maxRecDepth 20000 in
theorem gX1_isCoveredBy_X7_isWithin_n35 : GoodIn wsX1_isCoveredBy (wsX7_isWithin) := ggX1_isCoveredBy_X7_isWithin
theorem dX1_isCoveredBy_0 : decode cX1_isCoveredBy 0 = .ok (.aload_n 0, 1) := by decide +kernel
theorem dX1_isCoveredBy_1 : decode cX1_isCoveredBy 1 = .ok (.iload_n 1, 1) := by decide +kernel
theorem dX1_isCoveredBy_2 : decode cX1_isCoveredBy 2 = .ok (.invokevirtual 29, 3) := by decide +kernel
theorem dX1_isCoveredBy_5 : decode cX1_isCoveredBy 5 = .ok (.istore_n 3, 1) := by decide +kernel
theorem dX1_isCoveredBy_6 : decode cX1_isCoveredBy 6 = .ok (.aload_n 0, 1) := by decide +kernel
theorem dX1_isCoveredBy_7 : decode cX1_isCoveredBy 7 = .ok (.iload_n 1, 1) := by decide +kernel
theorem dX1_isCoveredBy_8 : decode cX1_isCoveredBy 8 = .ok (.invokevirtual 32, 3) := by decide +kernel
theorem dX1_isCoveredBy_11 : decode cX1_isCoveredBy 11 = .ok (.istore 4, 2) := by decide +kernel
theorem dX1_isCoveredBy_13 : decode cX1_isCoveredBy 13 = .ok (.iload_n 2, 1) := by decide +kernel
theorem dX1_isCoveredBy_14 : decode cX1_isCoveredBy 14 = .ok (.iload_n 3, 1) := by decide +kernel
theorem dX1_isCoveredBy_15 : decode cX1_isCoveredBy 15 = .ok (.iload 4, 2) := by decide +kernel
theorem dX1_isCoveredBy_17 : decode cX1_isCoveredBy 17 = .ok (.invokestatic 35, 3) := by decide +kernel
theorem dX1_isCoveredBy_20 : decode cX1_isCoveredBy 20 = .ok (.ifCond .eq 24, 3) := by decide +kernel
theorem dX1_isCoveredBy_23 : decode cX1_isCoveredBy 23 = .ok (.iload_n 2, 1) := by decide +kernel
theorem dX1_isCoveredBy_24 : decode cX1_isCoveredBy 24 = .ok (.iconst 1, 1) := by decide +kernel
theorem dX1_isCoveredBy_25 : decode cX1_isCoveredBy 25 = .ok (.if_icmp .eq 15, 3) := by decide +kernel
theorem dX1_isCoveredBy_28 : decode cX1_isCoveredBy 28 = .ok (.iload_n 2, 1) := by decide +kernel
theorem dX1_isCoveredBy_29 : decode cX1_isCoveredBy 29 = .ok (.iconst 2, 1) := by decide +kernel
theorem dX1_isCoveredBy_30 : decode cX1_isCoveredBy 30 = .ok (.idiv, 1) := by decide +kernel
theorem dX1_isCoveredBy_31 : decode cX1_isCoveredBy 31 = .ok (.iload_n 3, 1) := by decide +kernel
theorem dX1_isCoveredBy_32 : decode cX1_isCoveredBy 32 = .ok (.iload 4, 2) := by decide +kernel
theorem dX1_isCoveredBy_34 : decode cX1_isCoveredBy 34 = .ok (.invokestatic 35, 3) := by decide +kernel
theorem dX1_isCoveredBy_37 : decode cX1_isCoveredBy 37 = .ok (.ifCond .ne 7, 3) := by decide +kernel
theorem dX1_isCoveredBy_40 : decode cX1_isCoveredBy 40 = .ok (.iconst 1, 1) := by decide +kernel
theorem dX1_isCoveredBy_41 : decode cX1_isCoveredBy 41 = .ok (.goto 4, 3) := by decide +kernel
theorem dX1_isCoveredBy_44 : decode cX1_isCoveredBy 44 = .ok (.iconst 0, 1) := by decide +kernel
theorem dX1_isCoveredBy_45 : decode cX1_isCoveredBy 45 = .ok (.ireturn, 1) := by decide +kernel
set_option maxRecDepth 20000 in
theorem ggX1_find_X1_size : GoodIn wsX1_find wsX1_size := goodIn_r _ [5, 6, 23] (by decide +kernel) (by decide +kernel)
set_option maxRecDepth 20000 in
theorem gX1_find_X1_size : GoodIn wsX1_find (wsV RX1 21 RX1 yX1_size wsX1_size) := goodIn_app (goodIn_of _ (by decide +kernel)) ggX1_find_X1_size
set_option maxRecDepth 20000 in
theorem ggX1_find_X1_numberOf : GoodIn wsX1_find wsX1_numberOf := goodIn_r _ [10, 6, 23] (by decide +kernel) (by decide +kernel)
set_option maxRecDepth 20000 in
theorem gX1_find_X1_numberOf : GoodIn wsX1_find (wsV RX1 25 RX1 yX1_numberOf wsX1_numberOf) := goodIn_app (goodIn_of _ (by decide +kernel)) ggX1_find_X1_numberOf
set_option maxRecDepth 20000 in
theorem ggX1_find_X1_isAlive : GoodIn wsX1_find wsX1_isAlive := goodIn_r _ [14, 15, 16, 17, 4, 18, 6, 19, 20, 21, 22, 23] (by decide +kernel) (by decide +kernel)
set_option maxRecDepth 20000 in
theorem gX1_find_X1_isAlive : GoodIn wsX1_find (wsV RX1 39 RX1 yX1_isAlive wsX1_isAlive) := goodIn_app (goodIn_of _ (by decide +kernel)) ggX1_find_X1_isAlive
theorem dX1_find_0 : decode cX1_find 0 = .ok (.iconst 0, 1) := by decide +kernel
theorem dX1_find_1 : decode cX1_find 1 = .ok (.istore_n 3, 1) := by decide +kernel
theorem dX1_find_2 : decode cX1_find 2 = .ok (.iload_n 3, 1) := by decide +kernel
theorem dX1_find_3 : decode cX1_find 3 = .ok (.aload_n 0, 1) := by decide +kernel
theorem dX1_find_4 : decode cX1_find 4 = .ok (.invokevirtual 21, 3) := by decide +kernel
theorem dX1_find_7 : decode cX1_find 7 = .ok (.if_icmp .ge 29, 3) := by decide +kernel
theorem dX1_find_10 : decode cX1_find 10 = .ok (.aload_n 0, 1) := by decide +kernel
theorem dX1_find_11 : decode cX1_find 11 = .ok (.iload_n 3, 1) := by decide +kernel
theorem dX1_find_12 : decode cX1_find 12 = .ok (.invokevirtual 25, 3) := by decide +kernel
theorem dX1_find_15 : decode cX1_find 15 = .ok (.iload_n 1, 1) := by decide +kernel
theorem dX1_find_16 : decode cX1_find 16 = .ok (.if_icmp .ne 14, 3) := by decide +kernel
theorem dX1_find_19 : decode cX1_find 19 = .ok (.aload_n 0, 1) := by decide +kernel
theorem dX1_find_20 : decode cX1_find 20 = .ok (.iload_n 3, 1) := by decide +kernel
theorem dX1_find_21 : decode cX1_find 21 = .ok (.iload_n 2, 1) := by decide +kernel
theorem dX1_find_22 : decode cX1_find 22 = .ok (.invokevirtual 39, 3) := by decide +kernel
theorem dX1_find_25 : decode cX1_find 25 = .ok (.ifCond .eq 5, 3) := by decide +kernel
theorem dX1_find_28 : decode cX1_find 28 = .ok (.iload_n 3, 1) := by decide +kernel
theorem dX1_find_29 : decode cX1_find 29 = .ok (.ireturn, 1) := by decide +kernel
theorem dX1_find_30 : decode cX1_find 30 = .ok (.iinc 3 1, 3) := by decide +kernel
theorem dX1_find_33 : decode cX1_find 33 = .ok (.goto (-31), 3) := by decide +kernel
theorem dX1_find_36 : decode cX1_find 36 = .ok (.iconst (-1), 1) := by decide +kernel
theorem dX1_find_37 : decode cX1_find 37 = .ok (.ireturn, 1) := by decide +kernel
set_option maxRecDepth 20000 in
theorem ggX1_findDeath_X1_size : GoodIn wsX1_findDeath wsX1_size := goodIn_r _ [5, 6, 15] (by decide +kernel) (by decide +kernel)
set_option maxRecDepth 20000 in
theorem gX1_findDeath_X1_size : GoodIn wsX1_findDeath (wsV RX1 21 RX1 yX1_size wsX1_size) := goodIn_app (goodIn_of _ (by decide +kernel)) ggX1_findDeath_X1_size
set_option maxRecDepth 20000 in
theorem ggX1_findDeath_X1_numberOf : GoodIn wsX1_findDeath wsX1_numberOf := goodIn_r _ [10, 6, 15] (by decide +kernel) (by decide +kernel)
set_option maxRecDepth 20000 in
theorem gX1_findDeath_X1_numberOf : GoodIn wsX1_findDeath (wsV RX1 25 RX1 yX1_numberOf wsX1_numberOf) := goodIn_app (goodIn_of _ (by decide +kernel)) ggX1_findDeath_X1_numberOf
set_option maxRecDepth 20000 in
theorem ggX1_findDeath_X1_deathOf : GoodIn wsX1_findDeath wsX1_deathOf := goodIn_r _ [14, 6, 15] (by decide +kernel) (by decide +kernel)
set_option maxRecDepth 20000 in
theorem gX1_findDeath_X1_deathOf : GoodIn wsX1_findDeath (wsV RX1 32 RX1 yX1_deathOf wsX1_deathOf) := goodIn_app (goodIn_of _ (by decide +kernel)) ggX1_findDeath_X1_deathOf
theorem dX1_findDeath_0 : decode cX1_findDeath 0 = .ok (.iconst 0, 1) := by decide +kernel
theorem dX1_findDeath_1 : decode cX1_findDeath 1 = .ok (.istore_n 3, 1) := by decide +kernel
theorem dX1_findDeath_2 : decode cX1_findDeath 2 = .ok (.iload_n 3, 1) := by decide +kernel
theorem dX1_findDeath_3 : decode cX1_findDeath 3 = .ok (.aload_n 0, 1) := by decide +kernel
theorem dX1_findDeath_4 : decode cX1_findDeath 4 = .ok (.invokevirtual 21, 3) := by decide +kernel
theorem dX1_findDeath_7 : decode cX1_findDeath 7 = .ok (.if_icmp .ge 29, 3) := by decide +kernel
theorem dX1_findDeath_10 : decode cX1_findDeath 10 = .ok (.aload_n 0, 1) := by decide +kernel
theorem dX1_findDeath_11 : decode cX1_findDeath 11 = .ok (.iload_n 3, 1) := by decide +kernel
theorem dX1_findDeath_12 : decode cX1_findDeath 12 = .ok (.invokevirtual 25, 3) := by decide +kernel
theorem dX1_findDeath_15 : decode cX1_findDeath 15 = .ok (.iload_n 1, 1) := by decide +kernel
theorem dX1_findDeath_16 : decode cX1_findDeath 16 = .ok (.if_icmp .ne 14, 3) := by decide +kernel
theorem dX1_findDeath_19 : decode cX1_findDeath 19 = .ok (.aload_n 0, 1) := by decide +kernel
theorem dX1_findDeath_20 : decode cX1_findDeath 20 = .ok (.iload_n 3, 1) := by decide +kernel
theorem dX1_findDeath_21 : decode cX1_findDeath 21 = .ok (.invokevirtual 32, 3) := by decide +kernel
theorem dX1_findDeath_24 : decode cX1_findDeath 24 = .ok (.iload_n 2, 1) := by decide +kernel
theorem dX1_findDeath_25 : decode cX1_findDeath 25 = .ok (.if_icmp .ne 5, 3) := by decide +kernel
theorem dX1_findDeath_28 : decode cX1_findDeath 28 = .ok (.iload_n 3, 1) := by decide +kernel
theorem dX1_findDeath_29 : decode cX1_findDeath 29 = .ok (.ireturn, 1) := by decide +kernel
theorem dX1_findDeath_30 : decode cX1_findDeath 30 = .ok (.iinc 3 1, 3) := by decide +kernel
theorem dX1_findDeath_33 : decode cX1_findDeath 33 = .ok (.goto (-31), 3) := by decide +kernel
theorem dX1_findDeath_36 : decode cX1_findDeath 36 = .ok (.iconst (-1), 1) := by decide +kernel
theorem dX1_findDeath_37 : decode cX1_findDeath 37 = .ok (.ireturn, 1) := by decide +kernel
set_option maxRecDepth 20000 in
theorem ggX1_firstAt_X1_size : GoodIn wsX1_firstAt wsX1_size := goodIn_r _ [5, 6, 23] (by decide +kernel) (by decide +kernel)
set_option maxRecDepth 20000 in
theorem gX1_firstAt_X1_size : GoodIn wsX1_firstAt (wsV RX1 21 RX1 yX1_size wsX1_size) := goodIn_app (goodIn_of _ (by decide +kernel)) ggX1_firstAt_X1_size
set_option maxRecDepth 20000 in
theorem ggX1_firstAt_X1_numberOf : GoodIn wsX1_firstAt wsX1_numberOf := goodIn_r _ [10, 6, 23] (by decide +kernel) (by decide +kernel)
set_option maxRecDepth 20000 in
theorem gX1_firstAt_X1_numberOf : GoodIn wsX1_firstAt (wsV RX1 25 RX1 yX1_numberOf wsX1_numberOf) := goodIn_app (goodIn_of _ (by decide +kernel)) ggX1_firstAt_X1_numberOf
set_option maxRecDepth 20000 in
theorem ggX1_firstAt_X1_isAlive : GoodIn wsX1_firstAt wsX1_isAlive := goodIn_r _ [14, 15, 16, 17, 4, 18, 6, 19, 20, 21, 22, 23] (by decide +kernel) (by decide +kernel)
set_option maxRecDepth 20000 in
theorem gX1_firstAt_X1_isAlive : GoodIn wsX1_firstAt (wsV RX1 39 RX1 yX1_isAlive wsX1_isAlive) := goodIn_app (goodIn_of _ (by decide +kernel)) ggX1_firstAt_X1_isAlive
theorem dX1_firstAt_0 : decode cX1_firstAt 0 = .ok (.iconst 0, 1) := by decide +kernel
theorem dX1_firstAt_1 : decode cX1_firstAt 1 = .ok (.istore_n 3, 1) := by decide +kernel
theorem dX1_firstAt_2 : decode cX1_firstAt 2 = .ok (.iload_n 3, 1) := by decide +kernel
theorem dX1_firstAt_3 : decode cX1_firstAt 3 = .ok (.aload_n 0, 1) := by decide +kernel
theorem dX1_firstAt_4 : decode cX1_firstAt 4 = .ok (.invokevirtual 21, 3) := by decide +kernel
theorem dX1_firstAt_7 : decode cX1_firstAt 7 = .ok (.if_icmp .ge 29, 3) := by decide +kernel
theorem dX1_firstAt_10 : decode cX1_firstAt 10 = .ok (.aload_n 0, 1) := by decide +kernel
theorem dX1_firstAt_11 : decode cX1_firstAt 11 = .ok (.iload_n 3, 1) := by decide +kernel
theorem dX1_firstAt_12 : decode cX1_firstAt 12 = .ok (.invokevirtual 25, 3) := by decide +kernel
theorem dX1_firstAt_15 : decode cX1_firstAt 15 = .ok (.iload_n 2, 1) := by decide +kernel
theorem dX1_firstAt_16 : decode cX1_firstAt 16 = .ok (.if_icmp .lt 14, 3) := by decide +kernel
theorem dX1_firstAt_19 : decode cX1_firstAt 19 = .ok (.aload_n 0, 1) := by decide +kernel
theorem dX1_firstAt_20 : decode cX1_firstAt 20 = .ok (.iload_n 3, 1) := by decide +kernel
theorem dX1_firstAt_21 : decode cX1_firstAt 21 = .ok (.iload_n 1, 1) := by decide +kernel
theorem dX1_firstAt_22 : decode cX1_firstAt 22 = .ok (.invokevirtual 39, 3) := by decide +kernel
theorem dX1_firstAt_25 : decode cX1_firstAt 25 = .ok (.ifCond .eq 5, 3) := by decide +kernel
theorem dX1_firstAt_28 : decode cX1_firstAt 28 = .ok (.iload_n 3, 1) := by decide +kernel
theorem dX1_firstAt_29 : decode cX1_firstAt 29 = .ok (.ireturn, 1) := by decide +kernel
theorem dX1_firstAt_30 : decode cX1_firstAt 30 = .ok (.iinc 3 1, 3) := by decide +kernel
theorem dX1_firstAt_33 : decode cX1_firstAt 33 = .ok (.goto (-31), 3) := by decide +kernel
theorem dX1_firstAt_36 : decode cX1_firstAt 36 = .ok (.iconst (-1), 1) := by decide +kernel
theorem dX1_firstAt_37 : decode cX1_firstAt 37 = .ok (.ireturn, 1) := by decide +kernel
set_option maxRecDepth 20000 in
theorem ggX1_lastAt_X1_size : GoodIn wsX1_lastAt wsX1_size := goodIn_r _ [5, 6, 23] (by decide +kernel) (by decide +kernel)
set_option maxRecDepth 20000 in
theorem gX1_lastAt_X1_size : GoodIn wsX1_lastAt (wsV RX1 21 RX1 yX1_size wsX1_size) := goodIn_app (goodIn_of _ (by decide +kernel)) ggX1_lastAt_X1_size
set_option maxRecDepth 20000 in
theorem ggX1_lastAt_X1_numberOf : GoodIn wsX1_lastAt wsX1_numberOf := goodIn_r _ [10, 6, 23] (by decide +kernel) (by decide +kernel)
set_option maxRecDepth 20000 in
theorem gX1_lastAt_X1_numberOf : GoodIn wsX1_lastAt (wsV RX1 25 RX1 yX1_numberOf wsX1_numberOf) := goodIn_app (goodIn_of _ (by decide +kernel)) ggX1_lastAt_X1_numberOf
set_option maxRecDepth 20000 in
theorem ggX1_lastAt_X1_isAlive : GoodIn wsX1_lastAt wsX1_isAlive := goodIn_r _ [14, 15, 16, 17, 4, 18, 6, 19, 20, 21, 22, 23] (by decide +kernel) (by decide +kernel)
set_option maxRecDepth 20000 in
theorem gX1_lastAt_X1_isAlive : GoodIn wsX1_lastAt (wsV RX1 39 RX1 yX1_isAlive wsX1_isAlive) := goodIn_app (goodIn_of _ (by decide +kernel)) ggX1_lastAt_X1_isAlive
theorem dX1_lastAt_0 : decode cX1_lastAt 0 = .ok (.aload_n 0, 1) := by decide +kernel
theorem dX1_lastAt_1 : decode cX1_lastAt 1 = .ok (.invokevirtual 21, 3) := by decide +kernel
theorem dX1_lastAt_4 : decode cX1_lastAt 4 = .ok (.iconst 1, 1) := by decide +kernel
theorem dX1_lastAt_5 : decode cX1_lastAt 5 = .ok (.isub, 1) := by decide +kernel
theorem dX1_lastAt_6 : decode cX1_lastAt 6 = .ok (.istore_n 3, 1) := by decide +kernel
theorem dX1_lastAt_7 : decode cX1_lastAt 7 = .ok (.iload_n 3, 1) := by decide +kernel
theorem dX1_lastAt_8 : decode cX1_lastAt 8 = .ok (.ifCond .lt 29, 3) := by decide +kernel
theorem dX1_lastAt_11 : decode cX1_lastAt 11 = .ok (.aload_n 0, 1) := by decide +kernel
theorem dX1_lastAt_12 : decode cX1_lastAt 12 = .ok (.iload_n 3, 1) := by decide +kernel
theorem dX1_lastAt_13 : decode cX1_lastAt 13 = .ok (.invokevirtual 25, 3) := by decide +kernel
theorem dX1_lastAt_16 : decode cX1_lastAt 16 = .ok (.iload_n 2, 1) := by decide +kernel
theorem dX1_lastAt_17 : decode cX1_lastAt 17 = .ok (.if_icmp .gt 14, 3) := by decide +kernel
theorem dX1_lastAt_20 : decode cX1_lastAt 20 = .ok (.aload_n 0, 1) := by decide +kernel
theorem dX1_lastAt_21 : decode cX1_lastAt 21 = .ok (.iload_n 3, 1) := by decide +kernel
theorem dX1_lastAt_22 : decode cX1_lastAt 22 = .ok (.iload_n 1, 1) := by decide +kernel
theorem dX1_lastAt_23 : decode cX1_lastAt 23 = .ok (.invokevirtual 39, 3) := by decide +kernel
theorem dX1_lastAt_26 : decode cX1_lastAt 26 = .ok (.ifCond .eq 5, 3) := by decide +kernel
theorem dX1_lastAt_29 : decode cX1_lastAt 29 = .ok (.iload_n 3, 1) := by decide +kernel
theorem dX1_lastAt_30 : decode cX1_lastAt 30 = .ok (.ireturn, 1) := by decide +kernel
theorem dX1_lastAt_31 : decode cX1_lastAt 31 = .ok (.iinc 3 (-1), 3) := by decide +kernel
theorem dX1_lastAt_34 : decode cX1_lastAt 34 = .ok (.goto (-27), 3) := by decide +kernel
theorem dX1_lastAt_37 : decode cX1_lastAt 37 = .ok (.iconst (-1), 1) := by decide +kernel
theorem dX1_lastAt_38 : decode cX1_lastAt 38 = .ok (.ireturn, 1) := by decide +kernel
set_option maxRecDepth 20000 in
theorem ggX1_countAt_X1_size : GoodIn wsX1_countAt wsX1_size := goodIn_r _ [5, 6, 19] (by decide +kernel) (by decide +kernel)
set_option maxRecDepth 20000 in
theorem gX1_countAt_X1_size : GoodIn wsX1_countAt (wsV RX1 21 RX1 yX1_size wsX1_size) := goodIn_app (goodIn_of _ (by decide +kernel)) ggX1_countAt_X1_size
set_option maxRecDepth 20000 in
theorem ggX1_countAt_X1_isAlive : GoodIn wsX1_countAt wsX1_isAlive := goodIn_r _ [10, 11, 12, 13, 4, 14, 6, 15, 16, 17, 18, 19] (by decide +kernel) (by decide +kernel)
set_option maxRecDepth 20000 in
theorem gX1_countAt_X1_isAlive : GoodIn wsX1_countAt (wsV RX1 39 RX1 yX1_isAlive wsX1_isAlive) := goodIn_app (goodIn_of _ (by decide +kernel)) ggX1_countAt_X1_isAlive
theorem dX1_countAt_0 : decode cX1_countAt 0 = .ok (.iconst 0, 1) := by decide +kernel
theorem dX1_countAt_1 : decode cX1_countAt 1 = .ok (.istore_n 2, 1) := by decide +kernel
theorem dX1_countAt_2 : decode cX1_countAt 2 = .ok (.iconst 0, 1) := by decide +kernel
theorem dX1_countAt_3 : decode cX1_countAt 3 = .ok (.istore_n 3, 1) := by decide +kernel
theorem dX1_countAt_4 : decode cX1_countAt 4 = .ok (.iload_n 3, 1) := by decide +kernel
theorem dX1_countAt_5 : decode cX1_countAt 5 = .ok (.aload_n 0, 1) := by decide +kernel
theorem dX1_countAt_6 : decode cX1_countAt 6 = .ok (.invokevirtual 21, 3) := by decide +kernel
theorem dX1_countAt_9 : decode cX1_countAt 9 = .ok (.if_icmp .ge 21, 3) := by decide +kernel
theorem dX1_countAt_12 : decode cX1_countAt 12 = .ok (.aload_n 0, 1) := by decide +kernel
theorem dX1_countAt_13 : decode cX1_countAt 13 = .ok (.iload_n 3, 1) := by decide +kernel
theorem dX1_countAt_14 : decode cX1_countAt 14 = .ok (.iload_n 1, 1) := by decide +kernel
theorem dX1_countAt_15 : decode cX1_countAt 15 = .ok (.invokevirtual 39, 3) := by decide +kernel
theorem dX1_countAt_18 : decode cX1_countAt 18 = .ok (.ifCond .eq 6, 3) := by decide +kernel
theorem dX1_countAt_21 : decode cX1_countAt 21 = .ok (.iinc 2 1, 3) := by decide +kernel
theorem dX1_countAt_24 : decode cX1_countAt 24 = .ok (.iinc 3 1, 3) := by decide +kernel
theorem dX1_countAt_27 : decode cX1_countAt 27 = .ok (.goto (-23), 3) := by decide +kernel
theorem dX1_countAt_30 : decode cX1_countAt 30 = .ok (.iload_n 2, 1) := by decide +kernel
theorem dX1_countAt_31 : decode cX1_countAt 31 = .ok (.ireturn, 1) := by decide +kernel
set_option maxRecDepth 20000 in
theorem ggX1_worthsAt_X1_size : GoodIn wsX1_worthsAt wsX1_size := goodIn_r _ [5, 6, 27] (by decide +kernel) (by decide +kernel)
set_option maxRecDepth 20000 in
theorem gX1_worthsAt_X1_size : GoodIn wsX1_worthsAt (wsV RX1 21 RX1 yX1_size wsX1_size) := goodIn_app (goodIn_of _ (by decide +kernel)) ggX1_worthsAt_X1_size
set_option maxRecDepth 20000 in
theorem ggX1_worthsAt_X1_isAlive : GoodIn wsX1_worthsAt wsX1_isAlive := goodIn_r _ [10, 11, 12, 13, 4, 14, 6, 15, 16, 17, 18, 27] (by decide +kernel) (by decide +kernel)
set_option maxRecDepth 20000 in
theorem gX1_worthsAt_X1_isAlive : GoodIn wsX1_worthsAt (wsV RX1 39 RX1 yX1_isAlive wsX1_isAlive) := goodIn_app (goodIn_of _ (by decide +kernel)) ggX1_worthsAt_X1_isAlive
set_option maxRecDepth 20000 in
theorem ggX1_worthsAt_X1_numberOf : GoodIn wsX1_worthsAt wsX1_numberOf := goodIn_r _ [22, 6, 27] (by decide +kernel) (by decide +kernel)
set_option maxRecDepth 20000 in
theorem gX1_worthsAt_X1_numberOf : GoodIn wsX1_worthsAt (wsV RX1 25 RX1 yX1_numberOf wsX1_numberOf) := goodIn_app (goodIn_of _ (by decide +kernel)) ggX1_worthsAt_X1_numberOf
set_option maxRecDepth 20000 in
theorem ggX1_worthsAt_X1_worthOf : GoodIn wsX1_worthsAt wsX1_worthOf := goodIn_r _ [26, 6, 27] (by decide +kernel) (by decide +kernel)
set_option maxRecDepth 20000 in
theorem gX1_worthsAt_X1_worthOf : GoodIn wsX1_worthsAt (wsV RX1 43 RX1 yX1_worthOf wsX1_worthOf) := goodIn_app (goodIn_of _ (by decide +kernel)) ggX1_worthsAt_X1_worthOf
theorem dX1_worthsAt_0 : decode cX1_worthsAt 0 = .ok (.iconst 0, 1) := by decide +kernel
theorem dX1_worthsAt_1 : decode cX1_worthsAt 1 = .ok (.istore 4, 2) := by decide +kernel
theorem dX1_worthsAt_3 : decode cX1_worthsAt 3 = .ok (.iconst 0, 1) := by decide +kernel
theorem dX1_worthsAt_4 : decode cX1_worthsAt 4 = .ok (.istore 5, 2) := by decide +kernel
theorem dX1_worthsAt_6 : decode cX1_worthsAt 6 = .ok (.iload 5, 2) := by decide +kernel
theorem dX1_worthsAt_8 : decode cX1_worthsAt 8 = .ok (.aload_n 0, 1) := by decide +kernel
theorem dX1_worthsAt_9 : decode cX1_worthsAt 9 = .ok (.invokevirtual 21, 3) := by decide +kernel
theorem dX1_worthsAt_12 : decode cX1_worthsAt 12 = .ok (.if_icmp .ge 50, 3) := by decide +kernel
theorem dX1_worthsAt_15 : decode cX1_worthsAt 15 = .ok (.aload_n 0, 1) := by decide +kernel
theorem dX1_worthsAt_16 : decode cX1_worthsAt 16 = .ok (.iload 5, 2) := by decide +kernel
theorem dX1_worthsAt_18 : decode cX1_worthsAt 18 = .ok (.iload_n 1, 1) := by decide +kernel
theorem dX1_worthsAt_19 : decode cX1_worthsAt 19 = .ok (.invokevirtual 39, 3) := by decide +kernel
theorem dX1_worthsAt_22 : decode cX1_worthsAt 22 = .ok (.ifCond .eq 34, 3) := by decide +kernel
theorem dX1_worthsAt_25 : decode cX1_worthsAt 25 = .ok (.aload_n 0, 1) := by decide +kernel
theorem dX1_worthsAt_26 : decode cX1_worthsAt 26 = .ok (.iload 5, 2) := by decide +kernel
theorem dX1_worthsAt_28 : decode cX1_worthsAt 28 = .ok (.invokevirtual 25, 3) := by decide +kernel
theorem dX1_worthsAt_31 : decode cX1_worthsAt 31 = .ok (.iload_n 2, 1) := by decide +kernel
theorem dX1_worthsAt_32 : decode cX1_worthsAt 32 = .ok (.if_icmp .lt 24, 3) := by decide +kernel
theorem dX1_worthsAt_35 : decode cX1_worthsAt 35 = .ok (.aload_n 0, 1) := by decide +kernel
theorem dX1_worthsAt_36 : decode cX1_worthsAt 36 = .ok (.iload 5, 2) := by decide +kernel
theorem dX1_worthsAt_38 : decode cX1_worthsAt 38 = .ok (.invokevirtual 25, 3) := by decide +kernel
theorem dX1_worthsAt_41 : decode cX1_worthsAt 41 = .ok (.iload_n 3, 1) := by decide +kernel
theorem dX1_worthsAt_42 : decode cX1_worthsAt 42 = .ok (.if_icmp .gt 14, 3) := by decide +kernel
theorem dX1_worthsAt_45 : decode cX1_worthsAt 45 = .ok (.iload 4, 2) := by decide +kernel
theorem dX1_worthsAt_47 : decode cX1_worthsAt 47 = .ok (.aload_n 0, 1) := by decide +kernel
theorem dX1_worthsAt_48 : decode cX1_worthsAt 48 = .ok (.iload 5, 2) := by decide +kernel
theorem dX1_worthsAt_50 : decode cX1_worthsAt 50 = .ok (.invokevirtual 43, 3) := by decide +kernel
theorem dX1_worthsAt_53 : decode cX1_worthsAt 53 = .ok (.iadd, 1) := by decide +kernel
theorem dX1_worthsAt_54 : decode cX1_worthsAt 54 = .ok (.istore 4, 2) := by decide +kernel
theorem dX1_worthsAt_56 : decode cX1_worthsAt 56 = .ok (.iinc 5 1, 3) := by decide +kernel
theorem dX1_worthsAt_59 : decode cX1_worthsAt 59 = .ok (.goto (-53), 3) := by decide +kernel
theorem dX1_worthsAt_62 : decode cX1_worthsAt 62 = .ok (.iload 4, 2) := by decide +kernel
theorem dX1_worthsAt_64 : decode cX1_worthsAt 64 = .ok (.ireturn, 1) := by decide +kernel
set_option maxRecDepth 20000 in
theorem ggX1_countNumbers_X1_size : GoodIn wsX1_countNumbers wsX1_size := goodIn_r _ [5, 6, 11] (by decide +kernel) (by decide +kernel)
set_option maxRecDepth 20000 in
theorem gX1_countNumbers_X1_size : GoodIn wsX1_countNumbers (wsV RX1 21 RX1 yX1_size wsX1_size) := goodIn_app (goodIn_of _ (by decide +kernel)) ggX1_countNumbers_X1_size
set_option maxRecDepth 20000 in
theorem ggX1_countNumbers_X1_numberOf : GoodIn wsX1_countNumbers wsX1_numberOf := goodIn_r _ [10, 6, 11] (by decide +kernel) (by decide +kernel)
set_option maxRecDepth 20000 in
theorem gX1_countNumbers_X1_numberOf : GoodIn wsX1_countNumbers (wsV RX1 25 RX1 yX1_numberOf wsX1_numberOf) := goodIn_app (goodIn_of _ (by decide +kernel)) ggX1_countNumbers_X1_numberOf
theorem dX1_countNumbers_0 : decode cX1_countNumbers 0 = .ok (.iconst 0, 1) := by decide +kernel
theorem dX1_countNumbers_1 : decode cX1_countNumbers 1 = .ok (.istore_n 1, 1) := by decide +kernel
theorem dX1_countNumbers_2 : decode cX1_countNumbers 2 = .ok (.iconst 0, 1) := by decide +kernel
theorem dX1_countNumbers_3 : decode cX1_countNumbers 3 = .ok (.istore_n 2, 1) := by decide +kernel
theorem dX1_countNumbers_4 : decode cX1_countNumbers 4 = .ok (.iload_n 2, 1) := by decide +kernel
theorem dX1_countNumbers_5 : decode cX1_countNumbers 5 = .ok (.aload_n 0, 1) := by decide +kernel
theorem dX1_countNumbers_6 : decode cX1_countNumbers 6 = .ok (.invokevirtual 21, 3) := by decide +kernel
theorem dX1_countNumbers_9 : decode cX1_countNumbers 9 = .ok (.if_icmp .ge 31, 3) := by decide +kernel
theorem dX1_countNumbers_12 : decode cX1_countNumbers 12 = .ok (.iload_n 2, 1) := by decide +kernel
theorem dX1_countNumbers_13 : decode cX1_countNumbers 13 = .ok (.ifCond .eq 18, 3) := by decide +kernel
theorem dX1_countNumbers_16 : decode cX1_countNumbers 16 = .ok (.aload_n 0, 1) := by decide +kernel
theorem dX1_countNumbers_17 : decode cX1_countNumbers 17 = .ok (.iload_n 2, 1) := by decide +kernel
theorem dX1_countNumbers_18 : decode cX1_countNumbers 18 = .ok (.invokevirtual 25, 3) := by decide +kernel
theorem dX1_countNumbers_21 : decode cX1_countNumbers 21 = .ok (.aload_n 0, 1) := by decide +kernel
theorem dX1_countNumbers_22 : decode cX1_countNumbers 22 = .ok (.iload_n 2, 1) := by decide +kernel
theorem dX1_countNumbers_23 : decode cX1_countNumbers 23 = .ok (.iconst 1, 1) := by decide +kernel
theorem dX1_countNumbers_24 : decode cX1_countNumbers 24 = .ok (.isub, 1) := by decide +kernel
theorem dX1_countNumbers_25 : decode cX1_countNumbers 25 = .ok (.invokevirtual 25, 3) := by decide +kernel
theorem dX1_countNumbers_28 : decode cX1_countNumbers 28 = .ok (.if_icmp .eq 6, 3) := by decide +kernel
theorem dX1_countNumbers_31 : decode cX1_countNumbers 31 = .ok (.iinc 1 1, 3) := by decide +kernel
theorem dX1_countNumbers_34 : decode cX1_countNumbers 34 = .ok (.iinc 2 1, 3) := by decide +kernel
theorem dX1_countNumbers_37 : decode cX1_countNumbers 37 = .ok (.goto (-33), 3) := by decide +kernel
theorem dX1_countNumbers_40 : decode cX1_countNumbers 40 = .ok (.iload_n 1, 1) := by decide +kernel
theorem dX1_countNumbers_41 : decode cX1_countNumbers 41 = .ok (.ireturn, 1) := by decide +kernel
set_option maxRecDepth 20000 in
theorem ggX1_countPieces_X1_size : GoodIn wsX1_countPieces wsX1_size := goodIn_r _ [5, 6, 18] (by decide +kernel) (by decide +kernel)
set_option maxRecDepth 20000 in
theorem gX1_countPieces_X1_size : GoodIn wsX1_countPieces (wsV RX1 21 RX1 yX1_size wsX1_size) := goodIn_app (goodIn_of _ (by decide +kernel)) ggX1_countPieces_X1_size
set_option maxRecDepth 20000 in
theorem ggX1_countPieces_X1_birthOf : GoodIn wsX1_countPieces wsX1_birthOf := goodIn_r _ [10, 6, 18] (by decide +kernel) (by decide +kernel)
set_option maxRecDepth 20000 in
theorem gX1_countPieces_X1_birthOf : GoodIn wsX1_countPieces (wsV RX1 29 RX1 yX1_birthOf wsX1_birthOf) := goodIn_app (goodIn_of _ (by decide +kernel)) ggX1_countPieces_X1_birthOf
set_option maxRecDepth 20000 in
theorem ggX1_countPieces_X1_deathOf : GoodIn wsX1_countPieces wsX1_deathOf := goodIn_r _ [14, 6, 18] (by decide +kernel) (by decide +kernel)
set_option maxRecDepth 20000 in
theorem gX1_countPieces_X1_deathOf : GoodIn wsX1_countPieces (wsV RX1 32 RX1 yX1_deathOf wsX1_deathOf) := goodIn_app (goodIn_of _ (by decide +kernel)) ggX1_countPieces_X1_deathOf
set_option maxRecDepth 20000 in
theorem ggX1_countPieces_X7_piecesOf : GoodIn wsX1_countPieces wsX7_piecesOf := goodIn_r _ [17] (by decide +kernel) (by decide +kernel)
set_option maxRecDepth 20000 in
theorem gX1_countPieces_X7_piecesOf_n46 : GoodIn wsX1_countPieces (wsX7_piecesOf) := ggX1_countPieces_X7_piecesOf
theorem dX1_countPieces_0 : decode cX1_countPieces 0 = .ok (.iconst 0, 1) := by decide +kernel
theorem dX1_countPieces_1 : decode cX1_countPieces 1 = .ok (.istore_n 1, 1) := by decide +kernel
theorem dX1_countPieces_2 : decode cX1_countPieces 2 = .ok (.iconst 0, 1) := by decide +kernel
theorem dX1_countPieces_3 : decode cX1_countPieces 3 = .ok (.istore_n 2, 1) := by decide +kernel
theorem dX1_countPieces_4 : decode cX1_countPieces 4 = .ok (.iload_n 2, 1) := by decide +kernel
theorem dX1_countPieces_5 : decode cX1_countPieces 5 = .ok (.aload_n 0, 1) := by decide +kernel
theorem dX1_countPieces_6 : decode cX1_countPieces 6 = .ok (.invokevirtual 21, 3) := by decide +kernel
theorem dX1_countPieces_9 : decode cX1_countPieces 9 = .ok (.if_icmp .ge 25, 3) := by decide +kernel
theorem dX1_countPieces_12 : decode cX1_countPieces 12 = .ok (.iload_n 1, 1) := by decide +kernel
theorem dX1_countPieces_13 : decode cX1_countPieces 13 = .ok (.aload_n 0, 1) := by decide +kernel
theorem dX1_countPieces_14 : decode cX1_countPieces 14 = .ok (.iload_n 2, 1) := by decide +kernel
theorem dX1_countPieces_15 : decode cX1_countPieces 15 = .ok (.invokevirtual 29, 3) := by decide +kernel
theorem dX1_countPieces_18 : decode cX1_countPieces 18 = .ok (.aload_n 0, 1) := by decide +kernel
theorem dX1_countPieces_19 : decode cX1_countPieces 19 = .ok (.iload_n 2, 1) := by decide +kernel
theorem dX1_countPieces_20 : decode cX1_countPieces 20 = .ok (.invokevirtual 32, 3) := by decide +kernel
theorem dX1_countPieces_23 : decode cX1_countPieces 23 = .ok (.invokestatic 46, 3) := by decide +kernel
theorem dX1_countPieces_26 : decode cX1_countPieces 26 = .ok (.iadd, 1) := by decide +kernel
theorem dX1_countPieces_27 : decode cX1_countPieces 27 = .ok (.istore_n 1, 1) := by decide +kernel
theorem dX1_countPieces_28 : decode cX1_countPieces 28 = .ok (.iinc 2 1, 3) := by decide +kernel
theorem dX1_countPieces_31 : decode cX1_countPieces 31 = .ok (.goto (-27), 3) := by decide +kernel
theorem dX1_countPieces_34 : decode cX1_countPieces 34 = .ok (.iload_n 1, 1) := by decide +kernel
theorem dX1_countPieces_35 : decode cX1_countPieces 35 = .ok (.ireturn, 1) := by decide +kernel
set_option maxRecDepth 20000 in
theorem ggX1_hoursOf_X1_size : GoodIn wsX1_hoursOf wsX1_size := goodIn_r _ [5, 6, 23] (by decide +kernel) (by decide +kernel)
set_option maxRecDepth 20000 in
theorem gX1_hoursOf_X1_size : GoodIn wsX1_hoursOf (wsV RX1 21 RX1 yX1_size wsX1_size) := goodIn_app (goodIn_of _ (by decide +kernel)) ggX1_hoursOf_X1_size
set_option maxRecDepth 20000 in
theorem ggX1_hoursOf_X1_numberOf : GoodIn wsX1_hoursOf wsX1_numberOf := goodIn_r _ [10, 6, 23] (by decide +kernel) (by decide +kernel)
set_option maxRecDepth 20000 in
theorem gX1_hoursOf_X1_numberOf : GoodIn wsX1_hoursOf (wsV RX1 25 RX1 yX1_numberOf wsX1_numberOf) := goodIn_app (goodIn_of _ (by decide +kernel)) ggX1_hoursOf_X1_numberOf
set_option maxRecDepth 20000 in
theorem ggX1_hoursOf_X1_birthOf : GoodIn wsX1_hoursOf wsX1_birthOf := goodIn_r _ [14, 6, 23] (by decide +kernel) (by decide +kernel)
set_option maxRecDepth 20000 in
theorem gX1_hoursOf_X1_birthOf : GoodIn wsX1_hoursOf (wsV RX1 29 RX1 yX1_birthOf wsX1_birthOf) := goodIn_app (goodIn_of _ (by decide +kernel)) ggX1_hoursOf_X1_birthOf
set_option maxRecDepth 20000 in
theorem ggX1_hoursOf_X1_deathOf : GoodIn wsX1_hoursOf wsX1_deathOf := goodIn_r _ [18, 6, 23] (by decide +kernel) (by decide +kernel)
set_option maxRecDepth 20000 in
theorem gX1_hoursOf_X1_deathOf : GoodIn wsX1_hoursOf (wsV RX1 32 RX1 yX1_deathOf wsX1_deathOf) := goodIn_app (goodIn_of _ (by decide +kernel)) ggX1_hoursOf_X1_deathOf
set_option maxRecDepth 20000 in
theorem ggX1_hoursOf_X7_hoursFrom : GoodIn wsX1_hoursOf wsX7_hoursFrom := goodIn_r _ [21, 22] (by decide +kernel) (by decide +kernel)
set_option maxRecDepth 20000 in
theorem gX1_hoursOf_X7_hoursFrom_n50 : GoodIn wsX1_hoursOf (wsX7_hoursFrom) := ggX1_hoursOf_X7_hoursFrom
theorem dX1_hoursOf_0 : decode cX1_hoursOf 0 = .ok (.lconst 0, 1) := by decide +kernel
theorem dX1_hoursOf_1 : decode cX1_hoursOf 1 = .ok (.lstore_n 3, 1) := by decide +kernel
theorem dX1_hoursOf_2 : decode cX1_hoursOf 2 = .ok (.iconst 0, 1) := by decide +kernel
theorem dX1_hoursOf_3 : decode cX1_hoursOf 3 = .ok (.istore 5, 2) := by decide +kernel
theorem dX1_hoursOf_5 : decode cX1_hoursOf 5 = .ok (.iload 5, 2) := by decide +kernel
theorem dX1_hoursOf_7 : decode cX1_hoursOf 7 = .ok (.aload_n 0, 1) := by decide +kernel
theorem dX1_hoursOf_8 : decode cX1_hoursOf 8 = .ok (.invokevirtual 21, 3) := by decide +kernel
theorem dX1_hoursOf_11 : decode cX1_hoursOf 11 = .ok (.if_icmp .ge 43, 3) := by decide +kernel
theorem dX1_hoursOf_14 : decode cX1_hoursOf 14 = .ok (.iload 5, 2) := by decide +kernel
theorem dX1_hoursOf_16 : decode cX1_hoursOf 16 = .ok (.iload_n 2, 1) := by decide +kernel
theorem dX1_hoursOf_17 : decode cX1_hoursOf 17 = .ok (.if_icmp .eq 31, 3) := by decide +kernel
theorem dX1_hoursOf_20 : decode cX1_hoursOf 20 = .ok (.aload_n 0, 1) := by decide +kernel
theorem dX1_hoursOf_21 : decode cX1_hoursOf 21 = .ok (.iload 5, 2) := by decide +kernel
theorem dX1_hoursOf_23 : decode cX1_hoursOf 23 = .ok (.invokevirtual 25, 3) := by decide +kernel
theorem dX1_hoursOf_26 : decode cX1_hoursOf 26 = .ok (.iload_n 1, 1) := by decide +kernel
theorem dX1_hoursOf_27 : decode cX1_hoursOf 27 = .ok (.if_icmp .ne 21, 3) := by decide +kernel
theorem dX1_hoursOf_30 : decode cX1_hoursOf 30 = .ok (.lload_n 3, 1) := by decide +kernel
theorem dX1_hoursOf_31 : decode cX1_hoursOf 31 = .ok (.aload_n 0, 1) := by decide +kernel
theorem dX1_hoursOf_32 : decode cX1_hoursOf 32 = .ok (.iload 5, 2) := by decide +kernel
theorem dX1_hoursOf_34 : decode cX1_hoursOf 34 = .ok (.invokevirtual 29, 3) := by decide +kernel
theorem dX1_hoursOf_37 : decode cX1_hoursOf 37 = .ok (.aload_n 0, 1) := by decide +kernel
theorem dX1_hoursOf_38 : decode cX1_hoursOf 38 = .ok (.iload 5, 2) := by decide +kernel
theorem dX1_hoursOf_40 : decode cX1_hoursOf 40 = .ok (.invokevirtual 32, 3) := by decide +kernel
theorem dX1_hoursOf_43 : decode cX1_hoursOf 43 = .ok (.invokestatic 50, 3) := by decide +kernel
theorem dX1_hoursOf_46 : decode cX1_hoursOf 46 = .ok (.lor, 1) := by decide +kernel
theorem dX1_hoursOf_47 : decode cX1_hoursOf 47 = .ok (.lstore_n 3, 1) := by decide +kernel
theorem dX1_hoursOf_48 : decode cX1_hoursOf 48 = .ok (.iinc 5 1, 3) := by decide +kernel
theorem dX1_hoursOf_51 : decode cX1_hoursOf 51 = .ok (.goto (-46), 3) := by decide +kernel
theorem dX1_hoursOf_54 : decode cX1_hoursOf 54 = .ok (.lload_n 3, 1) := by decide +kernel
theorem dX1_hoursOf_55 : decode cX1_hoursOf 55 = .ok (.lreturn, 1) := by decide +kernel
