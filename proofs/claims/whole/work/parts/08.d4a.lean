theorem dX8_thrown_0 : decode cX8_thrown 0 = .ok (.aload_n 0, 1) := by decide +kernel
theorem dX8_thrown_1 : decode cX8_thrown 1 = .ok (.getfield 1, 3) := by decide +kernel
theorem dX8_thrown_4 : decode cX8_thrown 4 = .ok (.ireturn, 1) := by decide +kernel
theorem dX8_init_0 : decode cX8_init 0 = .ok (.aload_n 0, 1) := by decide +kernel
theorem dX8_init_1 : decode cX8_init 1 = .ok (.invokespecial 7, 3) := by decide +kernel
theorem dX8_init_4 : decode cX8_init 4 = .ok (.aload_n 0, 1) := by decide +kernel
theorem dX8_init_5 : decode cX8_init 5 = .ok (.sipush 166, 3) := by decide +kernel
theorem dX8_init_8 : decode cX8_init 8 = .ok (.newarray .int, 2) := by decide +kernel
theorem dX8_init_10 : decode cX8_init 10 = .ok (.putfield 13, 3) := by decide +kernel
theorem dX8_init_13 : decode cX8_init 13 = .ok (.aload_n 0, 1) := by decide +kernel
theorem dX8_init_14 : decode cX8_init 14 = .ok (.sipush 166, 3) := by decide +kernel
theorem dX8_init_17 : decode cX8_init 17 = .ok (.newarray .int, 2) := by decide +kernel
theorem dX8_init_19 : decode cX8_init 19 = .ok (.putfield 17, 3) := by decide +kernel
theorem dX8_init_22 : decode cX8_init 22 = .ok (.aload_n 0, 1) := by decide +kernel
theorem dX8_init_23 : decode cX8_init 23 = .ok (.sipush 3320, 3) := by decide +kernel
theorem dX8_init_26 : decode cX8_init 26 = .ok (.newarray .int, 2) := by decide +kernel
theorem dX8_init_28 : decode cX8_init 28 = .ok (.putfield 20, 3) := by decide +kernel
theorem dX8_init_31 : decode cX8_init 31 = .ok (.aload_n 0, 1) := by decide +kernel
theorem dX8_init_32 : decode cX8_init 32 = .ok (.sipush 332, 3) := by decide +kernel
theorem dX8_init_35 : decode cX8_init 35 = .ok (.newarray .int, 2) := by decide +kernel
theorem dX8_init_37 : decode cX8_init 37 = .ok (.putfield 23, 3) := by decide +kernel
theorem dX8_init_40 : decode cX8_init 40 = .ok (.aload_n 0, 1) := by decide +kernel
theorem dX8_init_41 : decode cX8_init 41 = .ok (.iconst 2, 1) := by decide +kernel
theorem dX8_init_42 : decode cX8_init 42 = .ok (.newarray .boolean, 2) := by decide +kernel
theorem dX8_init_44 : decode cX8_init 44 = .ok (.putfield 26, 3) := by decide +kernel
theorem dX8_init_47 : decode cX8_init 47 = .ok (.aload_n 0, 1) := by decide +kernel
theorem dX8_init_48 : decode cX8_init 48 = .ok (.sipush 600, 3) := by decide +kernel
theorem dX8_init_51 : decode cX8_init 51 = .ok (.newarray .byte, 2) := by decide +kernel
theorem dX8_init_53 : decode cX8_init 53 = .ok (.putfield 30, 3) := by decide +kernel
theorem dX8_init_56 : decode cX8_init 56 = .ok (.aload_n 0, 1) := by decide +kernel
theorem dX8_init_57 : decode cX8_init 57 = .ok (.sipush 200, 3) := by decide +kernel
theorem dX8_init_60 : decode cX8_init 60 = .ok (.newarray .int, 2) := by decide +kernel
theorem dX8_init_62 : decode cX8_init 62 = .ok (.putfield 34, 3) := by decide +kernel
theorem dX8_init_65 : decode cX8_init 65 = .ok (.aload_n 0, 1) := by decide +kernel
theorem dX8_init_66 : decode cX8_init 66 = .ok (.sipush 800, 3) := by decide +kernel
theorem dX8_init_69 : decode cX8_init 69 = .ok (.newarray .int, 2) := by decide +kernel
theorem dX8_init_71 : decode cX8_init 71 = .ok (.putfield 37, 3) := by decide +kernel
theorem dX8_init_74 : decode cX8_init 74 = .ok (.aload_n 0, 1) := by decide +kernel
theorem dX8_init_75 : decode cX8_init 75 = .ok (.iconst 4, 1) := by decide +kernel
theorem dX8_init_76 : decode cX8_init 76 = .ok (.newarray .int, 2) := by decide +kernel
theorem dX8_init_78 : decode cX8_init 78 = .ok (.putfield 40, 3) := by decide +kernel
theorem dX8_init_81 : decode cX8_init 81 = .ok (.aload_n 0, 1) := by decide +kernel
theorem dX8_init_82 : decode cX8_init 82 = .ok (.sipush 700, 3) := by decide +kernel
theorem dX8_init_85 : decode cX8_init 85 = .ok (.newarray .int, 2) := by decide +kernel
theorem dX8_init_87 : decode cX8_init 87 = .ok (.putfield 43, 3) := by decide +kernel
theorem dX8_init_90 : decode cX8_init 90 = .ok (.aload_n 0, 1) := by decide +kernel
theorem dX8_init_91 : decode cX8_init 91 = .ok (.sipush 700, 3) := by decide +kernel
theorem dX8_init_94 : decode cX8_init 94 = .ok (.newarray .int, 2) := by decide +kernel
theorem dX8_init_96 : decode cX8_init 96 = .ok (.putfield 46, 3) := by decide +kernel
theorem dX8_init_99 : decode cX8_init 99 = .ok (.aload_n 0, 1) := by decide +kernel
theorem dX8_init_100 : decode cX8_init 100 = .ok (.bipush 6, 2) := by decide +kernel
theorem dX8_init_102 : decode cX8_init 102 = .ok (.newarray .int, 2) := by decide +kernel
theorem dX8_init_104 : decode cX8_init 104 = .ok (.putfield 49, 3) := by decide +kernel
theorem dX8_init_107 : decode cX8_init 107 = .ok (.aload_n 0, 1) := by decide +kernel
theorem dX8_init_108 : decode cX8_init 108 = .ok (.sipush 700, 3) := by decide +kernel
theorem dX8_init_111 : decode cX8_init 111 = .ok (.newarray .int, 2) := by decide +kernel
theorem dX8_init_113 : decode cX8_init 113 = .ok (.putfield 52, 3) := by decide +kernel
theorem dX8_init_116 : decode cX8_init 116 = .ok (.aload_n 0, 1) := by decide +kernel
theorem dX8_init_117 : decode cX8_init 117 = .ok (.sipush 1300, 3) := by decide +kernel
theorem dX8_init_120 : decode cX8_init 120 = .ok (.newarray .int, 2) := by decide +kernel
theorem dX8_init_122 : decode cX8_init 122 = .ok (.putfield 55, 3) := by decide +kernel
theorem dX8_init_125 : decode cX8_init 125 = .ok (.return_, 1) := by decide +kernel
theorem dX8_within_0 : decode cX8_within 0 = .ok (.lload_n 0, 1) := by decide +kernel
theorem dX8_within_1 : decode cX8_within 1 = .ok (.lload_n 2, 1) := by decide +kernel
theorem dX8_within_2 : decode cX8_within 2 = .ok (.lcmp, 1) := by decide +kernel
theorem dX8_within_3 : decode cX8_within 3 = .ok (.ifCond .lt 14, 3) := by decide +kernel
theorem dX8_within_6 : decode cX8_within 6 = .ok (.lload_n 0, 1) := by decide +kernel
theorem dX8_within_7 : decode cX8_within 7 = .ok (.lload 4, 2) := by decide +kernel
theorem dX8_within_9 : decode cX8_within 9 = .ok (.lcmp, 1) := by decide +kernel
theorem dX8_within_10 : decode cX8_within 10 = .ok (.ifCond .gt 7, 3) := by decide +kernel
theorem dX8_within_13 : decode cX8_within 13 = .ok (.iconst 1, 1) := by decide +kernel
theorem dX8_within_14 : decode cX8_within 14 = .ok (.goto 4, 3) := by decide +kernel
theorem dX8_within_17 : decode cX8_within 17 = .ok (.iconst 0, 1) := by decide +kernel
theorem dX8_within_18 : decode cX8_within 18 = .ok (.ireturn, 1) := by decide +kernel
theorem dX8_isNumber_0 : decode cX8_isNumber 0 = .ok (.iload_n 0, 1) := by decide +kernel
theorem dX8_isNumber_1 : decode cX8_isNumber 1 = .ok (.i2l, 1) := by decide +kernel
theorem dX8_isNumber_2 : decode cX8_isNumber 2 = .ok (.lconst 0, 1) := by decide +kernel
theorem dX8_isNumber_3 : decode cX8_isNumber 3 = .ok (.ldc2_w 58, 3) := by decide +kernel
theorem dX8_isNumber_6 : decode cX8_isNumber 6 = .ok (.invokestatic 60, 3) := by decide +kernel
theorem dX8_isNumber_9 : decode cX8_isNumber 9 = .ok (.ireturn, 1) := by decide +kernel
theorem dX8_isHour_0 : decode cX8_isHour 0 = .ok (.iload_n 0, 1) := by decide +kernel
theorem dX8_isHour_1 : decode cX8_isHour 1 = .ok (.i2l, 1) := by decide +kernel
theorem dX8_isHour_2 : decode cX8_isHour 2 = .ok (.lconst 0, 1) := by decide +kernel
theorem dX8_isHour_3 : decode cX8_isHour 3 = .ok (.ldc2_w 64, 3) := by decide +kernel
theorem dX8_isHour_6 : decode cX8_isHour 6 = .ok (.invokestatic 60, 3) := by decide +kernel
theorem dX8_isHour_9 : decode cX8_isHour 9 = .ok (.ireturn, 1) := by decide +kernel
theorem dX8_copies_0 : decode cX8_copies 0 = .ok (.iconst 0, 1) := by decide +kernel
theorem dX8_copies_1 : decode cX8_copies 1 = .ok (.istore 4, 2) := by decide +kernel
theorem dX8_copies_3 : decode cX8_copies 3 = .ok (.iload 4, 2) := by decide +kernel
theorem dX8_copies_5 : decode cX8_copies 5 = .ok (.sipush 166, 3) := by decide +kernel
theorem dX8_copies_8 : decode cX8_copies 8 = .ok (.if_icmp .ge 21, 3) := by decide +kernel
theorem dX8_copies_11 : decode cX8_copies 11 = .ok (.aload_n 2, 1) := by decide +kernel
theorem dX8_copies_12 : decode cX8_copies 12 = .ok (.iload_n 3, 1) := by decide +kernel
theorem dX8_copies_13 : decode cX8_copies 13 = .ok (.iload 4, 2) := by decide +kernel
theorem dX8_copies_15 : decode cX8_copies 15 = .ok (.iadd, 1) := by decide +kernel
theorem dX8_copies_16 : decode cX8_copies 16 = .ok (.aload_n 0, 1) := by decide +kernel
theorem dX8_copies_17 : decode cX8_copies 17 = .ok (.iload_n 1, 1) := by decide +kernel
theorem dX8_copies_18 : decode cX8_copies 18 = .ok (.iload 4, 2) := by decide +kernel
theorem dX8_copies_20 : decode cX8_copies 20 = .ok (.iadd, 1) := by decide +kernel
theorem dX8_copies_21 : decode cX8_copies 21 = .ok (.iaload, 1) := by decide +kernel
theorem dX8_copies_22 : decode cX8_copies 22 = .ok (.iastore, 1) := by decide +kernel
theorem dX8_copies_23 : decode cX8_copies 23 = .ok (.iinc 4 1, 3) := by decide +kernel
theorem dX8_copies_26 : decode cX8_copies 26 = .ok (.goto (-23), 3) := by decide +kernel
theorem dX8_copies_29 : decode cX8_copies 29 = .ok (.return_, 1) := by decide +kernel
theorem dX8_of_0 : decode cX8_of 0 = .ok (.aload_n 0, 1) := by decide +kernel
theorem dX8_of_1 : decode cX8_of 1 = .ok (.iconst 2, 1) := by decide +kernel
theorem dX8_of_2 : decode cX8_of 2 = .ok (.iconst 4, 1) := by decide +kernel
theorem dX8_of_3 : decode cX8_of 3 = .ok (.iload_n 1, 1) := by decide +kernel
theorem dX8_of_4 : decode cX8_of 4 = .ok (.imul, 1) := by decide +kernel
theorem dX8_of_5 : decode cX8_of 5 = .ok (.iadd, 1) := by decide +kernel
theorem dX8_of_6 : decode cX8_of 6 = .ok (.iload_n 2, 1) := by decide +kernel
theorem dX8_of_7 : decode cX8_of 7 = .ok (.iadd, 1) := by decide +kernel
theorem dX8_of_8 : decode cX8_of 8 = .ok (.iaload, 1) := by decide +kernel
theorem dX8_of_9 : decode cX8_of 9 = .ok (.ireturn, 1) := by decide +kernel
theorem dX8_its_0 : decode cX8_its 0 = .ok (.aload_n 0, 1) := by decide +kernel
theorem dX8_its_1 : decode cX8_its 1 = .ok (.getfield 13, 3) := by decide +kernel
theorem dX8_its_4 : decode cX8_its 4 = .ok (.iload_n 1, 1) := by decide +kernel
theorem dX8_its_5 : decode cX8_its 5 = .ok (.iload_n 2, 1) := by decide +kernel
theorem dX8_its_6 : decode cX8_its 6 = .ok (.invokestatic 66, 3) := by decide +kernel
theorem dX8_its_9 : decode cX8_its 9 = .ok (.ireturn, 1) := by decide +kernel
theorem dX8_lives_0 : decode cX8_lives 0 = .ok (.aload_n 0, 1) := by decide +kernel
theorem dX8_lives_1 : decode cX8_lives 1 = .ok (.iload_n 1, 1) := by decide +kernel
theorem dX8_lives_2 : decode cX8_lives 2 = .ok (.iconst 1, 1) := by decide +kernel
theorem dX8_lives_3 : decode cX8_lives 3 = .ok (.invokestatic 66, 3) := by decide +kernel
theorem dX8_lives_6 : decode cX8_lives 6 = .ok (.iload_n 2, 1) := by decide +kernel
theorem dX8_lives_7 : decode cX8_lives 7 = .ok (.if_icmp .gt 17, 3) := by decide +kernel
theorem dX8_lives_10 : decode cX8_lives 10 = .ok (.iload_n 2, 1) := by decide +kernel
theorem dX8_lives_11 : decode cX8_lives 11 = .ok (.aload_n 0, 1) := by decide +kernel
theorem dX8_lives_12 : decode cX8_lives 12 = .ok (.iload_n 1, 1) := by decide +kernel
theorem dX8_lives_13 : decode cX8_lives 13 = .ok (.iconst 2, 1) := by decide +kernel
theorem dX8_lives_14 : decode cX8_lives 14 = .ok (.invokestatic 66, 3) := by decide +kernel
theorem dX8_lives_17 : decode cX8_lives 17 = .ok (.if_icmp .ge 7, 3) := by decide +kernel
theorem dX8_lives_20 : decode cX8_lives 20 = .ok (.iconst 1, 1) := by decide +kernel
theorem dX8_lives_21 : decode cX8_lives 21 = .ok (.goto 4, 3) := by decide +kernel
theorem dX8_lives_24 : decode cX8_lives 24 = .ok (.iconst 0, 1) := by decide +kernel
theorem dX8_lives_25 : decode cX8_lives 25 = .ok (.ireturn, 1) := by decide +kernel
theorem dX8_lifeAt_0 : decode cX8_lifeAt 0 = .ok (.iconst 0, 1) := by decide +kernel
theorem dX8_lifeAt_1 : decode cX8_lifeAt 1 = .ok (.istore_n 3, 1) := by decide +kernel
theorem dX8_lifeAt_2 : decode cX8_lifeAt 2 = .ok (.iload_n 3, 1) := by decide +kernel
theorem dX8_lifeAt_3 : decode cX8_lifeAt 3 = .ok (.aload_n 0, 1) := by decide +kernel
theorem dX8_lifeAt_4 : decode cX8_lifeAt 4 = .ok (.iconst 0, 1) := by decide +kernel
theorem dX8_lifeAt_5 : decode cX8_lifeAt 5 = .ok (.iaload, 1) := by decide +kernel
theorem dX8_lifeAt_6 : decode cX8_lifeAt 6 = .ok (.if_icmp .ge 30, 3) := by decide +kernel
theorem dX8_lifeAt_9 : decode cX8_lifeAt 9 = .ok (.aload_n 0, 1) := by decide +kernel
theorem dX8_lifeAt_10 : decode cX8_lifeAt 10 = .ok (.iload_n 3, 1) := by decide +kernel
theorem dX8_lifeAt_11 : decode cX8_lifeAt 11 = .ok (.iconst 0, 1) := by decide +kernel
theorem dX8_lifeAt_12 : decode cX8_lifeAt 12 = .ok (.invokestatic 66, 3) := by decide +kernel
theorem dX8_lifeAt_15 : decode cX8_lifeAt 15 = .ok (.iload_n 1, 1) := by decide +kernel
theorem dX8_lifeAt_16 : decode cX8_lifeAt 16 = .ok (.if_icmp .ne 14, 3) := by decide +kernel
theorem dX8_lifeAt_19 : decode cX8_lifeAt 19 = .ok (.aload_n 0, 1) := by decide +kernel
theorem dX8_lifeAt_20 : decode cX8_lifeAt 20 = .ok (.iload_n 3, 1) := by decide +kernel
theorem dX8_lifeAt_21 : decode cX8_lifeAt 21 = .ok (.iload_n 2, 1) := by decide +kernel
theorem dX8_lifeAt_22 : decode cX8_lifeAt 22 = .ok (.invokestatic 70, 3) := by decide +kernel
theorem dX8_lifeAt_25 : decode cX8_lifeAt 25 = .ok (.ifCond .eq 5, 3) := by decide +kernel
theorem dX8_lifeAt_28 : decode cX8_lifeAt 28 = .ok (.iload_n 3, 1) := by decide +kernel
theorem dX8_lifeAt_29 : decode cX8_lifeAt 29 = .ok (.ireturn, 1) := by decide +kernel
theorem dX8_lifeAt_30 : decode cX8_lifeAt 30 = .ok (.iinc 3 1, 3) := by decide +kernel
theorem dX8_lifeAt_33 : decode cX8_lifeAt 33 = .ok (.goto (-31), 3) := by decide +kernel
theorem dX8_lifeAt_36 : decode cX8_lifeAt 36 = .ok (.iconst (-1), 1) := by decide +kernel
theorem dX8_lifeAt_37 : decode cX8_lifeAt 37 = .ok (.ireturn, 1) := by decide +kernel
theorem dX8_isAlive_0 : decode cX8_isAlive 0 = .ok (.aload_n 0, 1) := by decide +kernel
theorem dX8_isAlive_1 : decode cX8_isAlive 1 = .ok (.getfield 13, 3) := by decide +kernel
theorem dX8_isAlive_4 : decode cX8_isAlive 4 = .ok (.iload_n 1, 1) := by decide +kernel
theorem dX8_isAlive_5 : decode cX8_isAlive 5 = .ok (.iload_n 2, 1) := by decide +kernel
theorem dX8_isAlive_6 : decode cX8_isAlive 6 = .ok (.invokestatic 74, 3) := by decide +kernel
theorem dX8_isAlive_9 : decode cX8_isAlive 9 = .ok (.iconst (-1), 1) := by decide +kernel
theorem dX8_isAlive_10 : decode cX8_isAlive 10 = .ok (.if_icmp .eq 7, 3) := by decide +kernel
theorem dX8_isAlive_13 : decode cX8_isAlive 13 = .ok (.iconst 1, 1) := by decide +kernel
theorem dX8_isAlive_14 : decode cX8_isAlive 14 = .ok (.goto 4, 3) := by decide +kernel
theorem dX8_isAlive_17 : decode cX8_isAlive 17 = .ok (.iconst 0, 1) := by decide +kernel
theorem dX8_isAlive_18 : decode cX8_isAlive 18 = .ok (.ireturn, 1) := by decide +kernel
theorem dX8_isLocked_0 : decode cX8_isLocked 0 = .ok (.iconst 0, 1) := by decide +kernel
theorem dX8_isLocked_1 : decode cX8_isLocked 1 = .ok (.istore_n 2, 1) := by decide +kernel
theorem dX8_isLocked_2 : decode cX8_isLocked 2 = .ok (.iload_n 2, 1) := by decide +kernel
theorem dX8_isLocked_3 : decode cX8_isLocked 3 = .ok (.aload_n 0, 1) := by decide +kernel
theorem dX8_isLocked_4 : decode cX8_isLocked 4 = .ok (.getfield 13, 3) := by decide +kernel
theorem dX8_isLocked_7 : decode cX8_isLocked 7 = .ok (.iconst 1, 1) := by decide +kernel
theorem dX8_isLocked_8 : decode cX8_isLocked 8 = .ok (.iaload, 1) := by decide +kernel
theorem dX8_isLocked_9 : decode cX8_isLocked 9 = .ok (.if_icmp .ge 50, 3) := by decide +kernel
theorem dX8_isLocked_12 : decode cX8_isLocked 12 = .ok (.aload_n 0, 1) := by decide +kernel
theorem dX8_isLocked_13 : decode cX8_isLocked 13 = .ok (.getfield 13, 3) := by decide +kernel
theorem dX8_isLocked_16 : decode cX8_isLocked 16 = .ok (.iload_n 1, 1) := by decide +kernel
theorem dX8_isLocked_17 : decode cX8_isLocked 17 = .ok (.iload_n 2, 1) := by decide +kernel
theorem dX8_isLocked_18 : decode cX8_isLocked 18 = .ok (.invokestatic 74, 3) := by decide +kernel
theorem dX8_isLocked_21 : decode cX8_isLocked 21 = .ok (.iconst (-1), 1) := by decide +kernel
theorem dX8_isLocked_22 : decode cX8_isLocked 22 = .ok (.if_icmp .ne 7, 3) := by decide +kernel
theorem dX8_isLocked_25 : decode cX8_isLocked 25 = .ok (.iconst 1, 1) := by decide +kernel
theorem dX8_isLocked_26 : decode cX8_isLocked 26 = .ok (.goto 4, 3) := by decide +kernel
theorem dX8_isLocked_29 : decode cX8_isLocked 29 = .ok (.iconst 0, 1) := by decide +kernel
theorem dX8_isLocked_30 : decode cX8_isLocked 30 = .ok (.aload_n 0, 1) := by decide +kernel
theorem dX8_isLocked_31 : decode cX8_isLocked 31 = .ok (.getfield 17, 3) := by decide +kernel
theorem dX8_isLocked_34 : decode cX8_isLocked 34 = .ok (.iload_n 1, 1) := by decide +kernel
theorem dX8_isLocked_35 : decode cX8_isLocked 35 = .ok (.iload_n 2, 1) := by decide +kernel
theorem dX8_isLocked_36 : decode cX8_isLocked 36 = .ok (.invokestatic 74, 3) := by decide +kernel
theorem dX8_isLocked_39 : decode cX8_isLocked 39 = .ok (.iconst (-1), 1) := by decide +kernel
theorem dX8_isLocked_40 : decode cX8_isLocked 40 = .ok (.if_icmp .ne 7, 3) := by decide +kernel
theorem dX8_isLocked_43 : decode cX8_isLocked 43 = .ok (.iconst 1, 1) := by decide +kernel
theorem dX8_isLocked_44 : decode cX8_isLocked 44 = .ok (.goto 4, 3) := by decide +kernel
theorem dX8_isLocked_47 : decode cX8_isLocked 47 = .ok (.iconst 0, 1) := by decide +kernel
theorem dX8_isLocked_48 : decode cX8_isLocked 48 = .ok (.if_icmp .eq 5, 3) := by decide +kernel
theorem dX8_isLocked_51 : decode cX8_isLocked 51 = .ok (.iconst 1, 1) := by decide +kernel
theorem dX8_isLocked_52 : decode cX8_isLocked 52 = .ok (.ireturn, 1) := by decide +kernel
theorem dX8_isLocked_53 : decode cX8_isLocked 53 = .ok (.iinc 2 1, 3) := by decide +kernel
theorem dX8_isLocked_56 : decode cX8_isLocked 56 = .ok (.goto (-54), 3) := by decide +kernel
theorem dX8_isLocked_59 : decode cX8_isLocked 59 = .ok (.iconst 0, 1) := by decide +kernel
theorem dX8_isLocked_60 : decode cX8_isLocked 60 = .ok (.ireturn, 1) := by decide +kernel
theorem dX8_isClash_0 : decode cX8_isClash 0 = .ok (.iconst 0, 1) := by decide +kernel
theorem dX8_isClash_1 : decode cX8_isClash 1 = .ok (.istore_n 2, 1) := by decide +kernel
theorem dX8_isClash_2 : decode cX8_isClash 2 = .ok (.iload_n 2, 1) := by decide +kernel
theorem dX8_isClash_3 : decode cX8_isClash 3 = .ok (.bipush 64, 2) := by decide +kernel
theorem dX8_isClash_5 : decode cX8_isClash 5 = .ok (.if_icmp .ge 73, 3) := by decide +kernel
theorem dX8_isClash_8 : decode cX8_isClash 8 = .ok (.iconst 0, 1) := by decide +kernel
theorem dX8_isClash_9 : decode cX8_isClash 9 = .ok (.istore_n 3, 1) := by decide +kernel
theorem dX8_isClash_10 : decode cX8_isClash 10 = .ok (.iconst 0, 1) := by decide +kernel
theorem dX8_isClash_11 : decode cX8_isClash 11 = .ok (.istore 4, 2) := by decide +kernel
theorem dX8_isClash_13 : decode cX8_isClash 13 = .ok (.iload 4, 2) := by decide +kernel
theorem dX8_isClash_15 : decode cX8_isClash 15 = .ok (.aload_n 0, 1) := by decide +kernel
theorem dX8_isClash_16 : decode cX8_isClash 16 = .ok (.getfield 17, 3) := by decide +kernel
theorem dX8_isClash_19 : decode cX8_isClash 19 = .ok (.iconst 0, 1) := by decide +kernel
theorem dX8_isClash_20 : decode cX8_isClash 20 = .ok (.iaload, 1) := by decide +kernel
theorem dX8_isClash_21 : decode cX8_isClash 21 = .ok (.if_icmp .ge 44, 3) := by decide +kernel
theorem dX8_isClash_24 : decode cX8_isClash 24 = .ok (.iload_n 3, 1) := by decide +kernel
theorem dX8_isClash_25 : decode cX8_isClash 25 = .ok (.aload_n 0, 1) := by decide +kernel
theorem dX8_isClash_26 : decode cX8_isClash 26 = .ok (.getfield 17, 3) := by decide +kernel
theorem dX8_isClash_29 : decode cX8_isClash 29 = .ok (.iload 4, 2) := by decide +kernel
theorem dX8_isClash_31 : decode cX8_isClash 31 = .ok (.iconst 0, 1) := by decide +kernel
theorem dX8_isClash_32 : decode cX8_isClash 32 = .ok (.invokestatic 66, 3) := by decide +kernel
theorem dX8_isClash_35 : decode cX8_isClash 35 = .ok (.iload_n 1, 1) := by decide +kernel
theorem dX8_isClash_36 : decode cX8_isClash 36 = .ok (.if_icmp .ne 20, 3) := by decide +kernel
theorem dX8_isClash_39 : decode cX8_isClash 39 = .ok (.aload_n 0, 1) := by decide +kernel
theorem dX8_isClash_40 : decode cX8_isClash 40 = .ok (.getfield 17, 3) := by decide +kernel
theorem dX8_isClash_43 : decode cX8_isClash 43 = .ok (.iload 4, 2) := by decide +kernel
theorem dX8_isClash_45 : decode cX8_isClash 45 = .ok (.iload_n 2, 1) := by decide +kernel
theorem dX8_isClash_46 : decode cX8_isClash 46 = .ok (.invokestatic 70, 3) := by decide +kernel
theorem dX8_isClash_49 : decode cX8_isClash 49 = .ok (.ifCond .eq 7, 3) := by decide +kernel
theorem dX8_isClash_52 : decode cX8_isClash 52 = .ok (.iconst 1, 1) := by decide +kernel
theorem dX8_isClash_53 : decode cX8_isClash 53 = .ok (.goto 4, 3) := by decide +kernel
theorem dX8_isClash_56 : decode cX8_isClash 56 = .ok (.iconst 0, 1) := by decide +kernel
theorem dX8_isClash_57 : decode cX8_isClash 57 = .ok (.iadd, 1) := by decide +kernel
theorem dX8_isClash_58 : decode cX8_isClash 58 = .ok (.istore_n 3, 1) := by decide +kernel
theorem dX8_isClash_59 : decode cX8_isClash 59 = .ok (.iinc 4 1, 3) := by decide +kernel
theorem dX8_isClash_62 : decode cX8_isClash 62 = .ok (.goto (-49), 3) := by decide +kernel
theorem dX8_isClash_65 : decode cX8_isClash 65 = .ok (.iload_n 3, 1) := by decide +kernel
theorem dX8_isClash_66 : decode cX8_isClash 66 = .ok (.iconst 1, 1) := by decide +kernel
theorem dX8_isClash_67 : decode cX8_isClash 67 = .ok (.if_icmp .le 5, 3) := by decide +kernel
theorem dX8_isClash_70 : decode cX8_isClash 70 = .ok (.iconst 1, 1) := by decide +kernel
theorem dX8_isClash_71 : decode cX8_isClash 71 = .ok (.ireturn, 1) := by decide +kernel
theorem dX8_isClash_72 : decode cX8_isClash 72 = .ok (.iinc 2 1, 3) := by decide +kernel
theorem dX8_isClash_75 : decode cX8_isClash 75 = .ok (.goto (-73), 3) := by decide +kernel
theorem dX8_isClash_78 : decode cX8_isClash 78 = .ok (.iconst 0, 1) := by decide +kernel
theorem dX8_isClash_79 : decode cX8_isClash 79 = .ok (.ireturn, 1) := by decide +kernel
theorem dX8_puts_0 : decode cX8_puts 0 = .ok (.iconst 2, 1) := by decide +kernel
theorem dX8_puts_1 : decode cX8_puts 1 = .ok (.iconst 4, 1) := by decide +kernel
theorem dX8_puts_2 : decode cX8_puts 2 = .ok (.iload_n 1, 1) := by decide +kernel
theorem dX8_puts_3 : decode cX8_puts 3 = .ok (.imul, 1) := by decide +kernel
theorem dX8_puts_4 : decode cX8_puts 4 = .ok (.iadd, 1) := by decide +kernel
theorem dX8_puts_5 : decode cX8_puts 5 = .ok (.istore 6, 2) := by decide +kernel
theorem dX8_puts_7 : decode cX8_puts 7 = .ok (.aload_n 0, 1) := by decide +kernel
theorem dX8_puts_8 : decode cX8_puts 8 = .ok (.getfield 17, 3) := by decide +kernel
theorem dX8_puts_11 : decode cX8_puts 11 = .ok (.iload 6, 2) := by decide +kernel
theorem dX8_puts_13 : decode cX8_puts 13 = .ok (.iconst 0, 1) := by decide +kernel
theorem dX8_puts_14 : decode cX8_puts 14 = .ok (.iadd, 1) := by decide +kernel
theorem dX8_puts_15 : decode cX8_puts 15 = .ok (.iload_n 2, 1) := by decide +kernel
theorem dX8_puts_16 : decode cX8_puts 16 = .ok (.iastore, 1) := by decide +kernel
theorem dX8_puts_17 : decode cX8_puts 17 = .ok (.aload_n 0, 1) := by decide +kernel
theorem dX8_puts_18 : decode cX8_puts 18 = .ok (.getfield 17, 3) := by decide +kernel
theorem dX8_puts_21 : decode cX8_puts 21 = .ok (.iload 6, 2) := by decide +kernel
theorem dX8_puts_23 : decode cX8_puts 23 = .ok (.iconst 1, 1) := by decide +kernel
theorem dX8_puts_24 : decode cX8_puts 24 = .ok (.iadd, 1) := by decide +kernel
theorem dX8_puts_25 : decode cX8_puts 25 = .ok (.iload_n 3, 1) := by decide +kernel
theorem dX8_puts_26 : decode cX8_puts 26 = .ok (.iastore, 1) := by decide +kernel
theorem dX8_puts_27 : decode cX8_puts 27 = .ok (.aload_n 0, 1) := by decide +kernel
theorem dX8_puts_28 : decode cX8_puts 28 = .ok (.getfield 17, 3) := by decide +kernel
theorem dX8_puts_31 : decode cX8_puts 31 = .ok (.iload 6, 2) := by decide +kernel
theorem dX8_puts_33 : decode cX8_puts 33 = .ok (.iconst 2, 1) := by decide +kernel
theorem dX8_puts_34 : decode cX8_puts 34 = .ok (.iadd, 1) := by decide +kernel
theorem dX8_puts_35 : decode cX8_puts 35 = .ok (.iload 4, 2) := by decide +kernel
theorem dX8_puts_37 : decode cX8_puts 37 = .ok (.iastore, 1) := by decide +kernel
theorem dX8_puts_38 : decode cX8_puts 38 = .ok (.aload_n 0, 1) := by decide +kernel
theorem dX8_puts_39 : decode cX8_puts 39 = .ok (.getfield 17, 3) := by decide +kernel
theorem dX8_puts_42 : decode cX8_puts 42 = .ok (.iload 6, 2) := by decide +kernel
theorem dX8_puts_44 : decode cX8_puts 44 = .ok (.iconst 3, 1) := by decide +kernel
theorem dX8_puts_45 : decode cX8_puts 45 = .ok (.iadd, 1) := by decide +kernel
theorem dX8_puts_46 : decode cX8_puts 46 = .ok (.iload 5, 2) := by decide +kernel
theorem dX8_puts_48 : decode cX8_puts 48 = .ok (.iastore, 1) := by decide +kernel
theorem dX8_puts_49 : decode cX8_puts 49 = .ok (.return_, 1) := by decide +kernel
theorem dX8_leaves_0 : decode cX8_leaves 0 = .ok (.iconst 2, 1) := by decide +kernel
theorem dX8_leaves_1 : decode cX8_leaves 1 = .ok (.iconst 4, 1) := by decide +kernel
theorem dX8_leaves_2 : decode cX8_leaves 2 = .ok (.iload_n 1, 1) := by decide +kernel
theorem dX8_leaves_3 : decode cX8_leaves 3 = .ok (.imul, 1) := by decide +kernel
theorem dX8_leaves_4 : decode cX8_leaves 4 = .ok (.iadd, 1) := by decide +kernel
theorem dX8_leaves_5 : decode cX8_leaves 5 = .ok (.istore_n 2, 1) := by decide +kernel
theorem dX8_leaves_6 : decode cX8_leaves 6 = .ok (.iload_n 2, 1) := by decide +kernel
theorem dX8_leaves_7 : decode cX8_leaves 7 = .ok (.sipush 162, 3) := by decide +kernel
theorem dX8_leaves_10 : decode cX8_leaves 10 = .ok (.if_icmp .ge 23, 3) := by decide +kernel
theorem dX8_leaves_13 : decode cX8_leaves 13 = .ok (.aload_n 0, 1) := by decide +kernel
theorem dX8_leaves_14 : decode cX8_leaves 14 = .ok (.getfield 17, 3) := by decide +kernel
theorem dX8_leaves_17 : decode cX8_leaves 17 = .ok (.iload_n 2, 1) := by decide +kernel
theorem dX8_leaves_18 : decode cX8_leaves 18 = .ok (.aload_n 0, 1) := by decide +kernel
theorem dX8_leaves_19 : decode cX8_leaves 19 = .ok (.getfield 17, 3) := by decide +kernel
theorem dX8_leaves_22 : decode cX8_leaves 22 = .ok (.iload_n 2, 1) := by decide +kernel
theorem dX8_leaves_23 : decode cX8_leaves 23 = .ok (.iconst 4, 1) := by decide +kernel
theorem dX8_leaves_24 : decode cX8_leaves 24 = .ok (.iadd, 1) := by decide +kernel
theorem dX8_leaves_25 : decode cX8_leaves 25 = .ok (.iaload, 1) := by decide +kernel
theorem dX8_leaves_26 : decode cX8_leaves 26 = .ok (.iastore, 1) := by decide +kernel
theorem dX8_leaves_27 : decode cX8_leaves 27 = .ok (.iinc 2 1, 3) := by decide +kernel
theorem dX8_leaves_30 : decode cX8_leaves 30 = .ok (.goto (-24), 3) := by decide +kernel
theorem dX8_leaves_33 : decode cX8_leaves 33 = .ok (.aload_n 0, 1) := by decide +kernel
theorem dX8_leaves_34 : decode cX8_leaves 34 = .ok (.getfield 17, 3) := by decide +kernel
theorem dX8_leaves_37 : decode cX8_leaves 37 = .ok (.iconst 0, 1) := by decide +kernel
theorem dX8_leaves_38 : decode cX8_leaves 38 = .ok (.dup2, 1) := by decide +kernel
theorem dX8_leaves_39 : decode cX8_leaves 39 = .ok (.iaload, 1) := by decide +kernel
theorem dX8_leaves_40 : decode cX8_leaves 40 = .ok (.iconst 1, 1) := by decide +kernel
theorem dX8_leaves_41 : decode cX8_leaves 41 = .ok (.isub, 1) := by decide +kernel
theorem dX8_leaves_42 : decode cX8_leaves 42 = .ok (.iastore, 1) := by decide +kernel
theorem dX8_leaves_43 : decode cX8_leaves 43 = .ok (.return_, 1) := by decide +kernel
theorem dX8_isBehind_0 : decode cX8_isBehind 0 = .ok (.aload_n 0, 1) := by decide +kernel
theorem dX8_isBehind_1 : decode cX8_isBehind 1 = .ok (.getfield 17, 3) := by decide +kernel
theorem dX8_isBehind_4 : decode cX8_isBehind 4 = .ok (.iload_n 1, 1) := by decide +kernel
theorem dX8_isBehind_5 : decode cX8_isBehind 5 = .ok (.iconst 0, 1) := by decide +kernel
theorem dX8_isBehind_6 : decode cX8_isBehind 6 = .ok (.invokestatic 66, 3) := by decide +kernel
theorem dX8_isBehind_9 : decode cX8_isBehind 9 = .ok (.aload_n 0, 1) := by decide +kernel
theorem dX8_isBehind_10 : decode cX8_isBehind 10 = .ok (.getfield 17, 3) := by decide +kernel
theorem dX8_isBehind_13 : decode cX8_isBehind 13 = .ok (.iload_n 2, 1) := by decide +kernel
theorem dX8_isBehind_14 : decode cX8_isBehind 14 = .ok (.iconst 0, 1) := by decide +kernel
theorem dX8_isBehind_15 : decode cX8_isBehind 15 = .ok (.invokestatic 66, 3) := by decide +kernel
theorem dX8_isBehind_18 : decode cX8_isBehind 18 = .ok (.isub, 1) := by decide +kernel
theorem dX8_isBehind_19 : decode cX8_isBehind 19 = .ok (.istore_n 3, 1) := by decide +kernel
theorem dX8_isBehind_20 : decode cX8_isBehind 20 = .ok (.iload_n 3, 1) := by decide +kernel
theorem dX8_isBehind_21 : decode cX8_isBehind 21 = .ok (.ifCond .gt 28, 3) := by decide +kernel
theorem dX8_isBehind_24 : decode cX8_isBehind 24 = .ok (.iload_n 3, 1) := by decide +kernel
theorem dX8_isBehind_25 : decode cX8_isBehind 25 = .ok (.ifCond .ne 28, 3) := by decide +kernel
theorem dX8_isBehind_28 : decode cX8_isBehind 28 = .ok (.aload_n 0, 1) := by decide +kernel
theorem dX8_isBehind_29 : decode cX8_isBehind 29 = .ok (.getfield 17, 3) := by decide +kernel
theorem dX8_isBehind_32 : decode cX8_isBehind 32 = .ok (.iload_n 1, 1) := by decide +kernel
theorem dX8_isBehind_33 : decode cX8_isBehind 33 = .ok (.iconst 1, 1) := by decide +kernel
theorem dX8_isBehind_34 : decode cX8_isBehind 34 = .ok (.invokestatic 66, 3) := by decide +kernel
theorem dX8_isBehind_37 : decode cX8_isBehind 37 = .ok (.aload_n 0, 1) := by decide +kernel
theorem dX8_isBehind_38 : decode cX8_isBehind 38 = .ok (.getfield 17, 3) := by decide +kernel
theorem dX8_isBehind_41 : decode cX8_isBehind 41 = .ok (.iload_n 2, 1) := by decide +kernel
theorem dX8_isBehind_42 : decode cX8_isBehind 42 = .ok (.iconst 1, 1) := by decide +kernel
theorem dX8_isBehind_43 : decode cX8_isBehind 43 = .ok (.invokestatic 66, 3) := by decide +kernel
theorem dX8_isBehind_46 : decode cX8_isBehind 46 = .ok (.if_icmp .le 7, 3) := by decide +kernel
theorem dX8_isBehind_49 : decode cX8_isBehind 49 = .ok (.iconst 1, 1) := by decide +kernel
theorem dX8_isBehind_50 : decode cX8_isBehind 50 = .ok (.goto 4, 3) := by decide +kernel
theorem dX8_isBehind_53 : decode cX8_isBehind 53 = .ok (.iconst 0, 1) := by decide +kernel
theorem dX8_isBehind_54 : decode cX8_isBehind 54 = .ok (.ireturn, 1) := by decide +kernel
theorem dX8_sorts_0 : decode cX8_sorts 0 = .ok (.iconst 1, 1) := by decide +kernel
theorem dX8_sorts_1 : decode cX8_sorts 1 = .ok (.istore_n 1, 1) := by decide +kernel
theorem dX8_sorts_2 : decode cX8_sorts 2 = .ok (.iload_n 1, 1) := by decide +kernel
theorem dX8_sorts_3 : decode cX8_sorts 3 = .ok (.aload_n 0, 1) := by decide +kernel
theorem dX8_sorts_4 : decode cX8_sorts 4 = .ok (.getfield 17, 3) := by decide +kernel
theorem dX8_sorts_7 : decode cX8_sorts 7 = .ok (.iconst 0, 1) := by decide +kernel
theorem dX8_sorts_8 : decode cX8_sorts 8 = .ok (.iaload, 1) := by decide +kernel
theorem dX8_sorts_9 : decode cX8_sorts 9 = .ok (.if_icmp .ge 90, 3) := by decide +kernel
theorem dX8_sorts_12 : decode cX8_sorts 12 = .ok (.iload_n 1, 1) := by decide +kernel
theorem dX8_sorts_13 : decode cX8_sorts 13 = .ok (.istore_n 2, 1) := by decide +kernel
theorem dX8_sorts_14 : decode cX8_sorts 14 = .ok (.iload_n 2, 1) := by decide +kernel
theorem dX8_sorts_15 : decode cX8_sorts 15 = .ok (.ifCond .le 78, 3) := by decide +kernel
theorem dX8_sorts_18 : decode cX8_sorts 18 = .ok (.aload_n 0, 1) := by decide +kernel
theorem dX8_sorts_19 : decode cX8_sorts 19 = .ok (.iload_n 2, 1) := by decide +kernel
theorem dX8_sorts_20 : decode cX8_sorts 20 = .ok (.iconst 1, 1) := by decide +kernel
theorem dX8_sorts_21 : decode cX8_sorts 21 = .ok (.isub, 1) := by decide +kernel
theorem dX8_sorts_22 : decode cX8_sorts 22 = .ok (.iload_n 2, 1) := by decide +kernel
theorem dX8_sorts_23 : decode cX8_sorts 23 = .ok (.invokevirtual 77, 3) := by decide +kernel
theorem dX8_sorts_26 : decode cX8_sorts 26 = .ok (.ifCond .eq 67, 3) := by decide +kernel
theorem dX8_sorts_29 : decode cX8_sorts 29 = .ok (.iconst 0, 1) := by decide +kernel
theorem dX8_sorts_30 : decode cX8_sorts 30 = .ok (.istore_n 3, 1) := by decide +kernel
theorem dX8_sorts_31 : decode cX8_sorts 31 = .ok (.iload_n 3, 1) := by decide +kernel
theorem dX8_sorts_32 : decode cX8_sorts 32 = .ok (.iconst 4, 1) := by decide +kernel
theorem dX8_sorts_33 : decode cX8_sorts 33 = .ok (.if_icmp .ge 54, 3) := by decide +kernel
theorem dX8_sorts_36 : decode cX8_sorts 36 = .ok (.iconst 2, 1) := by decide +kernel
theorem dX8_sorts_37 : decode cX8_sorts 37 = .ok (.iconst 4, 1) := by decide +kernel
theorem dX8_sorts_38 : decode cX8_sorts 38 = .ok (.iload_n 2, 1) := by decide +kernel
theorem dX8_sorts_39 : decode cX8_sorts 39 = .ok (.imul, 1) := by decide +kernel
theorem dX8_sorts_40 : decode cX8_sorts 40 = .ok (.iadd, 1) := by decide +kernel
theorem dX8_sorts_41 : decode cX8_sorts 41 = .ok (.iload_n 3, 1) := by decide +kernel
theorem dX8_sorts_42 : decode cX8_sorts 42 = .ok (.iadd, 1) := by decide +kernel
theorem dX8_sorts_43 : decode cX8_sorts 43 = .ok (.istore 4, 2) := by decide +kernel
theorem dX8_sorts_45 : decode cX8_sorts 45 = .ok (.aload_n 0, 1) := by decide +kernel
theorem dX8_sorts_46 : decode cX8_sorts 46 = .ok (.getfield 17, 3) := by decide +kernel
theorem dX8_sorts_49 : decode cX8_sorts 49 = .ok (.iload 4, 2) := by decide +kernel
theorem dX8_sorts_51 : decode cX8_sorts 51 = .ok (.iaload, 1) := by decide +kernel
theorem dX8_sorts_52 : decode cX8_sorts 52 = .ok (.istore 5, 2) := by decide +kernel
theorem dX8_sorts_54 : decode cX8_sorts 54 = .ok (.aload_n 0, 1) := by decide +kernel
theorem dX8_sorts_55 : decode cX8_sorts 55 = .ok (.getfield 17, 3) := by decide +kernel
theorem dX8_sorts_58 : decode cX8_sorts 58 = .ok (.iload 4, 2) := by decide +kernel
theorem dX8_sorts_60 : decode cX8_sorts 60 = .ok (.aload_n 0, 1) := by decide +kernel
theorem dX8_sorts_61 : decode cX8_sorts 61 = .ok (.getfield 17, 3) := by decide +kernel
theorem dX8_sorts_64 : decode cX8_sorts 64 = .ok (.iload 4, 2) := by decide +kernel
theorem dX8_sorts_66 : decode cX8_sorts 66 = .ok (.iconst 4, 1) := by decide +kernel
theorem dX8_sorts_67 : decode cX8_sorts 67 = .ok (.isub, 1) := by decide +kernel
theorem dX8_sorts_68 : decode cX8_sorts 68 = .ok (.iaload, 1) := by decide +kernel
theorem dX8_sorts_69 : decode cX8_sorts 69 = .ok (.iastore, 1) := by decide +kernel
theorem dX8_sorts_70 : decode cX8_sorts 70 = .ok (.aload_n 0, 1) := by decide +kernel
theorem dX8_sorts_71 : decode cX8_sorts 71 = .ok (.getfield 17, 3) := by decide +kernel
theorem dX8_sorts_74 : decode cX8_sorts 74 = .ok (.iload 4, 2) := by decide +kernel
theorem dX8_sorts_76 : decode cX8_sorts 76 = .ok (.iconst 4, 1) := by decide +kernel
theorem dX8_sorts_77 : decode cX8_sorts 77 = .ok (.isub, 1) := by decide +kernel
theorem dX8_sorts_78 : decode cX8_sorts 78 = .ok (.iload 5, 2) := by decide +kernel
theorem dX8_sorts_80 : decode cX8_sorts 80 = .ok (.iastore, 1) := by decide +kernel
theorem dX8_sorts_81 : decode cX8_sorts 81 = .ok (.iinc 3 1, 3) := by decide +kernel
theorem dX8_sorts_84 : decode cX8_sorts 84 = .ok (.goto (-53), 3) := by decide +kernel
theorem dX8_sorts_87 : decode cX8_sorts 87 = .ok (.iinc 2 (-1), 3) := by decide +kernel
theorem dX8_sorts_90 : decode cX8_sorts 90 = .ok (.goto (-76), 3) := by decide +kernel
theorem dX8_sorts_93 : decode cX8_sorts 93 = .ok (.iinc 1 1, 3) := by decide +kernel
theorem dX8_sorts_96 : decode cX8_sorts 96 = .ok (.goto (-94), 3) := by decide +kernel
theorem dX8_sorts_99 : decode cX8_sorts 99 = .ok (.return_, 1) := by decide +kernel
theorem dX8_tells_0 : decode cX8_tells 0 = .ok (.aload_n 0, 1) := by decide +kernel
theorem dX8_tells_1 : decode cX8_tells 1 = .ok (.iload_n 1, 1) := by decide +kernel
theorem dX8_tells_2 : decode cX8_tells 2 = .ok (.invokevirtual 81, 3) := by decide +kernel
theorem dX8_tells_5 : decode cX8_tells 5 = .ok (.ifCond .eq 5, 3) := by decide +kernel
theorem dX8_tells_8 : decode cX8_tells 8 = .ok (.iconst 3, 1) := by decide +kernel
theorem dX8_tells_9 : decode cX8_tells 9 = .ok (.ireturn, 1) := by decide +kernel
theorem dX8_tells_10 : decode cX8_tells 10 = .ok (.aload_n 0, 1) := by decide +kernel
theorem dX8_tells_11 : decode cX8_tells 11 = .ok (.iload_n 1, 1) := by decide +kernel
theorem dX8_tells_12 : decode cX8_tells 12 = .ok (.invokevirtual 85, 3) := by decide +kernel
theorem dX8_tells_15 : decode cX8_tells 15 = .ok (.ifCond .eq 5, 3) := by decide +kernel
theorem dX8_tells_18 : decode cX8_tells 18 = .ok (.iconst 4, 1) := by decide +kernel
theorem dX8_tells_19 : decode cX8_tells 19 = .ok (.ireturn, 1) := by decide +kernel
theorem dX8_tells_20 : decode cX8_tells 20 = .ok (.aload_n 0, 1) := by decide +kernel
theorem dX8_tells_21 : decode cX8_tells 21 = .ok (.getfield 17, 3) := by decide +kernel
theorem dX8_tells_24 : decode cX8_tells 24 = .ok (.iconst 0, 1) := by decide +kernel
theorem dX8_tells_25 : decode cX8_tells 25 = .ok (.iaload, 1) := by decide +kernel
theorem dX8_tells_26 : decode cX8_tells 26 = .ok (.bipush 40, 2) := by decide +kernel
theorem dX8_tells_28 : decode cX8_tells 28 = .ok (.if_icmp .le 5, 3) := by decide +kernel
theorem dX8_tells_31 : decode cX8_tells 31 = .ok (.iconst 5, 1) := by decide +kernel
theorem dX8_tells_32 : decode cX8_tells 32 = .ok (.ireturn, 1) := by decide +kernel
theorem dX8_tells_33 : decode cX8_tells 33 = .ok (.aload_n 0, 1) := by decide +kernel
theorem dX8_tells_34 : decode cX8_tells 34 = .ok (.invokevirtual 88, 3) := by decide +kernel
theorem dX8_tells_37 : decode cX8_tells 37 = .ok (.aload_n 0, 1) := by decide +kernel
theorem dX8_tells_38 : decode cX8_tells 38 = .ok (.invokevirtual 91, 3) := by decide +kernel
theorem dX8_tells_41 : decode cX8_tells 41 = .ok (.iconst 0, 1) := by decide +kernel
theorem dX8_tells_42 : decode cX8_tells 42 = .ok (.ireturn, 1) := by decide +kernel
theorem dX8_becomes_0 : decode cX8_becomes 0 = .ok (.aload_n 0, 1) := by decide +kernel
theorem dX8_becomes_1 : decode cX8_becomes 1 = .ok (.getfield 94, 3) := by decide +kernel
theorem dX8_becomes_4 : decode cX8_becomes 4 = .ok (.bipush 20, 2) := by decide +kernel
theorem dX8_becomes_6 : decode cX8_becomes 6 = .ok (.if_icmp .ne 44, 3) := by decide +kernel
theorem dX8_becomes_9 : decode cX8_becomes 9 = .ok (.iconst 0, 1) := by decide +kernel
theorem dX8_becomes_10 : decode cX8_becomes 10 = .ok (.istore_n 1, 1) := by decide +kernel
theorem dX8_becomes_11 : decode cX8_becomes 11 = .ok (.iload_n 1, 1) := by decide +kernel
theorem dX8_becomes_12 : decode cX8_becomes 12 = .ok (.sipush 3154, 3) := by decide +kernel
theorem dX8_becomes_15 : decode cX8_becomes 15 = .ok (.if_icmp .ge 25, 3) := by decide +kernel
theorem dX8_becomes_18 : decode cX8_becomes 18 = .ok (.aload_n 0, 1) := by decide +kernel
theorem dX8_becomes_19 : decode cX8_becomes 19 = .ok (.getfield 20, 3) := by decide +kernel
theorem dX8_becomes_22 : decode cX8_becomes 22 = .ok (.iload_n 1, 1) := by decide +kernel
theorem dX8_becomes_23 : decode cX8_becomes 23 = .ok (.aload_n 0, 1) := by decide +kernel
theorem dX8_becomes_24 : decode cX8_becomes 24 = .ok (.getfield 20, 3) := by decide +kernel
theorem dX8_becomes_27 : decode cX8_becomes 27 = .ok (.iload_n 1, 1) := by decide +kernel
theorem dX8_becomes_28 : decode cX8_becomes 28 = .ok (.sipush 166, 3) := by decide +kernel
theorem dX8_becomes_31 : decode cX8_becomes 31 = .ok (.iadd, 1) := by decide +kernel
theorem dX8_becomes_32 : decode cX8_becomes 32 = .ok (.iaload, 1) := by decide +kernel
theorem dX8_becomes_33 : decode cX8_becomes 33 = .ok (.iastore, 1) := by decide +kernel
theorem dX8_becomes_34 : decode cX8_becomes 34 = .ok (.iinc 1 1, 3) := by decide +kernel
theorem dX8_becomes_37 : decode cX8_becomes 37 = .ok (.goto (-26), 3) := by decide +kernel
theorem dX8_becomes_40 : decode cX8_becomes 40 = .ok (.aload_n 0, 1) := by decide +kernel
theorem dX8_becomes_41 : decode cX8_becomes 41 = .ok (.dup, 1) := by decide +kernel
theorem dX8_becomes_42 : decode cX8_becomes 42 = .ok (.getfield 94, 3) := by decide +kernel
theorem dX8_becomes_45 : decode cX8_becomes 45 = .ok (.iconst 1, 1) := by decide +kernel
theorem dX8_becomes_46 : decode cX8_becomes 46 = .ok (.isub, 1) := by decide +kernel
theorem dX8_becomes_47 : decode cX8_becomes 47 = .ok (.putfield 94, 3) := by decide +kernel
theorem dX8_becomes_50 : decode cX8_becomes 50 = .ok (.aload_n 0, 1) := by decide +kernel
theorem dX8_becomes_51 : decode cX8_becomes 51 = .ok (.getfield 13, 3) := by decide +kernel
theorem dX8_becomes_54 : decode cX8_becomes 54 = .ok (.iconst 0, 1) := by decide +kernel
theorem dX8_becomes_55 : decode cX8_becomes 55 = .ok (.aload_n 0, 1) := by decide +kernel
theorem dX8_becomes_56 : decode cX8_becomes 56 = .ok (.getfield 20, 3) := by decide +kernel
theorem dX8_becomes_59 : decode cX8_becomes 59 = .ok (.sipush 166, 3) := by decide +kernel
theorem dX8_becomes_62 : decode cX8_becomes 62 = .ok (.aload_n 0, 1) := by decide +kernel
theorem dX8_becomes_63 : decode cX8_becomes 63 = .ok (.getfield 94, 3) := by decide +kernel
theorem dX8_becomes_66 : decode cX8_becomes 66 = .ok (.imul, 1) := by decide +kernel
theorem dX8_becomes_67 : decode cX8_becomes 67 = .ok (.invokestatic 97, 3) := by decide +kernel
theorem dX8_becomes_70 : decode cX8_becomes 70 = .ok (.aload_n 0, 1) := by decide +kernel
theorem dX8_becomes_71 : decode cX8_becomes 71 = .ok (.dup, 1) := by decide +kernel
theorem dX8_becomes_72 : decode cX8_becomes 72 = .ok (.getfield 94, 3) := by decide +kernel
theorem dX8_becomes_75 : decode cX8_becomes 75 = .ok (.iconst 1, 1) := by decide +kernel
theorem dX8_becomes_76 : decode cX8_becomes 76 = .ok (.iadd, 1) := by decide +kernel
theorem dX8_becomes_77 : decode cX8_becomes 77 = .ok (.putfield 94, 3) := by decide +kernel
theorem dX8_becomes_80 : decode cX8_becomes 80 = .ok (.aload_n 0, 1) := by decide +kernel
theorem dX8_becomes_81 : decode cX8_becomes 81 = .ok (.getfield 17, 3) := by decide +kernel
theorem dX8_becomes_84 : decode cX8_becomes 84 = .ok (.iconst 0, 1) := by decide +kernel
theorem dX8_becomes_85 : decode cX8_becomes 85 = .ok (.aload_n 0, 1) := by decide +kernel
theorem dX8_becomes_86 : decode cX8_becomes 86 = .ok (.getfield 13, 3) := by decide +kernel
theorem dX8_becomes_89 : decode cX8_becomes 89 = .ok (.iconst 0, 1) := by decide +kernel
theorem dX8_becomes_90 : decode cX8_becomes 90 = .ok (.invokestatic 97, 3) := by decide +kernel
theorem dX8_becomes_93 : decode cX8_becomes 93 = .ok (.return_, 1) := by decide +kernel
theorem dX8_comes_0 : decode cX8_comes 0 = .ok (.iload_n 1, 1) := by decide +kernel
theorem dX8_comes_1 : decode cX8_comes 1 = .ok (.invokestatic 101, 3) := by decide +kernel
theorem dX8_comes_4 : decode cX8_comes 4 = .ok (.ifCond .eq 38, 3) := by decide +kernel
theorem dX8_comes_7 : decode cX8_comes 7 = .ok (.iload_n 2, 1) := by decide +kernel
theorem dX8_comes_8 : decode cX8_comes 8 = .ok (.invokestatic 104, 3) := by decide +kernel
theorem dX8_comes_11 : decode cX8_comes 11 = .ok (.ifCond .eq 31, 3) := by decide +kernel
theorem dX8_comes_14 : decode cX8_comes 14 = .ok (.iload_n 3, 1) := by decide +kernel
theorem dX8_comes_15 : decode cX8_comes 15 = .ok (.i2l, 1) := by decide +kernel
theorem dX8_comes_16 : decode cX8_comes 16 = .ok (.iload_n 2, 1) := by decide +kernel
theorem dX8_comes_17 : decode cX8_comes 17 = .ok (.iconst 1, 1) := by decide +kernel
theorem dX8_comes_18 : decode cX8_comes 18 = .ok (.iadd, 1) := by decide +kernel
theorem dX8_comes_19 : decode cX8_comes 19 = .ok (.i2l, 1) := by decide +kernel
theorem dX8_comes_20 : decode cX8_comes 20 = .ok (.ldc2_w 107, 3) := by decide +kernel
theorem dX8_comes_23 : decode cX8_comes 23 = .ok (.invokestatic 60, 3) := by decide +kernel
theorem dX8_comes_26 : decode cX8_comes 26 = .ok (.ifCond .eq 16, 3) := by decide +kernel
theorem dX8_comes_29 : decode cX8_comes 29 = .ok (.iload 4, 2) := by decide +kernel
theorem dX8_comes_31 : decode cX8_comes 31 = .ok (.i2l, 1) := by decide +kernel
theorem dX8_comes_32 : decode cX8_comes 32 = .ok (.lconst 0, 1) := by decide +kernel
theorem dX8_comes_33 : decode cX8_comes 33 = .ok (.ldc2_w 109, 3) := by decide +kernel
theorem dX8_comes_36 : decode cX8_comes 36 = .ok (.invokestatic 60, 3) := by decide +kernel
theorem dX8_comes_39 : decode cX8_comes 39 = .ok (.ifCond .ne 5, 3) := by decide +kernel
theorem dX8_comes_42 : decode cX8_comes 42 = .ok (.iconst 1, 1) := by decide +kernel
theorem dX8_comes_43 : decode cX8_comes 43 = .ok (.ireturn, 1) := by decide +kernel
theorem dX8_comes_44 : decode cX8_comes 44 = .ok (.aload_n 0, 1) := by decide +kernel
theorem dX8_comes_45 : decode cX8_comes 45 = .ok (.getfield 13, 3) := by decide +kernel
theorem dX8_comes_48 : decode cX8_comes 48 = .ok (.iconst 0, 1) := by decide +kernel
theorem dX8_comes_49 : decode cX8_comes 49 = .ok (.aload_n 0, 1) := by decide +kernel
theorem dX8_comes_50 : decode cX8_comes 50 = .ok (.getfield 17, 3) := by decide +kernel
theorem dX8_comes_53 : decode cX8_comes 53 = .ok (.iconst 0, 1) := by decide +kernel
theorem dX8_comes_54 : decode cX8_comes 54 = .ok (.invokestatic 97, 3) := by decide +kernel
theorem dX8_comes_57 : decode cX8_comes 57 = .ok (.aload_n 0, 1) := by decide +kernel
theorem dX8_comes_58 : decode cX8_comes 58 = .ok (.aload_n 0, 1) := by decide +kernel
theorem dX8_comes_59 : decode cX8_comes 59 = .ok (.getfield 17, 3) := by decide +kernel
theorem dX8_comes_62 : decode cX8_comes 62 = .ok (.iconst 0, 1) := by decide +kernel
theorem dX8_comes_63 : decode cX8_comes 63 = .ok (.iaload, 1) := by decide +kernel
theorem dX8_comes_64 : decode cX8_comes 64 = .ok (.iload_n 1, 1) := by decide +kernel
theorem dX8_comes_65 : decode cX8_comes 65 = .ok (.iload_n 2, 1) := by decide +kernel
theorem dX8_comes_66 : decode cX8_comes 66 = .ok (.iload_n 3, 1) := by decide +kernel
theorem dX8_comes_67 : decode cX8_comes 67 = .ok (.iload 4, 2) := by decide +kernel
theorem dX8_comes_69 : decode cX8_comes 69 = .ok (.invokevirtual 111, 3) := by decide +kernel
theorem dX8_comes_72 : decode cX8_comes 72 = .ok (.aload_n 0, 1) := by decide +kernel
theorem dX8_comes_73 : decode cX8_comes 73 = .ok (.getfield 17, 3) := by decide +kernel
theorem dX8_comes_76 : decode cX8_comes 76 = .ok (.iconst 0, 1) := by decide +kernel
theorem dX8_comes_77 : decode cX8_comes 77 = .ok (.dup2, 1) := by decide +kernel
theorem dX8_comes_78 : decode cX8_comes 78 = .ok (.iaload, 1) := by decide +kernel
theorem dX8_comes_79 : decode cX8_comes 79 = .ok (.iconst 1, 1) := by decide +kernel
theorem dX8_comes_80 : decode cX8_comes 80 = .ok (.iadd, 1) := by decide +kernel
theorem dX8_comes_81 : decode cX8_comes 81 = .ok (.iastore, 1) := by decide +kernel
theorem dX8_comes_82 : decode cX8_comes 82 = .ok (.aload_n 0, 1) := by decide +kernel
theorem dX8_comes_83 : decode cX8_comes 83 = .ok (.iload_n 1, 1) := by decide +kernel
theorem dX8_comes_84 : decode cX8_comes 84 = .ok (.invokevirtual 115, 3) := by decide +kernel
theorem dX8_comes_87 : decode cX8_comes 87 = .ok (.ireturn, 1) := by decide +kernel
theorem dX8_born_0 : decode cX8_born 0 = .ok (.aload_n 0, 1) := by decide +kernel
theorem dX8_born_1 : decode cX8_born 1 = .ok (.iconst 0, 1) := by decide +kernel
theorem dX8_born_2 : decode cX8_born 2 = .ok (.putfield 1, 3) := by decide +kernel
theorem dX8_born_5 : decode cX8_born 5 = .ok (.aload_n 0, 1) := by decide +kernel
theorem dX8_born_6 : decode cX8_born 6 = .ok (.iload_n 1, 1) := by decide +kernel
theorem dX8_born_7 : decode cX8_born 7 = .ok (.iload_n 2, 1) := by decide +kernel
theorem dX8_born_8 : decode cX8_born 8 = .ok (.bipush 64, 2) := by decide +kernel
theorem dX8_born_10 : decode cX8_born 10 = .ok (.iload_n 3, 1) := by decide +kernel
theorem dX8_born_11 : decode cX8_born 11 = .ok (.invokevirtual 119, 3) := by decide +kernel
theorem dX8_born_14 : decode cX8_born 14 = .ok (.ireturn, 1) := by decide +kernel
theorem dX8_span_0 : decode cX8_span 0 = .ok (.aload_n 0, 1) := by decide +kernel
theorem dX8_span_1 : decode cX8_span 1 = .ok (.iconst 0, 1) := by decide +kernel
theorem dX8_span_2 : decode cX8_span 2 = .ok (.putfield 1, 3) := by decide +kernel
theorem dX8_span_5 : decode cX8_span 5 = .ok (.aload_n 0, 1) := by decide +kernel
theorem dX8_span_6 : decode cX8_span 6 = .ok (.iload_n 1, 1) := by decide +kernel
theorem dX8_span_7 : decode cX8_span 7 = .ok (.iload_n 2, 1) := by decide +kernel
theorem dX8_span_8 : decode cX8_span 8 = .ok (.iload_n 3, 1) := by decide +kernel
theorem dX8_span_9 : decode cX8_span 9 = .ok (.iload 4, 2) := by decide +kernel
theorem dX8_span_11 : decode cX8_span 11 = .ok (.invokevirtual 119, 3) := by decide +kernel
theorem dX8_span_14 : decode cX8_span 14 = .ok (.ireturn, 1) := by decide +kernel
theorem dX8_ends_0 : decode cX8_ends 0 = .ok (.iload_n 1, 1) := by decide +kernel
theorem dX8_ends_1 : decode cX8_ends 1 = .ok (.invokestatic 101, 3) := by decide +kernel
theorem dX8_ends_4 : decode cX8_ends 4 = .ok (.ifCond .eq 10, 3) := by decide +kernel
theorem dX8_ends_7 : decode cX8_ends 7 = .ok (.iload_n 2, 1) := by decide +kernel
theorem dX8_ends_8 : decode cX8_ends 8 = .ok (.invokestatic 104, 3) := by decide +kernel
theorem dX8_ends_11 : decode cX8_ends 11 = .ok (.ifCond .ne 5, 3) := by decide +kernel
theorem dX8_ends_14 : decode cX8_ends 14 = .ok (.iconst 1, 1) := by decide +kernel
theorem dX8_ends_15 : decode cX8_ends 15 = .ok (.ireturn, 1) := by decide +kernel
theorem dX8_ends_16 : decode cX8_ends 16 = .ok (.aload_n 0, 1) := by decide +kernel
theorem dX8_ends_17 : decode cX8_ends 17 = .ok (.getfield 13, 3) := by decide +kernel
theorem dX8_ends_20 : decode cX8_ends 20 = .ok (.iload_n 1, 1) := by decide +kernel
theorem dX8_ends_21 : decode cX8_ends 21 = .ok (.iload_n 2, 1) := by decide +kernel
theorem dX8_ends_22 : decode cX8_ends 22 = .ok (.invokestatic 74, 3) := by decide +kernel
theorem dX8_ends_25 : decode cX8_ends 25 = .ok (.istore 4, 2) := by decide +kernel
theorem dX8_ends_27 : decode cX8_ends 27 = .ok (.iload 4, 2) := by decide +kernel
theorem dX8_ends_29 : decode cX8_ends 29 = .ok (.iconst (-1), 1) := by decide +kernel
theorem dX8_ends_30 : decode cX8_ends 30 = .ok (.if_icmp .ne 5, 3) := by decide +kernel
theorem dX8_ends_33 : decode cX8_ends 33 = .ok (.iconst 2, 1) := by decide +kernel
theorem dX8_ends_34 : decode cX8_ends 34 = .ok (.ireturn, 1) := by decide +kernel
theorem dX8_ends_35 : decode cX8_ends 35 = .ok (.aload_n 0, 1) := by decide +kernel
theorem dX8_ends_36 : decode cX8_ends 36 = .ok (.getfield 13, 3) := by decide +kernel
theorem dX8_ends_39 : decode cX8_ends 39 = .ok (.iconst 0, 1) := by decide +kernel
theorem dX8_ends_40 : decode cX8_ends 40 = .ok (.aload_n 0, 1) := by decide +kernel
theorem dX8_ends_41 : decode cX8_ends 41 = .ok (.getfield 17, 3) := by decide +kernel
theorem dX8_ends_44 : decode cX8_ends 44 = .ok (.iconst 0, 1) := by decide +kernel
theorem dX8_ends_45 : decode cX8_ends 45 = .ok (.invokestatic 97, 3) := by decide +kernel
theorem dX8_ends_48 : decode cX8_ends 48 = .ok (.iload_n 3, 1) := by decide +kernel
theorem dX8_ends_49 : decode cX8_ends 49 = .ok (.ifCond .ne 14, 3) := by decide +kernel
theorem dX8_ends_52 : decode cX8_ends 52 = .ok (.aload_n 0, 1) := by decide +kernel
theorem dX8_ends_53 : decode cX8_ends 53 = .ok (.iload 4, 2) := by decide +kernel
theorem dX8_ends_55 : decode cX8_ends 55 = .ok (.iconst 1, 1) := by decide +kernel
theorem dX8_ends_56 : decode cX8_ends 56 = .ok (.invokevirtual 123, 3) := by decide +kernel
theorem dX8_ends_59 : decode cX8_ends 59 = .ok (.iload_n 2, 1) := by decide +kernel
theorem dX8_ends_60 : decode cX8_ends 60 = .ok (.if_icmp .ne 12, 3) := by decide +kernel
theorem dX8_ends_63 : decode cX8_ends 63 = .ok (.aload_n 0, 1) := by decide +kernel
theorem dX8_ends_64 : decode cX8_ends 64 = .ok (.iload 4, 2) := by decide +kernel
theorem dX8_ends_66 : decode cX8_ends 66 = .ok (.invokevirtual 127, 3) := by decide +kernel
theorem dX8_ends_69 : decode cX8_ends 69 = .ok (.goto 25, 3) := by decide +kernel
theorem dX8_ends_72 : decode cX8_ends 72 = .ok (.aload_n 0, 1) := by decide +kernel
theorem dX8_ends_73 : decode cX8_ends 73 = .ok (.iload 4, 2) := by decide +kernel
theorem dX8_ends_75 : decode cX8_ends 75 = .ok (.iload_n 1, 1) := by decide +kernel
theorem dX8_ends_76 : decode cX8_ends 76 = .ok (.aload_n 0, 1) := by decide +kernel
theorem dX8_ends_77 : decode cX8_ends 77 = .ok (.iload 4, 2) := by decide +kernel
theorem dX8_ends_79 : decode cX8_ends 79 = .ok (.iconst 1, 1) := by decide +kernel
theorem dX8_ends_80 : decode cX8_ends 80 = .ok (.invokevirtual 123, 3) := by decide +kernel
theorem dX8_ends_83 : decode cX8_ends 83 = .ok (.iload_n 2, 1) := by decide +kernel
theorem dX8_ends_84 : decode cX8_ends 84 = .ok (.aload_n 0, 1) := by decide +kernel
theorem dX8_ends_85 : decode cX8_ends 85 = .ok (.iload 4, 2) := by decide +kernel
theorem dX8_ends_87 : decode cX8_ends 87 = .ok (.iconst 3, 1) := by decide +kernel
theorem dX8_ends_88 : decode cX8_ends 88 = .ok (.invokevirtual 123, 3) := by decide +kernel
theorem dX8_ends_91 : decode cX8_ends 91 = .ok (.invokevirtual 111, 3) := by decide +kernel
theorem dX8_ends_94 : decode cX8_ends 94 = .ok (.aload_n 0, 1) := by decide +kernel
theorem dX8_ends_95 : decode cX8_ends 95 = .ok (.iload_n 1, 1) := by decide +kernel
theorem dX8_ends_96 : decode cX8_ends 96 = .ok (.invokevirtual 115, 3) := by decide +kernel
theorem dX8_ends_99 : decode cX8_ends 99 = .ok (.ireturn, 1) := by decide +kernel
theorem dX8_died_0 : decode cX8_died 0 = .ok (.aload_n 0, 1) := by decide +kernel
theorem dX8_died_1 : decode cX8_died 1 = .ok (.iconst 0, 1) := by decide +kernel
theorem dX8_died_2 : decode cX8_died 2 = .ok (.putfield 1, 3) := by decide +kernel
theorem dX8_died_5 : decode cX8_died 5 = .ok (.aload_n 0, 1) := by decide +kernel
theorem dX8_died_6 : decode cX8_died 6 = .ok (.iload_n 1, 1) := by decide +kernel
theorem dX8_died_7 : decode cX8_died 7 = .ok (.iload_n 2, 1) := by decide +kernel
theorem dX8_died_8 : decode cX8_died 8 = .ok (.iconst 0, 1) := by decide +kernel
theorem dX8_died_9 : decode cX8_died 9 = .ok (.invokevirtual 131, 3) := by decide +kernel
theorem dX8_died_12 : decode cX8_died 12 = .ok (.ireturn, 1) := by decide +kernel
theorem dX8_unborn_0 : decode cX8_unborn 0 = .ok (.aload_n 0, 1) := by decide +kernel
theorem dX8_unborn_1 : decode cX8_unborn 1 = .ok (.iconst 0, 1) := by decide +kernel
theorem dX8_unborn_2 : decode cX8_unborn 2 = .ok (.putfield 1, 3) := by decide +kernel
theorem dX8_unborn_5 : decode cX8_unborn 5 = .ok (.aload_n 0, 1) := by decide +kernel
theorem dX8_unborn_6 : decode cX8_unborn 6 = .ok (.iload_n 1, 1) := by decide +kernel
theorem dX8_unborn_7 : decode cX8_unborn 7 = .ok (.iload_n 2, 1) := by decide +kernel
theorem dX8_unborn_8 : decode cX8_unborn 8 = .ok (.iconst 1, 1) := by decide +kernel
theorem dX8_unborn_9 : decode cX8_unborn 9 = .ok (.invokevirtual 131, 3) := by decide +kernel
theorem dX8_unborn_12 : decode cX8_unborn 12 = .ok (.ireturn, 1) := by decide +kernel
theorem dX8_revived_0 : decode cX8_revived 0 = .ok (.aload_n 0, 1) := by decide +kernel
theorem dX8_revived_1 : decode cX8_revived 1 = .ok (.iconst 0, 1) := by decide +kernel
theorem dX8_revived_2 : decode cX8_revived 2 = .ok (.putfield 1, 3) := by decide +kernel
theorem dX8_revived_5 : decode cX8_revived 5 = .ok (.iload_n 1, 1) := by decide +kernel
theorem dX8_revived_6 : decode cX8_revived 6 = .ok (.invokestatic 101, 3) := by decide +kernel
theorem dX8_revived_9 : decode cX8_revived 9 = .ok (.ifCond .eq 15, 3) := by decide +kernel
theorem dX8_revived_12 : decode cX8_revived 12 = .ok (.iload_n 2, 1) := by decide +kernel
theorem dX8_revived_13 : decode cX8_revived 13 = .ok (.i2l, 1) := by decide +kernel
theorem dX8_revived_14 : decode cX8_revived 14 = .ok (.lconst 1, 1) := by decide +kernel
theorem dX8_revived_15 : decode cX8_revived 15 = .ok (.ldc2_w 64, 3) := by decide +kernel
theorem dX8_revived_18 : decode cX8_revived 18 = .ok (.invokestatic 60, 3) := by decide +kernel
theorem dX8_revived_21 : decode cX8_revived 21 = .ok (.ifCond .ne 5, 3) := by decide +kernel
theorem dX8_revived_24 : decode cX8_revived 24 = .ok (.iconst 1, 1) := by decide +kernel
theorem dX8_revived_25 : decode cX8_revived 25 = .ok (.ireturn, 1) := by decide +kernel
theorem dX8_revived_26 : decode cX8_revived 26 = .ok (.iconst 0, 1) := by decide +kernel
theorem dX8_revived_27 : decode cX8_revived 27 = .ok (.istore_n 3, 1) := by decide +kernel
theorem dX8_revived_28 : decode cX8_revived 28 = .ok (.iload_n 3, 1) := by decide +kernel
theorem dX8_revived_29 : decode cX8_revived 29 = .ok (.aload_n 0, 1) := by decide +kernel
theorem dX8_revived_30 : decode cX8_revived 30 = .ok (.getfield 13, 3) := by decide +kernel
theorem dX8_revived_33 : decode cX8_revived 33 = .ok (.iconst 0, 1) := by decide +kernel
theorem dX8_revived_34 : decode cX8_revived 34 = .ok (.iaload, 1) := by decide +kernel
theorem dX8_revived_35 : decode cX8_revived 35 = .ok (.if_icmp .ge 68, 3) := by decide +kernel
theorem dX8_revived_38 : decode cX8_revived 38 = .ok (.aload_n 0, 1) := by decide +kernel
theorem dX8_revived_39 : decode cX8_revived 39 = .ok (.iload_n 3, 1) := by decide +kernel
theorem dX8_revived_40 : decode cX8_revived 40 = .ok (.iconst 0, 1) := by decide +kernel
theorem dX8_revived_41 : decode cX8_revived 41 = .ok (.invokevirtual 123, 3) := by decide +kernel
theorem dX8_revived_44 : decode cX8_revived 44 = .ok (.iload_n 1, 1) := by decide +kernel
theorem dX8_revived_45 : decode cX8_revived 45 = .ok (.if_icmp .ne 52, 3) := by decide +kernel
theorem dX8_revived_48 : decode cX8_revived 48 = .ok (.aload_n 0, 1) := by decide +kernel
theorem dX8_revived_49 : decode cX8_revived 49 = .ok (.iload_n 3, 1) := by decide +kernel
theorem dX8_revived_50 : decode cX8_revived 50 = .ok (.iconst 2, 1) := by decide +kernel
theorem dX8_revived_51 : decode cX8_revived 51 = .ok (.invokevirtual 123, 3) := by decide +kernel
theorem dX8_revived_54 : decode cX8_revived 54 = .ok (.iload_n 2, 1) := by decide +kernel
theorem dX8_revived_55 : decode cX8_revived 55 = .ok (.if_icmp .ne 42, 3) := by decide +kernel
theorem dX8_revived_58 : decode cX8_revived 58 = .ok (.aload_n 0, 1) := by decide +kernel
theorem dX8_revived_59 : decode cX8_revived 59 = .ok (.getfield 13, 3) := by decide +kernel
theorem dX8_revived_62 : decode cX8_revived 62 = .ok (.iconst 0, 1) := by decide +kernel
theorem dX8_revived_63 : decode cX8_revived 63 = .ok (.aload_n 0, 1) := by decide +kernel
theorem dX8_revived_64 : decode cX8_revived 64 = .ok (.getfield 17, 3) := by decide +kernel
theorem dX8_revived_67 : decode cX8_revived 67 = .ok (.iconst 0, 1) := by decide +kernel
theorem dX8_revived_68 : decode cX8_revived 68 = .ok (.invokestatic 97, 3) := by decide +kernel
theorem dX8_revived_71 : decode cX8_revived 71 = .ok (.aload_n 0, 1) := by decide +kernel
theorem dX8_revived_72 : decode cX8_revived 72 = .ok (.iload_n 3, 1) := by decide +kernel
theorem dX8_revived_73 : decode cX8_revived 73 = .ok (.iload_n 1, 1) := by decide +kernel
theorem dX8_revived_74 : decode cX8_revived 74 = .ok (.aload_n 0, 1) := by decide +kernel
theorem dX8_revived_75 : decode cX8_revived 75 = .ok (.iload_n 3, 1) := by decide +kernel
theorem dX8_revived_76 : decode cX8_revived 76 = .ok (.iconst 1, 1) := by decide +kernel
theorem dX8_revived_77 : decode cX8_revived 77 = .ok (.invokevirtual 123, 3) := by decide +kernel
theorem dX8_revived_80 : decode cX8_revived 80 = .ok (.bipush 64, 2) := by decide +kernel
theorem dX8_revived_82 : decode cX8_revived 82 = .ok (.aload_n 0, 1) := by decide +kernel
theorem dX8_revived_83 : decode cX8_revived 83 = .ok (.iload_n 3, 1) := by decide +kernel
theorem dX8_revived_84 : decode cX8_revived 84 = .ok (.iconst 3, 1) := by decide +kernel
theorem dX8_revived_85 : decode cX8_revived 85 = .ok (.invokevirtual 123, 3) := by decide +kernel
theorem dX8_revived_88 : decode cX8_revived 88 = .ok (.invokevirtual 111, 3) := by decide +kernel
theorem dX8_revived_91 : decode cX8_revived 91 = .ok (.aload_n 0, 1) := by decide +kernel
theorem dX8_revived_92 : decode cX8_revived 92 = .ok (.iload_n 1, 1) := by decide +kernel
theorem dX8_revived_93 : decode cX8_revived 93 = .ok (.invokevirtual 115, 3) := by decide +kernel
theorem dX8_revived_96 : decode cX8_revived 96 = .ok (.ireturn, 1) := by decide +kernel
theorem dX8_revived_97 : decode cX8_revived 97 = .ok (.iinc 3 1, 3) := by decide +kernel
theorem dX8_revived_100 : decode cX8_revived 100 = .ok (.goto (-72), 3) := by decide +kernel
theorem dX8_revived_103 : decode cX8_revived 103 = .ok (.iconst 2, 1) := by decide +kernel
theorem dX8_revived_104 : decode cX8_revived 104 = .ok (.ireturn, 1) := by decide +kernel
theorem dX8_shifted_0 : decode cX8_shifted 0 = .ok (.aload_n 0, 1) := by decide +kernel
theorem dX8_shifted_1 : decode cX8_shifted 1 = .ok (.iconst 0, 1) := by decide +kernel
theorem dX8_shifted_2 : decode cX8_shifted 2 = .ok (.putfield 1, 3) := by decide +kernel
theorem dX8_shifted_5 : decode cX8_shifted 5 = .ok (.iload_n 1, 1) := by decide +kernel
theorem dX8_shifted_6 : decode cX8_shifted 6 = .ok (.invokestatic 101, 3) := by decide +kernel
theorem dX8_shifted_9 : decode cX8_shifted 9 = .ok (.ifCond .eq 28, 3) := by decide +kernel
theorem dX8_shifted_12 : decode cX8_shifted 12 = .ok (.iload_n 2, 1) := by decide +kernel
theorem dX8_shifted_13 : decode cX8_shifted 13 = .ok (.invokestatic 104, 3) := by decide +kernel
theorem dX8_shifted_16 : decode cX8_shifted 16 = .ok (.ifCond .eq 21, 3) := by decide +kernel
theorem dX8_shifted_19 : decode cX8_shifted 19 = .ok (.iload_n 3, 1) := by decide +kernel
theorem dX8_shifted_20 : decode cX8_shifted 20 = .ok (.ifCond .eq 17, 3) := by decide +kernel
theorem dX8_shifted_23 : decode cX8_shifted 23 = .ok (.iload_n 3, 1) := by decide +kernel
theorem dX8_shifted_24 : decode cX8_shifted 24 = .ok (.i2l, 1) := by decide +kernel
theorem dX8_shifted_25 : decode cX8_shifted 25 = .ok (.ldc2_w 135, 3) := by decide +kernel
theorem dX8_shifted_28 : decode cX8_shifted 28 = .ok (.ldc2_w 64, 3) := by decide +kernel
theorem dX8_shifted_31 : decode cX8_shifted 31 = .ok (.invokestatic 60, 3) := by decide +kernel
theorem dX8_shifted_34 : decode cX8_shifted 34 = .ok (.ifCond .ne 5, 3) := by decide +kernel
theorem dX8_shifted_37 : decode cX8_shifted 37 = .ok (.iconst 1, 1) := by decide +kernel
theorem dX8_shifted_38 : decode cX8_shifted 38 = .ok (.ireturn, 1) := by decide +kernel
theorem dX8_shifted_39 : decode cX8_shifted 39 = .ok (.aload_n 0, 1) := by decide +kernel
theorem dX8_shifted_40 : decode cX8_shifted 40 = .ok (.getfield 13, 3) := by decide +kernel
theorem dX8_shifted_43 : decode cX8_shifted 43 = .ok (.iload_n 1, 1) := by decide +kernel
theorem dX8_shifted_44 : decode cX8_shifted 44 = .ok (.iload_n 2, 1) := by decide +kernel
theorem dX8_shifted_45 : decode cX8_shifted 45 = .ok (.invokestatic 74, 3) := by decide +kernel
theorem dX8_shifted_48 : decode cX8_shifted 48 = .ok (.istore 4, 2) := by decide +kernel
theorem dX8_shifted_50 : decode cX8_shifted 50 = .ok (.iload 4, 2) := by decide +kernel
theorem dX8_shifted_52 : decode cX8_shifted 52 = .ok (.iconst (-1), 1) := by decide +kernel
theorem dX8_shifted_53 : decode cX8_shifted 53 = .ok (.if_icmp .ne 5, 3) := by decide +kernel
theorem dX8_shifted_56 : decode cX8_shifted 56 = .ok (.iconst 2, 1) := by decide +kernel
theorem dX8_shifted_57 : decode cX8_shifted 57 = .ok (.ireturn, 1) := by decide +kernel
theorem dX8_shifted_58 : decode cX8_shifted 58 = .ok (.aload_n 0, 1) := by decide +kernel
theorem dX8_shifted_59 : decode cX8_shifted 59 = .ok (.iload 4, 2) := by decide +kernel
theorem dX8_shifted_61 : decode cX8_shifted 61 = .ok (.iconst 1, 1) := by decide +kernel
theorem dX8_shifted_62 : decode cX8_shifted 62 = .ok (.invokevirtual 123, 3) := by decide +kernel
theorem dX8_shifted_65 : decode cX8_shifted 65 = .ok (.iload_n 3, 1) := by decide +kernel
theorem dX8_shifted_66 : decode cX8_shifted 66 = .ok (.iadd, 1) := by decide +kernel
theorem dX8_shifted_67 : decode cX8_shifted 67 = .ok (.istore 5, 2) := by decide +kernel
theorem dX8_shifted_69 : decode cX8_shifted 69 = .ok (.aload_n 0, 1) := by decide +kernel
theorem dX8_shifted_70 : decode cX8_shifted 70 = .ok (.iload 4, 2) := by decide +kernel
theorem dX8_shifted_72 : decode cX8_shifted 72 = .ok (.iconst 2, 1) := by decide +kernel
theorem dX8_shifted_73 : decode cX8_shifted 73 = .ok (.invokevirtual 123, 3) := by decide +kernel
theorem dX8_shifted_76 : decode cX8_shifted 76 = .ok (.bipush 64, 2) := by decide +kernel
theorem dX8_shifted_78 : decode cX8_shifted 78 = .ok (.if_icmp .ne 8, 3) := by decide +kernel
theorem dX8_shifted_81 : decode cX8_shifted 81 = .ok (.bipush 64, 2) := by decide +kernel
theorem dX8_shifted_83 : decode cX8_shifted 83 = .ok (.goto 12, 3) := by decide +kernel
theorem dX8_shifted_86 : decode cX8_shifted 86 = .ok (.aload_n 0, 1) := by decide +kernel
theorem dX8_shifted_87 : decode cX8_shifted 87 = .ok (.iload 4, 2) := by decide +kernel
theorem dX8_shifted_89 : decode cX8_shifted 89 = .ok (.iconst 2, 1) := by decide +kernel
theorem dX8_shifted_90 : decode cX8_shifted 90 = .ok (.invokevirtual 123, 3) := by decide +kernel
theorem dX8_shifted_93 : decode cX8_shifted 93 = .ok (.iload_n 3, 1) := by decide +kernel
theorem dX8_shifted_94 : decode cX8_shifted 94 = .ok (.iadd, 1) := by decide +kernel
theorem dX8_shifted_95 : decode cX8_shifted 95 = .ok (.istore 6, 2) := by decide +kernel
theorem dX8_shifted_97 : decode cX8_shifted 97 = .ok (.iload 5, 2) := by decide +kernel
theorem dX8_shifted_99 : decode cX8_shifted 99 = .ok (.invokestatic 104, 3) := by decide +kernel
theorem dX8_shifted_102 : decode cX8_shifted 102 = .ok (.ifCond .eq 10, 3) := by decide +kernel
theorem dX8_shifted_105 : decode cX8_shifted 105 = .ok (.iload 6, 2) := by decide +kernel
theorem dX8_shifted_107 : decode cX8_shifted 107 = .ok (.bipush 64, 2) := by decide +kernel
theorem dX8_shifted_109 : decode cX8_shifted 109 = .ok (.if_icmp .le 5, 3) := by decide +kernel
theorem dX8_shifted_112 : decode cX8_shifted 112 = .ok (.iconst 1, 1) := by decide +kernel
theorem dX8_shifted_113 : decode cX8_shifted 113 = .ok (.ireturn, 1) := by decide +kernel
theorem dX8_shifted_114 : decode cX8_shifted 114 = .ok (.aload_n 0, 1) := by decide +kernel
theorem dX8_shifted_115 : decode cX8_shifted 115 = .ok (.getfield 13, 3) := by decide +kernel
theorem dX8_shifted_118 : decode cX8_shifted 118 = .ok (.iconst 0, 1) := by decide +kernel
theorem dX8_shifted_119 : decode cX8_shifted 119 = .ok (.aload_n 0, 1) := by decide +kernel
theorem dX8_shifted_120 : decode cX8_shifted 120 = .ok (.getfield 17, 3) := by decide +kernel
theorem dX8_shifted_123 : decode cX8_shifted 123 = .ok (.iconst 0, 1) := by decide +kernel
theorem dX8_shifted_124 : decode cX8_shifted 124 = .ok (.invokestatic 97, 3) := by decide +kernel
theorem dX8_shifted_127 : decode cX8_shifted 127 = .ok (.aload_n 0, 1) := by decide +kernel
theorem dX8_shifted_128 : decode cX8_shifted 128 = .ok (.iload 4, 2) := by decide +kernel
theorem dX8_shifted_130 : decode cX8_shifted 130 = .ok (.iload_n 1, 1) := by decide +kernel
theorem dX8_shifted_131 : decode cX8_shifted 131 = .ok (.iload 5, 2) := by decide +kernel
theorem dX8_shifted_133 : decode cX8_shifted 133 = .ok (.iload 6, 2) := by decide +kernel
theorem dX8_shifted_135 : decode cX8_shifted 135 = .ok (.aload_n 0, 1) := by decide +kernel
theorem dX8_shifted_136 : decode cX8_shifted 136 = .ok (.iload 4, 2) := by decide +kernel
theorem dX8_shifted_138 : decode cX8_shifted 138 = .ok (.iconst 3, 1) := by decide +kernel
theorem dX8_shifted_139 : decode cX8_shifted 139 = .ok (.invokevirtual 123, 3) := by decide +kernel
theorem dX8_shifted_142 : decode cX8_shifted 142 = .ok (.invokevirtual 111, 3) := by decide +kernel
theorem dX8_shifted_145 : decode cX8_shifted 145 = .ok (.aload_n 0, 1) := by decide +kernel
theorem dX8_shifted_146 : decode cX8_shifted 146 = .ok (.iload_n 1, 1) := by decide +kernel
theorem dX8_shifted_147 : decode cX8_shifted 147 = .ok (.invokevirtual 115, 3) := by decide +kernel
theorem dX8_shifted_150 : decode cX8_shifted 150 = .ok (.ireturn, 1) := by decide +kernel
theorem dX8_worthed_0 : decode cX8_worthed 0 = .ok (.aload_n 0, 1) := by decide +kernel
theorem dX8_worthed_1 : decode cX8_worthed 1 = .ok (.iconst 0, 1) := by decide +kernel
theorem dX8_worthed_2 : decode cX8_worthed 2 = .ok (.putfield 1, 3) := by decide +kernel
theorem dX8_worthed_5 : decode cX8_worthed 5 = .ok (.iload_n 1, 1) := by decide +kernel
theorem dX8_worthed_6 : decode cX8_worthed 6 = .ok (.invokestatic 101, 3) := by decide +kernel
theorem dX8_worthed_9 : decode cX8_worthed 9 = .ok (.ifCond .eq 22, 3) := by decide +kernel
theorem dX8_worthed_12 : decode cX8_worthed 12 = .ok (.iload_n 2, 1) := by decide +kernel
theorem dX8_worthed_13 : decode cX8_worthed 13 = .ok (.invokestatic 104, 3) := by decide +kernel
theorem dX8_worthed_16 : decode cX8_worthed 16 = .ok (.ifCond .eq 15, 3) := by decide +kernel
theorem dX8_worthed_19 : decode cX8_worthed 19 = .ok (.iload_n 3, 1) := by decide +kernel
theorem dX8_worthed_20 : decode cX8_worthed 20 = .ok (.i2l, 1) := by decide +kernel
theorem dX8_worthed_21 : decode cX8_worthed 21 = .ok (.lconst 0, 1) := by decide +kernel
theorem dX8_worthed_22 : decode cX8_worthed 22 = .ok (.ldc2_w 109, 3) := by decide +kernel
theorem dX8_worthed_25 : decode cX8_worthed 25 = .ok (.invokestatic 60, 3) := by decide +kernel
theorem dX8_worthed_28 : decode cX8_worthed 28 = .ok (.ifCond .ne 5, 3) := by decide +kernel
theorem dX8_worthed_31 : decode cX8_worthed 31 = .ok (.iconst 1, 1) := by decide +kernel
theorem dX8_worthed_32 : decode cX8_worthed 32 = .ok (.ireturn, 1) := by decide +kernel
theorem dX8_worthed_33 : decode cX8_worthed 33 = .ok (.aload_n 0, 1) := by decide +kernel
theorem dX8_worthed_34 : decode cX8_worthed 34 = .ok (.getfield 13, 3) := by decide +kernel
theorem dX8_worthed_37 : decode cX8_worthed 37 = .ok (.iload_n 1, 1) := by decide +kernel
theorem dX8_worthed_38 : decode cX8_worthed 38 = .ok (.iload_n 2, 1) := by decide +kernel
theorem dX8_worthed_39 : decode cX8_worthed 39 = .ok (.invokestatic 74, 3) := by decide +kernel
theorem dX8_worthed_42 : decode cX8_worthed 42 = .ok (.istore 4, 2) := by decide +kernel
theorem dX8_worthed_44 : decode cX8_worthed 44 = .ok (.iload 4, 2) := by decide +kernel
theorem dX8_worthed_46 : decode cX8_worthed 46 = .ok (.iconst (-1), 1) := by decide +kernel
theorem dX8_worthed_47 : decode cX8_worthed 47 = .ok (.if_icmp .ne 5, 3) := by decide +kernel
theorem dX8_worthed_50 : decode cX8_worthed 50 = .ok (.iconst 2, 1) := by decide +kernel
theorem dX8_worthed_51 : decode cX8_worthed 51 = .ok (.ireturn, 1) := by decide +kernel
theorem dX8_worthed_52 : decode cX8_worthed 52 = .ok (.aload_n 0, 1) := by decide +kernel
theorem dX8_worthed_53 : decode cX8_worthed 53 = .ok (.iload 4, 2) := by decide +kernel
theorem dX8_worthed_55 : decode cX8_worthed 55 = .ok (.iconst 1, 1) := by decide +kernel
theorem dX8_worthed_56 : decode cX8_worthed 56 = .ok (.invokevirtual 123, 3) := by decide +kernel
theorem dX8_worthed_59 : decode cX8_worthed 59 = .ok (.aload_n 0, 1) := by decide +kernel
theorem dX8_worthed_60 : decode cX8_worthed 60 = .ok (.getfield 13, 3) := by decide +kernel
theorem dX8_worthed_63 : decode cX8_worthed 63 = .ok (.iconst 1, 1) := by decide +kernel
theorem dX8_worthed_64 : decode cX8_worthed 64 = .ok (.iaload, 1) := by decide +kernel
theorem dX8_worthed_65 : decode cX8_worthed 65 = .ok (.if_icmp .ge 5, 3) := by decide +kernel
theorem dX8_worthed_68 : decode cX8_worthed 68 = .ok (.iconst 3, 1) := by decide +kernel
theorem dX8_worthed_69 : decode cX8_worthed 69 = .ok (.ireturn, 1) := by decide +kernel
theorem dX8_worthed_70 : decode cX8_worthed 70 = .ok (.aload_n 0, 1) := by decide +kernel
theorem dX8_worthed_71 : decode cX8_worthed 71 = .ok (.iload 4, 2) := by decide +kernel
theorem dX8_worthed_73 : decode cX8_worthed 73 = .ok (.iconst 3, 1) := by decide +kernel
theorem dX8_worthed_74 : decode cX8_worthed 74 = .ok (.invokevirtual 123, 3) := by decide +kernel
theorem dX8_worthed_77 : decode cX8_worthed 77 = .ok (.iload_n 3, 1) := by decide +kernel
theorem dX8_worthed_78 : decode cX8_worthed 78 = .ok (.if_icmp .ne 6, 3) := by decide +kernel
theorem dX8_worthed_81 : decode cX8_worthed 81 = .ok (.bipush 6, 2) := by decide +kernel
theorem dX8_worthed_83 : decode cX8_worthed 83 = .ok (.ireturn, 1) := by decide +kernel
theorem dX8_worthed_84 : decode cX8_worthed 84 = .ok (.aload_n 0, 1) := by decide +kernel
theorem dX8_worthed_85 : decode cX8_worthed 85 = .ok (.getfield 13, 3) := by decide +kernel
theorem dX8_worthed_88 : decode cX8_worthed 88 = .ok (.iconst 0, 1) := by decide +kernel
theorem dX8_worthed_89 : decode cX8_worthed 89 = .ok (.aload_n 0, 1) := by decide +kernel
theorem dX8_worthed_90 : decode cX8_worthed 90 = .ok (.getfield 17, 3) := by decide +kernel
theorem dX8_worthed_93 : decode cX8_worthed 93 = .ok (.iconst 0, 1) := by decide +kernel
theorem dX8_worthed_94 : decode cX8_worthed 94 = .ok (.invokestatic 97, 3) := by decide +kernel
theorem dX8_worthed_97 : decode cX8_worthed 97 = .ok (.aload_n 0, 1) := by decide +kernel
theorem dX8_worthed_98 : decode cX8_worthed 98 = .ok (.iload 4, 2) := by decide +kernel
theorem dX8_worthed_100 : decode cX8_worthed 100 = .ok (.iload_n 1, 1) := by decide +kernel
theorem dX8_worthed_101 : decode cX8_worthed 101 = .ok (.aload_n 0, 1) := by decide +kernel
theorem dX8_worthed_102 : decode cX8_worthed 102 = .ok (.iload 4, 2) := by decide +kernel
theorem dX8_worthed_104 : decode cX8_worthed 104 = .ok (.iconst 1, 1) := by decide +kernel
theorem dX8_worthed_105 : decode cX8_worthed 105 = .ok (.invokevirtual 123, 3) := by decide +kernel
theorem dX8_worthed_108 : decode cX8_worthed 108 = .ok (.aload_n 0, 1) := by decide +kernel
theorem dX8_worthed_109 : decode cX8_worthed 109 = .ok (.iload 4, 2) := by decide +kernel
theorem dX8_worthed_111 : decode cX8_worthed 111 = .ok (.iconst 2, 1) := by decide +kernel
theorem dX8_worthed_112 : decode cX8_worthed 112 = .ok (.invokevirtual 123, 3) := by decide +kernel
theorem dX8_worthed_115 : decode cX8_worthed 115 = .ok (.iload_n 3, 1) := by decide +kernel
theorem dX8_worthed_116 : decode cX8_worthed 116 = .ok (.invokevirtual 111, 3) := by decide +kernel
theorem dX8_worthed_119 : decode cX8_worthed 119 = .ok (.aload_n 0, 1) := by decide +kernel
theorem dX8_worthed_120 : decode cX8_worthed 120 = .ok (.invokevirtual 91, 3) := by decide +kernel
theorem dX8_worthed_123 : decode cX8_worthed 123 = .ok (.iconst 0, 1) := by decide +kernel
theorem dX8_worthed_124 : decode cX8_worthed 124 = .ok (.ireturn, 1) := by decide +kernel
theorem dX8_lock_0 : decode cX8_lock 0 = .ok (.aload_n 0, 1) := by decide +kernel
theorem dX8_lock_1 : decode cX8_lock 1 = .ok (.iconst 0, 1) := by decide +kernel
theorem dX8_lock_2 : decode cX8_lock 2 = .ok (.putfield 1, 3) := by decide +kernel
theorem dX8_lock_5 : decode cX8_lock 5 = .ok (.iload_n 1, 1) := by decide +kernel
theorem dX8_lock_6 : decode cX8_lock 6 = .ok (.i2l, 1) := by decide +kernel
theorem dX8_lock_7 : decode cX8_lock 7 = .ok (.lconst 0, 1) := by decide +kernel
theorem dX8_lock_8 : decode cX8_lock 8 = .ok (.ldc2_w 107, 3) := by decide +kernel
theorem dX8_lock_11 : decode cX8_lock 11 = .ok (.invokestatic 60, 3) := by decide +kernel
theorem dX8_lock_14 : decode cX8_lock 14 = .ok (.ifCond .ne 5, 3) := by decide +kernel
theorem dX8_lock_17 : decode cX8_lock 17 = .ok (.iconst (-1), 1) := by decide +kernel
theorem dX8_lock_18 : decode cX8_lock 18 = .ok (.ireturn, 1) := by decide +kernel
theorem dX8_lock_19 : decode cX8_lock 19 = .ok (.aload_n 0, 1) := by decide +kernel
theorem dX8_lock_20 : decode cX8_lock 20 = .ok (.getfield 13, 3) := by decide +kernel
theorem dX8_lock_23 : decode cX8_lock 23 = .ok (.iconst 1, 1) := by decide +kernel
theorem dX8_lock_24 : decode cX8_lock 24 = .ok (.iaload, 1) := by decide +kernel
theorem dX8_lock_25 : decode cX8_lock 25 = .ok (.istore_n 2, 1) := by decide +kernel
theorem dX8_lock_26 : decode cX8_lock 26 = .ok (.aload_n 0, 1) := by decide +kernel
theorem dX8_lock_27 : decode cX8_lock 27 = .ok (.getfield 13, 3) := by decide +kernel
theorem dX8_lock_30 : decode cX8_lock 30 = .ok (.iconst 1, 1) := by decide +kernel
theorem dX8_lock_31 : decode cX8_lock 31 = .ok (.iload_n 1, 1) := by decide +kernel
theorem dX8_lock_32 : decode cX8_lock 32 = .ok (.iastore, 1) := by decide +kernel
theorem dX8_lock_33 : decode cX8_lock 33 = .ok (.iload_n 2, 1) := by decide +kernel
theorem dX8_lock_34 : decode cX8_lock 34 = .ok (.ireturn, 1) := by decide +kernel
theorem dX8_undo_0 : decode cX8_undo 0 = .ok (.aload_n 0, 1) := by decide +kernel
theorem dX8_undo_1 : decode cX8_undo 1 = .ok (.iconst 0, 1) := by decide +kernel
theorem dX8_undo_2 : decode cX8_undo 2 = .ok (.putfield 1, 3) := by decide +kernel
theorem dX8_undo_5 : decode cX8_undo 5 = .ok (.aload_n 0, 1) := by decide +kernel
theorem dX8_undo_6 : decode cX8_undo 6 = .ok (.getfield 94, 3) := by decide +kernel
theorem dX8_undo_9 : decode cX8_undo 9 = .ok (.ifCond .ne 5, 3) := by decide +kernel
theorem dX8_undo_12 : decode cX8_undo 12 = .ok (.iconst (-1), 1) := by decide +kernel
theorem dX8_undo_13 : decode cX8_undo 13 = .ok (.ireturn, 1) := by decide +kernel
theorem dX8_undo_14 : decode cX8_undo 14 = .ok (.aload_n 0, 1) := by decide +kernel
theorem dX8_undo_15 : decode cX8_undo 15 = .ok (.dup, 1) := by decide +kernel
theorem dX8_undo_16 : decode cX8_undo 16 = .ok (.getfield 94, 3) := by decide +kernel
theorem dX8_undo_19 : decode cX8_undo 19 = .ok (.iconst 1, 1) := by decide +kernel
theorem dX8_undo_20 : decode cX8_undo 20 = .ok (.isub, 1) := by decide +kernel
theorem dX8_undo_21 : decode cX8_undo 21 = .ok (.putfield 94, 3) := by decide +kernel
theorem dX8_undo_24 : decode cX8_undo 24 = .ok (.aload_n 0, 1) := by decide +kernel
theorem dX8_undo_25 : decode cX8_undo 25 = .ok (.getfield 20, 3) := by decide +kernel
theorem dX8_undo_28 : decode cX8_undo 28 = .ok (.sipush 166, 3) := by decide +kernel
theorem dX8_undo_31 : decode cX8_undo 31 = .ok (.aload_n 0, 1) := by decide +kernel
theorem dX8_undo_32 : decode cX8_undo 32 = .ok (.getfield 94, 3) := by decide +kernel
theorem dX8_undo_35 : decode cX8_undo 35 = .ok (.imul, 1) := by decide +kernel
theorem dX8_undo_36 : decode cX8_undo 36 = .ok (.aload_n 0, 1) := by decide +kernel
theorem dX8_undo_37 : decode cX8_undo 37 = .ok (.getfield 13, 3) := by decide +kernel
theorem dX8_undo_40 : decode cX8_undo 40 = .ok (.iconst 0, 1) := by decide +kernel
theorem dX8_undo_41 : decode cX8_undo 41 = .ok (.invokestatic 97, 3) := by decide +kernel
theorem dX8_undo_44 : decode cX8_undo 44 = .ok (.aload_n 0, 1) := by decide +kernel
theorem dX8_undo_45 : decode cX8_undo 45 = .ok (.getfield 94, 3) := by decide +kernel
theorem dX8_undo_48 : decode cX8_undo 48 = .ok (.ireturn, 1) := by decide +kernel
theorem dX8_keep_0 : decode cX8_keep 0 = .ok (.aload_n 0, 1) := by decide +kernel
theorem dX8_keep_1 : decode cX8_keep 1 = .ok (.iconst 0, 1) := by decide +kernel
theorem dX8_keep_2 : decode cX8_keep 2 = .ok (.putfield 1, 3) := by decide +kernel
theorem dX8_keep_5 : decode cX8_keep 5 = .ok (.iload_n 1, 1) := by decide +kernel
theorem dX8_keep_6 : decode cX8_keep 6 = .ok (.i2l, 1) := by decide +kernel
theorem dX8_keep_7 : decode cX8_keep 7 = .ok (.lconst 0, 1) := by decide +kernel
theorem dX8_keep_8 : decode cX8_keep 8 = .ok (.lconst 1, 1) := by decide +kernel
theorem dX8_keep_9 : decode cX8_keep 9 = .ok (.invokestatic 60, 3) := by decide +kernel
theorem dX8_keep_12 : decode cX8_keep 12 = .ok (.ifCond .eq 16, 3) := by decide +kernel
theorem dX8_keep_15 : decode cX8_keep 15 = .ok (.iload_n 2, 1) := by decide +kernel
theorem dX8_keep_16 : decode cX8_keep 16 = .ok (.ifCond .eq 14, 3) := by decide +kernel
theorem dX8_keep_19 : decode cX8_keep 19 = .ok (.aload_n 0, 1) := by decide +kernel
theorem dX8_keep_20 : decode cX8_keep 20 = .ok (.getfield 26, 3) := by decide +kernel
theorem dX8_keep_23 : decode cX8_keep 23 = .ok (.iload_n 1, 1) := by decide +kernel
theorem dX8_keep_24 : decode cX8_keep 24 = .ok (.baload, 1) := by decide +kernel
theorem dX8_keep_25 : decode cX8_keep 25 = .ok (.ifCond .ne 5, 3) := by decide +kernel
theorem dX8_keep_28 : decode cX8_keep 28 = .ok (.iconst 0, 1) := by decide +kernel
theorem dX8_keep_29 : decode cX8_keep 29 = .ok (.ireturn, 1) := by decide +kernel
theorem dX8_keep_30 : decode cX8_keep 30 = .ok (.iload_n 2, 1) := by decide +kernel
theorem dX8_keep_31 : decode cX8_keep 31 = .ok (.ifCond .eq 28, 3) := by decide +kernel
theorem dX8_keep_34 : decode cX8_keep 34 = .ok (.aload_n 0, 1) := by decide +kernel
theorem dX8_keep_35 : decode cX8_keep 35 = .ok (.getfield 23, 3) := by decide +kernel
theorem dX8_keep_38 : decode cX8_keep 38 = .ok (.sipush 166, 3) := by decide +kernel
theorem dX8_keep_41 : decode cX8_keep 41 = .ok (.iload_n 1, 1) := by decide +kernel
theorem dX8_keep_42 : decode cX8_keep 42 = .ok (.imul, 1) := by decide +kernel
theorem dX8_keep_43 : decode cX8_keep 43 = .ok (.aload_n 0, 1) := by decide +kernel
theorem dX8_keep_44 : decode cX8_keep 44 = .ok (.getfield 13, 3) := by decide +kernel
theorem dX8_keep_47 : decode cX8_keep 47 = .ok (.iconst 0, 1) := by decide +kernel
theorem dX8_keep_48 : decode cX8_keep 48 = .ok (.invokestatic 97, 3) := by decide +kernel
theorem dX8_keep_51 : decode cX8_keep 51 = .ok (.aload_n 0, 1) := by decide +kernel
theorem dX8_keep_52 : decode cX8_keep 52 = .ok (.iconst 0, 1) := by decide +kernel
theorem dX8_keep_53 : decode cX8_keep 53 = .ok (.putfield 94, 3) := by decide +kernel
theorem dX8_keep_56 : decode cX8_keep 56 = .ok (.goto 27, 3) := by decide +kernel
theorem dX8_keep_59 : decode cX8_keep 59 = .ok (.aload_n 0, 1) := by decide +kernel
theorem dX8_keep_60 : decode cX8_keep 60 = .ok (.getfield 13, 3) := by decide +kernel
theorem dX8_keep_63 : decode cX8_keep 63 = .ok (.iconst 0, 1) := by decide +kernel
theorem dX8_keep_64 : decode cX8_keep 64 = .ok (.aload_n 0, 1) := by decide +kernel
theorem dX8_keep_65 : decode cX8_keep 65 = .ok (.getfield 23, 3) := by decide +kernel
theorem dX8_keep_68 : decode cX8_keep 68 = .ok (.sipush 166, 3) := by decide +kernel
theorem dX8_keep_71 : decode cX8_keep 71 = .ok (.iload_n 1, 1) := by decide +kernel
theorem dX8_keep_72 : decode cX8_keep 72 = .ok (.imul, 1) := by decide +kernel
theorem dX8_keep_73 : decode cX8_keep 73 = .ok (.invokestatic 97, 3) := by decide +kernel
theorem dX8_keep_76 : decode cX8_keep 76 = .ok (.aload_n 0, 1) := by decide +kernel
theorem dX8_keep_77 : decode cX8_keep 77 = .ok (.getfield 26, 3) := by decide +kernel
theorem dX8_keep_80 : decode cX8_keep 80 = .ok (.iload_n 1, 1) := by decide +kernel
theorem dX8_keep_81 : decode cX8_keep 81 = .ok (.iconst 1, 1) := by decide +kernel
theorem dX8_keep_82 : decode cX8_keep 82 = .ok (.bastore, 1) := by decide +kernel
theorem dX8_keep_83 : decode cX8_keep 83 = .ok (.iconst 1, 1) := by decide +kernel
theorem dX8_keep_84 : decode cX8_keep 84 = .ok (.ireturn, 1) := by decide +kernel
theorem dX8_feed_0 : decode cX8_feed 0 = .ok (.aload_n 0, 1) := by decide +kernel
theorem dX8_feed_1 : decode cX8_feed 1 = .ok (.iconst 0, 1) := by decide +kernel
theorem dX8_feed_2 : decode cX8_feed 2 = .ok (.putfield 1, 3) := by decide +kernel
theorem dX8_feed_5 : decode cX8_feed 5 = .ok (.aload_n 0, 1) := by decide +kernel
theorem dX8_feed_6 : decode cX8_feed 6 = .ok (.getfield 137, 3) := by decide +kernel
theorem dX8_feed_9 : decode cX8_feed 9 = .ok (.bipush 20, 2) := by decide +kernel
theorem dX8_feed_11 : decode cX8_feed 11 = .ok (.iadd, 1) := by decide +kernel
theorem dX8_feed_12 : decode cX8_feed 12 = .ok (.sipush 600, 3) := by decide +kernel
theorem dX8_feed_15 : decode cX8_feed 15 = .ok (.if_icmp .le 5, 3) := by decide +kernel
theorem dX8_feed_18 : decode cX8_feed 18 = .ok (.iconst (-1), 1) := by decide +kernel
theorem dX8_feed_19 : decode cX8_feed 19 = .ok (.ireturn, 1) := by decide +kernel
theorem dX8_feed_20 : decode cX8_feed 20 = .ok (.aload_n 0, 1) := by decide +kernel
theorem dX8_feed_21 : decode cX8_feed 21 = .ok (.iload_n 1, 1) := by decide +kernel
theorem dX8_feed_22 : decode cX8_feed 22 = .ok (.invokevirtual 140, 3) := by decide +kernel
theorem dX8_feed_25 : decode cX8_feed 25 = .ok (.aload_n 0, 1) := by decide +kernel
theorem dX8_feed_26 : decode cX8_feed 26 = .ok (.iload_n 2, 1) := by decide +kernel
theorem dX8_feed_27 : decode cX8_feed 27 = .ok (.invokevirtual 140, 3) := by decide +kernel
theorem dX8_feed_30 : decode cX8_feed 30 = .ok (.aload_n 0, 1) := by decide +kernel
theorem dX8_feed_31 : decode cX8_feed 31 = .ok (.iload_n 3, 1) := by decide +kernel
theorem dX8_feed_32 : decode cX8_feed 32 = .ok (.invokevirtual 140, 3) := by decide +kernel
theorem dX8_feed_35 : decode cX8_feed 35 = .ok (.aload_n 0, 1) := by decide +kernel
theorem dX8_feed_36 : decode cX8_feed 36 = .ok (.iload 4, 2) := by decide +kernel
theorem dX8_feed_38 : decode cX8_feed 38 = .ok (.invokevirtual 140, 3) := by decide +kernel
theorem dX8_feed_41 : decode cX8_feed 41 = .ok (.aload_n 0, 1) := by decide +kernel
theorem dX8_feed_42 : decode cX8_feed 42 = .ok (.iload 5, 2) := by decide +kernel
theorem dX8_feed_44 : decode cX8_feed 44 = .ok (.invokevirtual 140, 3) := by decide +kernel
theorem dX8_feed_47 : decode cX8_feed 47 = .ok (.aload_n 0, 1) := by decide +kernel
theorem dX8_feed_48 : decode cX8_feed 48 = .ok (.getfield 137, 3) := by decide +kernel
theorem dX8_feed_51 : decode cX8_feed 51 = .ok (.ireturn, 1) := by decide +kernel
theorem dX8_four_0 : decode cX8_four 0 = .ok (.bipush 24, 2) := by decide +kernel
theorem dX8_four_2 : decode cX8_four 2 = .ok (.istore_n 2, 1) := by decide +kernel
theorem dX8_four_3 : decode cX8_four 3 = .ok (.iload_n 2, 1) := by decide +kernel
theorem dX8_four_4 : decode cX8_four 4 = .ok (.ifCond .lt 32, 3) := by decide +kernel
theorem dX8_four_7 : decode cX8_four 7 = .ok (.aload_n 0, 1) := by decide +kernel
theorem dX8_four_8 : decode cX8_four 8 = .ok (.getfield 30, 3) := by decide +kernel
theorem dX8_four_11 : decode cX8_four 11 = .ok (.aload_n 0, 1) := by decide +kernel
theorem dX8_four_12 : decode cX8_four 12 = .ok (.getfield 137, 3) := by decide +kernel
theorem dX8_four_15 : decode cX8_four 15 = .ok (.iload_n 1, 1) := by decide +kernel
theorem dX8_four_16 : decode cX8_four 16 = .ok (.iload_n 2, 1) := by decide +kernel
theorem dX8_four_17 : decode cX8_four 17 = .ok (.ishr, 1) := by decide +kernel
theorem dX8_four_18 : decode cX8_four 18 = .ok (.i2b, 1) := by decide +kernel
theorem dX8_four_19 : decode cX8_four 19 = .ok (.bastore, 1) := by decide +kernel
theorem dX8_four_20 : decode cX8_four 20 = .ok (.aload_n 0, 1) := by decide +kernel
theorem dX8_four_21 : decode cX8_four 21 = .ok (.dup, 1) := by decide +kernel
theorem dX8_four_22 : decode cX8_four 22 = .ok (.getfield 137, 3) := by decide +kernel
theorem dX8_four_25 : decode cX8_four 25 = .ok (.iconst 1, 1) := by decide +kernel
theorem dX8_four_26 : decode cX8_four 26 = .ok (.iadd, 1) := by decide +kernel
theorem dX8_four_27 : decode cX8_four 27 = .ok (.putfield 137, 3) := by decide +kernel
theorem dX8_four_30 : decode cX8_four 30 = .ok (.iinc 2 (-8), 3) := by decide +kernel
theorem dX8_four_33 : decode cX8_four 33 = .ok (.goto (-30), 3) := by decide +kernel
theorem dX8_four_36 : decode cX8_four 36 = .ok (.return_, 1) := by decide +kernel
theorem dX8_byteAt_0 : decode cX8_byteAt 0 = .ok (.iload_n 1, 1) := by decide +kernel
theorem dX8_byteAt_1 : decode cX8_byteAt 1 = .ok (.aload_n 0, 1) := by decide +kernel
theorem dX8_byteAt_2 : decode cX8_byteAt 2 = .ok (.getfield 143, 3) := by decide +kernel
theorem dX8_byteAt_5 : decode cX8_byteAt 5 = .ok (.if_icmp .ge 16, 3) := by decide +kernel
theorem dX8_byteAt_8 : decode cX8_byteAt 8 = .ok (.aload_n 0, 1) := by decide +kernel
theorem dX8_byteAt_9 : decode cX8_byteAt 9 = .ok (.getfield 30, 3) := by decide +kernel
