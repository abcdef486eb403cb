theorem dX6_init_0 : decode cX6_init 0 = .ok (.aload_n 0, 1) := by decide +kernel
theorem dX6_init_1 : decode cX6_init 1 = .ok (.invokespecial 3, 3) := by decide +kernel
theorem dX6_init_4 : decode cX6_init 4 = .ok (.aload_n 0, 1) := by decide +kernel
theorem dX6_init_5 : decode cX6_init 5 = .ok (.sipush 600, 3) := by decide +kernel
theorem dX6_init_8 : decode cX6_init 8 = .ok (.newarray .int, 2) := by decide +kernel
theorem dX6_init_10 : decode cX6_init 10 = .ok (.putfield 9, 3) := by decide +kernel
theorem dX6_init_13 : decode cX6_init 13 = .ok (.aload_n 0, 1) := by decide +kernel
theorem dX6_init_14 : decode cX6_init 14 = .ok (.iconst 0, 1) := by decide +kernel
theorem dX6_init_15 : decode cX6_init 15 = .ok (.putfield 15, 3) := by decide +kernel
theorem dX6_init_18 : decode cX6_init 18 = .ok (.aload_n 0, 1) := by decide +kernel
theorem dX6_init_19 : decode cX6_init 19 = .ok (.sipush 601, 3) := by decide +kernel
theorem dX6_init_22 : decode cX6_init 22 = .ok (.anewarray 19, 3) := by decide +kernel
theorem dX6_init_25 : decode cX6_init 25 = .ok (.putfield 21, 3) := by decide +kernel
theorem dX6_init_28 : decode cX6_init 28 = .ok (.aload_n 0, 1) := by decide +kernel
theorem dX6_init_29 : decode cX6_init 29 = .ok (.sipush 601, 3) := by decide +kernel
theorem dX6_init_32 : decode cX6_init 32 = .ok (.newarray .int, 2) := by decide +kernel
theorem dX6_init_34 : decode cX6_init 34 = .ok (.putfield 25, 3) := by decide +kernel
theorem dX6_init_37 : decode cX6_init 37 = .ok (.aload_n 0, 1) := by decide +kernel
theorem dX6_init_38 : decode cX6_init 38 = .ok (.sipush 601, 3) := by decide +kernel
theorem dX6_init_41 : decode cX6_init 41 = .ok (.newarray .int, 2) := by decide +kernel
theorem dX6_init_43 : decode cX6_init 43 = .ok (.putfield 28, 3) := by decide +kernel
theorem dX6_init_46 : decode cX6_init 46 = .ok (.aload_n 0, 1) := by decide +kernel
theorem dX6_init_47 : decode cX6_init 47 = .ok (.iconst 0, 1) := by decide +kernel
theorem dX6_init_48 : decode cX6_init 48 = .ok (.putfield 31, 3) := by decide +kernel
theorem dX6_init_51 : decode cX6_init 51 = .ok (.aload_n 0, 1) := by decide +kernel
theorem dX6_init_52 : decode cX6_init 52 = .ok (.iconst 0, 1) := by decide +kernel
theorem dX6_init_53 : decode cX6_init 53 = .ok (.putfield 34, 3) := by decide +kernel
theorem dX6_init_56 : decode cX6_init 56 = .ok (.aload_n 0, 1) := by decide +kernel
theorem dX6_init_57 : decode cX6_init 57 = .ok (.iconst 0, 1) := by decide +kernel
theorem dX6_init_58 : decode cX6_init 58 = .ok (.putfield 37, 3) := by decide +kernel
theorem dX6_init_61 : decode cX6_init 61 = .ok (.aload_n 0, 1) := by decide +kernel
theorem dX6_init_62 : decode cX6_init 62 = .ok (.iconst 0, 1) := by decide +kernel
theorem dX6_init_63 : decode cX6_init 63 = .ok (.putfield 40, 3) := by decide +kernel
theorem dX6_init_66 : decode cX6_init 66 = .ok (.return_, 1) := by decide +kernel
theorem dX6_length_0 : decode cX6_length 0 = .ok (.aload_n 0, 1) := by decide +kernel
theorem dX6_length_1 : decode cX6_length 1 = .ok (.getfield 15, 3) := by decide +kernel
theorem dX6_length_4 : decode cX6_length 4 = .ok (.ireturn, 1) := by decide +kernel
theorem dX6_addFour_0 : decode cX6_addFour 0 = .ok (.aload_n 0, 1) := by decide +kernel
theorem dX6_addFour_1 : decode cX6_addFour 1 = .ok (.iload_n 1, 1) := by decide +kernel
theorem dX6_addFour_2 : decode cX6_addFour 2 = .ok (.bipush 24, 2) := by decide +kernel
theorem dX6_addFour_4 : decode cX6_addFour 4 = .ok (.iushr, 1) := by decide +kernel
theorem dX6_addFour_5 : decode cX6_addFour 5 = .ok (.invokevirtual 43, 3) := by decide +kernel
theorem dX6_addFour_8 : decode cX6_addFour 8 = .ok (.aload_n 0, 1) := by decide +kernel
theorem dX6_addFour_9 : decode cX6_addFour 9 = .ok (.iload_n 1, 1) := by decide +kernel
theorem dX6_addFour_10 : decode cX6_addFour 10 = .ok (.bipush 16, 2) := by decide +kernel
theorem dX6_addFour_12 : decode cX6_addFour 12 = .ok (.iushr, 1) := by decide +kernel
theorem dX6_addFour_13 : decode cX6_addFour 13 = .ok (.invokevirtual 43, 3) := by decide +kernel
theorem dX6_addFour_16 : decode cX6_addFour 16 = .ok (.aload_n 0, 1) := by decide +kernel
theorem dX6_addFour_17 : decode cX6_addFour 17 = .ok (.iload_n 1, 1) := by decide +kernel
theorem dX6_addFour_18 : decode cX6_addFour 18 = .ok (.bipush 8, 2) := by decide +kernel
theorem dX6_addFour_20 : decode cX6_addFour 20 = .ok (.iushr, 1) := by decide +kernel
theorem dX6_addFour_21 : decode cX6_addFour 21 = .ok (.invokevirtual 43, 3) := by decide +kernel
theorem dX6_addFour_24 : decode cX6_addFour 24 = .ok (.aload_n 0, 1) := by decide +kernel
theorem dX6_addFour_25 : decode cX6_addFour 25 = .ok (.iload_n 1, 1) := by decide +kernel
theorem dX6_addFour_26 : decode cX6_addFour 26 = .ok (.invokevirtual 43, 3) := by decide +kernel
theorem dX6_addFour_29 : decode cX6_addFour 29 = .ok (.return_, 1) := by decide +kernel
theorem dX6_addByte_0 : decode cX6_addByte 0 = .ok (.aload_n 0, 1) := by decide +kernel
theorem dX6_addByte_1 : decode cX6_addByte 1 = .ok (.getfield 15, 3) := by decide +kernel
theorem dX6_addByte_4 : decode cX6_addByte 4 = .ok (.ifCond .lt 37, 3) := by decide +kernel
theorem dX6_addByte_7 : decode cX6_addByte 7 = .ok (.aload_n 0, 1) := by decide +kernel
theorem dX6_addByte_8 : decode cX6_addByte 8 = .ok (.getfield 15, 3) := by decide +kernel
theorem dX6_addByte_11 : decode cX6_addByte 11 = .ok (.sipush 600, 3) := by decide +kernel
theorem dX6_addByte_14 : decode cX6_addByte 14 = .ok (.if_icmp .ge 27, 3) := by decide +kernel
theorem dX6_addByte_17 : decode cX6_addByte 17 = .ok (.aload_n 0, 1) := by decide +kernel
theorem dX6_addByte_18 : decode cX6_addByte 18 = .ok (.getfield 9, 3) := by decide +kernel
theorem dX6_addByte_21 : decode cX6_addByte 21 = .ok (.aload_n 0, 1) := by decide +kernel
theorem dX6_addByte_22 : decode cX6_addByte 22 = .ok (.getfield 15, 3) := by decide +kernel
theorem dX6_addByte_25 : decode cX6_addByte 25 = .ok (.iload_n 1, 1) := by decide +kernel
theorem dX6_addByte_26 : decode cX6_addByte 26 = .ok (.sipush 255, 3) := by decide +kernel
theorem dX6_addByte_29 : decode cX6_addByte 29 = .ok (.iand, 1) := by decide +kernel
theorem dX6_addByte_30 : decode cX6_addByte 30 = .ok (.iastore, 1) := by decide +kernel
theorem dX6_addByte_31 : decode cX6_addByte 31 = .ok (.aload_n 0, 1) := by decide +kernel
theorem dX6_addByte_32 : decode cX6_addByte 32 = .ok (.dup, 1) := by decide +kernel
theorem dX6_addByte_33 : decode cX6_addByte 33 = .ok (.getfield 15, 3) := by decide +kernel
theorem dX6_addByte_36 : decode cX6_addByte 36 = .ok (.iconst 1, 1) := by decide +kernel
theorem dX6_addByte_37 : decode cX6_addByte 37 = .ok (.iadd, 1) := by decide +kernel
theorem dX6_addByte_38 : decode cX6_addByte 38 = .ok (.putfield 15, 3) := by decide +kernel
theorem dX6_addByte_41 : decode cX6_addByte 41 = .ok (.return_, 1) := by decide +kernel
theorem dX6_cut_0 : decode cX6_cut 0 = .ok (.iconst 0, 1) := by decide +kernel
theorem dX6_cut_1 : decode cX6_cut 1 = .ok (.iload_n 1, 1) := by decide +kernel
theorem dX6_cut_2 : decode cX6_cut 2 = .ok (.aload_n 0, 1) := by decide +kernel
theorem dX6_cut_3 : decode cX6_cut 3 = .ok (.getfield 15, 3) := by decide +kernel
theorem dX6_cut_6 : decode cX6_cut 6 = .ok (.invokestatic 47, 3) := by decide +kernel
theorem dX6_cut_9 : decode cX6_cut 9 = .ok (.invokestatic 53, 3) := by decide +kernel
theorem dX6_cut_12 : decode cX6_cut 12 = .ok (.istore_n 2, 1) := by decide +kernel
theorem dX6_cut_13 : decode cX6_cut 13 = .ok (.aload_n 0, 1) := by decide +kernel
theorem dX6_cut_14 : decode cX6_cut 14 = .ok (.iconst 0, 1) := by decide +kernel
theorem dX6_cut_15 : decode cX6_cut 15 = .ok (.putfield 15, 3) := by decide +kernel
theorem dX6_cut_18 : decode cX6_cut 18 = .ok (.aload_n 0, 1) := by decide +kernel
theorem dX6_cut_19 : decode cX6_cut 19 = .ok (.iconst 0, 1) := by decide +kernel
theorem dX6_cut_20 : decode cX6_cut 20 = .ok (.putfield 31, 3) := by decide +kernel
theorem dX6_cut_23 : decode cX6_cut 23 = .ok (.aload_n 0, 1) := by decide +kernel
theorem dX6_cut_24 : decode cX6_cut 24 = .ok (.iconst 0, 1) := by decide +kernel
theorem dX6_cut_25 : decode cX6_cut 25 = .ok (.putfield 34, 3) := by decide +kernel
theorem dX6_cut_28 : decode cX6_cut 28 = .ok (.aload_n 0, 1) := by decide +kernel
theorem dX6_cut_29 : decode cX6_cut 29 = .ok (.iconst 0, 1) := by decide +kernel
theorem dX6_cut_30 : decode cX6_cut 30 = .ok (.putfield 37, 3) := by decide +kernel
theorem dX6_cut_33 : decode cX6_cut 33 = .ok (.aload_n 0, 1) := by decide +kernel
theorem dX6_cut_34 : decode cX6_cut 34 = .ok (.iconst 0, 1) := by decide +kernel
theorem dX6_cut_35 : decode cX6_cut 35 = .ok (.putfield 40, 3) := by decide +kernel
theorem dX6_cut_38 : decode cX6_cut 38 = .ok (.iconst 0, 1) := by decide +kernel
theorem dX6_cut_39 : decode cX6_cut 39 = .ok (.istore_n 3, 1) := by decide +kernel
theorem dX6_cut_40 : decode cX6_cut 40 = .ok (.iconst 0, 1) := by decide +kernel
theorem dX6_cut_41 : decode cX6_cut 41 = .ok (.istore 4, 2) := by decide +kernel
theorem dX6_cut_43 : decode cX6_cut 43 = .ok (.iload 4, 2) := by decide +kernel
theorem dX6_cut_45 : decode cX6_cut 45 = .ok (.iload_n 2, 1) := by decide +kernel
theorem dX6_cut_46 : decode cX6_cut 46 = .ok (.if_icmp .ge 85, 3) := by decide +kernel
theorem dX6_cut_49 : decode cX6_cut 49 = .ok (.iload 4, 2) := by decide +kernel
theorem dX6_cut_51 : decode cX6_cut 51 = .ok (.iload_n 3, 1) := by decide +kernel
theorem dX6_cut_52 : decode cX6_cut 52 = .ok (.if_icmp .lt 73, 3) := by decide +kernel
theorem dX6_cut_55 : decode cX6_cut 55 = .ok (.aload_n 0, 1) := by decide +kernel
theorem dX6_cut_56 : decode cX6_cut 56 = .ok (.iload 4, 2) := by decide +kernel
theorem dX6_cut_58 : decode cX6_cut 58 = .ok (.invokevirtual 56, 3) := by decide +kernel
theorem dX6_cut_61 : decode cX6_cut 61 = .ok (.invokestatic 60, 3) := by decide +kernel
theorem dX6_cut_64 : decode cX6_cut 64 = .ok (.ifCond .eq 6, 3) := by decide +kernel
theorem dX6_cut_67 : decode cX6_cut 67 = .ok (.goto 58, 3) := by decide +kernel
theorem dX6_cut_70 : decode cX6_cut 70 = .ok (.aload_n 0, 1) := by decide +kernel
theorem dX6_cut_71 : decode cX6_cut 71 = .ok (.iload 4, 2) := by decide +kernel
theorem dX6_cut_73 : decode cX6_cut 73 = .ok (.iload_n 2, 1) := by decide +kernel
theorem dX6_cut_74 : decode cX6_cut 74 = .ok (.invokevirtual 64, 3) := by decide +kernel
theorem dX6_cut_77 : decode cX6_cut 77 = .ok (.istore_n 3, 1) := by decide +kernel
theorem dX6_cut_78 : decode cX6_cut 78 = .ok (.aload_n 0, 1) := by decide +kernel
theorem dX6_cut_79 : decode cX6_cut 79 = .ok (.iload 4, 2) := by decide +kernel
theorem dX6_cut_81 : decode cX6_cut 81 = .ok (.iload_n 3, 1) := by decide +kernel
theorem dX6_cut_82 : decode cX6_cut 82 = .ok (.invokevirtual 67, 3) := by decide +kernel
theorem dX6_cut_85 : decode cX6_cut 85 = .ok (.astore 5, 2) := by decide +kernel
theorem dX6_cut_87 : decode cX6_cut 87 = .ok (.aload_n 0, 1) := by decide +kernel
theorem dX6_cut_88 : decode cX6_cut 88 = .ok (.aload 5, 2) := by decide +kernel
theorem dX6_cut_90 : decode cX6_cut 90 = .ok (.iload 4, 2) := by decide +kernel
theorem dX6_cut_92 : decode cX6_cut 92 = .ok (.aload 5, 2) := by decide +kernel
theorem dX6_cut_94 : decode cX6_cut 94 = .ok (.getstatic 71, 3) := by decide +kernel
theorem dX6_cut_97 : decode cX6_cut 97 = .ok (.if_acmp .ne 13, 3) := by decide +kernel
theorem dX6_cut_100 : decode cX6_cut 100 = .ok (.aload_n 0, 1) := by decide +kernel
theorem dX6_cut_101 : decode cX6_cut 101 = .ok (.iload 4, 2) := by decide +kernel
theorem dX6_cut_103 : decode cX6_cut 103 = .ok (.iload_n 3, 1) := by decide +kernel
theorem dX6_cut_104 : decode cX6_cut 104 = .ok (.invokevirtual 75, 3) := by decide +kernel
theorem dX6_cut_107 : decode cX6_cut 107 = .ok (.goto 4, 3) := by decide +kernel
theorem dX6_cut_110 : decode cX6_cut 110 = .ok (.iconst 0, 1) := by decide +kernel
theorem dX6_cut_111 : decode cX6_cut 111 = .ok (.invokevirtual 78, 3) := by decide +kernel
theorem dX6_cut_114 : decode cX6_cut 114 = .ok (.aload 5, 2) := by decide +kernel
theorem dX6_cut_116 : decode cX6_cut 116 = .ok (.getstatic 82, 3) := by decide +kernel
theorem dX6_cut_119 : decode cX6_cut 119 = .ok (.if_acmp .ne 6, 3) := by decide +kernel
theorem dX6_cut_122 : decode cX6_cut 122 = .ok (.goto 9, 3) := by decide +kernel
theorem dX6_cut_125 : decode cX6_cut 125 = .ok (.iinc 4 1, 3) := by decide +kernel
theorem dX6_cut_128 : decode cX6_cut 128 = .ok (.goto (-85), 3) := by decide +kernel
theorem dX6_cut_131 : decode cX6_cut 131 = .ok (.aload_n 0, 1) := by decide +kernel
theorem dX6_cut_132 : decode cX6_cut 132 = .ok (.getstatic 85, 3) := by decide +kernel
theorem dX6_cut_135 : decode cX6_cut 135 = .ok (.iload_n 2, 1) := by decide +kernel
theorem dX6_cut_136 : decode cX6_cut 136 = .ok (.iconst 0, 1) := by decide +kernel
theorem dX6_cut_137 : decode cX6_cut 137 = .ok (.invokevirtual 78, 3) := by decide +kernel
theorem dX6_cut_140 : decode cX6_cut 140 = .ok (.return_, 1) := by decide +kernel
theorem dX6_addToken_0 : decode cX6_addToken 0 = .ok (.aload_n 0, 1) := by decide +kernel
theorem dX6_addToken_1 : decode cX6_addToken 1 = .ok (.getfield 31, 3) := by decide +kernel
theorem dX6_addToken_4 : decode cX6_addToken 4 = .ok (.ifCond .lt 53, 3) := by decide +kernel
theorem dX6_addToken_7 : decode cX6_addToken 7 = .ok (.aload_n 0, 1) := by decide +kernel
theorem dX6_addToken_8 : decode cX6_addToken 8 = .ok (.getfield 31, 3) := by decide +kernel
theorem dX6_addToken_11 : decode cX6_addToken 11 = .ok (.sipush 600, 3) := by decide +kernel
theorem dX6_addToken_14 : decode cX6_addToken 14 = .ok (.if_icmp .gt 43, 3) := by decide +kernel
theorem dX6_addToken_17 : decode cX6_addToken 17 = .ok (.aload_n 0, 1) := by decide +kernel
theorem dX6_addToken_18 : decode cX6_addToken 18 = .ok (.getfield 21, 3) := by decide +kernel
theorem dX6_addToken_21 : decode cX6_addToken 21 = .ok (.aload_n 0, 1) := by decide +kernel
theorem dX6_addToken_22 : decode cX6_addToken 22 = .ok (.getfield 31, 3) := by decide +kernel
theorem dX6_addToken_25 : decode cX6_addToken 25 = .ok (.aload_n 1, 1) := by decide +kernel
theorem dX6_addToken_26 : decode cX6_addToken 26 = .ok (.aastore, 1) := by decide +kernel
theorem dX6_addToken_27 : decode cX6_addToken 27 = .ok (.aload_n 0, 1) := by decide +kernel
theorem dX6_addToken_28 : decode cX6_addToken 28 = .ok (.getfield 25, 3) := by decide +kernel
theorem dX6_addToken_31 : decode cX6_addToken 31 = .ok (.aload_n 0, 1) := by decide +kernel
theorem dX6_addToken_32 : decode cX6_addToken 32 = .ok (.getfield 31, 3) := by decide +kernel
theorem dX6_addToken_35 : decode cX6_addToken 35 = .ok (.iload_n 2, 1) := by decide +kernel
theorem dX6_addToken_36 : decode cX6_addToken 36 = .ok (.iastore, 1) := by decide +kernel
theorem dX6_addToken_37 : decode cX6_addToken 37 = .ok (.aload_n 0, 1) := by decide +kernel
theorem dX6_addToken_38 : decode cX6_addToken 38 = .ok (.getfield 28, 3) := by decide +kernel
theorem dX6_addToken_41 : decode cX6_addToken 41 = .ok (.aload_n 0, 1) := by decide +kernel
theorem dX6_addToken_42 : decode cX6_addToken 42 = .ok (.getfield 31, 3) := by decide +kernel
theorem dX6_addToken_45 : decode cX6_addToken 45 = .ok (.iload_n 3, 1) := by decide +kernel
theorem dX6_addToken_46 : decode cX6_addToken 46 = .ok (.iastore, 1) := by decide +kernel
theorem dX6_addToken_47 : decode cX6_addToken 47 = .ok (.aload_n 0, 1) := by decide +kernel
theorem dX6_addToken_48 : decode cX6_addToken 48 = .ok (.dup, 1) := by decide +kernel
theorem dX6_addToken_49 : decode cX6_addToken 49 = .ok (.getfield 31, 3) := by decide +kernel
theorem dX6_addToken_52 : decode cX6_addToken 52 = .ok (.iconst 1, 1) := by decide +kernel
theorem dX6_addToken_53 : decode cX6_addToken 53 = .ok (.iadd, 1) := by decide +kernel
theorem dX6_addToken_54 : decode cX6_addToken 54 = .ok (.putfield 31, 3) := by decide +kernel
theorem dX6_addToken_57 : decode cX6_addToken 57 = .ok (.return_, 1) := by decide +kernel
theorem dX6_endOfRun_0 : decode cX6_endOfRun 0 = .ok (.aload_n 0, 1) := by decide +kernel
theorem dX6_endOfRun_1 : decode cX6_endOfRun 1 = .ok (.iload_n 1, 1) := by decide +kernel
theorem dX6_endOfRun_2 : decode cX6_endOfRun 2 = .ok (.invokevirtual 56, 3) := by decide +kernel
theorem dX6_endOfRun_5 : decode cX6_endOfRun 5 = .ok (.istore_n 3, 1) := by decide +kernel
theorem dX6_endOfRun_6 : decode cX6_endOfRun 6 = .ok (.iload_n 1, 1) := by decide +kernel
theorem dX6_endOfRun_7 : decode cX6_endOfRun 7 = .ok (.iconst 1, 1) := by decide +kernel
theorem dX6_endOfRun_8 : decode cX6_endOfRun 8 = .ok (.iadd, 1) := by decide +kernel
theorem dX6_endOfRun_9 : decode cX6_endOfRun 9 = .ok (.istore 4, 2) := by decide +kernel
theorem dX6_endOfRun_11 : decode cX6_endOfRun 11 = .ok (.iload_n 3, 1) := by decide +kernel
theorem dX6_endOfRun_12 : decode cX6_endOfRun 12 = .ok (.invokestatic 88, 3) := by decide +kernel
theorem dX6_endOfRun_15 : decode cX6_endOfRun 15 = .ok (.ifCond .ne 13, 3) := by decide +kernel
theorem dX6_endOfRun_18 : decode cX6_endOfRun 18 = .ok (.iload_n 3, 1) := by decide +kernel
theorem dX6_endOfRun_19 : decode cX6_endOfRun 19 = .ok (.invokestatic 91, 3) := by decide +kernel
theorem dX6_endOfRun_22 : decode cX6_endOfRun 22 = .ok (.ifCond .ne 6, 3) := by decide +kernel
theorem dX6_endOfRun_25 : decode cX6_endOfRun 25 = .ok (.iload 4, 2) := by decide +kernel
theorem dX6_endOfRun_27 : decode cX6_endOfRun 27 = .ok (.ireturn, 1) := by decide +kernel
theorem dX6_endOfRun_28 : decode cX6_endOfRun 28 = .ok (.iload 4, 2) := by decide +kernel
theorem dX6_endOfRun_30 : decode cX6_endOfRun 30 = .ok (.iload_n 2, 1) := by decide +kernel
theorem dX6_endOfRun_31 : decode cX6_endOfRun 31 = .ok (.if_icmp .ge 41, 3) := by decide +kernel
theorem dX6_endOfRun_34 : decode cX6_endOfRun 34 = .ok (.aload_n 0, 1) := by decide +kernel
theorem dX6_endOfRun_35 : decode cX6_endOfRun 35 = .ok (.iload 4, 2) := by decide +kernel
theorem dX6_endOfRun_37 : decode cX6_endOfRun 37 = .ok (.invokevirtual 56, 3) := by decide +kernel
theorem dX6_endOfRun_40 : decode cX6_endOfRun 40 = .ok (.invokestatic 88, 3) := by decide +kernel
theorem dX6_endOfRun_43 : decode cX6_endOfRun 43 = .ok (.iload_n 3, 1) := by decide +kernel
theorem dX6_endOfRun_44 : decode cX6_endOfRun 44 = .ok (.invokestatic 88, 3) := by decide +kernel
theorem dX6_endOfRun_47 : decode cX6_endOfRun 47 = .ok (.if_icmp .ne 25, 3) := by decide +kernel
theorem dX6_endOfRun_50 : decode cX6_endOfRun 50 = .ok (.aload_n 0, 1) := by decide +kernel
theorem dX6_endOfRun_51 : decode cX6_endOfRun 51 = .ok (.iload 4, 2) := by decide +kernel
theorem dX6_endOfRun_53 : decode cX6_endOfRun 53 = .ok (.invokevirtual 56, 3) := by decide +kernel
theorem dX6_endOfRun_56 : decode cX6_endOfRun 56 = .ok (.invokestatic 91, 3) := by decide +kernel
theorem dX6_endOfRun_59 : decode cX6_endOfRun 59 = .ok (.iload_n 3, 1) := by decide +kernel
theorem dX6_endOfRun_60 : decode cX6_endOfRun 60 = .ok (.invokestatic 91, 3) := by decide +kernel
theorem dX6_endOfRun_63 : decode cX6_endOfRun 63 = .ok (.if_icmp .ne 9, 3) := by decide +kernel
theorem dX6_endOfRun_66 : decode cX6_endOfRun 66 = .ok (.iinc 4 1, 3) := by decide +kernel
theorem dX6_endOfRun_69 : decode cX6_endOfRun 69 = .ok (.goto (-41), 3) := by decide +kernel
theorem dX6_endOfRun_72 : decode cX6_endOfRun 72 = .ok (.iload 4, 2) := by decide +kernel
theorem dX6_endOfRun_74 : decode cX6_endOfRun 74 = .ok (.ireturn, 1) := by decide +kernel
theorem dX6_signOf_0 : decode cX6_signOf 0 = .ok (.aload_n 0, 1) := by decide +kernel
theorem dX6_signOf_1 : decode cX6_signOf 1 = .ok (.iload_n 1, 1) := by decide +kernel
theorem dX6_signOf_2 : decode cX6_signOf 2 = .ok (.invokevirtual 56, 3) := by decide +kernel
theorem dX6_signOf_5 : decode cX6_signOf 5 = .ok (.istore_n 3, 1) := by decide +kernel
theorem dX6_signOf_6 : decode cX6_signOf 6 = .ok (.iload_n 3, 1) := by decide +kernel
theorem dX6_signOf_7 : decode cX6_signOf 7 = .ok (.invokestatic 91, 3) := by decide +kernel
theorem dX6_signOf_10 : decode cX6_signOf 10 = .ok (.ifCond .eq 20, 3) := by decide +kernel
theorem dX6_signOf_13 : decode cX6_signOf 13 = .ok (.iload_n 2, 1) := by decide +kernel
theorem dX6_signOf_14 : decode cX6_signOf 14 = .ok (.iload_n 1, 1) := by decide +kernel
theorem dX6_signOf_15 : decode cX6_signOf 15 = .ok (.isub, 1) := by decide +kernel
theorem dX6_signOf_16 : decode cX6_signOf 16 = .ok (.iconst 3, 1) := by decide +kernel
theorem dX6_signOf_17 : decode cX6_signOf 17 = .ok (.if_icmp .le 9, 3) := by decide +kernel
theorem dX6_signOf_20 : decode cX6_signOf 20 = .ok (.getstatic 82, 3) := by decide +kernel
theorem dX6_signOf_23 : decode cX6_signOf 23 = .ok (.goto 6, 3) := by decide +kernel
theorem dX6_signOf_26 : decode cX6_signOf 26 = .ok (.getstatic 71, 3) := by decide +kernel
theorem dX6_signOf_29 : decode cX6_signOf 29 = .ok (.areturn, 1) := by decide +kernel
theorem dX6_signOf_30 : decode cX6_signOf 30 = .ok (.iload_n 2, 1) := by decide +kernel
theorem dX6_signOf_31 : decode cX6_signOf 31 = .ok (.iload_n 1, 1) := by decide +kernel
theorem dX6_signOf_32 : decode cX6_signOf 32 = .ok (.isub, 1) := by decide +kernel
theorem dX6_signOf_33 : decode cX6_signOf 33 = .ok (.bipush 7, 2) := by decide +kernel
theorem dX6_signOf_35 : decode cX6_signOf 35 = .ok (.if_icmp .le 7, 3) := by decide +kernel
theorem dX6_signOf_38 : decode cX6_signOf 38 = .ok (.getstatic 82, 3) := by decide +kernel
theorem dX6_signOf_41 : decode cX6_signOf 41 = .ok (.areturn, 1) := by decide +kernel
theorem dX6_signOf_42 : decode cX6_signOf 42 = .ok (.iconst 0, 1) := by decide +kernel
theorem dX6_signOf_43 : decode cX6_signOf 43 = .ok (.istore 4, 2) := by decide +kernel
theorem dX6_signOf_45 : decode cX6_signOf 45 = .ok (.iload 4, 2) := by decide +kernel
theorem dX6_signOf_47 : decode cX6_signOf 47 = .ok (.getstatic 94, 3) := by decide +kernel
theorem dX6_signOf_50 : decode cX6_signOf 50 = .ok (.arraylength, 1) := by decide +kernel
theorem dX6_signOf_51 : decode cX6_signOf 51 = .ok (.if_icmp .ge 39, 3) := by decide +kernel
theorem dX6_signOf_54 : decode cX6_signOf 54 = .ok (.getstatic 94, 3) := by decide +kernel
theorem dX6_signOf_57 : decode cX6_signOf 57 = .ok (.iload 4, 2) := by decide +kernel
theorem dX6_signOf_59 : decode cX6_signOf 59 = .ok (.aaload, 1) := by decide +kernel
theorem dX6_signOf_60 : decode cX6_signOf 60 = .ok (.astore 5, 2) := by decide +kernel
theorem dX6_signOf_62 : decode cX6_signOf 62 = .ok (.aload 5, 2) := by decide +kernel
theorem dX6_signOf_64 : decode cX6_signOf 64 = .ok (.ifnull 20, 3) := by decide +kernel
theorem dX6_signOf_67 : decode cX6_signOf 67 = .ok (.aload_n 0, 1) := by decide +kernel
theorem dX6_signOf_68 : decode cX6_signOf 68 = .ok (.aload 5, 2) := by decide +kernel
theorem dX6_signOf_70 : decode cX6_signOf 70 = .ok (.getfield 97, 3) := by decide +kernel
theorem dX6_signOf_73 : decode cX6_signOf 73 = .ok (.iload_n 1, 1) := by decide +kernel
theorem dX6_signOf_74 : decode cX6_signOf 74 = .ok (.iload_n 2, 1) := by decide +kernel
theorem dX6_signOf_75 : decode cX6_signOf 75 = .ok (.invokevirtual 101, 3) := by decide +kernel
theorem dX6_signOf_78 : decode cX6_signOf 78 = .ok (.ifCond .eq 6, 3) := by decide +kernel
theorem dX6_signOf_81 : decode cX6_signOf 81 = .ok (.aload 5, 2) := by decide +kernel
theorem dX6_signOf_83 : decode cX6_signOf 83 = .ok (.areturn, 1) := by decide +kernel
theorem dX6_signOf_84 : decode cX6_signOf 84 = .ok (.iinc 4 1, 3) := by decide +kernel
theorem dX6_signOf_87 : decode cX6_signOf 87 = .ok (.goto (-42), 3) := by decide +kernel
theorem dX6_signOf_90 : decode cX6_signOf 90 = .ok (.iload_n 3, 1) := by decide +kernel
theorem dX6_signOf_91 : decode cX6_signOf 91 = .ok (.invokestatic 88, 3) := by decide +kernel
theorem dX6_signOf_94 : decode cX6_signOf 94 = .ok (.ifCond .eq 9, 3) := by decide +kernel
theorem dX6_signOf_97 : decode cX6_signOf 97 = .ok (.getstatic 105, 3) := by decide +kernel
theorem dX6_signOf_100 : decode cX6_signOf 100 = .ok (.goto 6, 3) := by decide +kernel
theorem dX6_signOf_103 : decode cX6_signOf 103 = .ok (.getstatic 82, 3) := by decide +kernel
theorem dX6_signOf_106 : decode cX6_signOf 106 = .ok (.areturn, 1) := by decide +kernel
theorem dX6_isSpelt_0 : decode cX6_isSpelt 0 = .ok (.aload_n 1, 1) := by decide +kernel
theorem dX6_isSpelt_1 : decode cX6_isSpelt 1 = .ok (.ifnull 13, 3) := by decide +kernel
theorem dX6_isSpelt_4 : decode cX6_isSpelt 4 = .ok (.aload_n 1, 1) := by decide +kernel
theorem dX6_isSpelt_5 : decode cX6_isSpelt 5 = .ok (.invokevirtual 108, 3) := by decide +kernel
theorem dX6_isSpelt_8 : decode cX6_isSpelt 8 = .ok (.iload_n 3, 1) := by decide +kernel
theorem dX6_isSpelt_9 : decode cX6_isSpelt 9 = .ok (.iload_n 2, 1) := by decide +kernel
theorem dX6_isSpelt_10 : decode cX6_isSpelt 10 = .ok (.isub, 1) := by decide +kernel
theorem dX6_isSpelt_11 : decode cX6_isSpelt 11 = .ok (.if_icmp .eq 5, 3) := by decide +kernel
theorem dX6_isSpelt_14 : decode cX6_isSpelt 14 = .ok (.iconst 0, 1) := by decide +kernel
theorem dX6_isSpelt_15 : decode cX6_isSpelt 15 = .ok (.ireturn, 1) := by decide +kernel
theorem dX6_isSpelt_16 : decode cX6_isSpelt 16 = .ok (.iconst 0, 1) := by decide +kernel
theorem dX6_isSpelt_17 : decode cX6_isSpelt 17 = .ok (.istore 4, 2) := by decide +kernel
theorem dX6_isSpelt_19 : decode cX6_isSpelt 19 = .ok (.iload 4, 2) := by decide +kernel
theorem dX6_isSpelt_21 : decode cX6_isSpelt 21 = .ok (.aload_n 1, 1) := by decide +kernel
theorem dX6_isSpelt_22 : decode cX6_isSpelt 22 = .ok (.invokevirtual 108, 3) := by decide +kernel
theorem dX6_isSpelt_25 : decode cX6_isSpelt 25 = .ok (.if_icmp .ge 28, 3) := by decide +kernel
theorem dX6_isSpelt_28 : decode cX6_isSpelt 28 = .ok (.aload_n 1, 1) := by decide +kernel
theorem dX6_isSpelt_29 : decode cX6_isSpelt 29 = .ok (.iload 4, 2) := by decide +kernel
theorem dX6_isSpelt_31 : decode cX6_isSpelt 31 = .ok (.invokevirtual 113, 3) := by decide +kernel
theorem dX6_isSpelt_34 : decode cX6_isSpelt 34 = .ok (.aload_n 0, 1) := by decide +kernel
theorem dX6_isSpelt_35 : decode cX6_isSpelt 35 = .ok (.iload_n 2, 1) := by decide +kernel
theorem dX6_isSpelt_36 : decode cX6_isSpelt 36 = .ok (.iload 4, 2) := by decide +kernel
theorem dX6_isSpelt_38 : decode cX6_isSpelt 38 = .ok (.iadd, 1) := by decide +kernel
theorem dX6_isSpelt_39 : decode cX6_isSpelt 39 = .ok (.invokevirtual 56, 3) := by decide +kernel
theorem dX6_isSpelt_42 : decode cX6_isSpelt 42 = .ok (.if_icmp .eq 5, 3) := by decide +kernel
theorem dX6_isSpelt_45 : decode cX6_isSpelt 45 = .ok (.iconst 0, 1) := by decide +kernel
theorem dX6_isSpelt_46 : decode cX6_isSpelt 46 = .ok (.ireturn, 1) := by decide +kernel
theorem dX6_isSpelt_47 : decode cX6_isSpelt 47 = .ok (.iinc 4 1, 3) := by decide +kernel
theorem dX6_isSpelt_50 : decode cX6_isSpelt 50 = .ok (.goto (-31), 3) := by decide +kernel
theorem dX6_isSpelt_53 : decode cX6_isSpelt 53 = .ok (.iconst 1, 1) := by decide +kernel
theorem dX6_isSpelt_54 : decode cX6_isSpelt 54 = .ok (.ireturn, 1) := by decide +kernel
theorem dX6_wholeOf_0 : decode cX6_wholeOf 0 = .ok (.iconst 0, 1) := by decide +kernel
theorem dX6_wholeOf_1 : decode cX6_wholeOf 1 = .ok (.istore_n 3, 1) := by decide +kernel
theorem dX6_wholeOf_2 : decode cX6_wholeOf 2 = .ok (.iload_n 1, 1) := by decide +kernel
theorem dX6_wholeOf_3 : decode cX6_wholeOf 3 = .ok (.istore 4, 2) := by decide +kernel
theorem dX6_wholeOf_5 : decode cX6_wholeOf 5 = .ok (.iload 4, 2) := by decide +kernel
theorem dX6_wholeOf_7 : decode cX6_wholeOf 7 = .ok (.iload_n 2, 1) := by decide +kernel
theorem dX6_wholeOf_8 : decode cX6_wholeOf 8 = .ok (.if_icmp .ge 24, 3) := by decide +kernel
theorem dX6_wholeOf_11 : decode cX6_wholeOf 11 = .ok (.bipush 10, 2) := by decide +kernel
theorem dX6_wholeOf_13 : decode cX6_wholeOf 13 = .ok (.iload_n 3, 1) := by decide +kernel
theorem dX6_wholeOf_14 : decode cX6_wholeOf 14 = .ok (.imul, 1) := by decide +kernel
theorem dX6_wholeOf_15 : decode cX6_wholeOf 15 = .ok (.aload_n 0, 1) := by decide +kernel
theorem dX6_wholeOf_16 : decode cX6_wholeOf 16 = .ok (.iload 4, 2) := by decide +kernel
theorem dX6_wholeOf_18 : decode cX6_wholeOf 18 = .ok (.invokevirtual 56, 3) := by decide +kernel
theorem dX6_wholeOf_21 : decode cX6_wholeOf 21 = .ok (.iadd, 1) := by decide +kernel
theorem dX6_wholeOf_22 : decode cX6_wholeOf 22 = .ok (.bipush 48, 2) := by decide +kernel
theorem dX6_wholeOf_24 : decode cX6_wholeOf 24 = .ok (.isub, 1) := by decide +kernel
theorem dX6_wholeOf_25 : decode cX6_wholeOf 25 = .ok (.istore_n 3, 1) := by decide +kernel
theorem dX6_wholeOf_26 : decode cX6_wholeOf 26 = .ok (.iinc 4 1, 3) := by decide +kernel
theorem dX6_wholeOf_29 : decode cX6_wholeOf 29 = .ok (.goto (-24), 3) := by decide +kernel
theorem dX6_wholeOf_32 : decode cX6_wholeOf 32 = .ok (.iload_n 3, 1) := by decide +kernel
theorem dX6_wholeOf_33 : decode cX6_wholeOf 33 = .ok (.ireturn, 1) := by decide +kernel
theorem dX6_byteAt_0 : decode cX6_byteAt 0 = .ok (.iload_n 1, 1) := by decide +kernel
theorem dX6_byteAt_1 : decode cX6_byteAt 1 = .ok (.ifCond .lt 10, 3) := by decide +kernel
theorem dX6_byteAt_4 : decode cX6_byteAt 4 = .ok (.iload_n 1, 1) := by decide +kernel
theorem dX6_byteAt_5 : decode cX6_byteAt 5 = .ok (.sipush 600, 3) := by decide +kernel
theorem dX6_byteAt_8 : decode cX6_byteAt 8 = .ok (.if_icmp .lt 7, 3) := by decide +kernel
theorem dX6_byteAt_15 : decode cX6_byteAt 15 = .ok (.aload_n 0, 1) := by decide +kernel
theorem dX6_byteAt_16 : decode cX6_byteAt 16 = .ok (.getfield 9, 3) := by decide +kernel
theorem dX6_byteAt_19 : decode cX6_byteAt 19 = .ok (.iload_n 1, 1) := by decide +kernel
theorem dX6_byteAt_20 : decode cX6_byteAt 20 = .ok (.iaload, 1) := by decide +kernel
theorem dX6_byteAt_21 : decode cX6_byteAt 21 = .ok (.ireturn, 1) := by decide +kernel
theorem dX6_isBlank_0 : decode cX6_isBlank 0 = .ok (.iload_n 0, 1) := by decide +kernel
theorem dX6_isBlank_1 : decode cX6_isBlank 1 = .ok (.bipush 32, 2) := by decide +kernel
theorem dX6_isBlank_3 : decode cX6_isBlank 3 = .ok (.if_icmp .eq 9, 3) := by decide +kernel
theorem dX6_isBlank_6 : decode cX6_isBlank 6 = .ok (.iload_n 0, 1) := by decide +kernel
theorem dX6_isBlank_7 : decode cX6_isBlank 7 = .ok (.bipush 10, 2) := by decide +kernel
theorem dX6_isBlank_9 : decode cX6_isBlank 9 = .ok (.if_icmp .ne 7, 3) := by decide +kernel
theorem dX6_isBlank_12 : decode cX6_isBlank 12 = .ok (.iconst 1, 1) := by decide +kernel
theorem dX6_isBlank_13 : decode cX6_isBlank 13 = .ok (.goto 4, 3) := by decide +kernel
theorem dX6_isBlank_16 : decode cX6_isBlank 16 = .ok (.iconst 0, 1) := by decide +kernel
theorem dX6_isBlank_17 : decode cX6_isBlank 17 = .ok (.ireturn, 1) := by decide +kernel
theorem dX6_isLetter_0 : decode cX6_isLetter 0 = .ok (.iload_n 0, 1) := by decide +kernel
theorem dX6_isLetter_1 : decode cX6_isLetter 1 = .ok (.bipush 97, 2) := by decide +kernel
theorem dX6_isLetter_3 : decode cX6_isLetter 3 = .ok (.if_icmp .lt 13, 3) := by decide +kernel
theorem dX6_isLetter_6 : decode cX6_isLetter 6 = .ok (.iload_n 0, 1) := by decide +kernel
theorem dX6_isLetter_7 : decode cX6_isLetter 7 = .ok (.bipush 122, 2) := by decide +kernel
theorem dX6_isLetter_9 : decode cX6_isLetter 9 = .ok (.if_icmp .gt 7, 3) := by decide +kernel
theorem dX6_isLetter_12 : decode cX6_isLetter 12 = .ok (.iconst 1, 1) := by decide +kernel
theorem dX6_isLetter_13 : decode cX6_isLetter 13 = .ok (.goto 4, 3) := by decide +kernel
theorem dX6_isLetter_16 : decode cX6_isLetter 16 = .ok (.iconst 0, 1) := by decide +kernel
theorem dX6_isLetter_17 : decode cX6_isLetter 17 = .ok (.ireturn, 1) := by decide +kernel
theorem dX6_isDigit_0 : decode cX6_isDigit 0 = .ok (.iload_n 0, 1) := by decide +kernel
theorem dX6_isDigit_1 : decode cX6_isDigit 1 = .ok (.bipush 48, 2) := by decide +kernel
theorem dX6_isDigit_3 : decode cX6_isDigit 3 = .ok (.if_icmp .lt 13, 3) := by decide +kernel
theorem dX6_isDigit_6 : decode cX6_isDigit 6 = .ok (.iload_n 0, 1) := by decide +kernel
theorem dX6_isDigit_7 : decode cX6_isDigit 7 = .ok (.bipush 57, 2) := by decide +kernel
theorem dX6_isDigit_9 : decode cX6_isDigit 9 = .ok (.if_icmp .gt 7, 3) := by decide +kernel
theorem dX6_isDigit_12 : decode cX6_isDigit 12 = .ok (.iconst 1, 1) := by decide +kernel
theorem dX6_isDigit_13 : decode cX6_isDigit 13 = .ok (.goto 4, 3) := by decide +kernel
theorem dX6_isDigit_16 : decode cX6_isDigit 16 = .ok (.iconst 0, 1) := by decide +kernel
theorem dX6_isDigit_17 : decode cX6_isDigit 17 = .ok (.ireturn, 1) := by decide +kernel
theorem dX6_faultKind_0 : decode cX6_faultKind 0 = .ok (.aload_n 0, 1) := by decide +kernel
theorem dX6_faultKind_1 : decode cX6_faultKind 1 = .ok (.getfield 37, 3) := by decide +kernel
theorem dX6_faultKind_4 : decode cX6_faultKind 4 = .ok (.ireturn, 1) := by decide +kernel
theorem dX6_faultPlace_0 : decode cX6_faultPlace 0 = .ok (.aload_n 0, 1) := by decide +kernel
theorem dX6_faultPlace_1 : decode cX6_faultPlace 1 = .ok (.getfield 40, 3) := by decide +kernel
theorem dX6_faultPlace_4 : decode cX6_faultPlace 4 = .ok (.ireturn, 1) := by decide +kernel
theorem dX6_cursor_0 : decode cX6_cursor 0 = .ok (.aload_n 0, 1) := by decide +kernel
theorem dX6_cursor_1 : decode cX6_cursor 1 = .ok (.getfield 34, 3) := by decide +kernel
theorem dX6_cursor_4 : decode cX6_cursor 4 = .ok (.ireturn, 1) := by decide +kernel
theorem dX6_goTo_0 : decode cX6_goTo 0 = .ok (.aload_n 0, 1) := by decide +kernel
theorem dX6_goTo_1 : decode cX6_goTo 1 = .ok (.iload_n 1, 1) := by decide +kernel
theorem dX6_goTo_2 : decode cX6_goTo 2 = .ok (.putfield 34, 3) := by decide +kernel
theorem dX6_goTo_5 : decode cX6_goTo 5 = .ok (.return_, 1) := by decide +kernel
theorem dX6_sign_0 : decode cX6_sign 0 = .ok (.aload_n 0, 1) := by decide +kernel
theorem dX6_sign_1 : decode cX6_sign 1 = .ok (.getfield 37, 3) := by decide +kernel
theorem dX6_sign_4 : decode cX6_sign 4 = .ok (.ifCond .ne 31, 3) := by decide +kernel
theorem dX6_sign_7 : decode cX6_sign 7 = .ok (.aload_n 0, 1) := by decide +kernel
theorem dX6_sign_8 : decode cX6_sign 8 = .ok (.getfield 34, 3) := by decide +kernel
theorem dX6_sign_11 : decode cX6_sign 11 = .ok (.ifCond .lt 24, 3) := by decide +kernel
theorem dX6_sign_14 : decode cX6_sign 14 = .ok (.aload_n 0, 1) := by decide +kernel
theorem dX6_sign_15 : decode cX6_sign 15 = .ok (.getfield 34, 3) := by decide +kernel
theorem dX6_sign_18 : decode cX6_sign 18 = .ok (.aload_n 0, 1) := by decide +kernel
theorem dX6_sign_19 : decode cX6_sign 19 = .ok (.getfield 31, 3) := by decide +kernel
theorem dX6_sign_22 : decode cX6_sign 22 = .ok (.if_icmp .ge 13, 3) := by decide +kernel
theorem dX6_sign_25 : decode cX6_sign 25 = .ok (.aload_n 0, 1) := by decide +kernel
theorem dX6_sign_26 : decode cX6_sign 26 = .ok (.getfield 34, 3) := by decide +kernel
theorem dX6_sign_29 : decode cX6_sign 29 = .ok (.sipush 600, 3) := by decide +kernel
theorem dX6_sign_32 : decode cX6_sign 32 = .ok (.if_icmp .le 7, 3) := by decide +kernel
theorem dX6_sign_35 : decode cX6_sign 35 = .ok (.getstatic 82, 3) := by decide +kernel
theorem dX6_sign_38 : decode cX6_sign 38 = .ok (.areturn, 1) := by decide +kernel
theorem dX6_sign_39 : decode cX6_sign 39 = .ok (.aload_n 0, 1) := by decide +kernel
theorem dX6_sign_40 : decode cX6_sign 40 = .ok (.getfield 21, 3) := by decide +kernel
theorem dX6_sign_43 : decode cX6_sign 43 = .ok (.aload_n 0, 1) := by decide +kernel
theorem dX6_sign_44 : decode cX6_sign 44 = .ok (.getfield 34, 3) := by decide +kernel
theorem dX6_sign_47 : decode cX6_sign 47 = .ok (.aaload, 1) := by decide +kernel
theorem dX6_sign_48 : decode cX6_sign 48 = .ok (.areturn, 1) := by decide +kernel
theorem dX6_pass_0 : decode cX6_pass 0 = .ok (.aload_n 0, 1) := by decide +kernel
theorem dX6_pass_1 : decode cX6_pass 1 = .ok (.getfield 34, 3) := by decide +kernel
theorem dX6_pass_4 : decode cX6_pass 4 = .ok (.ifCond .lt 24, 3) := by decide +kernel
theorem dX6_pass_7 : decode cX6_pass 7 = .ok (.aload_n 0, 1) := by decide +kernel
theorem dX6_pass_8 : decode cX6_pass 8 = .ok (.getfield 34, 3) := by decide +kernel
theorem dX6_pass_11 : decode cX6_pass 11 = .ok (.aload_n 0, 1) := by decide +kernel
theorem dX6_pass_12 : decode cX6_pass 12 = .ok (.getfield 31, 3) := by decide +kernel
theorem dX6_pass_15 : decode cX6_pass 15 = .ok (.if_icmp .ge 13, 3) := by decide +kernel
theorem dX6_pass_18 : decode cX6_pass 18 = .ok (.aload_n 0, 1) := by decide +kernel
theorem dX6_pass_19 : decode cX6_pass 19 = .ok (.getfield 34, 3) := by decide +kernel
theorem dX6_pass_22 : decode cX6_pass 22 = .ok (.sipush 600, 3) := by decide +kernel
theorem dX6_pass_25 : decode cX6_pass 25 = .ok (.if_icmp .le 5, 3) := by decide +kernel
theorem dX6_pass_28 : decode cX6_pass 28 = .ok (.iconst 0, 1) := by decide +kernel
theorem dX6_pass_29 : decode cX6_pass 29 = .ok (.ireturn, 1) := by decide +kernel
theorem dX6_pass_30 : decode cX6_pass 30 = .ok (.aload_n 0, 1) := by decide +kernel
theorem dX6_pass_31 : decode cX6_pass 31 = .ok (.getfield 28, 3) := by decide +kernel
theorem dX6_pass_34 : decode cX6_pass 34 = .ok (.aload_n 0, 1) := by decide +kernel
theorem dX6_pass_35 : decode cX6_pass 35 = .ok (.getfield 34, 3) := by decide +kernel
theorem dX6_pass_38 : decode cX6_pass 38 = .ok (.iaload, 1) := by decide +kernel
theorem dX6_pass_39 : decode cX6_pass 39 = .ok (.istore_n 1, 1) := by decide +kernel
theorem dX6_pass_40 : decode cX6_pass 40 = .ok (.aload_n 0, 1) := by decide +kernel
theorem dX6_pass_41 : decode cX6_pass 41 = .ok (.dup, 1) := by decide +kernel
theorem dX6_pass_42 : decode cX6_pass 42 = .ok (.getfield 34, 3) := by decide +kernel
theorem dX6_pass_45 : decode cX6_pass 45 = .ok (.iconst 1, 1) := by decide +kernel
theorem dX6_pass_46 : decode cX6_pass 46 = .ok (.iadd, 1) := by decide +kernel
theorem dX6_pass_47 : decode cX6_pass 47 = .ok (.putfield 34, 3) := by decide +kernel
theorem dX6_pass_50 : decode cX6_pass 50 = .ok (.iload_n 1, 1) := by decide +kernel
theorem dX6_pass_51 : decode cX6_pass 51 = .ok (.ireturn, 1) := by decide +kernel
theorem dX6_takes_0 : decode cX6_takes 0 = .ok (.aload_n 0, 1) := by decide +kernel
theorem dX6_takes_1 : decode cX6_takes 1 = .ok (.invokevirtual 117, 3) := by decide +kernel
theorem dX6_takes_4 : decode cX6_takes 4 = .ok (.aload_n 1, 1) := by decide +kernel
theorem dX6_takes_5 : decode cX6_takes 5 = .ok (.if_acmp .eq 5, 3) := by decide +kernel
theorem dX6_takes_8 : decode cX6_takes 8 = .ok (.iconst 0, 1) := by decide +kernel
theorem dX6_takes_9 : decode cX6_takes 9 = .ok (.ireturn, 1) := by decide +kernel
theorem dX6_takes_10 : decode cX6_takes 10 = .ok (.aload_n 0, 1) := by decide +kernel
theorem dX6_takes_11 : decode cX6_takes 11 = .ok (.invokevirtual 121, 3) := by decide +kernel
theorem dX6_takes_14 : decode cX6_takes 14 = .ok (.pop, 1) := by decide +kernel
theorem dX6_takes_15 : decode cX6_takes 15 = .ok (.iconst 1, 1) := by decide +kernel
theorem dX6_takes_16 : decode cX6_takes 16 = .ok (.ireturn, 1) := by decide +kernel
theorem dX6_expect_0 : decode cX6_expect 0 = .ok (.aload_n 0, 1) := by decide +kernel
theorem dX6_expect_1 : decode cX6_expect 1 = .ok (.aload_n 1, 1) := by decide +kernel
theorem dX6_expect_2 : decode cX6_expect 2 = .ok (.invokevirtual 124, 3) := by decide +kernel
theorem dX6_expect_5 : decode cX6_expect 5 = .ok (.ifCond .ne 8, 3) := by decide +kernel
theorem dX6_expect_8 : decode cX6_expect 8 = .ok (.aload_n 0, 1) := by decide +kernel
theorem dX6_expect_9 : decode cX6_expect 9 = .ok (.iconst 1, 1) := by decide +kernel
theorem dX6_expect_10 : decode cX6_expect 10 = .ok (.invokevirtual 128, 3) := by decide +kernel
theorem dX6_expect_13 : decode cX6_expect 13 = .ok (.return_, 1) := by decide +kernel
theorem dX6_expectWhole_0 : decode cX6_expectWhole 0 = .ok (.aload_n 0, 1) := by decide +kernel
theorem dX6_expectWhole_1 : decode cX6_expectWhole 1 = .ok (.invokevirtual 117, 3) := by decide +kernel
theorem dX6_expectWhole_4 : decode cX6_expectWhole 4 = .ok (.getstatic 71, 3) := by decide +kernel
theorem dX6_expectWhole_7 : decode cX6_expectWhole 7 = .ok (.if_acmp .eq 10, 3) := by decide +kernel
theorem dX6_expectWhole_10 : decode cX6_expectWhole 10 = .ok (.aload_n 0, 1) := by decide +kernel
theorem dX6_expectWhole_11 : decode cX6_expectWhole 11 = .ok (.iconst 1, 1) := by decide +kernel
theorem dX6_expectWhole_12 : decode cX6_expectWhole 12 = .ok (.invokevirtual 128, 3) := by decide +kernel
theorem dX6_expectWhole_15 : decode cX6_expectWhole 15 = .ok (.iconst 0, 1) := by decide +kernel
theorem dX6_expectWhole_16 : decode cX6_expectWhole 16 = .ok (.ireturn, 1) := by decide +kernel
theorem dX6_expectWhole_17 : decode cX6_expectWhole 17 = .ok (.aload_n 0, 1) := by decide +kernel
theorem dX6_expectWhole_18 : decode cX6_expectWhole 18 = .ok (.invokevirtual 121, 3) := by decide +kernel
theorem dX6_expectWhole_21 : decode cX6_expectWhole 21 = .ok (.ireturn, 1) := by decide +kernel
theorem dX6_fail_0 : decode cX6_fail 0 = .ok (.aload_n 0, 1) := by decide +kernel
theorem dX6_fail_1 : decode cX6_fail 1 = .ok (.getfield 37, 3) := by decide +kernel
theorem dX6_fail_4 : decode cX6_fail 4 = .ok (.ifCond .ne 42, 3) := by decide +kernel
theorem dX6_fail_7 : decode cX6_fail 7 = .ok (.aload_n 0, 1) := by decide +kernel
theorem dX6_fail_8 : decode cX6_fail 8 = .ok (.iload_n 1, 1) := by decide +kernel
theorem dX6_fail_9 : decode cX6_fail 9 = .ok (.putfield 37, 3) := by decide +kernel
theorem dX6_fail_12 : decode cX6_fail 12 = .ok (.aload_n 0, 1) := by decide +kernel
theorem dX6_fail_13 : decode cX6_fail 13 = .ok (.aload_n 0, 1) := by decide +kernel
theorem dX6_fail_14 : decode cX6_fail 14 = .ok (.getfield 34, 3) := by decide +kernel
theorem dX6_fail_17 : decode cX6_fail 17 = .ok (.ifCond .lt 13, 3) := by decide +kernel
theorem dX6_fail_20 : decode cX6_fail 20 = .ok (.aload_n 0, 1) := by decide +kernel
theorem dX6_fail_21 : decode cX6_fail 21 = .ok (.getfield 34, 3) := by decide +kernel
theorem dX6_fail_24 : decode cX6_fail 24 = .ok (.sipush 600, 3) := by decide +kernel
theorem dX6_fail_27 : decode cX6_fail 27 = .ok (.if_icmp .le 7, 3) := by decide +kernel
theorem dX6_fail_30 : decode cX6_fail 30 = .ok (.iconst 0, 1) := by decide +kernel
theorem dX6_fail_31 : decode cX6_fail 31 = .ok (.goto 12, 3) := by decide +kernel
theorem dX6_fail_34 : decode cX6_fail 34 = .ok (.aload_n 0, 1) := by decide +kernel
theorem dX6_fail_35 : decode cX6_fail 35 = .ok (.getfield 25, 3) := by decide +kernel
theorem dX6_fail_38 : decode cX6_fail 38 = .ok (.aload_n 0, 1) := by decide +kernel
theorem dX6_fail_39 : decode cX6_fail 39 = .ok (.getfield 34, 3) := by decide +kernel
theorem dX6_fail_42 : decode cX6_fail 42 = .ok (.iaload, 1) := by decide +kernel
theorem dX6_fail_43 : decode cX6_fail 43 = .ok (.putfield 40, 3) := by decide +kernel
theorem dX6_fail_46 : decode cX6_fail 46 = .ok (.return_, 1) := by decide +kernel
theorem dJ13_bitCount_95d88_0 : decode cJ13_bitCount_95d88 0 = .ok (.lload_n 0, 1) := by decide +kernel
theorem dJ13_bitCount_95d88_1 : decode cJ13_bitCount_95d88 1 = .ok (.lload_n 0, 1) := by decide +kernel
theorem dJ13_bitCount_95d88_2 : decode cJ13_bitCount_95d88 2 = .ok (.iconst 1, 1) := by decide +kernel
theorem dJ13_bitCount_95d88_3 : decode cJ13_bitCount_95d88 3 = .ok (.lushr, 1) := by decide +kernel
theorem dJ13_bitCount_95d88_4 : decode cJ13_bitCount_95d88 4 = .ok (.ldc2_w 314, 3) := by decide +kernel
theorem dJ13_bitCount_95d88_7 : decode cJ13_bitCount_95d88 7 = .ok (.land, 1) := by decide +kernel
theorem dJ13_bitCount_95d88_8 : decode cJ13_bitCount_95d88 8 = .ok (.lsub, 1) := by decide +kernel
theorem dJ13_bitCount_95d88_9 : decode cJ13_bitCount_95d88 9 = .ok (.lstore_n 0, 1) := by decide +kernel
theorem dJ13_bitCount_95d88_10 : decode cJ13_bitCount_95d88 10 = .ok (.lload_n 0, 1) := by decide +kernel
theorem dJ13_bitCount_95d88_11 : decode cJ13_bitCount_95d88 11 = .ok (.ldc2_w 316, 3) := by decide +kernel
theorem dJ13_bitCount_95d88_14 : decode cJ13_bitCount_95d88 14 = .ok (.land, 1) := by decide +kernel
theorem dJ13_bitCount_95d88_15 : decode cJ13_bitCount_95d88 15 = .ok (.lload_n 0, 1) := by decide +kernel
theorem dJ13_bitCount_95d88_16 : decode cJ13_bitCount_95d88 16 = .ok (.iconst 2, 1) := by decide +kernel
theorem dJ13_bitCount_95d88_17 : decode cJ13_bitCount_95d88 17 = .ok (.lushr, 1) := by decide +kernel
theorem dJ13_bitCount_95d88_18 : decode cJ13_bitCount_95d88 18 = .ok (.ldc2_w 316, 3) := by decide +kernel
theorem dJ13_bitCount_95d88_21 : decode cJ13_bitCount_95d88 21 = .ok (.land, 1) := by decide +kernel
theorem dJ13_bitCount_95d88_22 : decode cJ13_bitCount_95d88 22 = .ok (.ladd, 1) := by decide +kernel
theorem dJ13_bitCount_95d88_23 : decode cJ13_bitCount_95d88 23 = .ok (.lstore_n 0, 1) := by decide +kernel
theorem dJ13_bitCount_95d88_24 : decode cJ13_bitCount_95d88 24 = .ok (.lload_n 0, 1) := by decide +kernel
theorem dJ13_bitCount_95d88_25 : decode cJ13_bitCount_95d88 25 = .ok (.lload_n 0, 1) := by decide +kernel
theorem dJ13_bitCount_95d88_26 : decode cJ13_bitCount_95d88 26 = .ok (.iconst 4, 1) := by decide +kernel
theorem dJ13_bitCount_95d88_27 : decode cJ13_bitCount_95d88 27 = .ok (.lushr, 1) := by decide +kernel
theorem dJ13_bitCount_95d88_28 : decode cJ13_bitCount_95d88 28 = .ok (.ladd, 1) := by decide +kernel
theorem dJ13_bitCount_95d88_29 : decode cJ13_bitCount_95d88 29 = .ok (.ldc2_w 318, 3) := by decide +kernel
theorem dJ13_bitCount_95d88_32 : decode cJ13_bitCount_95d88 32 = .ok (.land, 1) := by decide +kernel
theorem dJ13_bitCount_95d88_33 : decode cJ13_bitCount_95d88 33 = .ok (.lstore_n 0, 1) := by decide +kernel
theorem dJ13_bitCount_95d88_34 : decode cJ13_bitCount_95d88 34 = .ok (.lload_n 0, 1) := by decide +kernel
theorem dJ13_bitCount_95d88_35 : decode cJ13_bitCount_95d88 35 = .ok (.lload_n 0, 1) := by decide +kernel
theorem dJ13_bitCount_95d88_36 : decode cJ13_bitCount_95d88 36 = .ok (.bipush 8, 2) := by decide +kernel
theorem dJ13_bitCount_95d88_38 : decode cJ13_bitCount_95d88 38 = .ok (.lushr, 1) := by decide +kernel
theorem dJ13_bitCount_95d88_39 : decode cJ13_bitCount_95d88 39 = .ok (.ladd, 1) := by decide +kernel
theorem dJ13_bitCount_95d88_40 : decode cJ13_bitCount_95d88 40 = .ok (.lstore_n 0, 1) := by decide +kernel
theorem dJ13_bitCount_95d88_41 : decode cJ13_bitCount_95d88 41 = .ok (.lload_n 0, 1) := by decide +kernel
theorem dJ13_bitCount_95d88_42 : decode cJ13_bitCount_95d88 42 = .ok (.lload_n 0, 1) := by decide +kernel
theorem dJ13_bitCount_95d88_43 : decode cJ13_bitCount_95d88 43 = .ok (.bipush 16, 2) := by decide +kernel
theorem dJ13_bitCount_95d88_45 : decode cJ13_bitCount_95d88 45 = .ok (.lushr, 1) := by decide +kernel
theorem dJ13_bitCount_95d88_46 : decode cJ13_bitCount_95d88 46 = .ok (.ladd, 1) := by decide +kernel
theorem dJ13_bitCount_95d88_47 : decode cJ13_bitCount_95d88 47 = .ok (.lstore_n 0, 1) := by decide +kernel
theorem dJ13_bitCount_95d88_48 : decode cJ13_bitCount_95d88 48 = .ok (.lload_n 0, 1) := by decide +kernel
theorem dJ13_bitCount_95d88_49 : decode cJ13_bitCount_95d88 49 = .ok (.lload_n 0, 1) := by decide +kernel
theorem dJ13_bitCount_95d88_50 : decode cJ13_bitCount_95d88 50 = .ok (.bipush 32, 2) := by decide +kernel
theorem dJ13_bitCount_95d88_52 : decode cJ13_bitCount_95d88 52 = .ok (.lushr, 1) := by decide +kernel
theorem dJ13_bitCount_95d88_53 : decode cJ13_bitCount_95d88 53 = .ok (.ladd, 1) := by decide +kernel
theorem dJ13_bitCount_95d88_54 : decode cJ13_bitCount_95d88 54 = .ok (.lstore_n 0, 1) := by decide +kernel
theorem dJ13_bitCount_95d88_55 : decode cJ13_bitCount_95d88 55 = .ok (.lload_n 0, 1) := by decide +kernel
theorem dJ13_bitCount_95d88_56 : decode cJ13_bitCount_95d88 56 = .ok (.l2i, 1) := by decide +kernel
theorem dJ13_bitCount_95d88_57 : decode cJ13_bitCount_95d88 57 = .ok (.bipush 127, 2) := by decide +kernel
theorem dJ13_bitCount_95d88_59 : decode cJ13_bitCount_95d88 59 = .ok (.iand, 1) := by decide +kernel
theorem dJ13_bitCount_95d88_60 : decode cJ13_bitCount_95d88 60 = .ok (.ireturn, 1) := by decide +kernel
theorem dJ0_length_8abf5_0 : decode cJ0_length_8abf5 0 = .ok (.aload_n 0, 1) := by decide +kernel
theorem dJ0_length_8abf5_1 : decode cJ0_length_8abf5 1 = .ok (.getfield 9, 3) := by decide +kernel
theorem dJ0_length_8abf5_4 : decode cJ0_length_8abf5 4 = .ok (.arraylength, 1) := by decide +kernel
theorem dJ0_length_8abf5_5 : decode cJ0_length_8abf5 5 = .ok (.aload_n 0, 1) := by decide +kernel
theorem dJ0_length_8abf5_6 : decode cJ0_length_8abf5 6 = .ok (.invokevirtual 335, 3) := by decide +kernel
theorem dJ0_length_8abf5_9 : decode cJ0_length_8abf5 9 = .ok (.ishr, 1) := by decide +kernel
theorem dJ0_length_8abf5_10 : decode cJ0_length_8abf5 10 = .ok (.ireturn, 1) := by decide +kernel
theorem dJ0_charAt_5068e_0 : decode cJ0_charAt_5068e 0 = .ok (.aload_n 0, 1) := by decide +kernel
theorem dJ0_charAt_5068e_1 : decode cJ0_charAt_5068e 1 = .ok (.invokevirtual 492, 3) := by decide +kernel
theorem dJ0_charAt_5068e_4 : decode cJ0_charAt_5068e 4 = .ok (.ifCond .eq 12, 3) := by decide +kernel
theorem dJ0_charAt_5068e_7 : decode cJ0_charAt_5068e 7 = .ok (.aload_n 0, 1) := by decide +kernel
theorem dJ0_charAt_5068e_8 : decode cJ0_charAt_5068e 8 = .ok (.getfield 9, 3) := by decide +kernel
theorem dJ0_charAt_5068e_11 : decode cJ0_charAt_5068e 11 = .ok (.iload_n 1, 1) := by decide +kernel
theorem dJ0_charAt_5068e_12 : decode cJ0_charAt_5068e 12 = .ok (.invokestatic 495, 3) := by decide +kernel
theorem dJ0_charAt_5068e_15 : decode cJ0_charAt_5068e 15 = .ok (.ireturn, 1) := by decide +kernel
theorem dJ0_coder_7d493_0 : decode cJ0_coder_7d493 0 = .ok (.getstatic 38, 3) := by decide +kernel
theorem dJ0_coder_7d493_3 : decode cJ0_coder_7d493 3 = .ok (.ifCond .eq 10, 3) := by decide +kernel
theorem dJ0_coder_7d493_6 : decode cJ0_coder_7d493 6 = .ok (.aload_n 0, 1) := by decide +kernel
theorem dJ0_coder_7d493_7 : decode cJ0_coder_7d493 7 = .ok (.getfield 15, 3) := by decide +kernel
theorem dJ0_coder_7d493_10 : decode cJ0_coder_7d493 10 = .ok (.goto 4, 3) := by decide +kernel
theorem dJ0_coder_7d493_14 : decode cJ0_coder_7d493 14 = .ok (.ireturn, 1) := by decide +kernel
theorem dJ0_isLatin1_aae02_0 : decode cJ0_isLatin1_aae02 0 = .ok (.getstatic 38, 3) := by decide +kernel
theorem dJ0_isLatin1_aae02_3 : decode cJ0_isLatin1_aae02 3 = .ok (.ifCond .eq 14, 3) := by decide +kernel
theorem dJ0_isLatin1_aae02_6 : decode cJ0_isLatin1_aae02 6 = .ok (.aload_n 0, 1) := by decide +kernel
theorem dJ0_isLatin1_aae02_7 : decode cJ0_isLatin1_aae02 7 = .ok (.getfield 15, 3) := by decide +kernel
theorem dJ0_isLatin1_aae02_10 : decode cJ0_isLatin1_aae02 10 = .ok (.ifCond .ne 7, 3) := by decide +kernel
theorem dJ0_isLatin1_aae02_13 : decode cJ0_isLatin1_aae02 13 = .ok (.iconst 1, 1) := by decide +kernel
theorem dJ0_isLatin1_aae02_14 : decode cJ0_isLatin1_aae02 14 = .ok (.goto 4, 3) := by decide +kernel
theorem dJ0_isLatin1_aae02_18 : decode cJ0_isLatin1_aae02 18 = .ok (.ireturn, 1) := by decide +kernel
theorem dJ0_checkIndex_df160_0 : decode cJ0_checkIndex_df160 0 = .ok (.iload_n 0, 1) := by decide +kernel
theorem dJ0_checkIndex_df160_1 : decode cJ0_checkIndex_df160 1 = .ok (.iload_n 1, 1) := by decide +kernel
theorem dJ0_checkIndex_df160_2 : decode cJ0_checkIndex_df160 2 = .ok (.getstatic 1053, 3) := by decide +kernel
theorem dJ0_checkIndex_df160_5 : decode cJ0_checkIndex_df160 5 = .ok (.invokestatic 1059, 3) := by decide +kernel
theorem dJ0_checkIndex_df160_8 : decode cJ0_checkIndex_df160 8 = .ok (.pop, 1) := by decide +kernel
theorem dJ0_checkIndex_df160_9 : decode cJ0_checkIndex_df160 9 = .ok (.return_, 1) := by decide +kernel
theorem dJ1_charAt_3b067_0 : decode cJ1_charAt_3b067 0 = .ok (.iload_n 1, 1) := by decide +kernel
theorem dJ1_charAt_3b067_1 : decode cJ1_charAt_3b067 1 = .ok (.aload_n 0, 1) := by decide +kernel
theorem dJ1_charAt_3b067_2 : decode cJ1_charAt_3b067 2 = .ok (.arraylength, 1) := by decide +kernel
theorem dJ1_charAt_3b067_3 : decode cJ1_charAt_3b067 3 = .ok (.invokestatic 9, 3) := by decide +kernel
theorem dJ1_charAt_3b067_6 : decode cJ1_charAt_3b067 6 = .ok (.aload_n 0, 1) := by decide +kernel
theorem dJ1_charAt_3b067_7 : decode cJ1_charAt_3b067 7 = .ok (.iload_n 1, 1) := by decide +kernel
theorem dJ1_charAt_3b067_8 : decode cJ1_charAt_3b067 8 = .ok (.baload, 1) := by decide +kernel
theorem dJ1_charAt_3b067_9 : decode cJ1_charAt_3b067 9 = .ok (.sipush 255, 3) := by decide +kernel
theorem dJ1_charAt_3b067_12 : decode cJ1_charAt_3b067 12 = .ok (.iand, 1) := by decide +kernel
theorem dJ1_charAt_3b067_13 : decode cJ1_charAt_3b067 13 = .ok (.i2c, 1) := by decide +kernel
theorem dJ1_charAt_3b067_14 : decode cJ1_charAt_3b067 14 = .ok (.ireturn, 1) := by decide +kernel
theorem dJ3_checkIndex_8e157_0 : decode cJ3_checkIndex_8e157 0 = .ok (.iload_n 0, 1) := by decide +kernel
theorem dJ3_checkIndex_8e157_1 : decode cJ3_checkIndex_8e157 1 = .ok (.ifCond .lt 8, 3) := by decide +kernel
theorem dJ3_checkIndex_8e157_4 : decode cJ3_checkIndex_8e157 4 = .ok (.iload_n 0, 1) := by decide +kernel
theorem dJ3_checkIndex_8e157_5 : decode cJ3_checkIndex_8e157 5 = .ok (.iload_n 1, 1) := by decide +kernel
theorem dJ3_checkIndex_8e157_6 : decode cJ3_checkIndex_8e157 6 = .ok (.if_icmp .lt 10, 3) := by decide +kernel
theorem dJ3_checkIndex_8e157_16 : decode cJ3_checkIndex_8e157 16 = .ok (.iload_n 0, 1) := by decide +kernel
theorem dJ3_checkIndex_8e157_17 : decode cJ3_checkIndex_8e157 17 = .ok (.ireturn, 1) := by decide +kernel
