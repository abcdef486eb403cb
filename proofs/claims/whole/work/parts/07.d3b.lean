theorem dX7_count_41 : decode cX7_count 41 = .ok (.getfield 10, 3) := by decide +kernel
theorem dX7_count_44 : decode cX7_count 44 = .ok (.invokevirtual 96, 3) := by decide +kernel
theorem dX7_count_47 : decode cX7_count 47 = .ok (.ireturn, 1) := by decide +kernel
theorem dX7_count_48 : decode cX7_count 48 = .ok (.aload_n 0, 1) := by decide +kernel
theorem dX7_count_49 : decode cX7_count 49 = .ok (.getfield 10, 3) := by decide +kernel
theorem dX7_count_52 : decode cX7_count 52 = .ok (.invokevirtual 329, 3) := by decide +kernel
theorem dX7_count_55 : decode cX7_count 55 = .ok (.ireturn, 1) := by decide +kernel
theorem dX7_count_56 : decode cX7_count 56 = .ok (.aload_n 0, 1) := by decide +kernel
theorem dX7_count_57 : decode cX7_count 57 = .ok (.getfield 10, 3) := by decide +kernel
theorem dX7_count_60 : decode cX7_count 60 = .ok (.invokevirtual 126, 3) := by decide +kernel
theorem dX7_count_63 : decode cX7_count 63 = .ok (.ireturn, 1) := by decide +kernel
theorem dX7_count_64 : decode cX7_count 64 = .ok (.aload_n 0, 1) := by decide +kernel
theorem dX7_count_65 : decode cX7_count 65 = .ok (.getfield 19, 3) := by decide +kernel
theorem dX7_count_68 : decode cX7_count 68 = .ok (.invokevirtual 144, 3) := by decide +kernel
theorem dX7_count_71 : decode cX7_count 71 = .ok (.ireturn, 1) := by decide +kernel
theorem dX7_count_72 : decode cX7_count 72 = .ok (.aload_n 0, 1) := by decide +kernel
theorem dX7_count_73 : decode cX7_count 73 = .ok (.getfield 35, 3) := by decide +kernel
theorem dX7_count_76 : decode cX7_count 76 = .ok (.invokevirtual 170, 3) := by decide +kernel
theorem dX7_count_79 : decode cX7_count 79 = .ok (.ireturn, 1) := by decide +kernel
theorem dX7_count_80 : decode cX7_count 80 = .ok (.aload_n 0, 1) := by decide +kernel
theorem dX7_count_81 : decode cX7_count 81 = .ok (.getfield 10, 3) := by decide +kernel
theorem dX7_count_84 : decode cX7_count 84 = .ok (.invokevirtual 332, 3) := by decide +kernel
theorem dX7_count_87 : decode cX7_count 87 = .ok (.ireturn, 1) := by decide +kernel
theorem dX7_count_88 : decode cX7_count 88 = .ok (.iconst (-1), 1) := by decide +kernel
theorem dX7_count_89 : decode cX7_count 89 = .ok (.ireturn, 1) := by decide +kernel
theorem dX7_life_0 : decode cX7_life 0 = .ok (.iload_n 1, 1) := by decide +kernel
theorem dX7_life_1 : decode cX7_life 1 = .ok (.ifCond .lt 14, 3) := by decide +kernel
theorem dX7_life_4 : decode cX7_life 4 = .ok (.iload_n 1, 1) := by decide +kernel
theorem dX7_life_5 : decode cX7_life 5 = .ok (.aload_n 0, 1) := by decide +kernel
theorem dX7_life_6 : decode cX7_life 6 = .ok (.getfield 10, 3) := by decide +kernel
theorem dX7_life_9 : decode cX7_life 9 = .ok (.invokevirtual 96, 3) := by decide +kernel
theorem dX7_life_12 : decode cX7_life 12 = .ok (.if_icmp .lt 11, 3) := by decide +kernel
theorem dX7_life_15 : decode cX7_life 15 = .ok (.new 335, 3) := by decide +kernel
theorem dX7_life_18 : decode cX7_life 18 = .ok (.dup, 1) := by decide +kernel
theorem dX7_life_19 : decode cX7_life 19 = .ok (.invokespecial 337, 3) := by decide +kernel
theorem dX7_life_22 : decode cX7_life 22 = .ok (.athrow, 1) := by decide +kernel
theorem dX7_life_23 : decode cX7_life 23 = .ok (.iload_n 2, 1) := by decide +kernel
theorem dX7_life_24 : decode cX7_life 24 = .ok (.tableswitch 92 0 4 #[36, 45, 54, 63, 72], 36) := by decide +kernel
theorem dX7_life_60 : decode cX7_life 60 = .ok (.aload_n 0, 1) := by decide +kernel
theorem dX7_life_61 : decode cX7_life 61 = .ok (.getfield 10, 3) := by decide +kernel
theorem dX7_life_64 : decode cX7_life 64 = .ok (.iload_n 1, 1) := by decide +kernel
theorem dX7_life_65 : decode cX7_life 65 = .ok (.invokevirtual 157, 3) := by decide +kernel
theorem dX7_life_68 : decode cX7_life 68 = .ok (.ireturn, 1) := by decide +kernel
theorem dX7_life_69 : decode cX7_life 69 = .ok (.aload_n 0, 1) := by decide +kernel
theorem dX7_life_70 : decode cX7_life 70 = .ok (.getfield 10, 3) := by decide +kernel
theorem dX7_life_73 : decode cX7_life 73 = .ok (.iload_n 1, 1) := by decide +kernel
theorem dX7_life_74 : decode cX7_life 74 = .ok (.invokevirtual 112, 3) := by decide +kernel
theorem dX7_life_77 : decode cX7_life 77 = .ok (.ireturn, 1) := by decide +kernel
theorem dX7_life_78 : decode cX7_life 78 = .ok (.aload_n 0, 1) := by decide +kernel
theorem dX7_life_79 : decode cX7_life 79 = .ok (.getfield 10, 3) := by decide +kernel
theorem dX7_life_82 : decode cX7_life 82 = .ok (.iload_n 1, 1) := by decide +kernel
theorem dX7_life_83 : decode cX7_life 83 = .ok (.invokevirtual 123, 3) := by decide +kernel
theorem dX7_life_86 : decode cX7_life 86 = .ok (.ireturn, 1) := by decide +kernel
theorem dX7_life_87 : decode cX7_life 87 = .ok (.aload_n 0, 1) := by decide +kernel
theorem dX7_life_88 : decode cX7_life 88 = .ok (.getfield 10, 3) := by decide +kernel
theorem dX7_life_91 : decode cX7_life 91 = .ok (.iload_n 1, 1) := by decide +kernel
theorem dX7_life_92 : decode cX7_life 92 = .ok (.invokevirtual 129, 3) := by decide +kernel
theorem dX7_life_95 : decode cX7_life 95 = .ok (.ireturn, 1) := by decide +kernel
theorem dX7_life_96 : decode cX7_life 96 = .ok (.aload_n 0, 1) := by decide +kernel
theorem dX7_life_97 : decode cX7_life 97 = .ok (.getfield 10, 3) := by decide +kernel
theorem dX7_life_100 : decode cX7_life 100 = .ok (.iload_n 1, 1) := by decide +kernel
theorem dX7_life_101 : decode cX7_life 101 = .ok (.invokevirtual 112, 3) := by decide +kernel
theorem dX7_life_104 : decode cX7_life 104 = .ok (.aload_n 0, 1) := by decide +kernel
theorem dX7_life_105 : decode cX7_life 105 = .ok (.getfield 10, 3) := by decide +kernel
theorem dX7_life_108 : decode cX7_life 108 = .ok (.iload_n 1, 1) := by decide +kernel
theorem dX7_life_109 : decode cX7_life 109 = .ok (.invokevirtual 123, 3) := by decide +kernel
theorem dX7_life_112 : decode cX7_life 112 = .ok (.invokestatic 338, 3) := by decide +kernel
theorem dX7_life_115 : decode cX7_life 115 = .ok (.ireturn, 1) := by decide +kernel
theorem dX7_life_116 : decode cX7_life 116 = .ok (.new 335, 3) := by decide +kernel
theorem dX7_life_119 : decode cX7_life 119 = .ok (.dup, 1) := by decide +kernel
theorem dX7_life_120 : decode cX7_life 120 = .ok (.invokespecial 337, 3) := by decide +kernel
theorem dX7_life_123 : decode cX7_life 123 = .ok (.athrow, 1) := by decide +kernel
theorem dX7_which_0 : decode cX7_which 0 = .ok (.iload_n 1, 1) := by decide +kernel
theorem dX7_which_1 : decode cX7_which 1 = .ok (.invokestatic 83, 3) := by decide +kernel
theorem dX7_which_4 : decode cX7_which 4 = .ok (.ifCond .eq 10, 3) := by decide +kernel
theorem dX7_which_7 : decode cX7_which 7 = .ok (.iload_n 2, 1) := by decide +kernel
theorem dX7_which_8 : decode cX7_which 8 = .ok (.invokestatic 87, 3) := by decide +kernel
theorem dX7_which_11 : decode cX7_which 11 = .ok (.ifCond .ne 5, 3) := by decide +kernel
theorem dX7_which_14 : decode cX7_which 14 = .ok (.iconst (-1), 1) := by decide +kernel
theorem dX7_which_15 : decode cX7_which 15 = .ok (.ireturn, 1) := by decide +kernel
theorem dX7_which_16 : decode cX7_which 16 = .ok (.aload_n 0, 1) := by decide +kernel
theorem dX7_which_17 : decode cX7_which 17 = .ok (.getfield 10, 3) := by decide +kernel
theorem dX7_which_20 : decode cX7_which 20 = .ok (.iload_n 1, 1) := by decide +kernel
theorem dX7_which_21 : decode cX7_which 21 = .ok (.iload_n 2, 1) := by decide +kernel
theorem dX7_which_22 : decode cX7_which 22 = .ok (.invokevirtual 108, 3) := by decide +kernel
theorem dX7_which_25 : decode cX7_which 25 = .ok (.istore_n 3, 1) := by decide +kernel
theorem dX7_which_26 : decode cX7_which 26 = .ok (.iload_n 3, 1) := by decide +kernel
theorem dX7_which_27 : decode cX7_which 27 = .ok (.ifCond .ge 8, 3) := by decide +kernel
theorem dX7_which_30 : decode cX7_which 30 = .ok (.bipush (-2), 2) := by decide +kernel
theorem dX7_which_32 : decode cX7_which 32 = .ok (.goto 4, 3) := by decide +kernel
theorem dX7_which_35 : decode cX7_which 35 = .ok (.iload_n 3, 1) := by decide +kernel
theorem dX7_which_36 : decode cX7_which 36 = .ok (.ireturn, 1) := by decide +kernel
theorem dX7_alive_0 : decode cX7_alive 0 = .ok (.iload_n 1, 1) := by decide +kernel
theorem dX7_alive_1 : decode cX7_alive 1 = .ok (.invokestatic 87, 3) := by decide +kernel
theorem dX7_alive_4 : decode cX7_alive 4 = .ok (.ifCond .eq 14, 3) := by decide +kernel
theorem dX7_alive_7 : decode cX7_alive 7 = .ok (.aload_n 0, 1) := by decide +kernel
theorem dX7_alive_8 : decode cX7_alive 8 = .ok (.getfield 10, 3) := by decide +kernel
theorem dX7_alive_11 : decode cX7_alive 11 = .ok (.iload_n 1, 1) := by decide +kernel
theorem dX7_alive_12 : decode cX7_alive 12 = .ok (.invokevirtual 341, 3) := by decide +kernel
theorem dX7_alive_15 : decode cX7_alive 15 = .ok (.goto 4, 3) := by decide +kernel
theorem dX7_alive_18 : decode cX7_alive 18 = .ok (.iconst (-1), 1) := by decide +kernel
theorem dX7_alive_19 : decode cX7_alive 19 = .ok (.ireturn, 1) := by decide +kernel
theorem dX7_next_0 : decode cX7_next 0 = .ok (.iload_n 1, 1) := by decide +kernel
theorem dX7_next_1 : decode cX7_next 1 = .ok (.invokestatic 83, 3) := by decide +kernel
theorem dX7_next_4 : decode cX7_next 4 = .ok (.ifCond .eq 10, 3) := by decide +kernel
theorem dX7_next_7 : decode cX7_next 7 = .ok (.iload_n 2, 1) := by decide +kernel
theorem dX7_next_8 : decode cX7_next 8 = .ok (.invokestatic 87, 3) := by decide +kernel
theorem dX7_next_11 : decode cX7_next 11 = .ok (.ifCond .ne 5, 3) := by decide +kernel
theorem dX7_next_14 : decode cX7_next 14 = .ok (.iconst (-1), 1) := by decide +kernel
theorem dX7_next_15 : decode cX7_next 15 = .ok (.ireturn, 1) := by decide +kernel
theorem dX7_next_16 : decode cX7_next 16 = .ok (.aload_n 0, 1) := by decide +kernel
theorem dX7_next_17 : decode cX7_next 17 = .ok (.getfield 10, 3) := by decide +kernel
theorem dX7_next_20 : decode cX7_next 20 = .ok (.iload_n 2, 1) := by decide +kernel
theorem dX7_next_21 : decode cX7_next 21 = .ok (.iload_n 1, 1) := by decide +kernel
theorem dX7_next_22 : decode cX7_next 22 = .ok (.invokevirtual 344, 3) := by decide +kernel
theorem dX7_next_25 : decode cX7_next 25 = .ok (.istore_n 3, 1) := by decide +kernel
theorem dX7_next_26 : decode cX7_next 26 = .ok (.iload_n 3, 1) := by decide +kernel
theorem dX7_next_27 : decode cX7_next 27 = .ok (.ifCond .ge 8, 3) := by decide +kernel
theorem dX7_next_30 : decode cX7_next 30 = .ok (.bipush (-2), 2) := by decide +kernel
theorem dX7_next_32 : decode cX7_next 32 = .ok (.goto 11, 3) := by decide +kernel
theorem dX7_next_35 : decode cX7_next 35 = .ok (.aload_n 0, 1) := by decide +kernel
theorem dX7_next_36 : decode cX7_next 36 = .ok (.getfield 10, 3) := by decide +kernel
theorem dX7_next_39 : decode cX7_next 39 = .ok (.iload_n 3, 1) := by decide +kernel
theorem dX7_next_40 : decode cX7_next 40 = .ok (.invokevirtual 157, 3) := by decide +kernel
theorem dX7_next_43 : decode cX7_next 43 = .ok (.ireturn, 1) := by decide +kernel
theorem dX7_before_0 : decode cX7_before 0 = .ok (.iload_n 1, 1) := by decide +kernel
theorem dX7_before_1 : decode cX7_before 1 = .ok (.invokestatic 83, 3) := by decide +kernel
theorem dX7_before_4 : decode cX7_before 4 = .ok (.ifCond .eq 10, 3) := by decide +kernel
theorem dX7_before_7 : decode cX7_before 7 = .ok (.iload_n 2, 1) := by decide +kernel
theorem dX7_before_8 : decode cX7_before 8 = .ok (.invokestatic 87, 3) := by decide +kernel
theorem dX7_before_11 : decode cX7_before 11 = .ok (.ifCond .ne 5, 3) := by decide +kernel
theorem dX7_before_14 : decode cX7_before 14 = .ok (.iconst (-1), 1) := by decide +kernel
theorem dX7_before_15 : decode cX7_before 15 = .ok (.ireturn, 1) := by decide +kernel
theorem dX7_before_16 : decode cX7_before 16 = .ok (.aload_n 0, 1) := by decide +kernel
theorem dX7_before_17 : decode cX7_before 17 = .ok (.getfield 10, 3) := by decide +kernel
theorem dX7_before_20 : decode cX7_before 20 = .ok (.iload_n 2, 1) := by decide +kernel
theorem dX7_before_21 : decode cX7_before 21 = .ok (.iload_n 1, 1) := by decide +kernel
theorem dX7_before_22 : decode cX7_before 22 = .ok (.invokevirtual 347, 3) := by decide +kernel
theorem dX7_before_25 : decode cX7_before 25 = .ok (.istore_n 3, 1) := by decide +kernel
theorem dX7_before_26 : decode cX7_before 26 = .ok (.iload_n 3, 1) := by decide +kernel
theorem dX7_before_27 : decode cX7_before 27 = .ok (.ifCond .ge 8, 3) := by decide +kernel
theorem dX7_before_30 : decode cX7_before 30 = .ok (.bipush (-2), 2) := by decide +kernel
theorem dX7_before_32 : decode cX7_before 32 = .ok (.goto 11, 3) := by decide +kernel
theorem dX7_before_35 : decode cX7_before 35 = .ok (.aload_n 0, 1) := by decide +kernel
theorem dX7_before_36 : decode cX7_before 36 = .ok (.getfield 10, 3) := by decide +kernel
theorem dX7_before_39 : decode cX7_before 39 = .ok (.iload_n 3, 1) := by decide +kernel
theorem dX7_before_40 : decode cX7_before 40 = .ok (.invokevirtual 157, 3) := by decide +kernel
theorem dX7_before_43 : decode cX7_before 43 = .ok (.ireturn, 1) := by decide +kernel
theorem dX7_rank_0 : decode cX7_rank 0 = .ok (.iload_n 1, 1) := by decide +kernel
theorem dX7_rank_1 : decode cX7_rank 1 = .ok (.invokestatic 83, 3) := by decide +kernel
theorem dX7_rank_4 : decode cX7_rank 4 = .ok (.ifCond .eq 10, 3) := by decide +kernel
theorem dX7_rank_7 : decode cX7_rank 7 = .ok (.iload_n 2, 1) := by decide +kernel
theorem dX7_rank_8 : decode cX7_rank 8 = .ok (.invokestatic 87, 3) := by decide +kernel
theorem dX7_rank_11 : decode cX7_rank 11 = .ok (.ifCond .ne 5, 3) := by decide +kernel
theorem dX7_rank_14 : decode cX7_rank 14 = .ok (.iconst (-1), 1) := by decide +kernel
theorem dX7_rank_15 : decode cX7_rank 15 = .ok (.ireturn, 1) := by decide +kernel
theorem dX7_rank_16 : decode cX7_rank 16 = .ok (.iconst 0, 1) := by decide +kernel
theorem dX7_rank_17 : decode cX7_rank 17 = .ok (.istore_n 3, 1) := by decide +kernel
theorem dX7_rank_18 : decode cX7_rank 18 = .ok (.iconst 0, 1) := by decide +kernel
theorem dX7_rank_19 : decode cX7_rank 19 = .ok (.istore 4, 2) := by decide +kernel
theorem dX7_rank_21 : decode cX7_rank 21 = .ok (.iload 4, 2) := by decide +kernel
theorem dX7_rank_23 : decode cX7_rank 23 = .ok (.aload_n 0, 1) := by decide +kernel
theorem dX7_rank_24 : decode cX7_rank 24 = .ok (.getfield 10, 3) := by decide +kernel
theorem dX7_rank_27 : decode cX7_rank 27 = .ok (.invokevirtual 96, 3) := by decide +kernel
theorem dX7_rank_30 : decode cX7_rank 30 = .ok (.if_icmp .ge 38, 3) := by decide +kernel
theorem dX7_rank_33 : decode cX7_rank 33 = .ok (.aload_n 0, 1) := by decide +kernel
theorem dX7_rank_34 : decode cX7_rank 34 = .ok (.getfield 10, 3) := by decide +kernel
theorem dX7_rank_37 : decode cX7_rank 37 = .ok (.iload 4, 2) := by decide +kernel
theorem dX7_rank_39 : decode cX7_rank 39 = .ok (.iload_n 2, 1) := by decide +kernel
theorem dX7_rank_40 : decode cX7_rank 40 = .ok (.invokevirtual 350, 3) := by decide +kernel
theorem dX7_rank_43 : decode cX7_rank 43 = .ok (.ifCond .eq 19, 3) := by decide +kernel
theorem dX7_rank_46 : decode cX7_rank 46 = .ok (.aload_n 0, 1) := by decide +kernel
theorem dX7_rank_47 : decode cX7_rank 47 = .ok (.getfield 10, 3) := by decide +kernel
theorem dX7_rank_50 : decode cX7_rank 50 = .ok (.iload 4, 2) := by decide +kernel
theorem dX7_rank_52 : decode cX7_rank 52 = .ok (.invokevirtual 157, 3) := by decide +kernel
theorem dX7_rank_55 : decode cX7_rank 55 = .ok (.iload_n 1, 1) := by decide +kernel
theorem dX7_rank_56 : decode cX7_rank 56 = .ok (.if_icmp .ge 6, 3) := by decide +kernel
theorem dX7_rank_59 : decode cX7_rank 59 = .ok (.iinc 3 1, 3) := by decide +kernel
theorem dX7_rank_62 : decode cX7_rank 62 = .ok (.iinc 4 1, 3) := by decide +kernel
theorem dX7_rank_65 : decode cX7_rank 65 = .ok (.goto (-44), 3) := by decide +kernel
theorem dX7_rank_68 : decode cX7_rank 68 = .ok (.iload_n 3, 1) := by decide +kernel
theorem dX7_rank_69 : decode cX7_rank 69 = .ok (.ireturn, 1) := by decide +kernel
theorem dX7_kth_0 : decode cX7_kth 0 = .ok (.iload_n 1, 1) := by decide +kernel
theorem dX7_kth_1 : decode cX7_kth 1 = .ok (.invokestatic 87, 3) := by decide +kernel
theorem dX7_kth_4 : decode cX7_kth 4 = .ok (.ifCond .eq 7, 3) := by decide +kernel
theorem dX7_kth_7 : decode cX7_kth 7 = .ok (.iload_n 2, 1) := by decide +kernel
theorem dX7_kth_8 : decode cX7_kth 8 = .ok (.ifCond .ge 5, 3) := by decide +kernel
theorem dX7_kth_11 : decode cX7_kth 11 = .ok (.iconst (-1), 1) := by decide +kernel
theorem dX7_kth_12 : decode cX7_kth 12 = .ok (.ireturn, 1) := by decide +kernel
theorem dX7_kth_13 : decode cX7_kth 13 = .ok (.iconst 0, 1) := by decide +kernel
theorem dX7_kth_14 : decode cX7_kth 14 = .ok (.istore_n 3, 1) := by decide +kernel
theorem dX7_kth_15 : decode cX7_kth 15 = .ok (.iconst 0, 1) := by decide +kernel
theorem dX7_kth_16 : decode cX7_kth 16 = .ok (.istore 4, 2) := by decide +kernel
theorem dX7_kth_18 : decode cX7_kth 18 = .ok (.iload 4, 2) := by decide +kernel
theorem dX7_kth_20 : decode cX7_kth 20 = .ok (.aload_n 0, 1) := by decide +kernel
theorem dX7_kth_21 : decode cX7_kth 21 = .ok (.getfield 10, 3) := by decide +kernel
theorem dX7_kth_24 : decode cX7_kth 24 = .ok (.invokevirtual 96, 3) := by decide +kernel
theorem dX7_kth_27 : decode cX7_kth 27 = .ok (.if_icmp .ge 40, 3) := by decide +kernel
theorem dX7_kth_30 : decode cX7_kth 30 = .ok (.aload_n 0, 1) := by decide +kernel
theorem dX7_kth_31 : decode cX7_kth 31 = .ok (.getfield 10, 3) := by decide +kernel
theorem dX7_kth_34 : decode cX7_kth 34 = .ok (.iload 4, 2) := by decide +kernel
theorem dX7_kth_36 : decode cX7_kth 36 = .ok (.iload_n 1, 1) := by decide +kernel
theorem dX7_kth_37 : decode cX7_kth 37 = .ok (.invokevirtual 350, 3) := by decide +kernel
theorem dX7_kth_40 : decode cX7_kth 40 = .ok (.ifCond .eq 21, 3) := by decide +kernel
theorem dX7_kth_43 : decode cX7_kth 43 = .ok (.iload_n 3, 1) := by decide +kernel
theorem dX7_kth_44 : decode cX7_kth 44 = .ok (.iload_n 2, 1) := by decide +kernel
theorem dX7_kth_45 : decode cX7_kth 45 = .ok (.if_icmp .ne 13, 3) := by decide +kernel
theorem dX7_kth_48 : decode cX7_kth 48 = .ok (.aload_n 0, 1) := by decide +kernel
theorem dX7_kth_49 : decode cX7_kth 49 = .ok (.getfield 10, 3) := by decide +kernel
theorem dX7_kth_52 : decode cX7_kth 52 = .ok (.iload 4, 2) := by decide +kernel
theorem dX7_kth_54 : decode cX7_kth 54 = .ok (.invokevirtual 157, 3) := by decide +kernel
theorem dX7_kth_57 : decode cX7_kth 57 = .ok (.ireturn, 1) := by decide +kernel
theorem dX7_kth_58 : decode cX7_kth 58 = .ok (.iinc 3 1, 3) := by decide +kernel
theorem dX7_kth_61 : decode cX7_kth 61 = .ok (.iinc 4 1, 3) := by decide +kernel
theorem dX7_kth_64 : decode cX7_kth 64 = .ok (.goto (-46), 3) := by decide +kernel
theorem dX7_kth_67 : decode cX7_kth 67 = .ok (.bipush (-2), 2) := by decide +kernel
theorem dX7_kth_69 : decode cX7_kth 69 = .ok (.ireturn, 1) := by decide +kernel
theorem dX7_sum_0 : decode cX7_sum 0 = .ok (.iload_n 1, 1) := by decide +kernel
theorem dX7_sum_1 : decode cX7_sum 1 = .ok (.invokestatic 87, 3) := by decide +kernel
theorem dX7_sum_4 : decode cX7_sum 4 = .ok (.ifCond .eq 22, 3) := by decide +kernel
theorem dX7_sum_7 : decode cX7_sum 7 = .ok (.iload_n 2, 1) := by decide +kernel
theorem dX7_sum_8 : decode cX7_sum 8 = .ok (.invokestatic 83, 3) := by decide +kernel
theorem dX7_sum_11 : decode cX7_sum 11 = .ok (.ifCond .eq 15, 3) := by decide +kernel
theorem dX7_sum_14 : decode cX7_sum 14 = .ok (.iload_n 3, 1) := by decide +kernel
theorem dX7_sum_15 : decode cX7_sum 15 = .ok (.invokestatic 83, 3) := by decide +kernel
theorem dX7_sum_18 : decode cX7_sum 18 = .ok (.ifCond .eq 8, 3) := by decide +kernel
theorem dX7_sum_21 : decode cX7_sum 21 = .ok (.iload_n 3, 1) := by decide +kernel
theorem dX7_sum_22 : decode cX7_sum 22 = .ok (.iload_n 2, 1) := by decide +kernel
theorem dX7_sum_23 : decode cX7_sum 23 = .ok (.if_icmp .ge 5, 3) := by decide +kernel
theorem dX7_sum_26 : decode cX7_sum 26 = .ok (.iconst (-1), 1) := by decide +kernel
theorem dX7_sum_27 : decode cX7_sum 27 = .ok (.ireturn, 1) := by decide +kernel
theorem dX7_sum_28 : decode cX7_sum 28 = .ok (.aload_n 0, 1) := by decide +kernel
theorem dX7_sum_29 : decode cX7_sum 29 = .ok (.getfield 10, 3) := by decide +kernel
theorem dX7_sum_32 : decode cX7_sum 32 = .ok (.iload_n 1, 1) := by decide +kernel
theorem dX7_sum_33 : decode cX7_sum 33 = .ok (.iload_n 2, 1) := by decide +kernel
theorem dX7_sum_34 : decode cX7_sum 34 = .ok (.iload_n 3, 1) := by decide +kernel
theorem dX7_sum_35 : decode cX7_sum 35 = .ok (.invokevirtual 354, 3) := by decide +kernel
theorem dX7_sum_38 : decode cX7_sum 38 = .ok (.ireturn, 1) := by decide +kernel
theorem dX7_gap_0 : decode cX7_gap 0 = .ok (.iload_n 1, 1) := by decide +kernel
theorem dX7_gap_1 : decode cX7_gap 1 = .ok (.invokestatic 87, 3) := by decide +kernel
theorem dX7_gap_4 : decode cX7_gap 4 = .ok (.ifCond .ne 5, 3) := by decide +kernel
theorem dX7_gap_7 : decode cX7_gap 7 = .ok (.iconst (-1), 1) := by decide +kernel
theorem dX7_gap_8 : decode cX7_gap 8 = .ok (.ireturn, 1) := by decide +kernel
theorem dX7_gap_9 : decode cX7_gap 9 = .ok (.bipush (-2), 2) := by decide +kernel
theorem dX7_gap_11 : decode cX7_gap 11 = .ok (.istore_n 2, 1) := by decide +kernel
theorem dX7_gap_12 : decode cX7_gap 12 = .ok (.iconst 0, 1) := by decide +kernel
theorem dX7_gap_13 : decode cX7_gap 13 = .ok (.istore_n 3, 1) := by decide +kernel
theorem dX7_gap_14 : decode cX7_gap 14 = .ok (.iconst (-1), 1) := by decide +kernel
theorem dX7_gap_15 : decode cX7_gap 15 = .ok (.istore 4, 2) := by decide +kernel
theorem dX7_gap_17 : decode cX7_gap 17 = .ok (.iconst 0, 1) := by decide +kernel
theorem dX7_gap_18 : decode cX7_gap 18 = .ok (.istore 5, 2) := by decide +kernel
theorem dX7_gap_20 : decode cX7_gap 20 = .ok (.iload 5, 2) := by decide +kernel
theorem dX7_gap_22 : decode cX7_gap 22 = .ok (.aload_n 0, 1) := by decide +kernel
theorem dX7_gap_23 : decode cX7_gap 23 = .ok (.getfield 10, 3) := by decide +kernel
theorem dX7_gap_26 : decode cX7_gap 26 = .ok (.invokevirtual 96, 3) := by decide +kernel
theorem dX7_gap_29 : decode cX7_gap 29 = .ok (.if_icmp .ge 61, 3) := by decide +kernel
theorem dX7_gap_32 : decode cX7_gap 32 = .ok (.aload_n 0, 1) := by decide +kernel
theorem dX7_gap_33 : decode cX7_gap 33 = .ok (.getfield 10, 3) := by decide +kernel
theorem dX7_gap_36 : decode cX7_gap 36 = .ok (.iload 5, 2) := by decide +kernel
theorem dX7_gap_38 : decode cX7_gap 38 = .ok (.iload_n 1, 1) := by decide +kernel
theorem dX7_gap_39 : decode cX7_gap 39 = .ok (.invokevirtual 350, 3) := by decide +kernel
theorem dX7_gap_42 : decode cX7_gap 42 = .ok (.ifCond .eq 42, 3) := by decide +kernel
theorem dX7_gap_45 : decode cX7_gap 45 = .ok (.aload_n 0, 1) := by decide +kernel
theorem dX7_gap_46 : decode cX7_gap 46 = .ok (.getfield 10, 3) := by decide +kernel
theorem dX7_gap_49 : decode cX7_gap 49 = .ok (.iload 5, 2) := by decide +kernel
theorem dX7_gap_51 : decode cX7_gap 51 = .ok (.invokevirtual 157, 3) := by decide +kernel
theorem dX7_gap_54 : decode cX7_gap 54 = .ok (.istore 6, 2) := by decide +kernel
theorem dX7_gap_56 : decode cX7_gap 56 = .ok (.iload 4, 2) := by decide +kernel
theorem dX7_gap_58 : decode cX7_gap 58 = .ok (.iconst (-1), 1) := by decide +kernel
theorem dX7_gap_59 : decode cX7_gap 59 = .ok (.if_icmp .eq 21, 3) := by decide +kernel
theorem dX7_gap_62 : decode cX7_gap 62 = .ok (.iload 6, 2) := by decide +kernel
theorem dX7_gap_64 : decode cX7_gap 64 = .ok (.iload 4, 2) := by decide +kernel
theorem dX7_gap_66 : decode cX7_gap 66 = .ok (.isub, 1) := by decide +kernel
theorem dX7_gap_67 : decode cX7_gap 67 = .ok (.iload_n 3, 1) := by decide +kernel
theorem dX7_gap_68 : decode cX7_gap 68 = .ok (.if_icmp .le 12, 3) := by decide +kernel
theorem dX7_gap_71 : decode cX7_gap 71 = .ok (.iload 6, 2) := by decide +kernel
theorem dX7_gap_73 : decode cX7_gap 73 = .ok (.iload 4, 2) := by decide +kernel
theorem dX7_gap_75 : decode cX7_gap 75 = .ok (.isub, 1) := by decide +kernel
theorem dX7_gap_76 : decode cX7_gap 76 = .ok (.istore_n 3, 1) := by decide +kernel
theorem dX7_gap_77 : decode cX7_gap 77 = .ok (.iload 4, 2) := by decide +kernel
theorem dX7_gap_79 : decode cX7_gap 79 = .ok (.istore_n 2, 1) := by decide +kernel
theorem dX7_gap_80 : decode cX7_gap 80 = .ok (.iload 6, 2) := by decide +kernel
theorem dX7_gap_82 : decode cX7_gap 82 = .ok (.istore 4, 2) := by decide +kernel
theorem dX7_gap_84 : decode cX7_gap 84 = .ok (.iinc 5 1, 3) := by decide +kernel
theorem dX7_gap_87 : decode cX7_gap 87 = .ok (.goto (-67), 3) := by decide +kernel
theorem dX7_gap_90 : decode cX7_gap 90 = .ok (.iload_n 2, 1) := by decide +kernel
theorem dX7_gap_91 : decode cX7_gap 91 = .ok (.ireturn, 1) := by decide +kernel
theorem dX7_changes_0 : decode cX7_changes 0 = .ok (.iload_n 1, 1) := by decide +kernel
theorem dX7_changes_1 : decode cX7_changes 1 = .ok (.invokestatic 87, 3) := by decide +kernel
theorem dX7_changes_4 : decode cX7_changes 4 = .ok (.ifCond .ne 9, 3) := by decide +kernel
theorem dX7_changes_7 : decode cX7_changes 7 = .ok (.iload_n 1, 1) := by decide +kernel
theorem dX7_changes_8 : decode cX7_changes 8 = .ok (.bipush 64, 2) := by decide +kernel
theorem dX7_changes_10 : decode cX7_changes 10 = .ok (.if_icmp .ne 12, 3) := by decide +kernel
theorem dX7_changes_13 : decode cX7_changes 13 = .ok (.iload_n 2, 1) := by decide +kernel
theorem dX7_changes_14 : decode cX7_changes 14 = .ok (.ifCond .lt 8, 3) := by decide +kernel
theorem dX7_changes_17 : decode cX7_changes 17 = .ok (.iload_n 2, 1) := by decide +kernel
theorem dX7_changes_18 : decode cX7_changes 18 = .ok (.iconst 1, 1) := by decide +kernel
theorem dX7_changes_19 : decode cX7_changes 19 = .ok (.if_icmp .le 5, 3) := by decide +kernel
theorem dX7_changes_22 : decode cX7_changes 22 = .ok (.iconst (-1), 1) := by decide +kernel
theorem dX7_changes_23 : decode cX7_changes 23 = .ok (.ireturn, 1) := by decide +kernel
theorem dX7_changes_24 : decode cX7_changes 24 = .ok (.iconst 0, 1) := by decide +kernel
theorem dX7_changes_25 : decode cX7_changes 25 = .ok (.istore_n 3, 1) := by decide +kernel
theorem dX7_changes_26 : decode cX7_changes 26 = .ok (.iconst 0, 1) := by decide +kernel
theorem dX7_changes_27 : decode cX7_changes 27 = .ok (.istore 4, 2) := by decide +kernel
theorem dX7_changes_29 : decode cX7_changes 29 = .ok (.iload 4, 2) := by decide +kernel
theorem dX7_changes_31 : decode cX7_changes 31 = .ok (.aload_n 0, 1) := by decide +kernel
theorem dX7_changes_32 : decode cX7_changes 32 = .ok (.getfield 10, 3) := by decide +kernel
theorem dX7_changes_35 : decode cX7_changes 35 = .ok (.invokevirtual 96, 3) := by decide +kernel
theorem dX7_changes_38 : decode cX7_changes 38 = .ok (.if_icmp .ge 45, 3) := by decide +kernel
theorem dX7_changes_41 : decode cX7_changes 41 = .ok (.iload_n 2, 1) := by decide +kernel
theorem dX7_changes_42 : decode cX7_changes 42 = .ok (.ifCond .ne 15, 3) := by decide +kernel
theorem dX7_changes_45 : decode cX7_changes 45 = .ok (.aload_n 0, 1) := by decide +kernel
theorem dX7_changes_46 : decode cX7_changes 46 = .ok (.getfield 10, 3) := by decide +kernel
theorem dX7_changes_49 : decode cX7_changes 49 = .ok (.iload 4, 2) := by decide +kernel
theorem dX7_changes_51 : decode cX7_changes 51 = .ok (.invokevirtual 112, 3) := by decide +kernel
theorem dX7_changes_54 : decode cX7_changes 54 = .ok (.goto 12, 3) := by decide +kernel
theorem dX7_changes_57 : decode cX7_changes 57 = .ok (.aload_n 0, 1) := by decide +kernel
theorem dX7_changes_58 : decode cX7_changes 58 = .ok (.getfield 10, 3) := by decide +kernel
theorem dX7_changes_61 : decode cX7_changes 61 = .ok (.iload 4, 2) := by decide +kernel
theorem dX7_changes_63 : decode cX7_changes 63 = .ok (.invokevirtual 123, 3) := by decide +kernel
theorem dX7_changes_66 : decode cX7_changes 66 = .ok (.istore 5, 2) := by decide +kernel
theorem dX7_changes_68 : decode cX7_changes 68 = .ok (.iload 5, 2) := by decide +kernel
theorem dX7_changes_70 : decode cX7_changes 70 = .ok (.iload_n 1, 1) := by decide +kernel
theorem dX7_changes_71 : decode cX7_changes 71 = .ok (.if_icmp .ne 6, 3) := by decide +kernel
theorem dX7_changes_74 : decode cX7_changes 74 = .ok (.iinc 3 1, 3) := by decide +kernel
theorem dX7_changes_77 : decode cX7_changes 77 = .ok (.iinc 4 1, 3) := by decide +kernel
theorem dX7_changes_80 : decode cX7_changes 80 = .ok (.goto (-51), 3) := by decide +kernel
theorem dX7_changes_83 : decode cX7_changes 83 = .ok (.iload_n 3, 1) := by decide +kernel
theorem dX7_changes_84 : decode cX7_changes 84 = .ok (.ireturn, 1) := by decide +kernel
theorem dX7_always_0 : decode cX7_always 0 = .ok (.iload_n 1, 1) := by decide +kernel
theorem dX7_always_1 : decode cX7_always 1 = .ok (.invokestatic 83, 3) := by decide +kernel
theorem dX7_always_4 : decode cX7_always 4 = .ok (.ifCond .eq 22, 3) := by decide +kernel
theorem dX7_always_7 : decode cX7_always 7 = .ok (.iload_n 2, 1) := by decide +kernel
theorem dX7_always_8 : decode cX7_always 8 = .ok (.invokestatic 87, 3) := by decide +kernel
theorem dX7_always_11 : decode cX7_always 11 = .ok (.ifCond .eq 15, 3) := by decide +kernel
theorem dX7_always_14 : decode cX7_always 14 = .ok (.iload_n 3, 1) := by decide +kernel
theorem dX7_always_15 : decode cX7_always 15 = .ok (.invokestatic 87, 3) := by decide +kernel
theorem dX7_always_18 : decode cX7_always 18 = .ok (.ifCond .eq 8, 3) := by decide +kernel
theorem dX7_always_21 : decode cX7_always 21 = .ok (.iload_n 3, 1) := by decide +kernel
theorem dX7_always_22 : decode cX7_always 22 = .ok (.iload_n 2, 1) := by decide +kernel
theorem dX7_always_23 : decode cX7_always 23 = .ok (.if_icmp .ge 5, 3) := by decide +kernel
theorem dX7_always_26 : decode cX7_always 26 = .ok (.iconst (-1), 1) := by decide +kernel
theorem dX7_always_27 : decode cX7_always 27 = .ok (.ireturn, 1) := by decide +kernel
theorem dX7_always_28 : decode cX7_always 28 = .ok (.iload_n 2, 1) := by decide +kernel
theorem dX7_always_29 : decode cX7_always 29 = .ok (.iload_n 3, 1) := by decide +kernel
theorem dX7_always_30 : decode cX7_always 30 = .ok (.iconst 1, 1) := by decide +kernel
theorem dX7_always_31 : decode cX7_always 31 = .ok (.iadd, 1) := by decide +kernel
theorem dX7_always_32 : decode cX7_always 32 = .ok (.invokestatic 163, 3) := by decide +kernel
theorem dX7_always_35 : decode cX7_always 35 = .ok (.lstore 4, 2) := by decide +kernel
theorem dX7_always_37 : decode cX7_always 37 = .ok (.iconst 0, 1) := by decide +kernel
theorem dX7_always_38 : decode cX7_always 38 = .ok (.istore 6, 2) := by decide +kernel
theorem dX7_always_40 : decode cX7_always 40 = .ok (.iload 6, 2) := by decide +kernel
theorem dX7_always_42 : decode cX7_always 42 = .ok (.aload_n 0, 1) := by decide +kernel
theorem dX7_always_43 : decode cX7_always 43 = .ok (.getfield 10, 3) := by decide +kernel
theorem dX7_always_46 : decode cX7_always 46 = .ok (.invokevirtual 96, 3) := by decide +kernel
theorem dX7_always_49 : decode cX7_always 49 = .ok (.if_icmp .ge 48, 3) := by decide +kernel
theorem dX7_always_52 : decode cX7_always 52 = .ok (.aload_n 0, 1) := by decide +kernel
theorem dX7_always_53 : decode cX7_always 53 = .ok (.getfield 10, 3) := by decide +kernel
theorem dX7_always_56 : decode cX7_always 56 = .ok (.iload 6, 2) := by decide +kernel
theorem dX7_always_58 : decode cX7_always 58 = .ok (.invokevirtual 157, 3) := by decide +kernel
theorem dX7_always_61 : decode cX7_always 61 = .ok (.istore 7, 2) := by decide +kernel
theorem dX7_always_63 : decode cX7_always 63 = .ok (.iload 7, 2) := by decide +kernel
theorem dX7_always_65 : decode cX7_always 65 = .ok (.iload_n 1, 1) := by decide +kernel
theorem dX7_always_66 : decode cX7_always 66 = .ok (.if_icmp .lt 25, 3) := by decide +kernel
theorem dX7_always_69 : decode cX7_always 69 = .ok (.aload_n 0, 1) := by decide +kernel
theorem dX7_always_70 : decode cX7_always 70 = .ok (.getfield 10, 3) := by decide +kernel
theorem dX7_always_73 : decode cX7_always 73 = .ok (.iload 7, 2) := by decide +kernel
theorem dX7_always_75 : decode cX7_always 75 = .ok (.iconst (-1), 1) := by decide +kernel
theorem dX7_always_76 : decode cX7_always 76 = .ok (.invokevirtual 167, 3) := by decide +kernel
theorem dX7_always_79 : decode cX7_always 79 = .ok (.lload 4, 2) := by decide +kernel
theorem dX7_always_81 : decode cX7_always 81 = .ok (.land, 1) := by decide +kernel
theorem dX7_always_82 : decode cX7_always 82 = .ok (.lload 4, 2) := by decide +kernel
theorem dX7_always_84 : decode cX7_always 84 = .ok (.lcmp, 1) := by decide +kernel
theorem dX7_always_85 : decode cX7_always 85 = .ok (.ifCond .ne 6, 3) := by decide +kernel
theorem dX7_always_88 : decode cX7_always 88 = .ok (.iload 7, 2) := by decide +kernel
theorem dX7_always_90 : decode cX7_always 90 = .ok (.ireturn, 1) := by decide +kernel
theorem dX7_always_91 : decode cX7_always 91 = .ok (.iinc 6 1, 3) := by decide +kernel
theorem dX7_always_94 : decode cX7_always 94 = .ok (.goto (-54), 3) := by decide +kernel
theorem dX7_always_97 : decode cX7_always 97 = .ok (.bipush (-2), 2) := by decide +kernel
theorem dX7_always_99 : decode cX7_always 99 = .ok (.ireturn, 1) := by decide +kernel
theorem dX7_ever_0 : decode cX7_ever 0 = .ok (.iload_n 1, 1) := by decide +kernel
theorem dX7_ever_1 : decode cX7_ever 1 = .ok (.invokestatic 83, 3) := by decide +kernel
theorem dX7_ever_4 : decode cX7_ever 4 = .ok (.ifCond .eq 22, 3) := by decide +kernel
theorem dX7_ever_7 : decode cX7_ever 7 = .ok (.iload_n 2, 1) := by decide +kernel
theorem dX7_ever_8 : decode cX7_ever 8 = .ok (.invokestatic 87, 3) := by decide +kernel
theorem dX7_ever_11 : decode cX7_ever 11 = .ok (.ifCond .eq 15, 3) := by decide +kernel
theorem dX7_ever_14 : decode cX7_ever 14 = .ok (.iload_n 3, 1) := by decide +kernel
theorem dX7_ever_15 : decode cX7_ever 15 = .ok (.invokestatic 87, 3) := by decide +kernel
theorem dX7_ever_18 : decode cX7_ever 18 = .ok (.ifCond .eq 8, 3) := by decide +kernel
theorem dX7_ever_21 : decode cX7_ever 21 = .ok (.iload_n 3, 1) := by decide +kernel
theorem dX7_ever_22 : decode cX7_ever 22 = .ok (.iload_n 2, 1) := by decide +kernel
theorem dX7_ever_23 : decode cX7_ever 23 = .ok (.if_icmp .ge 5, 3) := by decide +kernel
theorem dX7_ever_26 : decode cX7_ever 26 = .ok (.iconst (-1), 1) := by decide +kernel
theorem dX7_ever_27 : decode cX7_ever 27 = .ok (.ireturn, 1) := by decide +kernel
theorem dX7_ever_28 : decode cX7_ever 28 = .ok (.iload_n 2, 1) := by decide +kernel
theorem dX7_ever_29 : decode cX7_ever 29 = .ok (.iload_n 3, 1) := by decide +kernel
theorem dX7_ever_30 : decode cX7_ever 30 = .ok (.iconst 1, 1) := by decide +kernel
theorem dX7_ever_31 : decode cX7_ever 31 = .ok (.iadd, 1) := by decide +kernel
theorem dX7_ever_32 : decode cX7_ever 32 = .ok (.invokestatic 163, 3) := by decide +kernel
theorem dX7_ever_35 : decode cX7_ever 35 = .ok (.lstore 4, 2) := by decide +kernel
theorem dX7_ever_37 : decode cX7_ever 37 = .ok (.iconst 0, 1) := by decide +kernel
theorem dX7_ever_38 : decode cX7_ever 38 = .ok (.istore 6, 2) := by decide +kernel
theorem dX7_ever_40 : decode cX7_ever 40 = .ok (.iload 6, 2) := by decide +kernel
theorem dX7_ever_42 : decode cX7_ever 42 = .ok (.aload_n 0, 1) := by decide +kernel
theorem dX7_ever_43 : decode cX7_ever 43 = .ok (.getfield 10, 3) := by decide +kernel
theorem dX7_ever_46 : decode cX7_ever 46 = .ok (.invokevirtual 96, 3) := by decide +kernel
theorem dX7_ever_49 : decode cX7_ever 49 = .ok (.if_icmp .ge 47, 3) := by decide +kernel
theorem dX7_ever_52 : decode cX7_ever 52 = .ok (.aload_n 0, 1) := by decide +kernel
theorem dX7_ever_53 : decode cX7_ever 53 = .ok (.getfield 10, 3) := by decide +kernel
theorem dX7_ever_56 : decode cX7_ever 56 = .ok (.iload 6, 2) := by decide +kernel
theorem dX7_ever_58 : decode cX7_ever 58 = .ok (.invokevirtual 157, 3) := by decide +kernel
theorem dX7_ever_61 : decode cX7_ever 61 = .ok (.istore 7, 2) := by decide +kernel
theorem dX7_ever_63 : decode cX7_ever 63 = .ok (.iload 7, 2) := by decide +kernel
theorem dX7_ever_65 : decode cX7_ever 65 = .ok (.iload_n 1, 1) := by decide +kernel
theorem dX7_ever_66 : decode cX7_ever 66 = .ok (.if_icmp .lt 24, 3) := by decide +kernel
theorem dX7_ever_69 : decode cX7_ever 69 = .ok (.aload_n 0, 1) := by decide +kernel
theorem dX7_ever_70 : decode cX7_ever 70 = .ok (.getfield 10, 3) := by decide +kernel
theorem dX7_ever_73 : decode cX7_ever 73 = .ok (.iload 7, 2) := by decide +kernel
theorem dX7_ever_75 : decode cX7_ever 75 = .ok (.iconst (-1), 1) := by decide +kernel
theorem dX7_ever_76 : decode cX7_ever 76 = .ok (.invokevirtual 167, 3) := by decide +kernel
theorem dX7_ever_79 : decode cX7_ever 79 = .ok (.lload 4, 2) := by decide +kernel
theorem dX7_ever_81 : decode cX7_ever 81 = .ok (.land, 1) := by decide +kernel
theorem dX7_ever_82 : decode cX7_ever 82 = .ok (.lconst 0, 1) := by decide +kernel
theorem dX7_ever_83 : decode cX7_ever 83 = .ok (.lcmp, 1) := by decide +kernel
theorem dX7_ever_84 : decode cX7_ever 84 = .ok (.ifCond .eq 6, 3) := by decide +kernel
theorem dX7_ever_87 : decode cX7_ever 87 = .ok (.iload 7, 2) := by decide +kernel
theorem dX7_ever_89 : decode cX7_ever 89 = .ok (.ireturn, 1) := by decide +kernel
theorem dX7_ever_90 : decode cX7_ever 90 = .ok (.iinc 6 1, 3) := by decide +kernel
theorem dX7_ever_93 : decode cX7_ever 93 = .ok (.goto (-53), 3) := by decide +kernel
theorem dX7_ever_96 : decode cX7_ever 96 = .ok (.bipush (-2), 2) := by decide +kernel
theorem dX7_ever_98 : decode cX7_ever 98 = .ok (.ireturn, 1) := by decide +kernel
theorem dX7_both_0 : decode cX7_both 0 = .ok (.iload_n 1, 1) := by decide +kernel
theorem dX7_both_1 : decode cX7_both 1 = .ok (.invokestatic 83, 3) := by decide +kernel
theorem dX7_both_4 : decode cX7_both 4 = .ok (.ifCond .eq 10, 3) := by decide +kernel
theorem dX7_both_7 : decode cX7_both 7 = .ok (.iload_n 2, 1) := by decide +kernel
theorem dX7_both_8 : decode cX7_both 8 = .ok (.invokestatic 83, 3) := by decide +kernel
theorem dX7_both_11 : decode cX7_both 11 = .ok (.ifCond .ne 5, 3) := by decide +kernel
theorem dX7_both_14 : decode cX7_both 14 = .ok (.iconst (-1), 1) := by decide +kernel
theorem dX7_both_15 : decode cX7_both 15 = .ok (.ireturn, 1) := by decide +kernel
theorem dX7_both_16 : decode cX7_both 16 = .ok (.aload_n 0, 1) := by decide +kernel
theorem dX7_both_17 : decode cX7_both 17 = .ok (.getfield 10, 3) := by decide +kernel
theorem dX7_both_20 : decode cX7_both 20 = .ok (.iload_n 1, 1) := by decide +kernel
theorem dX7_both_21 : decode cX7_both 21 = .ok (.iconst (-1), 1) := by decide +kernel
theorem dX7_both_22 : decode cX7_both 22 = .ok (.invokevirtual 167, 3) := by decide +kernel
theorem dX7_both_25 : decode cX7_both 25 = .ok (.aload_n 0, 1) := by decide +kernel
theorem dX7_both_26 : decode cX7_both 26 = .ok (.getfield 10, 3) := by decide +kernel
theorem dX7_both_29 : decode cX7_both 29 = .ok (.iload_n 2, 1) := by decide +kernel
theorem dX7_both_30 : decode cX7_both 30 = .ok (.iconst (-1), 1) := by decide +kernel
theorem dX7_both_31 : decode cX7_both 31 = .ok (.invokevirtual 167, 3) := by decide +kernel
theorem dX7_both_34 : decode cX7_both 34 = .ok (.land, 1) := by decide +kernel
theorem dX7_both_35 : decode cX7_both 35 = .ok (.invokestatic 357, 3) := by decide +kernel
theorem dX7_both_38 : decode cX7_both 38 = .ok (.ireturn, 1) := by decide +kernel
theorem dX7_reigns_0 : decode cX7_reigns 0 = .ok (.iload_n 1, 1) := by decide +kernel
theorem dX7_reigns_1 : decode cX7_reigns 1 = .ok (.invokestatic 83, 3) := by decide +kernel
theorem dX7_reigns_4 : decode cX7_reigns 4 = .ok (.ifCond .eq 10, 3) := by decide +kernel
theorem dX7_reigns_7 : decode cX7_reigns 7 = .ok (.iload_n 2, 1) := by decide +kernel
theorem dX7_reigns_8 : decode cX7_reigns 8 = .ok (.invokestatic 83, 3) := by decide +kernel
theorem dX7_reigns_11 : decode cX7_reigns 11 = .ok (.ifCond .ne 5, 3) := by decide +kernel
theorem dX7_reigns_14 : decode cX7_reigns 14 = .ok (.iconst (-1), 1) := by decide +kernel
theorem dX7_reigns_15 : decode cX7_reigns 15 = .ok (.ireturn, 1) := by decide +kernel
theorem dX7_reigns_16 : decode cX7_reigns 16 = .ok (.iconst 0, 1) := by decide +kernel
theorem dX7_reigns_17 : decode cX7_reigns 17 = .ok (.istore_n 3, 1) := by decide +kernel
theorem dX7_reigns_18 : decode cX7_reigns 18 = .ok (.iconst 0, 1) := by decide +kernel
theorem dX7_reigns_19 : decode cX7_reigns 19 = .ok (.istore 4, 2) := by decide +kernel
theorem dX7_reigns_21 : decode cX7_reigns 21 = .ok (.iload 4, 2) := by decide +kernel
theorem dX7_reigns_23 : decode cX7_reigns 23 = .ok (.bipush 64, 2) := by decide +kernel
theorem dX7_reigns_25 : decode cX7_reigns 25 = .ok (.if_icmp .ge 44, 3) := by decide +kernel
theorem dX7_reigns_28 : decode cX7_reigns 28 = .ok (.aload_n 0, 1) := by decide +kernel
theorem dX7_reigns_29 : decode cX7_reigns 29 = .ok (.getfield 10, 3) := by decide +kernel
theorem dX7_reigns_32 : decode cX7_reigns 32 = .ok (.iload 4, 2) := by decide +kernel
theorem dX7_reigns_34 : decode cX7_reigns 34 = .ok (.iload_n 1, 1) := by decide +kernel
theorem dX7_reigns_35 : decode cX7_reigns 35 = .ok (.iconst 1, 1) := by decide +kernel
theorem dX7_reigns_36 : decode cX7_reigns 36 = .ok (.iadd, 1) := by decide +kernel
theorem dX7_reigns_37 : decode cX7_reigns 37 = .ok (.invokevirtual 344, 3) := by decide +kernel
theorem dX7_reigns_40 : decode cX7_reigns 40 = .ok (.istore 5, 2) := by decide +kernel
theorem dX7_reigns_42 : decode cX7_reigns 42 = .ok (.iload 5, 2) := by decide +kernel
theorem dX7_reigns_44 : decode cX7_reigns 44 = .ok (.ifCond .lt 19, 3) := by decide +kernel
theorem dX7_reigns_47 : decode cX7_reigns 47 = .ok (.aload_n 0, 1) := by decide +kernel
theorem dX7_reigns_48 : decode cX7_reigns 48 = .ok (.getfield 10, 3) := by decide +kernel
theorem dX7_reigns_51 : decode cX7_reigns 51 = .ok (.iload 5, 2) := by decide +kernel
theorem dX7_reigns_53 : decode cX7_reigns 53 = .ok (.invokevirtual 157, 3) := by decide +kernel
theorem dX7_reigns_56 : decode cX7_reigns 56 = .ok (.iload_n 2, 1) := by decide +kernel
theorem dX7_reigns_57 : decode cX7_reigns 57 = .ok (.if_icmp .ne 6, 3) := by decide +kernel
theorem dX7_reigns_60 : decode cX7_reigns 60 = .ok (.iinc 3 1, 3) := by decide +kernel
theorem dX7_reigns_63 : decode cX7_reigns 63 = .ok (.iinc 4 1, 3) := by decide +kernel
theorem dX7_reigns_66 : decode cX7_reigns 66 = .ok (.goto (-45), 3) := by decide +kernel
theorem dX7_reigns_69 : decode cX7_reigns 69 = .ok (.iload_n 3, 1) := by decide +kernel
theorem dX7_reigns_70 : decode cX7_reigns 70 = .ok (.ireturn, 1) := by decide +kernel
theorem dX7_crowd_0 : decode cX7_crowd 0 = .ok (.iload_n 1, 1) := by decide +kernel
theorem dX7_crowd_1 : decode cX7_crowd 1 = .ok (.ifCond .lt 8, 3) := by decide +kernel
theorem dX7_crowd_4 : decode cX7_crowd 4 = .ok (.iload_n 1, 1) := by decide +kernel
theorem dX7_crowd_5 : decode cX7_crowd 5 = .ok (.iconst 3, 1) := by decide +kernel
theorem dX7_crowd_6 : decode cX7_crowd 6 = .ok (.if_icmp .le 5, 3) := by decide +kernel
theorem dX7_crowd_9 : decode cX7_crowd 9 = .ok (.iconst (-1), 1) := by decide +kernel
theorem dX7_crowd_10 : decode cX7_crowd 10 = .ok (.ireturn, 1) := by decide +kernel
theorem dX7_crowd_11 : decode cX7_crowd 11 = .ok (.iconst 0, 1) := by decide +kernel
theorem dX7_crowd_12 : decode cX7_crowd 12 = .ok (.istore_n 2, 1) := by decide +kernel
theorem dX7_crowd_13 : decode cX7_crowd 13 = .ok (.iconst (-1), 1) := by decide +kernel
theorem dX7_crowd_14 : decode cX7_crowd 14 = .ok (.istore_n 3, 1) := by decide +kernel
theorem dX7_crowd_15 : decode cX7_crowd 15 = .ok (.iconst 0, 1) := by decide +kernel
theorem dX7_crowd_16 : decode cX7_crowd 16 = .ok (.istore 4, 2) := by decide +kernel
theorem dX7_crowd_18 : decode cX7_crowd 18 = .ok (.iload 4, 2) := by decide +kernel
theorem dX7_crowd_20 : decode cX7_crowd 20 = .ok (.bipush 64, 2) := by decide +kernel
theorem dX7_crowd_22 : decode cX7_crowd 22 = .ok (.if_icmp .ge 53, 3) := by decide +kernel
theorem dX7_crowd_25 : decode cX7_crowd 25 = .ok (.iload_n 1, 1) := by decide +kernel
theorem dX7_crowd_26 : decode cX7_crowd 26 = .ok (.iconst 2, 1) := by decide +kernel
theorem dX7_crowd_27 : decode cX7_crowd 27 = .ok (.if_icmp .ge 15, 3) := by decide +kernel
theorem dX7_crowd_30 : decode cX7_crowd 30 = .ok (.aload_n 0, 1) := by decide +kernel
theorem dX7_crowd_31 : decode cX7_crowd 31 = .ok (.getfield 10, 3) := by decide +kernel
theorem dX7_crowd_34 : decode cX7_crowd 34 = .ok (.iload 4, 2) := by decide +kernel
theorem dX7_crowd_36 : decode cX7_crowd 36 = .ok (.invokevirtual 341, 3) := by decide +kernel
theorem dX7_crowd_39 : decode cX7_crowd 39 = .ok (.goto 16, 3) := by decide +kernel
theorem dX7_crowd_42 : decode cX7_crowd 42 = .ok (.aload_n 0, 1) := by decide +kernel
theorem dX7_crowd_43 : decode cX7_crowd 43 = .ok (.getfield 10, 3) := by decide +kernel
theorem dX7_crowd_46 : decode cX7_crowd 46 = .ok (.iload 4, 2) := by decide +kernel
theorem dX7_crowd_48 : decode cX7_crowd 48 = .ok (.iconst 0, 1) := by decide +kernel
theorem dX7_crowd_49 : decode cX7_crowd 49 = .ok (.sipush 999, 3) := by decide +kernel
theorem dX7_crowd_52 : decode cX7_crowd 52 = .ok (.invokevirtual 354, 3) := by decide +kernel
theorem dX7_crowd_55 : decode cX7_crowd 55 = .ok (.istore 5, 2) := by decide +kernel
theorem dX7_crowd_57 : decode cX7_crowd 57 = .ok (.iload 5, 2) := by decide +kernel
theorem dX7_crowd_59 : decode cX7_crowd 59 = .ok (.iload_n 3, 1) := by decide +kernel
theorem dX7_crowd_60 : decode cX7_crowd 60 = .ok (.if_icmp .le 9, 3) := by decide +kernel
theorem dX7_crowd_63 : decode cX7_crowd 63 = .ok (.iload 5, 2) := by decide +kernel
theorem dX7_crowd_65 : decode cX7_crowd 65 = .ok (.istore_n 3, 1) := by decide +kernel
theorem dX7_crowd_66 : decode cX7_crowd 66 = .ok (.iload 4, 2) := by decide +kernel
theorem dX7_crowd_68 : decode cX7_crowd 68 = .ok (.istore_n 2, 1) := by decide +kernel
theorem dX7_crowd_69 : decode cX7_crowd 69 = .ok (.iinc 4 1, 3) := by decide +kernel
theorem dX7_crowd_72 : decode cX7_crowd 72 = .ok (.goto (-54), 3) := by decide +kernel
theorem dX7_crowd_75 : decode cX7_crowd 75 = .ok (.iload_n 1, 1) := by decide +kernel
theorem dX7_crowd_76 : decode cX7_crowd 76 = .ok (.ifCond .eq 8, 3) := by decide +kernel
theorem dX7_crowd_79 : decode cX7_crowd 79 = .ok (.iload_n 1, 1) := by decide +kernel
theorem dX7_crowd_80 : decode cX7_crowd 80 = .ok (.iconst 2, 1) := by decide +kernel
theorem dX7_crowd_81 : decode cX7_crowd 81 = .ok (.if_icmp .ne 7, 3) := by decide +kernel
theorem dX7_crowd_84 : decode cX7_crowd 84 = .ok (.iload_n 2, 1) := by decide +kernel
theorem dX7_crowd_85 : decode cX7_crowd 85 = .ok (.goto 4, 3) := by decide +kernel
theorem dX7_crowd_88 : decode cX7_crowd 88 = .ok (.iload_n 3, 1) := by decide +kernel
theorem dX7_crowd_89 : decode cX7_crowd 89 = .ok (.ireturn, 1) := by decide +kernel
theorem dX7_cover_0 : decode cX7_cover 0 = .ok (.iload_n 1, 1) := by decide +kernel
theorem dX7_cover_1 : decode cX7_cover 1 = .ok (.invokestatic 83, 3) := by decide +kernel
theorem dX7_cover_4 : decode cX7_cover 4 = .ok (.ifCond .eq 10, 3) := by decide +kernel
theorem dX7_cover_7 : decode cX7_cover 7 = .ok (.iload_n 2, 1) := by decide +kernel
theorem dX7_cover_8 : decode cX7_cover 8 = .ok (.invokestatic 87, 3) := by decide +kernel
theorem dX7_cover_11 : decode cX7_cover 11 = .ok (.ifCond .ne 5, 3) := by decide +kernel
theorem dX7_cover_14 : decode cX7_cover 14 = .ok (.iconst (-1), 1) := by decide +kernel
theorem dX7_cover_15 : decode cX7_cover 15 = .ok (.ireturn, 1) := by decide +kernel
theorem dX7_cover_16 : decode cX7_cover 16 = .ok (.aload_n 0, 1) := by decide +kernel
theorem dX7_cover_17 : decode cX7_cover 17 = .ok (.getfield 10, 3) := by decide +kernel
theorem dX7_cover_20 : decode cX7_cover 20 = .ok (.iload_n 1, 1) := by decide +kernel
theorem dX7_cover_21 : decode cX7_cover 21 = .ok (.iload_n 2, 1) := by decide +kernel
theorem dX7_cover_22 : decode cX7_cover 22 = .ok (.invokevirtual 108, 3) := by decide +kernel
theorem dX7_cover_25 : decode cX7_cover 25 = .ok (.istore_n 3, 1) := by decide +kernel
theorem dX7_cover_26 : decode cX7_cover 26 = .ok (.iload_n 3, 1) := by decide +kernel
theorem dX7_cover_27 : decode cX7_cover 27 = .ok (.ifCond .ge 8, 3) := by decide +kernel
theorem dX7_cover_30 : decode cX7_cover 30 = .ok (.bipush (-2), 2) := by decide +kernel
theorem dX7_cover_32 : decode cX7_cover 32 = .ok (.goto 23, 3) := by decide +kernel
theorem dX7_cover_35 : decode cX7_cover 35 = .ok (.iload_n 2, 1) := by decide +kernel
theorem dX7_cover_36 : decode cX7_cover 36 = .ok (.aload_n 0, 1) := by decide +kernel
theorem dX7_cover_37 : decode cX7_cover 37 = .ok (.getfield 10, 3) := by decide +kernel
theorem dX7_cover_40 : decode cX7_cover 40 = .ok (.iload_n 3, 1) := by decide +kernel
theorem dX7_cover_41 : decode cX7_cover 41 = .ok (.invokevirtual 112, 3) := by decide +kernel
theorem dX7_cover_44 : decode cX7_cover 44 = .ok (.aload_n 0, 1) := by decide +kernel
theorem dX7_cover_45 : decode cX7_cover 45 = .ok (.getfield 10, 3) := by decide +kernel
theorem dX7_cover_48 : decode cX7_cover 48 = .ok (.iload_n 3, 1) := by decide +kernel
theorem dX7_cover_49 : decode cX7_cover 49 = .ok (.invokevirtual 123, 3) := by decide +kernel
theorem dX7_cover_52 : decode cX7_cover 52 = .ok (.invokestatic 363, 3) := by decide +kernel
theorem dX7_cover_55 : decode cX7_cover 55 = .ok (.ireturn, 1) := by decide +kernel
theorem dX7_on_0 : decode cX7_on 0 = .ok (.iload_n 1, 1) := by decide +kernel
theorem dX7_on_1 : decode cX7_on 1 = .ok (.invokestatic 366, 3) := by decide +kernel
theorem dX7_on_4 : decode cX7_on 4 = .ok (.ifCond .ne 5, 3) := by decide +kernel
theorem dX7_on_7 : decode cX7_on 7 = .ok (.iconst (-1), 1) := by decide +kernel
theorem dX7_on_8 : decode cX7_on 8 = .ok (.ireturn, 1) := by decide +kernel
theorem dX7_on_9 : decode cX7_on 9 = .ok (.iconst 0, 1) := by decide +kernel
theorem dX7_on_10 : decode cX7_on 10 = .ok (.istore_n 2, 1) := by decide +kernel
theorem dX7_on_11 : decode cX7_on 11 = .ok (.iconst 0, 1) := by decide +kernel
theorem dX7_on_12 : decode cX7_on 12 = .ok (.istore_n 3, 1) := by decide +kernel
theorem dX7_on_13 : decode cX7_on 13 = .ok (.iload_n 3, 1) := by decide +kernel
theorem dX7_on_14 : decode cX7_on 14 = .ok (.aload_n 0, 1) := by decide +kernel
theorem dX7_on_15 : decode cX7_on 15 = .ok (.getfield 10, 3) := by decide +kernel
theorem dX7_on_18 : decode cX7_on 18 = .ok (.invokevirtual 96, 3) := by decide +kernel
theorem dX7_on_21 : decode cX7_on 21 = .ok (.if_icmp .ge 24, 3) := by decide +kernel
theorem dX7_on_24 : decode cX7_on 24 = .ok (.aload_n 0, 1) := by decide +kernel
theorem dX7_on_25 : decode cX7_on 25 = .ok (.getfield 10, 3) := by decide +kernel
theorem dX7_on_28 : decode cX7_on 28 = .ok (.iload_n 3, 1) := by decide +kernel
theorem dX7_on_29 : decode cX7_on 29 = .ok (.iload_n 1, 1) := by decide +kernel
theorem dX7_on_30 : decode cX7_on 30 = .ok (.invokevirtual 369, 3) := by decide +kernel
theorem dX7_on_33 : decode cX7_on 33 = .ok (.ifCond .eq 6, 3) := by decide +kernel
theorem dX7_on_36 : decode cX7_on 36 = .ok (.iinc 2 1, 3) := by decide +kernel
theorem dX7_on_39 : decode cX7_on 39 = .ok (.iinc 3 1, 3) := by decide +kernel
theorem dX7_on_42 : decode cX7_on 42 = .ok (.goto (-29), 3) := by decide +kernel
theorem dX7_on_45 : decode cX7_on 45 = .ok (.iload_n 2, 1) := by decide +kernel
theorem dX7_on_46 : decode cX7_on 46 = .ok (.ireturn, 1) := by decide +kernel
theorem dX7_onAt_0 : decode cX7_onAt 0 = .ok (.iload_n 1, 1) := by decide +kernel
theorem dX7_onAt_1 : decode cX7_onAt 1 = .ok (.invokestatic 366, 3) := by decide +kernel
theorem dX7_onAt_4 : decode cX7_onAt 4 = .ok (.ifCond .eq 7, 3) := by decide +kernel
theorem dX7_onAt_7 : decode cX7_onAt 7 = .ok (.iload_n 2, 1) := by decide +kernel
theorem dX7_onAt_8 : decode cX7_onAt 8 = .ok (.ifCond .ge 5, 3) := by decide +kernel
theorem dX7_onAt_11 : decode cX7_onAt 11 = .ok (.iconst (-1), 1) := by decide +kernel
theorem dX7_onAt_12 : decode cX7_onAt 12 = .ok (.ireturn, 1) := by decide +kernel
theorem dX7_onAt_13 : decode cX7_onAt 13 = .ok (.iconst 0, 1) := by decide +kernel
theorem dX7_onAt_14 : decode cX7_onAt 14 = .ok (.istore_n 3, 1) := by decide +kernel
theorem dX7_onAt_15 : decode cX7_onAt 15 = .ok (.iconst 0, 1) := by decide +kernel
theorem dX7_onAt_16 : decode cX7_onAt 16 = .ok (.istore 4, 2) := by decide +kernel
theorem dX7_onAt_18 : decode cX7_onAt 18 = .ok (.iload 4, 2) := by decide +kernel
theorem dX7_onAt_20 : decode cX7_onAt 20 = .ok (.aload_n 0, 1) := by decide +kernel
theorem dX7_onAt_21 : decode cX7_onAt 21 = .ok (.getfield 10, 3) := by decide +kernel
theorem dX7_onAt_24 : decode cX7_onAt 24 = .ok (.invokevirtual 96, 3) := by decide +kernel
theorem dX7_onAt_27 : decode cX7_onAt 27 = .ok (.if_icmp .ge 40, 3) := by decide +kernel
theorem dX7_onAt_30 : decode cX7_onAt 30 = .ok (.aload_n 0, 1) := by decide +kernel
theorem dX7_onAt_31 : decode cX7_onAt 31 = .ok (.getfield 10, 3) := by decide +kernel
theorem dX7_onAt_34 : decode cX7_onAt 34 = .ok (.iload 4, 2) := by decide +kernel
theorem dX7_onAt_36 : decode cX7_onAt 36 = .ok (.iload_n 1, 1) := by decide +kernel
theorem dX7_onAt_37 : decode cX7_onAt 37 = .ok (.invokevirtual 369, 3) := by decide +kernel
theorem dX7_onAt_40 : decode cX7_onAt 40 = .ok (.ifCond .eq 21, 3) := by decide +kernel
theorem dX7_onAt_43 : decode cX7_onAt 43 = .ok (.iload_n 3, 1) := by decide +kernel
theorem dX7_onAt_44 : decode cX7_onAt 44 = .ok (.iload_n 2, 1) := by decide +kernel
theorem dX7_onAt_45 : decode cX7_onAt 45 = .ok (.if_icmp .ne 13, 3) := by decide +kernel
theorem dX7_onAt_48 : decode cX7_onAt 48 = .ok (.aload_n 0, 1) := by decide +kernel
theorem dX7_onAt_49 : decode cX7_onAt 49 = .ok (.getfield 10, 3) := by decide +kernel
theorem dX7_onAt_52 : decode cX7_onAt 52 = .ok (.iload 4, 2) := by decide +kernel
theorem dX7_onAt_54 : decode cX7_onAt 54 = .ok (.invokevirtual 157, 3) := by decide +kernel
theorem dX7_onAt_57 : decode cX7_onAt 57 = .ok (.ireturn, 1) := by decide +kernel
theorem dX7_onAt_58 : decode cX7_onAt 58 = .ok (.iinc 3 1, 3) := by decide +kernel
theorem dX7_onAt_61 : decode cX7_onAt 61 = .ok (.iinc 4 1, 3) := by decide +kernel
theorem dX7_onAt_64 : decode cX7_onAt 64 = .ok (.goto (-46), 3) := by decide +kernel
theorem dX7_onAt_67 : decode cX7_onAt 67 = .ok (.bipush (-2), 2) := by decide +kernel
theorem dX7_onAt_69 : decode cX7_onAt 69 = .ok (.ireturn, 1) := by decide +kernel
theorem dX7_isNumber_0 : decode cX7_isNumber 0 = .ok (.iload_n 0, 1) := by decide +kernel
theorem dX7_isNumber_1 : decode cX7_isNumber 1 = .ok (.ifCond .lt 14, 3) := by decide +kernel
theorem dX7_isNumber_4 : decode cX7_isNumber 4 = .ok (.iload_n 0, 1) := by decide +kernel
theorem dX7_isNumber_5 : decode cX7_isNumber 5 = .ok (.sipush 999, 3) := by decide +kernel
theorem dX7_isNumber_8 : decode cX7_isNumber 8 = .ok (.if_icmp .gt 7, 3) := by decide +kernel
theorem dX7_isNumber_11 : decode cX7_isNumber 11 = .ok (.iconst 1, 1) := by decide +kernel
theorem dX7_isNumber_12 : decode cX7_isNumber 12 = .ok (.goto 4, 3) := by decide +kernel
theorem dX7_isNumber_15 : decode cX7_isNumber 15 = .ok (.iconst 0, 1) := by decide +kernel
theorem dX7_isNumber_16 : decode cX7_isNumber 16 = .ok (.ireturn, 1) := by decide +kernel
theorem dX7_isHour_0 : decode cX7_isHour 0 = .ok (.iload_n 0, 1) := by decide +kernel
theorem dX7_isHour_1 : decode cX7_isHour 1 = .ok (.ifCond .lt 13, 3) := by decide +kernel
theorem dX7_isHour_4 : decode cX7_isHour 4 = .ok (.iload_n 0, 1) := by decide +kernel
theorem dX7_isHour_5 : decode cX7_isHour 5 = .ok (.bipush 64, 2) := by decide +kernel
theorem dX7_isHour_7 : decode cX7_isHour 7 = .ok (.if_icmp .ge 7, 3) := by decide +kernel
theorem dX7_isHour_10 : decode cX7_isHour 10 = .ok (.iconst 1, 1) := by decide +kernel
theorem dX7_isHour_11 : decode cX7_isHour 11 = .ok (.goto 4, 3) := by decide +kernel
theorem dX7_isHour_14 : decode cX7_isHour 14 = .ok (.iconst 0, 1) := by decide +kernel
theorem dX7_isHour_15 : decode cX7_isHour 15 = .ok (.ireturn, 1) := by decide +kernel
theorem dX7_isWorth_0 : decode cX7_isWorth 0 = .ok (.iload_n 0, 1) := by decide +kernel
theorem dX7_isWorth_1 : decode cX7_isWorth 1 = .ok (.ifCond .lt 13, 3) := by decide +kernel
theorem dX7_isWorth_4 : decode cX7_isWorth 4 = .ok (.iload_n 0, 1) := by decide +kernel
theorem dX7_isWorth_5 : decode cX7_isWorth 5 = .ok (.bipush 99, 2) := by decide +kernel
theorem dX7_isWorth_7 : decode cX7_isWorth 7 = .ok (.if_icmp .gt 7, 3) := by decide +kernel
theorem dX7_isWorth_10 : decode cX7_isWorth 10 = .ok (.iconst 1, 1) := by decide +kernel
theorem dX7_isWorth_11 : decode cX7_isWorth 11 = .ok (.goto 4, 3) := by decide +kernel
theorem dX7_isWorth_14 : decode cX7_isWorth 14 = .ok (.iconst 0, 1) := by decide +kernel
theorem dX7_isWorth_15 : decode cX7_isWorth 15 = .ok (.ireturn, 1) := by decide +kernel
theorem dX7_isPiece_0 : decode cX7_isPiece 0 = .ok (.iload_n 0, 1) := by decide +kernel
theorem dX7_isPiece_1 : decode cX7_isPiece 1 = .ok (.iconst 1, 1) := by decide +kernel
theorem dX7_isPiece_2 : decode cX7_isPiece 2 = .ok (.if_icmp .lt 13, 3) := by decide +kernel
theorem dX7_isPiece_5 : decode cX7_isPiece 5 = .ok (.iload_n 0, 1) := by decide +kernel
theorem dX7_isPiece_6 : decode cX7_isPiece 6 = .ok (.bipush 127, 2) := by decide +kernel
theorem dX7_isPiece_8 : decode cX7_isPiece 8 = .ok (.if_icmp .gt 7, 3) := by decide +kernel
theorem dX7_isPiece_11 : decode cX7_isPiece 11 = .ok (.iconst 1, 1) := by decide +kernel
theorem dX7_isPiece_12 : decode cX7_isPiece 12 = .ok (.goto 4, 3) := by decide +kernel
theorem dX7_isPiece_15 : decode cX7_isPiece 15 = .ok (.iconst 0, 1) := by decide +kernel
theorem dX7_isPiece_16 : decode cX7_isPiece 16 = .ok (.ireturn, 1) := by decide +kernel
theorem dX7_hoursFrom_0 : decode cX7_hoursFrom 0 = .ok (.iload_n 1, 1) := by decide +kernel
theorem dX7_hoursFrom_1 : decode cX7_hoursFrom 1 = .ok (.iload_n 0, 1) := by decide +kernel
theorem dX7_hoursFrom_2 : decode cX7_hoursFrom 2 = .ok (.if_icmp .gt 7, 3) := by decide +kernel
theorem dX7_hoursFrom_5 : decode cX7_hoursFrom 5 = .ok (.lconst 0, 1) := by decide +kernel
theorem dX7_hoursFrom_6 : decode cX7_hoursFrom 6 = .ok (.goto 15, 3) := by decide +kernel
theorem dX7_hoursFrom_9 : decode cX7_hoursFrom 9 = .ok (.ldc2_w 372, 3) := by decide +kernel
theorem dX7_hoursFrom_12 : decode cX7_hoursFrom 12 = .ok (.bipush 64, 2) := by decide +kernel
theorem dX7_hoursFrom_14 : decode cX7_hoursFrom 14 = .ok (.iload_n 1, 1) := by decide +kernel
theorem dX7_hoursFrom_15 : decode cX7_hoursFrom 15 = .ok (.iload_n 0, 1) := by decide +kernel
theorem dX7_hoursFrom_16 : decode cX7_hoursFrom 16 = .ok (.isub, 1) := by decide +kernel
theorem dX7_hoursFrom_17 : decode cX7_hoursFrom 17 = .ok (.isub, 1) := by decide +kernel
theorem dX7_hoursFrom_18 : decode cX7_hoursFrom 18 = .ok (.lushr, 1) := by decide +kernel
theorem dX7_hoursFrom_19 : decode cX7_hoursFrom 19 = .ok (.iload_n 0, 1) := by decide +kernel
theorem dX7_hoursFrom_20 : decode cX7_hoursFrom 20 = .ok (.lshl, 1) := by decide +kernel
theorem dX7_hoursFrom_21 : decode cX7_hoursFrom 21 = .ok (.lreturn, 1) := by decide +kernel
theorem dX7_isWithin_0 : decode cX7_isWithin 0 = .ok (.iload_n 0, 1) := by decide +kernel
theorem dX7_isWithin_1 : decode cX7_isWithin 1 = .ok (.istore_n 3, 1) := by decide +kernel
theorem dX7_isWithin_2 : decode cX7_isWithin 2 = .ok (.iload_n 0, 1) := by decide +kernel
theorem dX7_isWithin_3 : decode cX7_isWithin 3 = .ok (.istore 4, 2) := by decide +kernel
theorem dX7_isWithin_5 : decode cX7_isWithin 5 = .ok (.iconst 0, 1) := by decide +kernel
theorem dX7_isWithin_6 : decode cX7_isWithin 6 = .ok (.istore 5, 2) := by decide +kernel
theorem dX7_isWithin_8 : decode cX7_isWithin 8 = .ok (.iload 5, 2) := by decide +kernel
theorem dX7_isWithin_10 : decode cX7_isWithin 10 = .ok (.bipush 6, 2) := by decide +kernel
theorem dX7_isWithin_12 : decode cX7_isWithin 12 = .ok (.if_icmp .ge 27, 3) := by decide +kernel
theorem dX7_isWithin_15 : decode cX7_isWithin 15 = .ok (.iload_n 3, 1) := by decide +kernel
theorem dX7_isWithin_16 : decode cX7_isWithin 16 = .ok (.bipush 64, 2) := by decide +kernel
theorem dX7_isWithin_18 : decode cX7_isWithin 18 = .ok (.if_icmp .ge 21, 3) := by decide +kernel
theorem dX7_isWithin_21 : decode cX7_isWithin 21 = .ok (.iconst 2, 1) := by decide +kernel
theorem dX7_isWithin_22 : decode cX7_isWithin 22 = .ok (.iload_n 3, 1) := by decide +kernel
theorem dX7_isWithin_23 : decode cX7_isWithin 23 = .ok (.imul, 1) := by decide +kernel
theorem dX7_isWithin_24 : decode cX7_isWithin 24 = .ok (.istore_n 3, 1) := by decide +kernel
theorem dX7_isWithin_25 : decode cX7_isWithin 25 = .ok (.iconst 2, 1) := by decide +kernel
theorem dX7_isWithin_26 : decode cX7_isWithin 26 = .ok (.iload 4, 2) := by decide +kernel
theorem dX7_isWithin_28 : decode cX7_isWithin 28 = .ok (.imul, 1) := by decide +kernel
theorem dX7_isWithin_29 : decode cX7_isWithin 29 = .ok (.iconst 1, 1) := by decide +kernel
theorem dX7_isWithin_30 : decode cX7_isWithin 30 = .ok (.iadd, 1) := by decide +kernel
theorem dX7_isWithin_31 : decode cX7_isWithin 31 = .ok (.istore 4, 2) := by decide +kernel
theorem dX7_isWithin_33 : decode cX7_isWithin 33 = .ok (.iinc 5 1, 3) := by decide +kernel
theorem dX7_isWithin_36 : decode cX7_isWithin 36 = .ok (.goto (-28), 3) := by decide +kernel
theorem dX7_isWithin_39 : decode cX7_isWithin 39 = .ok (.iload_n 3, 1) := by decide +kernel
theorem dX7_isWithin_40 : decode cX7_isWithin 40 = .ok (.bipush 64, 2) := by decide +kernel
theorem dX7_isWithin_42 : decode cX7_isWithin 42 = .ok (.isub, 1) := by decide +kernel
theorem dX7_isWithin_43 : decode cX7_isWithin 43 = .ok (.iload_n 1, 1) := by decide +kernel
theorem dX7_isWithin_44 : decode cX7_isWithin 44 = .ok (.if_icmp .lt 16, 3) := by decide +kernel
theorem dX7_isWithin_47 : decode cX7_isWithin 47 = .ok (.iload 4, 2) := by decide +kernel
theorem dX7_isWithin_49 : decode cX7_isWithin 49 = .ok (.bipush 64, 2) := by decide +kernel
theorem dX7_isWithin_51 : decode cX7_isWithin 51 = .ok (.isub, 1) := by decide +kernel
theorem dX7_isWithin_52 : decode cX7_isWithin 52 = .ok (.iload_n 2, 1) := by decide +kernel
theorem dX7_isWithin_53 : decode cX7_isWithin 53 = .ok (.if_icmp .ge 7, 3) := by decide +kernel
theorem dX7_isWithin_56 : decode cX7_isWithin 56 = .ok (.iconst 1, 1) := by decide +kernel
theorem dX7_isWithin_57 : decode cX7_isWithin 57 = .ok (.goto 4, 3) := by decide +kernel
theorem dX7_isWithin_60 : decode cX7_isWithin 60 = .ok (.iconst 0, 1) := by decide +kernel
theorem dX7_isWithin_61 : decode cX7_isWithin 61 = .ok (.ireturn, 1) := by decide +kernel
theorem dX7_pieceAround_0 : decode cX7_pieceAround 0 = .ok (.bipush 64, 2) := by decide +kernel
theorem dX7_pieceAround_2 : decode cX7_pieceAround 2 = .ok (.iload_n 0, 1) := by decide +kernel
theorem dX7_pieceAround_3 : decode cX7_pieceAround 3 = .ok (.iadd, 1) := by decide +kernel
theorem dX7_pieceAround_4 : decode cX7_pieceAround 4 = .ok (.istore_n 3, 1) := by decide +kernel
theorem dX7_pieceAround_5 : decode cX7_pieceAround 5 = .ok (.iconst 0, 1) := by decide +kernel
theorem dX7_pieceAround_6 : decode cX7_pieceAround 6 = .ok (.istore 4, 2) := by decide +kernel
theorem dX7_pieceAround_8 : decode cX7_pieceAround 8 = .ok (.iload 4, 2) := by decide +kernel
theorem dX7_pieceAround_10 : decode cX7_pieceAround 10 = .ok (.bipush 6, 2) := by decide +kernel
theorem dX7_pieceAround_12 : decode cX7_pieceAround 12 = .ok (.if_icmp .ge 24, 3) := by decide +kernel
theorem dX7_pieceAround_15 : decode cX7_pieceAround 15 = .ok (.iload_n 3, 1) := by decide +kernel
theorem dX7_pieceAround_16 : decode cX7_pieceAround 16 = .ok (.iconst 2, 1) := by decide +kernel
theorem dX7_pieceAround_17 : decode cX7_pieceAround 17 = .ok (.idiv, 1) := by decide +kernel
theorem dX7_pieceAround_18 : decode cX7_pieceAround 18 = .ok (.iload_n 1, 1) := by decide +kernel
theorem dX7_pieceAround_19 : decode cX7_pieceAround 19 = .ok (.iload_n 2, 1) := by decide +kernel
theorem dX7_pieceAround_20 : decode cX7_pieceAround 20 = .ok (.invokestatic 374, 3) := by decide +kernel
theorem dX7_pieceAround_23 : decode cX7_pieceAround 23 = .ok (.ifCond .eq 13, 3) := by decide +kernel
theorem dX7_pieceAround_26 : decode cX7_pieceAround 26 = .ok (.iload_n 3, 1) := by decide +kernel
theorem dX7_pieceAround_27 : decode cX7_pieceAround 27 = .ok (.iconst 2, 1) := by decide +kernel
theorem dX7_pieceAround_28 : decode cX7_pieceAround 28 = .ok (.idiv, 1) := by decide +kernel
theorem dX7_pieceAround_29 : decode cX7_pieceAround 29 = .ok (.istore_n 3, 1) := by decide +kernel
theorem dX7_pieceAround_30 : decode cX7_pieceAround 30 = .ok (.iinc 4 1, 3) := by decide +kernel
theorem dX7_pieceAround_33 : decode cX7_pieceAround 33 = .ok (.goto (-25), 3) := by decide +kernel
theorem dX7_pieceAround_36 : decode cX7_pieceAround 36 = .ok (.iload_n 3, 1) := by decide +kernel
theorem dX7_pieceAround_37 : decode cX7_pieceAround 37 = .ok (.ireturn, 1) := by decide +kernel
theorem dX7_piecesOf_0 : decode cX7_piecesOf 0 = .ok (.bipush 64, 2) := by decide +kernel
theorem dX7_piecesOf_2 : decode cX7_piecesOf 2 = .ok (.iload_n 0, 1) := by decide +kernel
theorem dX7_piecesOf_3 : decode cX7_piecesOf 3 = .ok (.iadd, 1) := by decide +kernel
theorem dX7_piecesOf_4 : decode cX7_piecesOf 4 = .ok (.istore_n 2, 1) := by decide +kernel
theorem dX7_piecesOf_5 : decode cX7_piecesOf 5 = .ok (.bipush 64, 2) := by decide +kernel
theorem dX7_piecesOf_7 : decode cX7_piecesOf 7 = .ok (.iload_n 1, 1) := by decide +kernel
theorem dX7_piecesOf_8 : decode cX7_piecesOf 8 = .ok (.iadd, 1) := by decide +kernel
theorem dX7_piecesOf_9 : decode cX7_piecesOf 9 = .ok (.istore_n 3, 1) := by decide +kernel
theorem dX7_piecesOf_10 : decode cX7_piecesOf 10 = .ok (.iconst 0, 1) := by decide +kernel
theorem dX7_piecesOf_11 : decode cX7_piecesOf 11 = .ok (.istore 4, 2) := by decide +kernel
theorem dX7_piecesOf_13 : decode cX7_piecesOf 13 = .ok (.iconst 0, 1) := by decide +kernel
theorem dX7_piecesOf_14 : decode cX7_piecesOf 14 = .ok (.istore 5, 2) := by decide +kernel
theorem dX7_piecesOf_16 : decode cX7_piecesOf 16 = .ok (.iload 5, 2) := by decide +kernel
theorem dX7_piecesOf_18 : decode cX7_piecesOf 18 = .ok (.bipush 6, 2) := by decide +kernel
theorem dX7_piecesOf_20 : decode cX7_piecesOf 20 = .ok (.if_icmp .gt 48, 3) := by decide +kernel
theorem dX7_piecesOf_23 : decode cX7_piecesOf 23 = .ok (.iload_n 2, 1) := by decide +kernel
theorem dX7_piecesOf_24 : decode cX7_piecesOf 24 = .ok (.iload_n 3, 1) := by decide +kernel
theorem dX7_piecesOf_25 : decode cX7_piecesOf 25 = .ok (.if_icmp .ge 43, 3) := by decide +kernel
theorem dX7_piecesOf_28 : decode cX7_piecesOf 28 = .ok (.iload_n 2, 1) := by decide +kernel
theorem dX7_piecesOf_29 : decode cX7_piecesOf 29 = .ok (.iconst 2, 1) := by decide +kernel
theorem dX7_piecesOf_30 : decode cX7_piecesOf 30 = .ok (.irem, 1) := by decide +kernel
theorem dX7_piecesOf_31 : decode cX7_piecesOf 31 = .ok (.iconst 1, 1) := by decide +kernel
theorem dX7_piecesOf_32 : decode cX7_piecesOf 32 = .ok (.if_icmp .ne 9, 3) := by decide +kernel
theorem dX7_piecesOf_35 : decode cX7_piecesOf 35 = .ok (.iinc 4 1, 3) := by decide +kernel
theorem dX7_piecesOf_38 : decode cX7_piecesOf 38 = .ok (.iinc 2 1, 3) := by decide +kernel
theorem dX7_piecesOf_41 : decode cX7_piecesOf 41 = .ok (.iload_n 3, 1) := by decide +kernel
theorem dX7_piecesOf_42 : decode cX7_piecesOf 42 = .ok (.iconst 2, 1) := by decide +kernel
theorem dX7_piecesOf_43 : decode cX7_piecesOf 43 = .ok (.irem, 1) := by decide +kernel
theorem dX7_piecesOf_44 : decode cX7_piecesOf 44 = .ok (.iconst 1, 1) := by decide +kernel
theorem dX7_piecesOf_45 : decode cX7_piecesOf 45 = .ok (.if_icmp .ne 9, 3) := by decide +kernel
theorem dX7_piecesOf_48 : decode cX7_piecesOf 48 = .ok (.iinc 4 1, 3) := by decide +kernel
theorem dX7_piecesOf_51 : decode cX7_piecesOf 51 = .ok (.iinc 3 (-1), 3) := by decide +kernel
theorem dX7_piecesOf_54 : decode cX7_piecesOf 54 = .ok (.iload_n 2, 1) := by decide +kernel
theorem dX7_piecesOf_55 : decode cX7_piecesOf 55 = .ok (.iconst 2, 1) := by decide +kernel
theorem dX7_piecesOf_56 : decode cX7_piecesOf 56 = .ok (.idiv, 1) := by decide +kernel
theorem dX7_piecesOf_57 : decode cX7_piecesOf 57 = .ok (.istore_n 2, 1) := by decide +kernel
theorem dX7_piecesOf_58 : decode cX7_piecesOf 58 = .ok (.iload_n 3, 1) := by decide +kernel
theorem dX7_piecesOf_59 : decode cX7_piecesOf 59 = .ok (.iconst 2, 1) := by decide +kernel
theorem dX7_piecesOf_60 : decode cX7_piecesOf 60 = .ok (.idiv, 1) := by decide +kernel
theorem dX7_piecesOf_61 : decode cX7_piecesOf 61 = .ok (.istore_n 3, 1) := by decide +kernel
theorem dX7_piecesOf_62 : decode cX7_piecesOf 62 = .ok (.iinc 5 1, 3) := by decide +kernel
theorem dX7_piecesOf_65 : decode cX7_piecesOf 65 = .ok (.goto (-49), 3) := by decide +kernel
theorem dX7_piecesOf_68 : decode cX7_piecesOf 68 = .ok (.iload 4, 2) := by decide +kernel
theorem dX7_piecesOf_70 : decode cX7_piecesOf 70 = .ok (.ireturn, 1) := by decide +kernel
