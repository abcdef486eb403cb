theorem dX8_greatestTo_10 : decode cX8_greatestTo 10 = .ok (.ifCond .lt 38, 3) := by decide +kernel
theorem dX8_greatestTo_13 : decode cX8_greatestTo 13 = .ok (.aload_n 0, 1) := by decide +kernel
theorem dX8_greatestTo_14 : decode cX8_greatestTo 14 = .ok (.getfield 13, 3) := by decide +kernel
theorem dX8_greatestTo_17 : decode cX8_greatestTo 17 = .ok (.iload_n 3, 1) := by decide +kernel
theorem dX8_greatestTo_18 : decode cX8_greatestTo 18 = .ok (.iload_n 2, 1) := by decide +kernel
theorem dX8_greatestTo_19 : decode cX8_greatestTo 19 = .ok (.invokestatic 70, 3) := by decide +kernel
theorem dX8_greatestTo_22 : decode cX8_greatestTo 22 = .ok (.ifCond .eq 20, 3) := by decide +kernel
theorem dX8_greatestTo_25 : decode cX8_greatestTo 25 = .ok (.aload_n 0, 1) := by decide +kernel
theorem dX8_greatestTo_26 : decode cX8_greatestTo 26 = .ok (.iload_n 3, 1) := by decide +kernel
theorem dX8_greatestTo_27 : decode cX8_greatestTo 27 = .ok (.iconst 0, 1) := by decide +kernel
theorem dX8_greatestTo_28 : decode cX8_greatestTo 28 = .ok (.invokevirtual 123, 3) := by decide +kernel
theorem dX8_greatestTo_31 : decode cX8_greatestTo 31 = .ok (.iload_n 1, 1) := by decide +kernel
theorem dX8_greatestTo_32 : decode cX8_greatestTo 32 = .ok (.if_icmp .gt 10, 3) := by decide +kernel
theorem dX8_greatestTo_35 : decode cX8_greatestTo 35 = .ok (.aload_n 0, 1) := by decide +kernel
theorem dX8_greatestTo_36 : decode cX8_greatestTo 36 = .ok (.iload_n 3, 1) := by decide +kernel
theorem dX8_greatestTo_37 : decode cX8_greatestTo 37 = .ok (.iconst 0, 1) := by decide +kernel
theorem dX8_greatestTo_38 : decode cX8_greatestTo 38 = .ok (.invokevirtual 123, 3) := by decide +kernel
theorem dX8_greatestTo_41 : decode cX8_greatestTo 41 = .ok (.ireturn, 1) := by decide +kernel
theorem dX8_greatestTo_42 : decode cX8_greatestTo 42 = .ok (.iinc 3 (-1), 3) := by decide +kernel
theorem dX8_greatestTo_45 : decode cX8_greatestTo 45 = .ok (.goto (-36), 3) := by decide +kernel
theorem dX8_greatestTo_48 : decode cX8_greatestTo 48 = .ok (.iconst (-1), 1) := by decide +kernel
theorem dX8_greatestTo_49 : decode cX8_greatestTo 49 = .ok (.ireturn, 1) := by decide +kernel
theorem dX8_alive_0 : decode cX8_alive 0 = .ok (.aload_n 0, 1) := by decide +kernel
theorem dX8_alive_1 : decode cX8_alive 1 = .ok (.iconst 0, 1) := by decide +kernel
theorem dX8_alive_2 : decode cX8_alive 2 = .ok (.putfield 1, 3) := by decide +kernel
theorem dX8_alive_5 : decode cX8_alive 5 = .ok (.iload_n 1, 1) := by decide +kernel
theorem dX8_alive_6 : decode cX8_alive 6 = .ok (.invokestatic 104, 3) := by decide +kernel
theorem dX8_alive_9 : decode cX8_alive 9 = .ok (.ifCond .eq 11, 3) := by decide +kernel
theorem dX8_alive_12 : decode cX8_alive 12 = .ok (.aload_n 0, 1) := by decide +kernel
theorem dX8_alive_13 : decode cX8_alive 13 = .ok (.iload_n 1, 1) := by decide +kernel
theorem dX8_alive_14 : decode cX8_alive 14 = .ok (.invokevirtual 370, 3) := by decide +kernel
theorem dX8_alive_17 : decode cX8_alive 17 = .ok (.goto 4, 3) := by decide +kernel
theorem dX8_alive_20 : decode cX8_alive 20 = .ok (.iconst (-1), 1) := by decide +kernel
theorem dX8_alive_21 : decode cX8_alive 21 = .ok (.ireturn, 1) := by decide +kernel
theorem dX8_next_0 : decode cX8_next 0 = .ok (.aload_n 0, 1) := by decide +kernel
theorem dX8_next_1 : decode cX8_next 1 = .ok (.iconst 0, 1) := by decide +kernel
theorem dX8_next_2 : decode cX8_next 2 = .ok (.putfield 1, 3) := by decide +kernel
theorem dX8_next_5 : decode cX8_next 5 = .ok (.iload_n 1, 1) := by decide +kernel
theorem dX8_next_6 : decode cX8_next 6 = .ok (.invokestatic 101, 3) := by decide +kernel
theorem dX8_next_9 : decode cX8_next 9 = .ok (.ifCond .eq 10, 3) := by decide +kernel
theorem dX8_next_12 : decode cX8_next 12 = .ok (.iload_n 2, 1) := by decide +kernel
theorem dX8_next_13 : decode cX8_next 13 = .ok (.invokestatic 104, 3) := by decide +kernel
theorem dX8_next_16 : decode cX8_next 16 = .ok (.ifCond .ne 5, 3) := by decide +kernel
theorem dX8_next_19 : decode cX8_next 19 = .ok (.iconst (-1), 1) := by decide +kernel
theorem dX8_next_20 : decode cX8_next 20 = .ok (.ireturn, 1) := by decide +kernel
theorem dX8_next_21 : decode cX8_next 21 = .ok (.aload_n 0, 1) := by decide +kernel
theorem dX8_next_22 : decode cX8_next 22 = .ok (.iload_n 1, 1) := by decide +kernel
theorem dX8_next_23 : decode cX8_next 23 = .ok (.iload_n 2, 1) := by decide +kernel
theorem dX8_next_24 : decode cX8_next 24 = .ok (.invokevirtual 376, 3) := by decide +kernel
theorem dX8_next_27 : decode cX8_next 27 = .ok (.istore_n 3, 1) := by decide +kernel
theorem dX8_next_28 : decode cX8_next 28 = .ok (.iload_n 3, 1) := by decide +kernel
theorem dX8_next_29 : decode cX8_next 29 = .ok (.iconst (-1), 1) := by decide +kernel
theorem dX8_next_30 : decode cX8_next 30 = .ok (.if_icmp .ne 8, 3) := by decide +kernel
theorem dX8_next_33 : decode cX8_next 33 = .ok (.bipush (-2), 2) := by decide +kernel
theorem dX8_next_35 : decode cX8_next 35 = .ok (.goto 4, 3) := by decide +kernel
theorem dX8_next_38 : decode cX8_next 38 = .ok (.iload_n 3, 1) := by decide +kernel
theorem dX8_next_39 : decode cX8_next 39 = .ok (.ireturn, 1) := by decide +kernel
theorem dX8_before_0 : decode cX8_before 0 = .ok (.aload_n 0, 1) := by decide +kernel
theorem dX8_before_1 : decode cX8_before 1 = .ok (.iconst 0, 1) := by decide +kernel
theorem dX8_before_2 : decode cX8_before 2 = .ok (.putfield 1, 3) := by decide +kernel
theorem dX8_before_5 : decode cX8_before 5 = .ok (.iload_n 1, 1) := by decide +kernel
theorem dX8_before_6 : decode cX8_before 6 = .ok (.invokestatic 101, 3) := by decide +kernel
theorem dX8_before_9 : decode cX8_before 9 = .ok (.ifCond .eq 10, 3) := by decide +kernel
theorem dX8_before_12 : decode cX8_before 12 = .ok (.iload_n 2, 1) := by decide +kernel
theorem dX8_before_13 : decode cX8_before 13 = .ok (.invokestatic 104, 3) := by decide +kernel
theorem dX8_before_16 : decode cX8_before 16 = .ok (.ifCond .ne 5, 3) := by decide +kernel
theorem dX8_before_19 : decode cX8_before 19 = .ok (.iconst (-1), 1) := by decide +kernel
theorem dX8_before_20 : decode cX8_before 20 = .ok (.ireturn, 1) := by decide +kernel
theorem dX8_before_21 : decode cX8_before 21 = .ok (.aload_n 0, 1) := by decide +kernel
theorem dX8_before_22 : decode cX8_before 22 = .ok (.iload_n 1, 1) := by decide +kernel
theorem dX8_before_23 : decode cX8_before 23 = .ok (.iload_n 2, 1) := by decide +kernel
theorem dX8_before_24 : decode cX8_before 24 = .ok (.invokevirtual 379, 3) := by decide +kernel
theorem dX8_before_27 : decode cX8_before 27 = .ok (.istore_n 3, 1) := by decide +kernel
theorem dX8_before_28 : decode cX8_before 28 = .ok (.iload_n 3, 1) := by decide +kernel
theorem dX8_before_29 : decode cX8_before 29 = .ok (.iconst (-1), 1) := by decide +kernel
theorem dX8_before_30 : decode cX8_before 30 = .ok (.if_icmp .ne 8, 3) := by decide +kernel
theorem dX8_before_33 : decode cX8_before 33 = .ok (.bipush (-2), 2) := by decide +kernel
theorem dX8_before_35 : decode cX8_before 35 = .ok (.goto 4, 3) := by decide +kernel
theorem dX8_before_38 : decode cX8_before 38 = .ok (.iload_n 3, 1) := by decide +kernel
theorem dX8_before_39 : decode cX8_before 39 = .ok (.ireturn, 1) := by decide +kernel
theorem dX8_rank_0 : decode cX8_rank 0 = .ok (.aload_n 0, 1) := by decide +kernel
theorem dX8_rank_1 : decode cX8_rank 1 = .ok (.iconst 0, 1) := by decide +kernel
theorem dX8_rank_2 : decode cX8_rank 2 = .ok (.putfield 1, 3) := by decide +kernel
theorem dX8_rank_5 : decode cX8_rank 5 = .ok (.iload_n 1, 1) := by decide +kernel
theorem dX8_rank_6 : decode cX8_rank 6 = .ok (.invokestatic 101, 3) := by decide +kernel
theorem dX8_rank_9 : decode cX8_rank 9 = .ok (.ifCond .eq 10, 3) := by decide +kernel
theorem dX8_rank_12 : decode cX8_rank 12 = .ok (.iload_n 2, 1) := by decide +kernel
theorem dX8_rank_13 : decode cX8_rank 13 = .ok (.invokestatic 104, 3) := by decide +kernel
theorem dX8_rank_16 : decode cX8_rank 16 = .ok (.ifCond .ne 5, 3) := by decide +kernel
theorem dX8_rank_19 : decode cX8_rank 19 = .ok (.iconst (-1), 1) := by decide +kernel
theorem dX8_rank_20 : decode cX8_rank 20 = .ok (.ireturn, 1) := by decide +kernel
theorem dX8_rank_21 : decode cX8_rank 21 = .ok (.iconst 0, 1) := by decide +kernel
theorem dX8_rank_22 : decode cX8_rank 22 = .ok (.istore_n 3, 1) := by decide +kernel
theorem dX8_rank_23 : decode cX8_rank 23 = .ok (.iconst 0, 1) := by decide +kernel
theorem dX8_rank_24 : decode cX8_rank 24 = .ok (.istore 4, 2) := by decide +kernel
theorem dX8_rank_26 : decode cX8_rank 26 = .ok (.iload 4, 2) := by decide +kernel
theorem dX8_rank_28 : decode cX8_rank 28 = .ok (.aload_n 0, 1) := by decide +kernel
theorem dX8_rank_29 : decode cX8_rank 29 = .ok (.getfield 13, 3) := by decide +kernel
theorem dX8_rank_32 : decode cX8_rank 32 = .ok (.iconst 0, 1) := by decide +kernel
theorem dX8_rank_33 : decode cX8_rank 33 = .ok (.iaload, 1) := by decide +kernel
theorem dX8_rank_34 : decode cX8_rank 34 = .ok (.if_icmp .ge 41, 3) := by decide +kernel
theorem dX8_rank_37 : decode cX8_rank 37 = .ok (.iload_n 3, 1) := by decide +kernel
theorem dX8_rank_38 : decode cX8_rank 38 = .ok (.aload_n 0, 1) := by decide +kernel
theorem dX8_rank_39 : decode cX8_rank 39 = .ok (.getfield 13, 3) := by decide +kernel
theorem dX8_rank_42 : decode cX8_rank 42 = .ok (.iload 4, 2) := by decide +kernel
theorem dX8_rank_44 : decode cX8_rank 44 = .ok (.iload_n 2, 1) := by decide +kernel
theorem dX8_rank_45 : decode cX8_rank 45 = .ok (.invokestatic 70, 3) := by decide +kernel
theorem dX8_rank_48 : decode cX8_rank 48 = .ok (.ifCond .eq 18, 3) := by decide +kernel
theorem dX8_rank_51 : decode cX8_rank 51 = .ok (.aload_n 0, 1) := by decide +kernel
theorem dX8_rank_52 : decode cX8_rank 52 = .ok (.iload 4, 2) := by decide +kernel
theorem dX8_rank_54 : decode cX8_rank 54 = .ok (.iconst 0, 1) := by decide +kernel
theorem dX8_rank_55 : decode cX8_rank 55 = .ok (.invokevirtual 123, 3) := by decide +kernel
theorem dX8_rank_58 : decode cX8_rank 58 = .ok (.iload_n 1, 1) := by decide +kernel
theorem dX8_rank_59 : decode cX8_rank 59 = .ok (.if_icmp .ge 7, 3) := by decide +kernel
theorem dX8_rank_62 : decode cX8_rank 62 = .ok (.iconst 1, 1) := by decide +kernel
theorem dX8_rank_63 : decode cX8_rank 63 = .ok (.goto 4, 3) := by decide +kernel
theorem dX8_rank_66 : decode cX8_rank 66 = .ok (.iconst 0, 1) := by decide +kernel
theorem dX8_rank_67 : decode cX8_rank 67 = .ok (.iadd, 1) := by decide +kernel
theorem dX8_rank_68 : decode cX8_rank 68 = .ok (.istore_n 3, 1) := by decide +kernel
theorem dX8_rank_69 : decode cX8_rank 69 = .ok (.iinc 4 1, 3) := by decide +kernel
theorem dX8_rank_72 : decode cX8_rank 72 = .ok (.goto (-46), 3) := by decide +kernel
theorem dX8_rank_75 : decode cX8_rank 75 = .ok (.iload_n 3, 1) := by decide +kernel
theorem dX8_rank_76 : decode cX8_rank 76 = .ok (.ireturn, 1) := by decide +kernel
theorem dX8_kthAt_0 : decode cX8_kthAt 0 = .ok (.iconst 0, 1) := by decide +kernel
theorem dX8_kthAt_1 : decode cX8_kthAt 1 = .ok (.istore_n 3, 1) := by decide +kernel
theorem dX8_kthAt_2 : decode cX8_kthAt 2 = .ok (.iconst 0, 1) := by decide +kernel
theorem dX8_kthAt_3 : decode cX8_kthAt 3 = .ok (.istore 4, 2) := by decide +kernel
theorem dX8_kthAt_5 : decode cX8_kthAt 5 = .ok (.iload 4, 2) := by decide +kernel
theorem dX8_kthAt_7 : decode cX8_kthAt 7 = .ok (.aload_n 0, 1) := by decide +kernel
theorem dX8_kthAt_8 : decode cX8_kthAt 8 = .ok (.getfield 13, 3) := by decide +kernel
theorem dX8_kthAt_11 : decode cX8_kthAt 11 = .ok (.iconst 0, 1) := by decide +kernel
theorem dX8_kthAt_12 : decode cX8_kthAt 12 = .ok (.iaload, 1) := by decide +kernel
theorem dX8_kthAt_13 : decode cX8_kthAt 13 = .ok (.if_icmp .ge 38, 3) := by decide +kernel
theorem dX8_kthAt_16 : decode cX8_kthAt 16 = .ok (.aload_n 0, 1) := by decide +kernel
theorem dX8_kthAt_17 : decode cX8_kthAt 17 = .ok (.getfield 13, 3) := by decide +kernel
theorem dX8_kthAt_20 : decode cX8_kthAt 20 = .ok (.iload 4, 2) := by decide +kernel
theorem dX8_kthAt_22 : decode cX8_kthAt 22 = .ok (.iload_n 1, 1) := by decide +kernel
theorem dX8_kthAt_23 : decode cX8_kthAt 23 = .ok (.invokestatic 70, 3) := by decide +kernel
theorem dX8_kthAt_26 : decode cX8_kthAt 26 = .ok (.ifCond .eq 19, 3) := by decide +kernel
theorem dX8_kthAt_29 : decode cX8_kthAt 29 = .ok (.iload_n 3, 1) := by decide +kernel
theorem dX8_kthAt_30 : decode cX8_kthAt 30 = .ok (.iload_n 2, 1) := by decide +kernel
theorem dX8_kthAt_31 : decode cX8_kthAt 31 = .ok (.if_icmp .ne 11, 3) := by decide +kernel
theorem dX8_kthAt_34 : decode cX8_kthAt 34 = .ok (.aload_n 0, 1) := by decide +kernel
theorem dX8_kthAt_35 : decode cX8_kthAt 35 = .ok (.iload 4, 2) := by decide +kernel
theorem dX8_kthAt_37 : decode cX8_kthAt 37 = .ok (.iconst 0, 1) := by decide +kernel
theorem dX8_kthAt_38 : decode cX8_kthAt 38 = .ok (.invokevirtual 123, 3) := by decide +kernel
theorem dX8_kthAt_41 : decode cX8_kthAt 41 = .ok (.ireturn, 1) := by decide +kernel
theorem dX8_kthAt_42 : decode cX8_kthAt 42 = .ok (.iinc 3 1, 3) := by decide +kernel
theorem dX8_kthAt_45 : decode cX8_kthAt 45 = .ok (.iinc 4 1, 3) := by decide +kernel
theorem dX8_kthAt_48 : decode cX8_kthAt 48 = .ok (.goto (-43), 3) := by decide +kernel
theorem dX8_kthAt_51 : decode cX8_kthAt 51 = .ok (.bipush (-2), 2) := by decide +kernel
theorem dX8_kthAt_53 : decode cX8_kthAt 53 = .ok (.ireturn, 1) := by decide +kernel
theorem dX8_kth_0 : decode cX8_kth 0 = .ok (.aload_n 0, 1) := by decide +kernel
theorem dX8_kth_1 : decode cX8_kth 1 = .ok (.iconst 0, 1) := by decide +kernel
theorem dX8_kth_2 : decode cX8_kth 2 = .ok (.putfield 1, 3) := by decide +kernel
theorem dX8_kth_5 : decode cX8_kth 5 = .ok (.iload_n 1, 1) := by decide +kernel
theorem dX8_kth_6 : decode cX8_kth 6 = .ok (.invokestatic 104, 3) := by decide +kernel
theorem dX8_kth_9 : decode cX8_kth 9 = .ok (.ifCond .eq 16, 3) := by decide +kernel
theorem dX8_kth_12 : decode cX8_kth 12 = .ok (.iload_n 2, 1) := by decide +kernel
theorem dX8_kth_13 : decode cX8_kth 13 = .ok (.ifCond .lt 12, 3) := by decide +kernel
theorem dX8_kth_16 : decode cX8_kth 16 = .ok (.aload_n 0, 1) := by decide +kernel
theorem dX8_kth_17 : decode cX8_kth 17 = .ok (.iload_n 1, 1) := by decide +kernel
theorem dX8_kth_18 : decode cX8_kth 18 = .ok (.iload_n 2, 1) := by decide +kernel
theorem dX8_kth_19 : decode cX8_kth 19 = .ok (.invokevirtual 419, 3) := by decide +kernel
theorem dX8_kth_22 : decode cX8_kth 22 = .ok (.goto 4, 3) := by decide +kernel
theorem dX8_kth_25 : decode cX8_kth 25 = .ok (.iconst (-1), 1) := by decide +kernel
theorem dX8_kth_26 : decode cX8_kth 26 = .ok (.ireturn, 1) := by decide +kernel
theorem dX8_sum_0 : decode cX8_sum 0 = .ok (.aload_n 0, 1) := by decide +kernel
theorem dX8_sum_1 : decode cX8_sum 1 = .ok (.iconst 0, 1) := by decide +kernel
theorem dX8_sum_2 : decode cX8_sum 2 = .ok (.putfield 1, 3) := by decide +kernel
theorem dX8_sum_5 : decode cX8_sum 5 = .ok (.iload_n 1, 1) := by decide +kernel
theorem dX8_sum_6 : decode cX8_sum 6 = .ok (.invokestatic 104, 3) := by decide +kernel
theorem dX8_sum_9 : decode cX8_sum 9 = .ok (.ifCond .eq 32, 3) := by decide +kernel
theorem dX8_sum_12 : decode cX8_sum 12 = .ok (.iload_n 2, 1) := by decide +kernel
theorem dX8_sum_13 : decode cX8_sum 13 = .ok (.invokestatic 101, 3) := by decide +kernel
theorem dX8_sum_16 : decode cX8_sum 16 = .ok (.ifCond .eq 25, 3) := by decide +kernel
theorem dX8_sum_19 : decode cX8_sum 19 = .ok (.iload_n 3, 1) := by decide +kernel
theorem dX8_sum_20 : decode cX8_sum 20 = .ok (.invokestatic 101, 3) := by decide +kernel
theorem dX8_sum_23 : decode cX8_sum 23 = .ok (.ifCond .eq 18, 3) := by decide +kernel
theorem dX8_sum_26 : decode cX8_sum 26 = .ok (.iload_n 2, 1) := by decide +kernel
theorem dX8_sum_27 : decode cX8_sum 27 = .ok (.iload_n 3, 1) := by decide +kernel
theorem dX8_sum_28 : decode cX8_sum 28 = .ok (.if_icmp .gt 13, 3) := by decide +kernel
theorem dX8_sum_31 : decode cX8_sum 31 = .ok (.aload_n 0, 1) := by decide +kernel
theorem dX8_sum_32 : decode cX8_sum 32 = .ok (.iload_n 1, 1) := by decide +kernel
theorem dX8_sum_33 : decode cX8_sum 33 = .ok (.iload_n 2, 1) := by decide +kernel
theorem dX8_sum_34 : decode cX8_sum 34 = .ok (.iload_n 3, 1) := by decide +kernel
theorem dX8_sum_35 : decode cX8_sum 35 = .ok (.invokevirtual 373, 3) := by decide +kernel
theorem dX8_sum_38 : decode cX8_sum 38 = .ok (.goto 4, 3) := by decide +kernel
theorem dX8_sum_41 : decode cX8_sum 41 = .ok (.iconst (-1), 1) := by decide +kernel
theorem dX8_sum_42 : decode cX8_sum 42 = .ok (.ireturn, 1) := by decide +kernel
theorem dX8_gap_0 : decode cX8_gap 0 = .ok (.aload_n 0, 1) := by decide +kernel
theorem dX8_gap_1 : decode cX8_gap 1 = .ok (.iconst 0, 1) := by decide +kernel
theorem dX8_gap_2 : decode cX8_gap 2 = .ok (.putfield 1, 3) := by decide +kernel
theorem dX8_gap_5 : decode cX8_gap 5 = .ok (.iload_n 1, 1) := by decide +kernel
theorem dX8_gap_6 : decode cX8_gap 6 = .ok (.invokestatic 104, 3) := by decide +kernel
theorem dX8_gap_9 : decode cX8_gap 9 = .ok (.ifCond .ne 5, 3) := by decide +kernel
theorem dX8_gap_12 : decode cX8_gap 12 = .ok (.iconst (-1), 1) := by decide +kernel
theorem dX8_gap_13 : decode cX8_gap 13 = .ok (.ireturn, 1) := by decide +kernel
theorem dX8_gap_14 : decode cX8_gap 14 = .ok (.bipush (-2), 2) := by decide +kernel
theorem dX8_gap_16 : decode cX8_gap 16 = .ok (.istore_n 2, 1) := by decide +kernel
theorem dX8_gap_17 : decode cX8_gap 17 = .ok (.iconst 0, 1) := by decide +kernel
theorem dX8_gap_18 : decode cX8_gap 18 = .ok (.istore_n 3, 1) := by decide +kernel
theorem dX8_gap_19 : decode cX8_gap 19 = .ok (.iconst 0, 1) := by decide +kernel
theorem dX8_gap_20 : decode cX8_gap 20 = .ok (.istore 4, 2) := by decide +kernel
theorem dX8_gap_22 : decode cX8_gap 22 = .ok (.iload 4, 2) := by decide +kernel
theorem dX8_gap_24 : decode cX8_gap 24 = .ok (.iconst 1, 1) := by decide +kernel
theorem dX8_gap_25 : decode cX8_gap 25 = .ok (.iadd, 1) := by decide +kernel
theorem dX8_gap_26 : decode cX8_gap 26 = .ok (.aload_n 0, 1) := by decide +kernel
theorem dX8_gap_27 : decode cX8_gap 27 = .ok (.iload_n 1, 1) := by decide +kernel
theorem dX8_gap_28 : decode cX8_gap 28 = .ok (.invokevirtual 370, 3) := by decide +kernel
theorem dX8_gap_31 : decode cX8_gap 31 = .ok (.if_icmp .ge 45, 3) := by decide +kernel
theorem dX8_gap_34 : decode cX8_gap 34 = .ok (.aload_n 0, 1) := by decide +kernel
theorem dX8_gap_35 : decode cX8_gap 35 = .ok (.iload_n 1, 1) := by decide +kernel
theorem dX8_gap_36 : decode cX8_gap 36 = .ok (.iload 4, 2) := by decide +kernel
theorem dX8_gap_38 : decode cX8_gap 38 = .ok (.iconst 1, 1) := by decide +kernel
theorem dX8_gap_39 : decode cX8_gap 39 = .ok (.iadd, 1) := by decide +kernel
theorem dX8_gap_40 : decode cX8_gap 40 = .ok (.invokevirtual 419, 3) := by decide +kernel
theorem dX8_gap_43 : decode cX8_gap 43 = .ok (.aload_n 0, 1) := by decide +kernel
theorem dX8_gap_44 : decode cX8_gap 44 = .ok (.iload_n 1, 1) := by decide +kernel
theorem dX8_gap_45 : decode cX8_gap 45 = .ok (.iload 4, 2) := by decide +kernel
theorem dX8_gap_47 : decode cX8_gap 47 = .ok (.invokevirtual 419, 3) := by decide +kernel
theorem dX8_gap_50 : decode cX8_gap 50 = .ok (.isub, 1) := by decide +kernel
theorem dX8_gap_51 : decode cX8_gap 51 = .ok (.istore 5, 2) := by decide +kernel
theorem dX8_gap_53 : decode cX8_gap 53 = .ok (.iload 5, 2) := by decide +kernel
theorem dX8_gap_55 : decode cX8_gap 55 = .ok (.iload_n 3, 1) := by decide +kernel
theorem dX8_gap_56 : decode cX8_gap 56 = .ok (.if_icmp .le 14, 3) := by decide +kernel
theorem dX8_gap_59 : decode cX8_gap 59 = .ok (.aload_n 0, 1) := by decide +kernel
theorem dX8_gap_60 : decode cX8_gap 60 = .ok (.iload_n 1, 1) := by decide +kernel
theorem dX8_gap_61 : decode cX8_gap 61 = .ok (.iload 4, 2) := by decide +kernel
theorem dX8_gap_63 : decode cX8_gap 63 = .ok (.invokevirtual 419, 3) := by decide +kernel
theorem dX8_gap_66 : decode cX8_gap 66 = .ok (.istore_n 2, 1) := by decide +kernel
theorem dX8_gap_67 : decode cX8_gap 67 = .ok (.iload 5, 2) := by decide +kernel
theorem dX8_gap_69 : decode cX8_gap 69 = .ok (.istore_n 3, 1) := by decide +kernel
theorem dX8_gap_70 : decode cX8_gap 70 = .ok (.iinc 4 1, 3) := by decide +kernel
theorem dX8_gap_73 : decode cX8_gap 73 = .ok (.goto (-51), 3) := by decide +kernel
theorem dX8_gap_76 : decode cX8_gap 76 = .ok (.iload_n 2, 1) := by decide +kernel
theorem dX8_gap_77 : decode cX8_gap 77 = .ok (.ireturn, 1) := by decide +kernel
theorem dX8_changes_0 : decode cX8_changes 0 = .ok (.aload_n 0, 1) := by decide +kernel
theorem dX8_changes_1 : decode cX8_changes 1 = .ok (.iconst 0, 1) := by decide +kernel
theorem dX8_changes_2 : decode cX8_changes 2 = .ok (.putfield 1, 3) := by decide +kernel
theorem dX8_changes_5 : decode cX8_changes 5 = .ok (.iload_n 1, 1) := by decide +kernel
theorem dX8_changes_6 : decode cX8_changes 6 = .ok (.i2l, 1) := by decide +kernel
theorem dX8_changes_7 : decode cX8_changes 7 = .ok (.lconst 0, 1) := by decide +kernel
theorem dX8_changes_8 : decode cX8_changes 8 = .ok (.ldc2_w 107, 3) := by decide +kernel
theorem dX8_changes_11 : decode cX8_changes 11 = .ok (.invokestatic 60, 3) := by decide +kernel
theorem dX8_changes_14 : decode cX8_changes 14 = .ok (.ifCond .eq 13, 3) := by decide +kernel
theorem dX8_changes_17 : decode cX8_changes 17 = .ok (.iload_n 2, 1) := by decide +kernel
theorem dX8_changes_18 : decode cX8_changes 18 = .ok (.i2l, 1) := by decide +kernel
theorem dX8_changes_19 : decode cX8_changes 19 = .ok (.lconst 0, 1) := by decide +kernel
theorem dX8_changes_20 : decode cX8_changes 20 = .ok (.lconst 1, 1) := by decide +kernel
theorem dX8_changes_21 : decode cX8_changes 21 = .ok (.invokestatic 60, 3) := by decide +kernel
theorem dX8_changes_24 : decode cX8_changes 24 = .ok (.ifCond .ne 5, 3) := by decide +kernel
theorem dX8_changes_27 : decode cX8_changes 27 = .ok (.iconst (-1), 1) := by decide +kernel
theorem dX8_changes_28 : decode cX8_changes 28 = .ok (.ireturn, 1) := by decide +kernel
theorem dX8_changes_29 : decode cX8_changes 29 = .ok (.iconst 0, 1) := by decide +kernel
theorem dX8_changes_30 : decode cX8_changes 30 = .ok (.istore_n 3, 1) := by decide +kernel
theorem dX8_changes_31 : decode cX8_changes 31 = .ok (.iconst 0, 1) := by decide +kernel
theorem dX8_changes_32 : decode cX8_changes 32 = .ok (.istore 4, 2) := by decide +kernel
theorem dX8_changes_34 : decode cX8_changes 34 = .ok (.iload 4, 2) := by decide +kernel
theorem dX8_changes_36 : decode cX8_changes 36 = .ok (.aload_n 0, 1) := by decide +kernel
theorem dX8_changes_37 : decode cX8_changes 37 = .ok (.getfield 13, 3) := by decide +kernel
theorem dX8_changes_40 : decode cX8_changes 40 = .ok (.iconst 0, 1) := by decide +kernel
theorem dX8_changes_41 : decode cX8_changes 41 = .ok (.iaload, 1) := by decide +kernel
theorem dX8_changes_42 : decode cX8_changes 42 = .ok (.if_icmp .ge 36, 3) := by decide +kernel
theorem dX8_changes_45 : decode cX8_changes 45 = .ok (.iload_n 3, 1) := by decide +kernel
theorem dX8_changes_46 : decode cX8_changes 46 = .ok (.aload_n 0, 1) := by decide +kernel
theorem dX8_changes_47 : decode cX8_changes 47 = .ok (.iload 4, 2) := by decide +kernel
theorem dX8_changes_49 : decode cX8_changes 49 = .ok (.iload_n 2, 1) := by decide +kernel
theorem dX8_changes_50 : decode cX8_changes 50 = .ok (.ifCond .ne 7, 3) := by decide +kernel
theorem dX8_changes_53 : decode cX8_changes 53 = .ok (.iconst 1, 1) := by decide +kernel
theorem dX8_changes_54 : decode cX8_changes 54 = .ok (.goto 4, 3) := by decide +kernel
theorem dX8_changes_57 : decode cX8_changes 57 = .ok (.iconst 2, 1) := by decide +kernel
theorem dX8_changes_58 : decode cX8_changes 58 = .ok (.invokevirtual 123, 3) := by decide +kernel
theorem dX8_changes_61 : decode cX8_changes 61 = .ok (.iload_n 1, 1) := by decide +kernel
theorem dX8_changes_62 : decode cX8_changes 62 = .ok (.if_icmp .ne 7, 3) := by decide +kernel
theorem dX8_changes_65 : decode cX8_changes 65 = .ok (.iconst 1, 1) := by decide +kernel
theorem dX8_changes_66 : decode cX8_changes 66 = .ok (.goto 4, 3) := by decide +kernel
theorem dX8_changes_69 : decode cX8_changes 69 = .ok (.iconst 0, 1) := by decide +kernel
theorem dX8_changes_70 : decode cX8_changes 70 = .ok (.iadd, 1) := by decide +kernel
theorem dX8_changes_71 : decode cX8_changes 71 = .ok (.istore_n 3, 1) := by decide +kernel
theorem dX8_changes_72 : decode cX8_changes 72 = .ok (.iinc 4 1, 3) := by decide +kernel
theorem dX8_changes_75 : decode cX8_changes 75 = .ok (.goto (-41), 3) := by decide +kernel
theorem dX8_changes_78 : decode cX8_changes 78 = .ok (.iload_n 3, 1) := by decide +kernel
theorem dX8_changes_79 : decode cX8_changes 79 = .ok (.ireturn, 1) := by decide +kernel
theorem dX8_hoursOf_0 : decode cX8_hoursOf 0 = .ok (.iconst 0, 1) := by decide +kernel
theorem dX8_hoursOf_1 : decode cX8_hoursOf 1 = .ok (.istore 4, 2) := by decide +kernel
theorem dX8_hoursOf_3 : decode cX8_hoursOf 3 = .ok (.iload_n 2, 1) := by decide +kernel
theorem dX8_hoursOf_4 : decode cX8_hoursOf 4 = .ok (.istore 5, 2) := by decide +kernel
theorem dX8_hoursOf_6 : decode cX8_hoursOf 6 = .ok (.iload 5, 2) := by decide +kernel
theorem dX8_hoursOf_8 : decode cX8_hoursOf 8 = .ok (.iload_n 3, 1) := by decide +kernel
theorem dX8_hoursOf_9 : decode cX8_hoursOf 9 = .ok (.if_icmp .gt 29, 3) := by decide +kernel
theorem dX8_hoursOf_12 : decode cX8_hoursOf 12 = .ok (.iload 4, 2) := by decide +kernel
theorem dX8_hoursOf_14 : decode cX8_hoursOf 14 = .ok (.aload_n 0, 1) := by decide +kernel
theorem dX8_hoursOf_15 : decode cX8_hoursOf 15 = .ok (.iload_n 1, 1) := by decide +kernel
theorem dX8_hoursOf_16 : decode cX8_hoursOf 16 = .ok (.iload 5, 2) := by decide +kernel
theorem dX8_hoursOf_18 : decode cX8_hoursOf 18 = .ok (.invokevirtual 422, 3) := by decide +kernel
theorem dX8_hoursOf_21 : decode cX8_hoursOf 21 = .ok (.ifCond .eq 7, 3) := by decide +kernel
theorem dX8_hoursOf_24 : decode cX8_hoursOf 24 = .ok (.iconst 1, 1) := by decide +kernel
theorem dX8_hoursOf_25 : decode cX8_hoursOf 25 = .ok (.goto 4, 3) := by decide +kernel
theorem dX8_hoursOf_28 : decode cX8_hoursOf 28 = .ok (.iconst 0, 1) := by decide +kernel
theorem dX8_hoursOf_29 : decode cX8_hoursOf 29 = .ok (.iadd, 1) := by decide +kernel
theorem dX8_hoursOf_30 : decode cX8_hoursOf 30 = .ok (.istore 4, 2) := by decide +kernel
theorem dX8_hoursOf_32 : decode cX8_hoursOf 32 = .ok (.iinc 5 1, 3) := by decide +kernel
theorem dX8_hoursOf_35 : decode cX8_hoursOf 35 = .ok (.goto (-29), 3) := by decide +kernel
theorem dX8_hoursOf_38 : decode cX8_hoursOf 38 = .ok (.iload 4, 2) := by decide +kernel
theorem dX8_hoursOf_40 : decode cX8_hoursOf 40 = .ok (.ireturn, 1) := by decide +kernel
theorem dX8_leastOver_0 : decode cX8_leastOver 0 = .ok (.iload_n 1, 1) := by decide +kernel
theorem dX8_leastOver_1 : decode cX8_leastOver 1 = .ok (.invokestatic 101, 3) := by decide +kernel
theorem dX8_leastOver_4 : decode cX8_leastOver 4 = .ok (.ifCond .eq 22, 3) := by decide +kernel
theorem dX8_leastOver_7 : decode cX8_leastOver 7 = .ok (.iload_n 2, 1) := by decide +kernel
theorem dX8_leastOver_8 : decode cX8_leastOver 8 = .ok (.invokestatic 104, 3) := by decide +kernel
theorem dX8_leastOver_11 : decode cX8_leastOver 11 = .ok (.ifCond .eq 15, 3) := by decide +kernel
theorem dX8_leastOver_14 : decode cX8_leastOver 14 = .ok (.iload_n 3, 1) := by decide +kernel
theorem dX8_leastOver_15 : decode cX8_leastOver 15 = .ok (.invokestatic 104, 3) := by decide +kernel
theorem dX8_leastOver_18 : decode cX8_leastOver 18 = .ok (.ifCond .eq 8, 3) := by decide +kernel
theorem dX8_leastOver_21 : decode cX8_leastOver 21 = .ok (.iload_n 3, 1) := by decide +kernel
theorem dX8_leastOver_22 : decode cX8_leastOver 22 = .ok (.iload_n 2, 1) := by decide +kernel
theorem dX8_leastOver_23 : decode cX8_leastOver 23 = .ok (.if_icmp .ge 5, 3) := by decide +kernel
theorem dX8_leastOver_26 : decode cX8_leastOver 26 = .ok (.iconst (-1), 1) := by decide +kernel
theorem dX8_leastOver_27 : decode cX8_leastOver 27 = .ok (.ireturn, 1) := by decide +kernel
theorem dX8_leastOver_28 : decode cX8_leastOver 28 = .ok (.iconst 0, 1) := by decide +kernel
theorem dX8_leastOver_29 : decode cX8_leastOver 29 = .ok (.istore 5, 2) := by decide +kernel
theorem dX8_leastOver_31 : decode cX8_leastOver 31 = .ok (.iload 5, 2) := by decide +kernel
theorem dX8_leastOver_33 : decode cX8_leastOver 33 = .ok (.aload_n 0, 1) := by decide +kernel
theorem dX8_leastOver_34 : decode cX8_leastOver 34 = .ok (.getfield 13, 3) := by decide +kernel
theorem dX8_leastOver_37 : decode cX8_leastOver 37 = .ok (.iconst 0, 1) := by decide +kernel
theorem dX8_leastOver_38 : decode cX8_leastOver 38 = .ok (.iaload, 1) := by decide +kernel
theorem dX8_leastOver_39 : decode cX8_leastOver 39 = .ok (.if_icmp .ge 64, 3) := by decide +kernel
theorem dX8_leastOver_42 : decode cX8_leastOver 42 = .ok (.aload_n 0, 1) := by decide +kernel
theorem dX8_leastOver_43 : decode cX8_leastOver 43 = .ok (.iload 5, 2) := by decide +kernel
theorem dX8_leastOver_45 : decode cX8_leastOver 45 = .ok (.iconst 0, 1) := by decide +kernel
theorem dX8_leastOver_46 : decode cX8_leastOver 46 = .ok (.invokevirtual 123, 3) := by decide +kernel
theorem dX8_leastOver_49 : decode cX8_leastOver 49 = .ok (.istore 6, 2) := by decide +kernel
theorem dX8_leastOver_51 : decode cX8_leastOver 51 = .ok (.iload 6, 2) := by decide +kernel
theorem dX8_leastOver_53 : decode cX8_leastOver 53 = .ok (.iload_n 1, 1) := by decide +kernel
theorem dX8_leastOver_54 : decode cX8_leastOver 54 = .ok (.if_icmp .ge 7, 3) := by decide +kernel
theorem dX8_leastOver_57 : decode cX8_leastOver 57 = .ok (.iconst 0, 1) := by decide +kernel
theorem dX8_leastOver_58 : decode cX8_leastOver 58 = .ok (.goto 11, 3) := by decide +kernel
theorem dX8_leastOver_61 : decode cX8_leastOver 61 = .ok (.aload_n 0, 1) := by decide +kernel
theorem dX8_leastOver_62 : decode cX8_leastOver 62 = .ok (.iload 6, 2) := by decide +kernel
theorem dX8_leastOver_64 : decode cX8_leastOver 64 = .ok (.iload_n 2, 1) := by decide +kernel
theorem dX8_leastOver_65 : decode cX8_leastOver 65 = .ok (.iload_n 3, 1) := by decide +kernel
theorem dX8_leastOver_66 : decode cX8_leastOver 66 = .ok (.invokevirtual 425, 3) := by decide +kernel
theorem dX8_leastOver_69 : decode cX8_leastOver 69 = .ok (.istore 7, 2) := by decide +kernel
theorem dX8_leastOver_71 : decode cX8_leastOver 71 = .ok (.iload 4, 2) := by decide +kernel
theorem dX8_leastOver_73 : decode cX8_leastOver 73 = .ok (.ifCond .eq 16, 3) := by decide +kernel
theorem dX8_leastOver_76 : decode cX8_leastOver 76 = .ok (.iload 7, 2) := by decide +kernel
theorem dX8_leastOver_78 : decode cX8_leastOver 78 = .ok (.iload_n 3, 1) := by decide +kernel
theorem dX8_leastOver_79 : decode cX8_leastOver 79 = .ok (.iload_n 2, 1) := by decide +kernel
theorem dX8_leastOver_80 : decode cX8_leastOver 80 = .ok (.isub, 1) := by decide +kernel
theorem dX8_leastOver_81 : decode cX8_leastOver 81 = .ok (.iconst 1, 1) := by decide +kernel
theorem dX8_leastOver_82 : decode cX8_leastOver 82 = .ok (.iadd, 1) := by decide +kernel
theorem dX8_leastOver_83 : decode cX8_leastOver 83 = .ok (.if_icmp .ne 14, 3) := by decide +kernel
theorem dX8_leastOver_86 : decode cX8_leastOver 86 = .ok (.goto 8, 3) := by decide +kernel
theorem dX8_leastOver_89 : decode cX8_leastOver 89 = .ok (.iload 7, 2) := by decide +kernel
theorem dX8_leastOver_91 : decode cX8_leastOver 91 = .ok (.ifCond .le 6, 3) := by decide +kernel
theorem dX8_leastOver_94 : decode cX8_leastOver 94 = .ok (.iload 6, 2) := by decide +kernel
theorem dX8_leastOver_96 : decode cX8_leastOver 96 = .ok (.ireturn, 1) := by decide +kernel
theorem dX8_leastOver_97 : decode cX8_leastOver 97 = .ok (.iinc 5 1, 3) := by decide +kernel
theorem dX8_leastOver_100 : decode cX8_leastOver 100 = .ok (.goto (-69), 3) := by decide +kernel
theorem dX8_leastOver_103 : decode cX8_leastOver 103 = .ok (.bipush (-2), 2) := by decide +kernel
theorem dX8_leastOver_105 : decode cX8_leastOver 105 = .ok (.ireturn, 1) := by decide +kernel
theorem dX8_always_0 : decode cX8_always 0 = .ok (.aload_n 0, 1) := by decide +kernel
theorem dX8_always_1 : decode cX8_always 1 = .ok (.iconst 0, 1) := by decide +kernel
theorem dX8_always_2 : decode cX8_always 2 = .ok (.putfield 1, 3) := by decide +kernel
theorem dX8_always_5 : decode cX8_always 5 = .ok (.aload_n 0, 1) := by decide +kernel
theorem dX8_always_6 : decode cX8_always 6 = .ok (.iload_n 1, 1) := by decide +kernel
theorem dX8_always_7 : decode cX8_always 7 = .ok (.iload_n 2, 1) := by decide +kernel
theorem dX8_always_8 : decode cX8_always 8 = .ok (.iload_n 3, 1) := by decide +kernel
theorem dX8_always_9 : decode cX8_always 9 = .ok (.iconst 1, 1) := by decide +kernel
theorem dX8_always_10 : decode cX8_always 10 = .ok (.invokevirtual 428, 3) := by decide +kernel
theorem dX8_always_13 : decode cX8_always 13 = .ok (.ireturn, 1) := by decide +kernel
theorem dX8_ever_0 : decode cX8_ever 0 = .ok (.aload_n 0, 1) := by decide +kernel
theorem dX8_ever_1 : decode cX8_ever 1 = .ok (.iconst 0, 1) := by decide +kernel
theorem dX8_ever_2 : decode cX8_ever 2 = .ok (.putfield 1, 3) := by decide +kernel
theorem dX8_ever_5 : decode cX8_ever 5 = .ok (.aload_n 0, 1) := by decide +kernel
theorem dX8_ever_6 : decode cX8_ever 6 = .ok (.iload_n 1, 1) := by decide +kernel
theorem dX8_ever_7 : decode cX8_ever 7 = .ok (.iload_n 2, 1) := by decide +kernel
theorem dX8_ever_8 : decode cX8_ever 8 = .ok (.iload_n 3, 1) := by decide +kernel
theorem dX8_ever_9 : decode cX8_ever 9 = .ok (.iconst 0, 1) := by decide +kernel
theorem dX8_ever_10 : decode cX8_ever 10 = .ok (.invokevirtual 428, 3) := by decide +kernel
theorem dX8_ever_13 : decode cX8_ever 13 = .ok (.ireturn, 1) := by decide +kernel
theorem dX8_both_0 : decode cX8_both 0 = .ok (.aload_n 0, 1) := by decide +kernel
theorem dX8_both_1 : decode cX8_both 1 = .ok (.iconst 0, 1) := by decide +kernel
theorem dX8_both_2 : decode cX8_both 2 = .ok (.putfield 1, 3) := by decide +kernel
theorem dX8_both_5 : decode cX8_both 5 = .ok (.iload_n 1, 1) := by decide +kernel
theorem dX8_both_6 : decode cX8_both 6 = .ok (.invokestatic 101, 3) := by decide +kernel
theorem dX8_both_9 : decode cX8_both 9 = .ok (.ifCond .eq 10, 3) := by decide +kernel
theorem dX8_both_12 : decode cX8_both 12 = .ok (.iload_n 2, 1) := by decide +kernel
theorem dX8_both_13 : decode cX8_both 13 = .ok (.invokestatic 101, 3) := by decide +kernel
theorem dX8_both_16 : decode cX8_both 16 = .ok (.ifCond .ne 5, 3) := by decide +kernel
theorem dX8_both_19 : decode cX8_both 19 = .ok (.iconst (-1), 1) := by decide +kernel
theorem dX8_both_20 : decode cX8_both 20 = .ok (.ireturn, 1) := by decide +kernel
theorem dX8_both_21 : decode cX8_both 21 = .ok (.iconst 0, 1) := by decide +kernel
theorem dX8_both_22 : decode cX8_both 22 = .ok (.istore_n 3, 1) := by decide +kernel
theorem dX8_both_23 : decode cX8_both 23 = .ok (.iconst 0, 1) := by decide +kernel
theorem dX8_both_24 : decode cX8_both 24 = .ok (.istore 4, 2) := by decide +kernel
theorem dX8_both_26 : decode cX8_both 26 = .ok (.iload 4, 2) := by decide +kernel
theorem dX8_both_28 : decode cX8_both 28 = .ok (.bipush 64, 2) := by decide +kernel
theorem dX8_both_30 : decode cX8_both 30 = .ok (.if_icmp .ge 37, 3) := by decide +kernel
theorem dX8_both_33 : decode cX8_both 33 = .ok (.iload_n 3, 1) := by decide +kernel
theorem dX8_both_34 : decode cX8_both 34 = .ok (.aload_n 0, 1) := by decide +kernel
theorem dX8_both_35 : decode cX8_both 35 = .ok (.iload_n 1, 1) := by decide +kernel
theorem dX8_both_36 : decode cX8_both 36 = .ok (.iload 4, 2) := by decide +kernel
theorem dX8_both_38 : decode cX8_both 38 = .ok (.invokevirtual 422, 3) := by decide +kernel
theorem dX8_both_41 : decode cX8_both 41 = .ok (.ifCond .eq 17, 3) := by decide +kernel
theorem dX8_both_44 : decode cX8_both 44 = .ok (.aload_n 0, 1) := by decide +kernel
theorem dX8_both_45 : decode cX8_both 45 = .ok (.iload_n 2, 1) := by decide +kernel
theorem dX8_both_46 : decode cX8_both 46 = .ok (.iload 4, 2) := by decide +kernel
theorem dX8_both_48 : decode cX8_both 48 = .ok (.invokevirtual 422, 3) := by decide +kernel
theorem dX8_both_51 : decode cX8_both 51 = .ok (.ifCond .eq 7, 3) := by decide +kernel
theorem dX8_both_54 : decode cX8_both 54 = .ok (.iconst 1, 1) := by decide +kernel
theorem dX8_both_55 : decode cX8_both 55 = .ok (.goto 4, 3) := by decide +kernel
theorem dX8_both_58 : decode cX8_both 58 = .ok (.iconst 0, 1) := by decide +kernel
theorem dX8_both_59 : decode cX8_both 59 = .ok (.iadd, 1) := by decide +kernel
theorem dX8_both_60 : decode cX8_both 60 = .ok (.istore_n 3, 1) := by decide +kernel
theorem dX8_both_61 : decode cX8_both 61 = .ok (.iinc 4 1, 3) := by decide +kernel
theorem dX8_both_64 : decode cX8_both 64 = .ok (.goto (-38), 3) := by decide +kernel
theorem dX8_both_67 : decode cX8_both 67 = .ok (.iload_n 3, 1) := by decide +kernel
theorem dX8_both_68 : decode cX8_both 68 = .ok (.ireturn, 1) := by decide +kernel
theorem dX8_reigns_0 : decode cX8_reigns 0 = .ok (.aload_n 0, 1) := by decide +kernel
theorem dX8_reigns_1 : decode cX8_reigns 1 = .ok (.iconst 0, 1) := by decide +kernel
theorem dX8_reigns_2 : decode cX8_reigns 2 = .ok (.putfield 1, 3) := by decide +kernel
theorem dX8_reigns_5 : decode cX8_reigns 5 = .ok (.iload_n 1, 1) := by decide +kernel
theorem dX8_reigns_6 : decode cX8_reigns 6 = .ok (.invokestatic 101, 3) := by decide +kernel
theorem dX8_reigns_9 : decode cX8_reigns 9 = .ok (.ifCond .eq 10, 3) := by decide +kernel
theorem dX8_reigns_12 : decode cX8_reigns 12 = .ok (.iload_n 2, 1) := by decide +kernel
theorem dX8_reigns_13 : decode cX8_reigns 13 = .ok (.invokestatic 101, 3) := by decide +kernel
theorem dX8_reigns_16 : decode cX8_reigns 16 = .ok (.ifCond .ne 5, 3) := by decide +kernel
theorem dX8_reigns_19 : decode cX8_reigns 19 = .ok (.iconst (-1), 1) := by decide +kernel
theorem dX8_reigns_20 : decode cX8_reigns 20 = .ok (.ireturn, 1) := by decide +kernel
theorem dX8_reigns_21 : decode cX8_reigns 21 = .ok (.iconst 0, 1) := by decide +kernel
theorem dX8_reigns_22 : decode cX8_reigns 22 = .ok (.istore_n 3, 1) := by decide +kernel
theorem dX8_reigns_23 : decode cX8_reigns 23 = .ok (.iconst 0, 1) := by decide +kernel
theorem dX8_reigns_24 : decode cX8_reigns 24 = .ok (.istore 4, 2) := by decide +kernel
theorem dX8_reigns_26 : decode cX8_reigns 26 = .ok (.iload 4, 2) := by decide +kernel
theorem dX8_reigns_28 : decode cX8_reigns 28 = .ok (.bipush 64, 2) := by decide +kernel
theorem dX8_reigns_30 : decode cX8_reigns 30 = .ok (.if_icmp .ge 30, 3) := by decide +kernel
theorem dX8_reigns_33 : decode cX8_reigns 33 = .ok (.iload_n 3, 1) := by decide +kernel
theorem dX8_reigns_34 : decode cX8_reigns 34 = .ok (.aload_n 0, 1) := by decide +kernel
theorem dX8_reigns_35 : decode cX8_reigns 35 = .ok (.iload_n 1, 1) := by decide +kernel
theorem dX8_reigns_36 : decode cX8_reigns 36 = .ok (.iconst 1, 1) := by decide +kernel
theorem dX8_reigns_37 : decode cX8_reigns 37 = .ok (.iadd, 1) := by decide +kernel
theorem dX8_reigns_38 : decode cX8_reigns 38 = .ok (.iload 4, 2) := by decide +kernel
theorem dX8_reigns_40 : decode cX8_reigns 40 = .ok (.invokevirtual 376, 3) := by decide +kernel
theorem dX8_reigns_43 : decode cX8_reigns 43 = .ok (.iload_n 2, 1) := by decide +kernel
theorem dX8_reigns_44 : decode cX8_reigns 44 = .ok (.if_icmp .ne 7, 3) := by decide +kernel
theorem dX8_reigns_47 : decode cX8_reigns 47 = .ok (.iconst 1, 1) := by decide +kernel
theorem dX8_reigns_48 : decode cX8_reigns 48 = .ok (.goto 4, 3) := by decide +kernel
theorem dX8_reigns_51 : decode cX8_reigns 51 = .ok (.iconst 0, 1) := by decide +kernel
theorem dX8_reigns_52 : decode cX8_reigns 52 = .ok (.iadd, 1) := by decide +kernel
theorem dX8_reigns_53 : decode cX8_reigns 53 = .ok (.istore_n 3, 1) := by decide +kernel
theorem dX8_reigns_54 : decode cX8_reigns 54 = .ok (.iinc 4 1, 3) := by decide +kernel
theorem dX8_reigns_57 : decode cX8_reigns 57 = .ok (.goto (-31), 3) := by decide +kernel
theorem dX8_reigns_60 : decode cX8_reigns 60 = .ok (.iload_n 3, 1) := by decide +kernel
theorem dX8_reigns_61 : decode cX8_reigns 61 = .ok (.ireturn, 1) := by decide +kernel
theorem dX8_crowd_0 : decode cX8_crowd 0 = .ok (.aload_n 0, 1) := by decide +kernel
theorem dX8_crowd_1 : decode cX8_crowd 1 = .ok (.iconst 0, 1) := by decide +kernel
theorem dX8_crowd_2 : decode cX8_crowd 2 = .ok (.putfield 1, 3) := by decide +kernel
theorem dX8_crowd_5 : decode cX8_crowd 5 = .ok (.iconst 0, 1) := by decide +kernel
theorem dX8_crowd_6 : decode cX8_crowd 6 = .ok (.istore_n 2, 1) := by decide +kernel
theorem dX8_crowd_7 : decode cX8_crowd 7 = .ok (.iconst 0, 1) := by decide +kernel
theorem dX8_crowd_8 : decode cX8_crowd 8 = .ok (.istore_n 3, 1) := by decide +kernel
theorem dX8_crowd_9 : decode cX8_crowd 9 = .ok (.iconst 1, 1) := by decide +kernel
theorem dX8_crowd_10 : decode cX8_crowd 10 = .ok (.istore 4, 2) := by decide +kernel
theorem dX8_crowd_12 : decode cX8_crowd 12 = .ok (.iload 4, 2) := by decide +kernel
theorem dX8_crowd_14 : decode cX8_crowd 14 = .ok (.bipush 64, 2) := by decide +kernel
theorem dX8_crowd_16 : decode cX8_crowd 16 = .ok (.if_icmp .ge 59, 3) := by decide +kernel
theorem dX8_crowd_19 : decode cX8_crowd 19 = .ok (.aload_n 0, 1) := by decide +kernel
theorem dX8_crowd_20 : decode cX8_crowd 20 = .ok (.iload 4, 2) := by decide +kernel
theorem dX8_crowd_22 : decode cX8_crowd 22 = .ok (.invokevirtual 370, 3) := by decide +kernel
theorem dX8_crowd_25 : decode cX8_crowd 25 = .ok (.aload_n 0, 1) := by decide +kernel
theorem dX8_crowd_26 : decode cX8_crowd 26 = .ok (.iload_n 2, 1) := by decide +kernel
theorem dX8_crowd_27 : decode cX8_crowd 27 = .ok (.invokevirtual 370, 3) := by decide +kernel
theorem dX8_crowd_30 : decode cX8_crowd 30 = .ok (.if_icmp .le 8, 3) := by decide +kernel
theorem dX8_crowd_33 : decode cX8_crowd 33 = .ok (.iload 4, 2) := by decide +kernel
theorem dX8_crowd_35 : decode cX8_crowd 35 = .ok (.goto 4, 3) := by decide +kernel
theorem dX8_crowd_38 : decode cX8_crowd 38 = .ok (.iload_n 2, 1) := by decide +kernel
theorem dX8_crowd_39 : decode cX8_crowd 39 = .ok (.istore_n 2, 1) := by decide +kernel
theorem dX8_crowd_40 : decode cX8_crowd 40 = .ok (.aload_n 0, 1) := by decide +kernel
theorem dX8_crowd_41 : decode cX8_crowd 41 = .ok (.iload 4, 2) := by decide +kernel
theorem dX8_crowd_43 : decode cX8_crowd 43 = .ok (.iconst 0, 1) := by decide +kernel
theorem dX8_crowd_44 : decode cX8_crowd 44 = .ok (.sipush 999, 3) := by decide +kernel
theorem dX8_crowd_47 : decode cX8_crowd 47 = .ok (.invokevirtual 373, 3) := by decide +kernel
theorem dX8_crowd_50 : decode cX8_crowd 50 = .ok (.aload_n 0, 1) := by decide +kernel
theorem dX8_crowd_51 : decode cX8_crowd 51 = .ok (.iload_n 3, 1) := by decide +kernel
theorem dX8_crowd_52 : decode cX8_crowd 52 = .ok (.iconst 0, 1) := by decide +kernel
theorem dX8_crowd_53 : decode cX8_crowd 53 = .ok (.sipush 999, 3) := by decide +kernel
theorem dX8_crowd_56 : decode cX8_crowd 56 = .ok (.invokevirtual 373, 3) := by decide +kernel
theorem dX8_crowd_59 : decode cX8_crowd 59 = .ok (.if_icmp .le 8, 3) := by decide +kernel
theorem dX8_crowd_62 : decode cX8_crowd 62 = .ok (.iload 4, 2) := by decide +kernel
theorem dX8_crowd_64 : decode cX8_crowd 64 = .ok (.goto 4, 3) := by decide +kernel
theorem dX8_crowd_67 : decode cX8_crowd 67 = .ok (.iload_n 3, 1) := by decide +kernel
theorem dX8_crowd_68 : decode cX8_crowd 68 = .ok (.istore_n 3, 1) := by decide +kernel
theorem dX8_crowd_69 : decode cX8_crowd 69 = .ok (.iinc 4 1, 3) := by decide +kernel
theorem dX8_crowd_72 : decode cX8_crowd 72 = .ok (.goto (-60), 3) := by decide +kernel
theorem dX8_crowd_75 : decode cX8_crowd 75 = .ok (.iload_n 1, 1) := by decide +kernel
theorem dX8_crowd_76 : decode cX8_crowd 76 = .ok (.tableswitch 52 0 3 #[32, 34, 40, 42], 32) := by decide +kernel
theorem dX8_crowd_108 : decode cX8_crowd 108 = .ok (.iload_n 2, 1) := by decide +kernel
theorem dX8_crowd_109 : decode cX8_crowd 109 = .ok (.ireturn, 1) := by decide +kernel
theorem dX8_crowd_110 : decode cX8_crowd 110 = .ok (.aload_n 0, 1) := by decide +kernel
theorem dX8_crowd_111 : decode cX8_crowd 111 = .ok (.iload_n 2, 1) := by decide +kernel
theorem dX8_crowd_112 : decode cX8_crowd 112 = .ok (.invokevirtual 370, 3) := by decide +kernel
theorem dX8_crowd_115 : decode cX8_crowd 115 = .ok (.ireturn, 1) := by decide +kernel
theorem dX8_crowd_116 : decode cX8_crowd 116 = .ok (.iload_n 3, 1) := by decide +kernel
theorem dX8_crowd_117 : decode cX8_crowd 117 = .ok (.ireturn, 1) := by decide +kernel
theorem dX8_crowd_118 : decode cX8_crowd 118 = .ok (.aload_n 0, 1) := by decide +kernel
theorem dX8_crowd_119 : decode cX8_crowd 119 = .ok (.iload_n 3, 1) := by decide +kernel
theorem dX8_crowd_120 : decode cX8_crowd 120 = .ok (.iconst 0, 1) := by decide +kernel
theorem dX8_crowd_121 : decode cX8_crowd 121 = .ok (.sipush 999, 3) := by decide +kernel
theorem dX8_crowd_124 : decode cX8_crowd 124 = .ok (.invokevirtual 373, 3) := by decide +kernel
theorem dX8_crowd_127 : decode cX8_crowd 127 = .ok (.ireturn, 1) := by decide +kernel
theorem dX8_crowd_128 : decode cX8_crowd 128 = .ok (.iconst (-1), 1) := by decide +kernel
theorem dX8_crowd_129 : decode cX8_crowd 129 = .ok (.ireturn, 1) := by decide +kernel
theorem dX8_firstHour_0 : decode cX8_firstHour 0 = .ok (.iload_n 0, 1) := by decide +kernel
theorem dX8_firstHour_1 : decode cX8_firstHour 1 = .ok (.istore_n 1, 1) := by decide +kernel
theorem dX8_firstHour_2 : decode cX8_firstHour 2 = .ok (.iload_n 1, 1) := by decide +kernel
theorem dX8_firstHour_3 : decode cX8_firstHour 3 = .ok (.bipush 64, 2) := by decide +kernel
theorem dX8_firstHour_5 : decode cX8_firstHour 5 = .ok (.if_icmp .ge 10, 3) := by decide +kernel
theorem dX8_firstHour_8 : decode cX8_firstHour 8 = .ok (.iload_n 1, 1) := by decide +kernel
theorem dX8_firstHour_9 : decode cX8_firstHour 9 = .ok (.iconst 2, 1) := by decide +kernel
theorem dX8_firstHour_10 : decode cX8_firstHour 10 = .ok (.imul, 1) := by decide +kernel
theorem dX8_firstHour_11 : decode cX8_firstHour 11 = .ok (.istore_n 1, 1) := by decide +kernel
theorem dX8_firstHour_12 : decode cX8_firstHour 12 = .ok (.goto (-10), 3) := by decide +kernel
theorem dX8_firstHour_15 : decode cX8_firstHour 15 = .ok (.iload_n 1, 1) := by decide +kernel
theorem dX8_firstHour_16 : decode cX8_firstHour 16 = .ok (.bipush 64, 2) := by decide +kernel
theorem dX8_firstHour_18 : decode cX8_firstHour 18 = .ok (.isub, 1) := by decide +kernel
theorem dX8_firstHour_19 : decode cX8_firstHour 19 = .ok (.ireturn, 1) := by decide +kernel
theorem dX8_hoursIn_0 : decode cX8_hoursIn 0 = .ok (.bipush 64, 2) := by decide +kernel
theorem dX8_hoursIn_2 : decode cX8_hoursIn 2 = .ok (.istore_n 1, 1) := by decide +kernel
theorem dX8_hoursIn_3 : decode cX8_hoursIn 3 = .ok (.iload_n 0, 1) := by decide +kernel
theorem dX8_hoursIn_4 : decode cX8_hoursIn 4 = .ok (.istore_n 2, 1) := by decide +kernel
theorem dX8_hoursIn_5 : decode cX8_hoursIn 5 = .ok (.iload_n 2, 1) := by decide +kernel
theorem dX8_hoursIn_6 : decode cX8_hoursIn 6 = .ok (.iconst 1, 1) := by decide +kernel
theorem dX8_hoursIn_7 : decode cX8_hoursIn 7 = .ok (.if_icmp .le 14, 3) := by decide +kernel
theorem dX8_hoursIn_10 : decode cX8_hoursIn 10 = .ok (.iload_n 1, 1) := by decide +kernel
theorem dX8_hoursIn_11 : decode cX8_hoursIn 11 = .ok (.iconst 2, 1) := by decide +kernel
theorem dX8_hoursIn_12 : decode cX8_hoursIn 12 = .ok (.idiv, 1) := by decide +kernel
theorem dX8_hoursIn_13 : decode cX8_hoursIn 13 = .ok (.istore_n 1, 1) := by decide +kernel
theorem dX8_hoursIn_14 : decode cX8_hoursIn 14 = .ok (.iload_n 2, 1) := by decide +kernel
theorem dX8_hoursIn_15 : decode cX8_hoursIn 15 = .ok (.iconst 2, 1) := by decide +kernel
theorem dX8_hoursIn_16 : decode cX8_hoursIn 16 = .ok (.idiv, 1) := by decide +kernel
theorem dX8_hoursIn_17 : decode cX8_hoursIn 17 = .ok (.istore_n 2, 1) := by decide +kernel
theorem dX8_hoursIn_18 : decode cX8_hoursIn 18 = .ok (.goto (-13), 3) := by decide +kernel
theorem dX8_hoursIn_21 : decode cX8_hoursIn 21 = .ok (.iload_n 1, 1) := by decide +kernel
theorem dX8_hoursIn_22 : decode cX8_hoursIn 22 = .ok (.ireturn, 1) := by decide +kernel
theorem dX8_isWithin_0 : decode cX8_isWithin 0 = .ok (.iload_n 1, 1) := by decide +kernel
theorem dX8_isWithin_1 : decode cX8_isWithin 1 = .ok (.invokestatic 432, 3) := by decide +kernel
theorem dX8_isWithin_4 : decode cX8_isWithin 4 = .ok (.istore_n 3, 1) := by decide +kernel
theorem dX8_isWithin_5 : decode cX8_isWithin 5 = .ok (.aload_n 0, 1) := by decide +kernel
theorem dX8_isWithin_6 : decode cX8_isWithin 6 = .ok (.iload_n 2, 1) := by decide +kernel
theorem dX8_isWithin_7 : decode cX8_isWithin 7 = .ok (.iconst 1, 1) := by decide +kernel
theorem dX8_isWithin_8 : decode cX8_isWithin 8 = .ok (.invokevirtual 123, 3) := by decide +kernel
theorem dX8_isWithin_11 : decode cX8_isWithin 11 = .ok (.iload_n 3, 1) := by decide +kernel
theorem dX8_isWithin_12 : decode cX8_isWithin 12 = .ok (.if_icmp .gt 22, 3) := by decide +kernel
theorem dX8_isWithin_15 : decode cX8_isWithin 15 = .ok (.iload_n 3, 1) := by decide +kernel
theorem dX8_isWithin_16 : decode cX8_isWithin 16 = .ok (.iload_n 1, 1) := by decide +kernel
theorem dX8_isWithin_17 : decode cX8_isWithin 17 = .ok (.invokestatic 435, 3) := by decide +kernel
theorem dX8_isWithin_20 : decode cX8_isWithin 20 = .ok (.iadd, 1) := by decide +kernel
theorem dX8_isWithin_21 : decode cX8_isWithin 21 = .ok (.aload_n 0, 1) := by decide +kernel
theorem dX8_isWithin_22 : decode cX8_isWithin 22 = .ok (.iload_n 2, 1) := by decide +kernel
theorem dX8_isWithin_23 : decode cX8_isWithin 23 = .ok (.iconst 2, 1) := by decide +kernel
theorem dX8_isWithin_24 : decode cX8_isWithin 24 = .ok (.invokevirtual 123, 3) := by decide +kernel
theorem dX8_isWithin_27 : decode cX8_isWithin 27 = .ok (.if_icmp .gt 7, 3) := by decide +kernel
theorem dX8_isWithin_30 : decode cX8_isWithin 30 = .ok (.iconst 1, 1) := by decide +kernel
theorem dX8_isWithin_31 : decode cX8_isWithin 31 = .ok (.goto 4, 3) := by decide +kernel
theorem dX8_isWithin_34 : decode cX8_isWithin 34 = .ok (.iconst 0, 1) := by decide +kernel
theorem dX8_isWithin_35 : decode cX8_isWithin 35 = .ok (.ireturn, 1) := by decide +kernel
theorem dX8_isOf_0 : decode cX8_isOf 0 = .ok (.aload_n 0, 1) := by decide +kernel
theorem dX8_isOf_1 : decode cX8_isOf 1 = .ok (.iload_n 1, 1) := by decide +kernel
theorem dX8_isOf_2 : decode cX8_isOf 2 = .ok (.iload_n 2, 1) := by decide +kernel
theorem dX8_isOf_3 : decode cX8_isOf 3 = .ok (.invokevirtual 438, 3) := by decide +kernel
theorem dX8_isOf_6 : decode cX8_isOf 6 = .ok (.ifCond .eq 23, 3) := by decide +kernel
theorem dX8_isOf_9 : decode cX8_isOf 9 = .ok (.iload_n 1, 1) := by decide +kernel
theorem dX8_isOf_10 : decode cX8_isOf 10 = .ok (.iconst 1, 1) := by decide +kernel
theorem dX8_isOf_11 : decode cX8_isOf 11 = .ok (.if_icmp .eq 14, 3) := by decide +kernel
theorem dX8_isOf_14 : decode cX8_isOf 14 = .ok (.aload_n 0, 1) := by decide +kernel
theorem dX8_isOf_15 : decode cX8_isOf 15 = .ok (.iload_n 1, 1) := by decide +kernel
theorem dX8_isOf_16 : decode cX8_isOf 16 = .ok (.iconst 2, 1) := by decide +kernel
theorem dX8_isOf_17 : decode cX8_isOf 17 = .ok (.idiv, 1) := by decide +kernel
theorem dX8_isOf_18 : decode cX8_isOf 18 = .ok (.iload_n 2, 1) := by decide +kernel
theorem dX8_isOf_19 : decode cX8_isOf 19 = .ok (.invokevirtual 438, 3) := by decide +kernel
theorem dX8_isOf_22 : decode cX8_isOf 22 = .ok (.ifCond .ne 7, 3) := by decide +kernel
theorem dX8_isOf_25 : decode cX8_isOf 25 = .ok (.iconst 1, 1) := by decide +kernel
theorem dX8_isOf_26 : decode cX8_isOf 26 = .ok (.goto 4, 3) := by decide +kernel
theorem dX8_isOf_29 : decode cX8_isOf 29 = .ok (.iconst 0, 1) := by decide +kernel
theorem dX8_isOf_30 : decode cX8_isOf 30 = .ok (.ireturn, 1) := by decide +kernel
theorem dX8_piecesOf_0 : decode cX8_piecesOf 0 = .ok (.iconst 0, 1) := by decide +kernel
theorem dX8_piecesOf_1 : decode cX8_piecesOf 1 = .ok (.istore_n 2, 1) := by decide +kernel
theorem dX8_piecesOf_2 : decode cX8_piecesOf 2 = .ok (.iconst 1, 1) := by decide +kernel
theorem dX8_piecesOf_3 : decode cX8_piecesOf 3 = .ok (.istore_n 3, 1) := by decide +kernel
theorem dX8_piecesOf_4 : decode cX8_piecesOf 4 = .ok (.iload_n 3, 1) := by decide +kernel
theorem dX8_piecesOf_5 : decode cX8_piecesOf 5 = .ok (.sipush 128, 3) := by decide +kernel
theorem dX8_piecesOf_8 : decode cX8_piecesOf 8 = .ok (.if_icmp .ge 26, 3) := by decide +kernel
theorem dX8_piecesOf_11 : decode cX8_piecesOf 11 = .ok (.iload_n 2, 1) := by decide +kernel
theorem dX8_piecesOf_12 : decode cX8_piecesOf 12 = .ok (.aload_n 0, 1) := by decide +kernel
theorem dX8_piecesOf_13 : decode cX8_piecesOf 13 = .ok (.iload_n 3, 1) := by decide +kernel
theorem dX8_piecesOf_14 : decode cX8_piecesOf 14 = .ok (.iload_n 1, 1) := by decide +kernel
theorem dX8_piecesOf_15 : decode cX8_piecesOf 15 = .ok (.invokevirtual 441, 3) := by decide +kernel
theorem dX8_piecesOf_18 : decode cX8_piecesOf 18 = .ok (.ifCond .eq 7, 3) := by decide +kernel
theorem dX8_piecesOf_21 : decode cX8_piecesOf 21 = .ok (.iconst 1, 1) := by decide +kernel
theorem dX8_piecesOf_22 : decode cX8_piecesOf 22 = .ok (.goto 4, 3) := by decide +kernel
theorem dX8_piecesOf_25 : decode cX8_piecesOf 25 = .ok (.iconst 0, 1) := by decide +kernel
theorem dX8_piecesOf_26 : decode cX8_piecesOf 26 = .ok (.iadd, 1) := by decide +kernel
theorem dX8_piecesOf_27 : decode cX8_piecesOf 27 = .ok (.istore_n 2, 1) := by decide +kernel
theorem dX8_piecesOf_28 : decode cX8_piecesOf 28 = .ok (.iinc 3 1, 3) := by decide +kernel
theorem dX8_piecesOf_31 : decode cX8_piecesOf 31 = .ok (.goto (-27), 3) := by decide +kernel
theorem dX8_piecesOf_34 : decode cX8_piecesOf 34 = .ok (.iload_n 2, 1) := by decide +kernel
theorem dX8_piecesOf_35 : decode cX8_piecesOf 35 = .ok (.ireturn, 1) := by decide +kernel
theorem dX8_cover_0 : decode cX8_cover 0 = .ok (.aload_n 0, 1) := by decide +kernel
theorem dX8_cover_1 : decode cX8_cover 1 = .ok (.iconst 0, 1) := by decide +kernel
theorem dX8_cover_2 : decode cX8_cover 2 = .ok (.putfield 1, 3) := by decide +kernel
theorem dX8_cover_5 : decode cX8_cover 5 = .ok (.iload_n 1, 1) := by decide +kernel
theorem dX8_cover_6 : decode cX8_cover 6 = .ok (.invokestatic 101, 3) := by decide +kernel
theorem dX8_cover_9 : decode cX8_cover 9 = .ok (.ifCond .eq 10, 3) := by decide +kernel
theorem dX8_cover_12 : decode cX8_cover 12 = .ok (.iload_n 2, 1) := by decide +kernel
theorem dX8_cover_13 : decode cX8_cover 13 = .ok (.invokestatic 104, 3) := by decide +kernel
theorem dX8_cover_16 : decode cX8_cover 16 = .ok (.ifCond .ne 5, 3) := by decide +kernel
theorem dX8_cover_19 : decode cX8_cover 19 = .ok (.iconst (-1), 1) := by decide +kernel
theorem dX8_cover_20 : decode cX8_cover 20 = .ok (.ireturn, 1) := by decide +kernel
theorem dX8_cover_21 : decode cX8_cover 21 = .ok (.aload_n 0, 1) := by decide +kernel
theorem dX8_cover_22 : decode cX8_cover 22 = .ok (.getfield 13, 3) := by decide +kernel
theorem dX8_cover_25 : decode cX8_cover 25 = .ok (.iload_n 1, 1) := by decide +kernel
theorem dX8_cover_26 : decode cX8_cover 26 = .ok (.iload_n 2, 1) := by decide +kernel
theorem dX8_cover_27 : decode cX8_cover 27 = .ok (.invokestatic 74, 3) := by decide +kernel
theorem dX8_cover_30 : decode cX8_cover 30 = .ok (.istore_n 3, 1) := by decide +kernel
theorem dX8_cover_31 : decode cX8_cover 31 = .ok (.iload_n 3, 1) := by decide +kernel
theorem dX8_cover_32 : decode cX8_cover 32 = .ok (.iconst (-1), 1) := by decide +kernel
theorem dX8_cover_33 : decode cX8_cover 33 = .ok (.if_icmp .ne 6, 3) := by decide +kernel
theorem dX8_cover_36 : decode cX8_cover 36 = .ok (.bipush (-2), 2) := by decide +kernel
theorem dX8_cover_38 : decode cX8_cover 38 = .ok (.ireturn, 1) := by decide +kernel
theorem dX8_cover_39 : decode cX8_cover 39 = .ok (.bipush 64, 2) := by decide +kernel
theorem dX8_cover_41 : decode cX8_cover 41 = .ok (.iload_n 2, 1) := by decide +kernel
theorem dX8_cover_42 : decode cX8_cover 42 = .ok (.iadd, 1) := by decide +kernel
theorem dX8_cover_43 : decode cX8_cover 43 = .ok (.istore 4, 2) := by decide +kernel
theorem dX8_cover_45 : decode cX8_cover 45 = .ok (.aload_n 0, 1) := by decide +kernel
theorem dX8_cover_46 : decode cX8_cover 46 = .ok (.iload 4, 2) := by decide +kernel
theorem dX8_cover_48 : decode cX8_cover 48 = .ok (.iload_n 3, 1) := by decide +kernel
theorem dX8_cover_49 : decode cX8_cover 49 = .ok (.invokevirtual 441, 3) := by decide +kernel
theorem dX8_cover_52 : decode cX8_cover 52 = .ok (.ifCond .ne 12, 3) := by decide +kernel
theorem dX8_cover_55 : decode cX8_cover 55 = .ok (.iload 4, 2) := by decide +kernel
theorem dX8_cover_57 : decode cX8_cover 57 = .ok (.iconst 2, 1) := by decide +kernel
theorem dX8_cover_58 : decode cX8_cover 58 = .ok (.idiv, 1) := by decide +kernel
theorem dX8_cover_59 : decode cX8_cover 59 = .ok (.istore 4, 2) := by decide +kernel
theorem dX8_cover_61 : decode cX8_cover 61 = .ok (.goto (-16), 3) := by decide +kernel
theorem dX8_cover_64 : decode cX8_cover 64 = .ok (.iload 4, 2) := by decide +kernel
theorem dX8_cover_66 : decode cX8_cover 66 = .ok (.ireturn, 1) := by decide +kernel
theorem dX8_onOf_0 : decode cX8_onOf 0 = .ok (.iconst 0, 1) := by decide +kernel
theorem dX8_onOf_1 : decode cX8_onOf 1 = .ok (.istore_n 3, 1) := by decide +kernel
theorem dX8_onOf_2 : decode cX8_onOf 2 = .ok (.iconst 0, 1) := by decide +kernel
theorem dX8_onOf_3 : decode cX8_onOf 3 = .ok (.istore 4, 2) := by decide +kernel
theorem dX8_onOf_5 : decode cX8_onOf 5 = .ok (.iload 4, 2) := by decide +kernel
theorem dX8_onOf_7 : decode cX8_onOf 7 = .ok (.aload_n 0, 1) := by decide +kernel
theorem dX8_onOf_8 : decode cX8_onOf 8 = .ok (.getfield 13, 3) := by decide +kernel
theorem dX8_onOf_11 : decode cX8_onOf 11 = .ok (.iconst 0, 1) := by decide +kernel
theorem dX8_onOf_12 : decode cX8_onOf 12 = .ok (.iaload, 1) := by decide +kernel
theorem dX8_onOf_13 : decode cX8_onOf 13 = .ok (.if_icmp .ge 35, 3) := by decide +kernel
theorem dX8_onOf_16 : decode cX8_onOf 16 = .ok (.aload_n 0, 1) := by decide +kernel
theorem dX8_onOf_17 : decode cX8_onOf 17 = .ok (.iload_n 1, 1) := by decide +kernel
theorem dX8_onOf_18 : decode cX8_onOf 18 = .ok (.iload 4, 2) := by decide +kernel
theorem dX8_onOf_20 : decode cX8_onOf 20 = .ok (.invokevirtual 441, 3) := by decide +kernel
theorem dX8_onOf_23 : decode cX8_onOf 23 = .ok (.ifCond .eq 19, 3) := by decide +kernel
theorem dX8_onOf_26 : decode cX8_onOf 26 = .ok (.iload_n 3, 1) := by decide +kernel
theorem dX8_onOf_27 : decode cX8_onOf 27 = .ok (.iload_n 2, 1) := by decide +kernel
theorem dX8_onOf_28 : decode cX8_onOf 28 = .ok (.if_icmp .ne 11, 3) := by decide +kernel
theorem dX8_onOf_31 : decode cX8_onOf 31 = .ok (.aload_n 0, 1) := by decide +kernel
theorem dX8_onOf_32 : decode cX8_onOf 32 = .ok (.iload 4, 2) := by decide +kernel
theorem dX8_onOf_34 : decode cX8_onOf 34 = .ok (.iconst 0, 1) := by decide +kernel
theorem dX8_onOf_35 : decode cX8_onOf 35 = .ok (.invokevirtual 123, 3) := by decide +kernel
theorem dX8_onOf_38 : decode cX8_onOf 38 = .ok (.ireturn, 1) := by decide +kernel
theorem dX8_onOf_39 : decode cX8_onOf 39 = .ok (.iinc 3 1, 3) := by decide +kernel
theorem dX8_onOf_42 : decode cX8_onOf 42 = .ok (.iinc 4 1, 3) := by decide +kernel
theorem dX8_onOf_45 : decode cX8_onOf 45 = .ok (.goto (-40), 3) := by decide +kernel
theorem dX8_onOf_48 : decode cX8_onOf 48 = .ok (.iload_n 2, 1) := by decide +kernel
theorem dX8_onOf_49 : decode cX8_onOf 49 = .ok (.iconst (-1), 1) := by decide +kernel
theorem dX8_onOf_50 : decode cX8_onOf 50 = .ok (.if_icmp .ne 7, 3) := by decide +kernel
theorem dX8_onOf_53 : decode cX8_onOf 53 = .ok (.iload_n 3, 1) := by decide +kernel
theorem dX8_onOf_54 : decode cX8_onOf 54 = .ok (.goto 5, 3) := by decide +kernel
theorem dX8_onOf_57 : decode cX8_onOf 57 = .ok (.bipush (-2), 2) := by decide +kernel
theorem dX8_onOf_59 : decode cX8_onOf 59 = .ok (.ireturn, 1) := by decide +kernel
theorem dX8_on_0 : decode cX8_on 0 = .ok (.aload_n 0, 1) := by decide +kernel
theorem dX8_on_1 : decode cX8_on 1 = .ok (.iconst 0, 1) := by decide +kernel
theorem dX8_on_2 : decode cX8_on 2 = .ok (.putfield 1, 3) := by decide +kernel
theorem dX8_on_5 : decode cX8_on 5 = .ok (.iload_n 1, 1) := by decide +kernel
theorem dX8_on_6 : decode cX8_on 6 = .ok (.i2l, 1) := by decide +kernel
theorem dX8_on_7 : decode cX8_on 7 = .ok (.lconst 1, 1) := by decide +kernel
theorem dX8_on_8 : decode cX8_on 8 = .ok (.ldc2_w 444, 3) := by decide +kernel
theorem dX8_on_11 : decode cX8_on 11 = .ok (.invokestatic 60, 3) := by decide +kernel
theorem dX8_on_14 : decode cX8_on 14 = .ok (.ifCond .eq 12, 3) := by decide +kernel
theorem dX8_on_17 : decode cX8_on 17 = .ok (.aload_n 0, 1) := by decide +kernel
theorem dX8_on_18 : decode cX8_on 18 = .ok (.iload_n 1, 1) := by decide +kernel
theorem dX8_on_19 : decode cX8_on 19 = .ok (.iconst (-1), 1) := by decide +kernel
theorem dX8_on_20 : decode cX8_on 20 = .ok (.invokevirtual 446, 3) := by decide +kernel
theorem dX8_on_23 : decode cX8_on 23 = .ok (.goto 4, 3) := by decide +kernel
theorem dX8_on_26 : decode cX8_on 26 = .ok (.iconst (-1), 1) := by decide +kernel
theorem dX8_on_27 : decode cX8_on 27 = .ok (.ireturn, 1) := by decide +kernel
theorem dX8_onAt_0 : decode cX8_onAt 0 = .ok (.aload_n 0, 1) := by decide +kernel
theorem dX8_onAt_1 : decode cX8_onAt 1 = .ok (.iconst 0, 1) := by decide +kernel
theorem dX8_onAt_2 : decode cX8_onAt 2 = .ok (.putfield 1, 3) := by decide +kernel
theorem dX8_onAt_5 : decode cX8_onAt 5 = .ok (.iload_n 1, 1) := by decide +kernel
theorem dX8_onAt_6 : decode cX8_onAt 6 = .ok (.i2l, 1) := by decide +kernel
theorem dX8_onAt_7 : decode cX8_onAt 7 = .ok (.lconst 1, 1) := by decide +kernel
theorem dX8_onAt_8 : decode cX8_onAt 8 = .ok (.ldc2_w 444, 3) := by decide +kernel
theorem dX8_onAt_11 : decode cX8_onAt 11 = .ok (.invokestatic 60, 3) := by decide +kernel
theorem dX8_onAt_14 : decode cX8_onAt 14 = .ok (.ifCond .eq 16, 3) := by decide +kernel
theorem dX8_onAt_17 : decode cX8_onAt 17 = .ok (.iload_n 2, 1) := by decide +kernel
theorem dX8_onAt_18 : decode cX8_onAt 18 = .ok (.ifCond .lt 12, 3) := by decide +kernel
theorem dX8_onAt_21 : decode cX8_onAt 21 = .ok (.aload_n 0, 1) := by decide +kernel
theorem dX8_onAt_22 : decode cX8_onAt 22 = .ok (.iload_n 1, 1) := by decide +kernel
theorem dX8_onAt_23 : decode cX8_onAt 23 = .ok (.iload_n 2, 1) := by decide +kernel
theorem dX8_onAt_24 : decode cX8_onAt 24 = .ok (.invokevirtual 446, 3) := by decide +kernel
theorem dX8_onAt_27 : decode cX8_onAt 27 = .ok (.goto 4, 3) := by decide +kernel
theorem dX8_onAt_30 : decode cX8_onAt 30 = .ok (.iconst (-1), 1) := by decide +kernel
theorem dX8_onAt_31 : decode cX8_onAt 31 = .ok (.ireturn, 1) := by decide +kernel
