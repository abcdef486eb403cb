theorem dX7_init_0 : decode cX7_init 0 = .ok (.aload_n 0, 1) := by decide +kernel
theorem dX7_init_1 : decode cX7_init 1 = .ok (.invokespecial 1, 3) := by decide +kernel
theorem dX7_init_4 : decode cX7_init 4 = .ok (.aload_n 0, 1) := by decide +kernel
theorem dX7_init_5 : decode cX7_init 5 = .ok (.new 7, 3) := by decide +kernel
theorem dX7_init_8 : decode cX7_init 8 = .ok (.dup, 1) := by decide +kernel
theorem dX7_init_9 : decode cX7_init 9 = .ok (.invokespecial 9, 3) := by decide +kernel
theorem dX7_init_12 : decode cX7_init 12 = .ok (.putfield 10, 3) := by decide +kernel
theorem dX7_init_15 : decode cX7_init 15 = .ok (.aload_n 0, 1) := by decide +kernel
theorem dX7_init_16 : decode cX7_init 16 = .ok (.new 16, 3) := by decide +kernel
theorem dX7_init_19 : decode cX7_init 19 = .ok (.dup, 1) := by decide +kernel
theorem dX7_init_20 : decode cX7_init 20 = .ok (.invokespecial 18, 3) := by decide +kernel
theorem dX7_init_23 : decode cX7_init 23 = .ok (.putfield 19, 3) := by decide +kernel
theorem dX7_init_26 : decode cX7_init 26 = .ok (.aload_n 0, 1) := by decide +kernel
theorem dX7_init_27 : decode cX7_init 27 = .ok (.iconst 2, 1) := by decide +kernel
theorem dX7_init_28 : decode cX7_init 28 = .ok (.sipush 162, 3) := by decide +kernel
theorem dX7_init_31 : decode cX7_init 31 = .ok (.multianewarray 23 2, 4) := by decide +kernel
theorem dX7_init_35 : decode cX7_init 35 = .ok (.putfield 25, 3) := by decide +kernel
theorem dX7_init_38 : decode cX7_init 38 = .ok (.aload_n 0, 1) := by decide +kernel
theorem dX7_init_39 : decode cX7_init 39 = .ok (.iconst 2, 1) := by decide +kernel
theorem dX7_init_40 : decode cX7_init 40 = .ok (.newarray .boolean, 2) := by decide +kernel
theorem dX7_init_42 : decode cX7_init 42 = .ok (.putfield 28, 3) := by decide +kernel
theorem dX7_init_45 : decode cX7_init 45 = .ok (.new 32, 3) := by decide +kernel
theorem dX7_init_48 : decode cX7_init 48 = .ok (.dup, 1) := by decide +kernel
theorem dX7_init_49 : decode cX7_init 49 = .ok (.invokespecial 34, 3) := by decide +kernel
theorem dX7_init_52 : decode cX7_init 52 = .ok (.astore_n 1, 1) := by decide +kernel
theorem dX7_init_53 : decode cX7_init 53 = .ok (.aload_n 0, 1) := by decide +kernel
theorem dX7_init_54 : decode cX7_init 54 = .ok (.aload_n 1, 1) := by decide +kernel
theorem dX7_init_55 : decode cX7_init 55 = .ok (.putfield 35, 3) := by decide +kernel
theorem dX7_init_58 : decode cX7_init 58 = .ok (.aload_n 0, 1) := by decide +kernel
theorem dX7_init_59 : decode cX7_init 59 = .ok (.new 39, 3) := by decide +kernel
theorem dX7_init_62 : decode cX7_init 62 = .ok (.dup, 1) := by decide +kernel
theorem dX7_init_63 : decode cX7_init 63 = .ok (.aload_n 1, 1) := by decide +kernel
theorem dX7_init_64 : decode cX7_init 64 = .ok (.invokespecial 41, 3) := by decide +kernel
theorem dX7_init_67 : decode cX7_init 67 = .ok (.putfield 44, 3) := by decide +kernel
theorem dX7_init_70 : decode cX7_init 70 = .ok (.aload_n 0, 1) := by decide +kernel
theorem dX7_init_71 : decode cX7_init 71 = .ok (.new 48, 3) := by decide +kernel
theorem dX7_init_74 : decode cX7_init 74 = .ok (.dup, 1) := by decide +kernel
theorem dX7_init_75 : decode cX7_init 75 = .ok (.aload_n 1, 1) := by decide +kernel
theorem dX7_init_76 : decode cX7_init 76 = .ok (.invokespecial 50, 3) := by decide +kernel
theorem dX7_init_79 : decode cX7_init 79 = .ok (.putfield 51, 3) := by decide +kernel
theorem dX7_init_82 : decode cX7_init 82 = .ok (.aload_n 0, 1) := by decide +kernel
theorem dX7_init_83 : decode cX7_init 83 = .ok (.new 55, 3) := by decide +kernel
theorem dX7_init_86 : decode cX7_init 86 = .ok (.dup, 1) := by decide +kernel
theorem dX7_init_87 : decode cX7_init 87 = .ok (.invokespecial 57, 3) := by decide +kernel
theorem dX7_init_90 : decode cX7_init 90 = .ok (.putfield 58, 3) := by decide +kernel
theorem dX7_init_93 : decode cX7_init 93 = .ok (.aload_n 0, 1) := by decide +kernel
theorem dX7_init_94 : decode cX7_init 94 = .ok (.iconst 0, 1) := by decide +kernel
theorem dX7_init_95 : decode cX7_init 95 = .ok (.putfield 62, 3) := by decide +kernel
theorem dX7_init_98 : decode cX7_init 98 = .ok (.aload_n 0, 1) := by decide +kernel
theorem dX7_init_99 : decode cX7_init 99 = .ok (.iconst 0, 1) := by decide +kernel
theorem dX7_init_100 : decode cX7_init 100 = .ok (.putfield 66, 3) := by decide +kernel
theorem dX7_init_103 : decode cX7_init 103 = .ok (.aload_n 0, 1) := by decide +kernel
theorem dX7_init_104 : decode cX7_init 104 = .ok (.iconst 0, 1) := by decide +kernel
theorem dX7_init_105 : decode cX7_init 105 = .ok (.putfield 70, 3) := by decide +kernel
theorem dX7_init_108 : decode cX7_init 108 = .ok (.aload_n 0, 1) := by decide +kernel
theorem dX7_init_109 : decode cX7_init 109 = .ok (.iconst (-1), 1) := by decide +kernel
theorem dX7_init_110 : decode cX7_init 110 = .ok (.putfield 73, 3) := by decide +kernel
theorem dX7_init_113 : decode cX7_init 113 = .ok (.aload_n 0, 1) := by decide +kernel
theorem dX7_init_114 : decode cX7_init 114 = .ok (.iconst 0, 1) := by decide +kernel
theorem dX7_init_115 : decode cX7_init 115 = .ok (.putfield 76, 3) := by decide +kernel
theorem dX7_init_118 : decode cX7_init 118 = .ok (.return_, 1) := by decide +kernel
theorem dX7_born_0 : decode cX7_born 0 = .ok (.aload_n 0, 1) := by decide +kernel
theorem dX7_born_1 : decode cX7_born 1 = .ok (.iload_n 1, 1) := by decide +kernel
theorem dX7_born_2 : decode cX7_born 2 = .ok (.iload_n 2, 1) := by decide +kernel
theorem dX7_born_3 : decode cX7_born 3 = .ok (.bipush 64, 2) := by decide +kernel
theorem dX7_born_5 : decode cX7_born 5 = .ok (.iload_n 3, 1) := by decide +kernel
theorem dX7_born_6 : decode cX7_born 6 = .ok (.invokevirtual 79, 3) := by decide +kernel
theorem dX7_born_9 : decode cX7_born 9 = .ok (.ireturn, 1) := by decide +kernel
theorem dX7_span_0 : decode cX7_span 0 = .ok (.iload_n 1, 1) := by decide +kernel
theorem dX7_span_1 : decode cX7_span 1 = .ok (.invokestatic 83, 3) := by decide +kernel
theorem dX7_span_4 : decode cX7_span 4 = .ok (.ifCond .eq 29, 3) := by decide +kernel
theorem dX7_span_7 : decode cX7_span 7 = .ok (.iload_n 2, 1) := by decide +kernel
theorem dX7_span_8 : decode cX7_span 8 = .ok (.invokestatic 87, 3) := by decide +kernel
theorem dX7_span_11 : decode cX7_span 11 = .ok (.ifCond .eq 22, 3) := by decide +kernel
theorem dX7_span_14 : decode cX7_span 14 = .ok (.iload 4, 2) := by decide +kernel
theorem dX7_span_16 : decode cX7_span 16 = .ok (.invokestatic 90, 3) := by decide +kernel
theorem dX7_span_19 : decode cX7_span 19 = .ok (.ifCond .eq 14, 3) := by decide +kernel
theorem dX7_span_22 : decode cX7_span 22 = .ok (.iload_n 3, 1) := by decide +kernel
theorem dX7_span_23 : decode cX7_span 23 = .ok (.iload_n 2, 1) := by decide +kernel
theorem dX7_span_24 : decode cX7_span 24 = .ok (.if_icmp .le 9, 3) := by decide +kernel
theorem dX7_span_27 : decode cX7_span 27 = .ok (.iload_n 3, 1) := by decide +kernel
theorem dX7_span_28 : decode cX7_span 28 = .ok (.bipush 64, 2) := by decide +kernel
theorem dX7_span_30 : decode cX7_span 30 = .ok (.if_icmp .le 5, 3) := by decide +kernel
theorem dX7_span_33 : decode cX7_span 33 = .ok (.iconst 1, 1) := by decide +kernel
theorem dX7_span_34 : decode cX7_span 34 = .ok (.ireturn, 1) := by decide +kernel
theorem dX7_span_35 : decode cX7_span 35 = .ok (.aload_n 0, 1) := by decide +kernel
theorem dX7_span_36 : decode cX7_span 36 = .ok (.iload_n 1, 1) := by decide +kernel
theorem dX7_span_37 : decode cX7_span 37 = .ok (.iconst (-1), 1) := by decide +kernel
theorem dX7_span_38 : decode cX7_span 38 = .ok (.iload_n 2, 1) := by decide +kernel
theorem dX7_span_39 : decode cX7_span 39 = .ok (.iload_n 3, 1) := by decide +kernel
theorem dX7_span_40 : decode cX7_span 40 = .ok (.invokevirtual 93, 3) := by decide +kernel
theorem dX7_span_43 : decode cX7_span 43 = .ok (.istore 5, 2) := by decide +kernel
theorem dX7_span_45 : decode cX7_span 45 = .ok (.iload 5, 2) := by decide +kernel
theorem dX7_span_47 : decode cX7_span 47 = .ok (.ifCond .eq 6, 3) := by decide +kernel
theorem dX7_span_50 : decode cX7_span 50 = .ok (.iload 5, 2) := by decide +kernel
theorem dX7_span_52 : decode cX7_span 52 = .ok (.ireturn, 1) := by decide +kernel
theorem dX7_span_53 : decode cX7_span 53 = .ok (.aload_n 0, 1) := by decide +kernel
theorem dX7_span_54 : decode cX7_span 54 = .ok (.getfield 10, 3) := by decide +kernel
theorem dX7_span_57 : decode cX7_span 57 = .ok (.invokevirtual 96, 3) := by decide +kernel
theorem dX7_span_60 : decode cX7_span 60 = .ok (.bipush 40, 2) := by decide +kernel
theorem dX7_span_62 : decode cX7_span 62 = .ok (.if_icmp .lt 5, 3) := by decide +kernel
theorem dX7_span_65 : decode cX7_span 65 = .ok (.iconst 5, 1) := by decide +kernel
theorem dX7_span_66 : decode cX7_span 66 = .ok (.ireturn, 1) := by decide +kernel
theorem dX7_span_67 : decode cX7_span 67 = .ok (.aload_n 0, 1) := by decide +kernel
theorem dX7_span_68 : decode cX7_span 68 = .ok (.getfield 19, 3) := by decide +kernel
theorem dX7_span_71 : decode cX7_span 71 = .ok (.aload_n 0, 1) := by decide +kernel
theorem dX7_span_72 : decode cX7_span 72 = .ok (.getfield 10, 3) := by decide +kernel
theorem dX7_span_75 : decode cX7_span 75 = .ok (.invokevirtual 100, 3) := by decide +kernel
theorem dX7_span_78 : decode cX7_span 78 = .ok (.aload_n 0, 1) := by decide +kernel
theorem dX7_span_79 : decode cX7_span 79 = .ok (.getfield 10, 3) := by decide +kernel
theorem dX7_span_82 : decode cX7_span 82 = .ok (.iload_n 1, 1) := by decide +kernel
theorem dX7_span_83 : decode cX7_span 83 = .ok (.iload_n 2, 1) := by decide +kernel
theorem dX7_span_84 : decode cX7_span 84 = .ok (.iload_n 3, 1) := by decide +kernel
theorem dX7_span_85 : decode cX7_span 85 = .ok (.iload 4, 2) := by decide +kernel
theorem dX7_span_87 : decode cX7_span 87 = .ok (.invokevirtual 104, 3) := by decide +kernel
theorem dX7_span_90 : decode cX7_span 90 = .ok (.iconst 0, 1) := by decide +kernel
theorem dX7_span_91 : decode cX7_span 91 = .ok (.ireturn, 1) := by decide +kernel
theorem dX7_died_0 : decode cX7_died 0 = .ok (.iload_n 1, 1) := by decide +kernel
theorem dX7_died_1 : decode cX7_died 1 = .ok (.invokestatic 83, 3) := by decide +kernel
theorem dX7_died_4 : decode cX7_died 4 = .ok (.ifCond .eq 10, 3) := by decide +kernel
theorem dX7_died_7 : decode cX7_died 7 = .ok (.iload_n 2, 1) := by decide +kernel
theorem dX7_died_8 : decode cX7_died 8 = .ok (.invokestatic 87, 3) := by decide +kernel
theorem dX7_died_11 : decode cX7_died 11 = .ok (.ifCond .ne 5, 3) := by decide +kernel
theorem dX7_died_14 : decode cX7_died 14 = .ok (.iconst 1, 1) := by decide +kernel
theorem dX7_died_15 : decode cX7_died 15 = .ok (.ireturn, 1) := by decide +kernel
theorem dX7_died_16 : decode cX7_died 16 = .ok (.aload_n 0, 1) := by decide +kernel
theorem dX7_died_17 : decode cX7_died 17 = .ok (.getfield 10, 3) := by decide +kernel
theorem dX7_died_20 : decode cX7_died 20 = .ok (.iload_n 1, 1) := by decide +kernel
theorem dX7_died_21 : decode cX7_died 21 = .ok (.iload_n 2, 1) := by decide +kernel
theorem dX7_died_22 : decode cX7_died 22 = .ok (.invokevirtual 108, 3) := by decide +kernel
theorem dX7_died_25 : decode cX7_died 25 = .ok (.istore_n 3, 1) := by decide +kernel
theorem dX7_died_26 : decode cX7_died 26 = .ok (.iload_n 3, 1) := by decide +kernel
theorem dX7_died_27 : decode cX7_died 27 = .ok (.ifCond .ge 5, 3) := by decide +kernel
theorem dX7_died_30 : decode cX7_died 30 = .ok (.iconst 2, 1) := by decide +kernel
theorem dX7_died_31 : decode cX7_died 31 = .ok (.ireturn, 1) := by decide +kernel
theorem dX7_died_32 : decode cX7_died 32 = .ok (.aload_n 0, 1) := by decide +kernel
theorem dX7_died_33 : decode cX7_died 33 = .ok (.iload_n 3, 1) := by decide +kernel
theorem dX7_died_34 : decode cX7_died 34 = .ok (.aload_n 0, 1) := by decide +kernel
theorem dX7_died_35 : decode cX7_died 35 = .ok (.getfield 10, 3) := by decide +kernel
theorem dX7_died_38 : decode cX7_died 38 = .ok (.iload_n 3, 1) := by decide +kernel
theorem dX7_died_39 : decode cX7_died 39 = .ok (.invokevirtual 112, 3) := by decide +kernel
theorem dX7_died_42 : decode cX7_died 42 = .ok (.iload_n 2, 1) := by decide +kernel
theorem dX7_died_43 : decode cX7_died 43 = .ok (.invokevirtual 116, 3) := by decide +kernel
theorem dX7_died_46 : decode cX7_died 46 = .ok (.ireturn, 1) := by decide +kernel
theorem dX7_unborn_0 : decode cX7_unborn 0 = .ok (.iload_n 1, 1) := by decide +kernel
theorem dX7_unborn_1 : decode cX7_unborn 1 = .ok (.invokestatic 83, 3) := by decide +kernel
theorem dX7_unborn_4 : decode cX7_unborn 4 = .ok (.ifCond .eq 10, 3) := by decide +kernel
theorem dX7_unborn_7 : decode cX7_unborn 7 = .ok (.iload_n 2, 1) := by decide +kernel
theorem dX7_unborn_8 : decode cX7_unborn 8 = .ok (.invokestatic 87, 3) := by decide +kernel
theorem dX7_unborn_11 : decode cX7_unborn 11 = .ok (.ifCond .ne 5, 3) := by decide +kernel
theorem dX7_unborn_14 : decode cX7_unborn 14 = .ok (.iconst 1, 1) := by decide +kernel
theorem dX7_unborn_15 : decode cX7_unborn 15 = .ok (.ireturn, 1) := by decide +kernel
theorem dX7_unborn_16 : decode cX7_unborn 16 = .ok (.aload_n 0, 1) := by decide +kernel
theorem dX7_unborn_17 : decode cX7_unborn 17 = .ok (.getfield 10, 3) := by decide +kernel
theorem dX7_unborn_20 : decode cX7_unborn 20 = .ok (.iload_n 1, 1) := by decide +kernel
theorem dX7_unborn_21 : decode cX7_unborn 21 = .ok (.iload_n 2, 1) := by decide +kernel
theorem dX7_unborn_22 : decode cX7_unborn 22 = .ok (.invokevirtual 108, 3) := by decide +kernel
theorem dX7_unborn_25 : decode cX7_unborn 25 = .ok (.istore_n 3, 1) := by decide +kernel
theorem dX7_unborn_26 : decode cX7_unborn 26 = .ok (.iload_n 3, 1) := by decide +kernel
theorem dX7_unborn_27 : decode cX7_unborn 27 = .ok (.ifCond .ge 5, 3) := by decide +kernel
theorem dX7_unborn_30 : decode cX7_unborn 30 = .ok (.iconst 2, 1) := by decide +kernel
theorem dX7_unborn_31 : decode cX7_unborn 31 = .ok (.ireturn, 1) := by decide +kernel
theorem dX7_unborn_32 : decode cX7_unborn 32 = .ok (.aload_n 0, 1) := by decide +kernel
theorem dX7_unborn_33 : decode cX7_unborn 33 = .ok (.iload_n 3, 1) := by decide +kernel
theorem dX7_unborn_34 : decode cX7_unborn 34 = .ok (.aload_n 0, 1) := by decide +kernel
theorem dX7_unborn_35 : decode cX7_unborn 35 = .ok (.getfield 10, 3) := by decide +kernel
theorem dX7_unborn_38 : decode cX7_unborn 38 = .ok (.iload_n 3, 1) := by decide +kernel
theorem dX7_unborn_39 : decode cX7_unborn 39 = .ok (.invokevirtual 112, 3) := by decide +kernel
theorem dX7_unborn_42 : decode cX7_unborn 42 = .ok (.aload_n 0, 1) := by decide +kernel
theorem dX7_unborn_43 : decode cX7_unborn 43 = .ok (.getfield 10, 3) := by decide +kernel
theorem dX7_unborn_46 : decode cX7_unborn 46 = .ok (.iload_n 3, 1) := by decide +kernel
theorem dX7_unborn_47 : decode cX7_unborn 47 = .ok (.invokevirtual 112, 3) := by decide +kernel
theorem dX7_unborn_50 : decode cX7_unborn 50 = .ok (.invokevirtual 116, 3) := by decide +kernel
theorem dX7_unborn_53 : decode cX7_unborn 53 = .ok (.ireturn, 1) := by decide +kernel
theorem dX7_revived_0 : decode cX7_revived 0 = .ok (.iload_n 1, 1) := by decide +kernel
theorem dX7_revived_1 : decode cX7_revived 1 = .ok (.invokestatic 83, 3) := by decide +kernel
theorem dX7_revived_4 : decode cX7_revived 4 = .ok (.ifCond .eq 14, 3) := by decide +kernel
theorem dX7_revived_7 : decode cX7_revived 7 = .ok (.iload_n 2, 1) := by decide +kernel
theorem dX7_revived_8 : decode cX7_revived 8 = .ok (.invokestatic 87, 3) := by decide +kernel
theorem dX7_revived_11 : decode cX7_revived 11 = .ok (.ifCond .eq 7, 3) := by decide +kernel
theorem dX7_revived_14 : decode cX7_revived 14 = .ok (.iload_n 2, 1) := by decide +kernel
theorem dX7_revived_15 : decode cX7_revived 15 = .ok (.ifCond .ne 5, 3) := by decide +kernel
theorem dX7_revived_18 : decode cX7_revived 18 = .ok (.iconst 1, 1) := by decide +kernel
theorem dX7_revived_19 : decode cX7_revived 19 = .ok (.ireturn, 1) := by decide +kernel
theorem dX7_revived_20 : decode cX7_revived 20 = .ok (.aload_n 0, 1) := by decide +kernel
theorem dX7_revived_21 : decode cX7_revived 21 = .ok (.getfield 10, 3) := by decide +kernel
theorem dX7_revived_24 : decode cX7_revived 24 = .ok (.iload_n 1, 1) := by decide +kernel
theorem dX7_revived_25 : decode cX7_revived 25 = .ok (.iload_n 2, 1) := by decide +kernel
theorem dX7_revived_26 : decode cX7_revived 26 = .ok (.invokevirtual 120, 3) := by decide +kernel
theorem dX7_revived_29 : decode cX7_revived 29 = .ok (.istore_n 3, 1) := by decide +kernel
theorem dX7_revived_30 : decode cX7_revived 30 = .ok (.iload_n 3, 1) := by decide +kernel
theorem dX7_revived_31 : decode cX7_revived 31 = .ok (.ifCond .ge 5, 3) := by decide +kernel
theorem dX7_revived_34 : decode cX7_revived 34 = .ok (.iconst 2, 1) := by decide +kernel
theorem dX7_revived_35 : decode cX7_revived 35 = .ok (.ireturn, 1) := by decide +kernel
theorem dX7_revived_36 : decode cX7_revived 36 = .ok (.aload_n 0, 1) := by decide +kernel
theorem dX7_revived_37 : decode cX7_revived 37 = .ok (.iload_n 3, 1) := by decide +kernel
theorem dX7_revived_38 : decode cX7_revived 38 = .ok (.aload_n 0, 1) := by decide +kernel
theorem dX7_revived_39 : decode cX7_revived 39 = .ok (.getfield 10, 3) := by decide +kernel
theorem dX7_revived_42 : decode cX7_revived 42 = .ok (.iload_n 3, 1) := by decide +kernel
theorem dX7_revived_43 : decode cX7_revived 43 = .ok (.invokevirtual 112, 3) := by decide +kernel
theorem dX7_revived_46 : decode cX7_revived 46 = .ok (.bipush 64, 2) := by decide +kernel
theorem dX7_revived_48 : decode cX7_revived 48 = .ok (.invokevirtual 116, 3) := by decide +kernel
theorem dX7_revived_51 : decode cX7_revived 51 = .ok (.ireturn, 1) := by decide +kernel
theorem dX7_shifted_0 : decode cX7_shifted 0 = .ok (.iload_n 1, 1) := by decide +kernel
theorem dX7_shifted_1 : decode cX7_shifted 1 = .ok (.invokestatic 83, 3) := by decide +kernel
theorem dX7_shifted_4 : decode cX7_shifted 4 = .ok (.ifCond .eq 26, 3) := by decide +kernel
theorem dX7_shifted_7 : decode cX7_shifted 7 = .ok (.iload_n 2, 1) := by decide +kernel
theorem dX7_shifted_8 : decode cX7_shifted 8 = .ok (.invokestatic 87, 3) := by decide +kernel
theorem dX7_shifted_11 : decode cX7_shifted 11 = .ok (.ifCond .eq 19, 3) := by decide +kernel
theorem dX7_shifted_14 : decode cX7_shifted 14 = .ok (.iload_n 3, 1) := by decide +kernel
theorem dX7_shifted_15 : decode cX7_shifted 15 = .ok (.ifCond .eq 15, 3) := by decide +kernel
theorem dX7_shifted_18 : decode cX7_shifted 18 = .ok (.iload_n 3, 1) := by decide +kernel
theorem dX7_shifted_19 : decode cX7_shifted 19 = .ok (.bipush (-64), 2) := by decide +kernel
theorem dX7_shifted_21 : decode cX7_shifted 21 = .ok (.if_icmp .le 9, 3) := by decide +kernel
theorem dX7_shifted_24 : decode cX7_shifted 24 = .ok (.iload_n 3, 1) := by decide +kernel
theorem dX7_shifted_25 : decode cX7_shifted 25 = .ok (.bipush 64, 2) := by decide +kernel
theorem dX7_shifted_27 : decode cX7_shifted 27 = .ok (.if_icmp .lt 5, 3) := by decide +kernel
theorem dX7_shifted_30 : decode cX7_shifted 30 = .ok (.iconst 1, 1) := by decide +kernel
theorem dX7_shifted_31 : decode cX7_shifted 31 = .ok (.ireturn, 1) := by decide +kernel
theorem dX7_shifted_32 : decode cX7_shifted 32 = .ok (.aload_n 0, 1) := by decide +kernel
theorem dX7_shifted_33 : decode cX7_shifted 33 = .ok (.getfield 10, 3) := by decide +kernel
theorem dX7_shifted_36 : decode cX7_shifted 36 = .ok (.iload_n 1, 1) := by decide +kernel
theorem dX7_shifted_37 : decode cX7_shifted 37 = .ok (.iload_n 2, 1) := by decide +kernel
theorem dX7_shifted_38 : decode cX7_shifted 38 = .ok (.invokevirtual 108, 3) := by decide +kernel
theorem dX7_shifted_41 : decode cX7_shifted 41 = .ok (.istore 4, 2) := by decide +kernel
theorem dX7_shifted_43 : decode cX7_shifted 43 = .ok (.iload 4, 2) := by decide +kernel
theorem dX7_shifted_45 : decode cX7_shifted 45 = .ok (.ifCond .ge 5, 3) := by decide +kernel
theorem dX7_shifted_48 : decode cX7_shifted 48 = .ok (.iconst 2, 1) := by decide +kernel
theorem dX7_shifted_49 : decode cX7_shifted 49 = .ok (.ireturn, 1) := by decide +kernel
theorem dX7_shifted_50 : decode cX7_shifted 50 = .ok (.aload_n 0, 1) := by decide +kernel
theorem dX7_shifted_51 : decode cX7_shifted 51 = .ok (.getfield 10, 3) := by decide +kernel
theorem dX7_shifted_54 : decode cX7_shifted 54 = .ok (.iload 4, 2) := by decide +kernel
theorem dX7_shifted_56 : decode cX7_shifted 56 = .ok (.invokevirtual 112, 3) := by decide +kernel
theorem dX7_shifted_59 : decode cX7_shifted 59 = .ok (.iload_n 3, 1) := by decide +kernel
theorem dX7_shifted_60 : decode cX7_shifted 60 = .ok (.iadd, 1) := by decide +kernel
theorem dX7_shifted_61 : decode cX7_shifted 61 = .ok (.istore 5, 2) := by decide +kernel
theorem dX7_shifted_63 : decode cX7_shifted 63 = .ok (.aload_n 0, 1) := by decide +kernel
theorem dX7_shifted_64 : decode cX7_shifted 64 = .ok (.getfield 10, 3) := by decide +kernel
theorem dX7_shifted_67 : decode cX7_shifted 67 = .ok (.iload 4, 2) := by decide +kernel
theorem dX7_shifted_69 : decode cX7_shifted 69 = .ok (.invokevirtual 123, 3) := by decide +kernel
theorem dX7_shifted_72 : decode cX7_shifted 72 = .ok (.bipush 64, 2) := by decide +kernel
theorem dX7_shifted_74 : decode cX7_shifted 74 = .ok (.if_icmp .ne 8, 3) := by decide +kernel
theorem dX7_shifted_77 : decode cX7_shifted 77 = .ok (.bipush 64, 2) := by decide +kernel
theorem dX7_shifted_79 : decode cX7_shifted 79 = .ok (.goto 14, 3) := by decide +kernel
theorem dX7_shifted_82 : decode cX7_shifted 82 = .ok (.aload_n 0, 1) := by decide +kernel
theorem dX7_shifted_83 : decode cX7_shifted 83 = .ok (.getfield 10, 3) := by decide +kernel
theorem dX7_shifted_86 : decode cX7_shifted 86 = .ok (.iload 4, 2) := by decide +kernel
theorem dX7_shifted_88 : decode cX7_shifted 88 = .ok (.invokevirtual 123, 3) := by decide +kernel
theorem dX7_shifted_91 : decode cX7_shifted 91 = .ok (.iload_n 3, 1) := by decide +kernel
theorem dX7_shifted_92 : decode cX7_shifted 92 = .ok (.iadd, 1) := by decide +kernel
theorem dX7_shifted_93 : decode cX7_shifted 93 = .ok (.istore 6, 2) := by decide +kernel
theorem dX7_shifted_95 : decode cX7_shifted 95 = .ok (.iload 5, 2) := by decide +kernel
theorem dX7_shifted_97 : decode cX7_shifted 97 = .ok (.invokestatic 87, 3) := by decide +kernel
theorem dX7_shifted_100 : decode cX7_shifted 100 = .ok (.ifCond .eq 10, 3) := by decide +kernel
theorem dX7_shifted_103 : decode cX7_shifted 103 = .ok (.iload 6, 2) := by decide +kernel
theorem dX7_shifted_105 : decode cX7_shifted 105 = .ok (.bipush 64, 2) := by decide +kernel
theorem dX7_shifted_107 : decode cX7_shifted 107 = .ok (.if_icmp .le 5, 3) := by decide +kernel
theorem dX7_shifted_110 : decode cX7_shifted 110 = .ok (.iconst 1, 1) := by decide +kernel
theorem dX7_shifted_111 : decode cX7_shifted 111 = .ok (.ireturn, 1) := by decide +kernel
theorem dX7_shifted_112 : decode cX7_shifted 112 = .ok (.aload_n 0, 1) := by decide +kernel
theorem dX7_shifted_113 : decode cX7_shifted 113 = .ok (.iload 4, 2) := by decide +kernel
theorem dX7_shifted_115 : decode cX7_shifted 115 = .ok (.iload 5, 2) := by decide +kernel
theorem dX7_shifted_117 : decode cX7_shifted 117 = .ok (.iload 6, 2) := by decide +kernel
theorem dX7_shifted_119 : decode cX7_shifted 119 = .ok (.invokevirtual 116, 3) := by decide +kernel
theorem dX7_shifted_122 : decode cX7_shifted 122 = .ok (.ireturn, 1) := by decide +kernel
theorem dX7_worthed_0 : decode cX7_worthed 0 = .ok (.iload_n 1, 1) := by decide +kernel
theorem dX7_worthed_1 : decode cX7_worthed 1 = .ok (.invokestatic 83, 3) := by decide +kernel
theorem dX7_worthed_4 : decode cX7_worthed 4 = .ok (.ifCond .eq 17, 3) := by decide +kernel
theorem dX7_worthed_7 : decode cX7_worthed 7 = .ok (.iload_n 2, 1) := by decide +kernel
theorem dX7_worthed_8 : decode cX7_worthed 8 = .ok (.invokestatic 87, 3) := by decide +kernel
theorem dX7_worthed_11 : decode cX7_worthed 11 = .ok (.ifCond .eq 10, 3) := by decide +kernel
theorem dX7_worthed_14 : decode cX7_worthed 14 = .ok (.iload_n 3, 1) := by decide +kernel
theorem dX7_worthed_15 : decode cX7_worthed 15 = .ok (.invokestatic 90, 3) := by decide +kernel
theorem dX7_worthed_18 : decode cX7_worthed 18 = .ok (.ifCond .ne 5, 3) := by decide +kernel
theorem dX7_worthed_21 : decode cX7_worthed 21 = .ok (.iconst 1, 1) := by decide +kernel
theorem dX7_worthed_22 : decode cX7_worthed 22 = .ok (.ireturn, 1) := by decide +kernel
theorem dX7_worthed_23 : decode cX7_worthed 23 = .ok (.aload_n 0, 1) := by decide +kernel
theorem dX7_worthed_24 : decode cX7_worthed 24 = .ok (.getfield 10, 3) := by decide +kernel
theorem dX7_worthed_27 : decode cX7_worthed 27 = .ok (.iload_n 1, 1) := by decide +kernel
theorem dX7_worthed_28 : decode cX7_worthed 28 = .ok (.iload_n 2, 1) := by decide +kernel
theorem dX7_worthed_29 : decode cX7_worthed 29 = .ok (.invokevirtual 108, 3) := by decide +kernel
theorem dX7_worthed_32 : decode cX7_worthed 32 = .ok (.istore 4, 2) := by decide +kernel
theorem dX7_worthed_34 : decode cX7_worthed 34 = .ok (.iload 4, 2) := by decide +kernel
theorem dX7_worthed_36 : decode cX7_worthed 36 = .ok (.ifCond .ge 5, 3) := by decide +kernel
theorem dX7_worthed_39 : decode cX7_worthed 39 = .ok (.iconst 2, 1) := by decide +kernel
theorem dX7_worthed_40 : decode cX7_worthed 40 = .ok (.ireturn, 1) := by decide +kernel
theorem dX7_worthed_41 : decode cX7_worthed 41 = .ok (.aload_n 0, 1) := by decide +kernel
theorem dX7_worthed_42 : decode cX7_worthed 42 = .ok (.getfield 10, 3) := by decide +kernel
theorem dX7_worthed_45 : decode cX7_worthed 45 = .ok (.iload 4, 2) := by decide +kernel
theorem dX7_worthed_47 : decode cX7_worthed 47 = .ok (.invokevirtual 112, 3) := by decide +kernel
theorem dX7_worthed_50 : decode cX7_worthed 50 = .ok (.aload_n 0, 1) := by decide +kernel
theorem dX7_worthed_51 : decode cX7_worthed 51 = .ok (.getfield 10, 3) := by decide +kernel
theorem dX7_worthed_54 : decode cX7_worthed 54 = .ok (.invokevirtual 126, 3) := by decide +kernel
theorem dX7_worthed_57 : decode cX7_worthed 57 = .ok (.if_icmp .ge 5, 3) := by decide +kernel
theorem dX7_worthed_60 : decode cX7_worthed 60 = .ok (.iconst 3, 1) := by decide +kernel
theorem dX7_worthed_61 : decode cX7_worthed 61 = .ok (.ireturn, 1) := by decide +kernel
theorem dX7_worthed_62 : decode cX7_worthed 62 = .ok (.aload_n 0, 1) := by decide +kernel
theorem dX7_worthed_63 : decode cX7_worthed 63 = .ok (.getfield 10, 3) := by decide +kernel
theorem dX7_worthed_66 : decode cX7_worthed 66 = .ok (.iload 4, 2) := by decide +kernel
theorem dX7_worthed_68 : decode cX7_worthed 68 = .ok (.invokevirtual 129, 3) := by decide +kernel
theorem dX7_worthed_71 : decode cX7_worthed 71 = .ok (.iload_n 3, 1) := by decide +kernel
theorem dX7_worthed_72 : decode cX7_worthed 72 = .ok (.if_icmp .ne 6, 3) := by decide +kernel
theorem dX7_worthed_75 : decode cX7_worthed 75 = .ok (.bipush 6, 2) := by decide +kernel
theorem dX7_worthed_77 : decode cX7_worthed 77 = .ok (.ireturn, 1) := by decide +kernel
theorem dX7_worthed_78 : decode cX7_worthed 78 = .ok (.aload_n 0, 1) := by decide +kernel
theorem dX7_worthed_79 : decode cX7_worthed 79 = .ok (.getfield 19, 3) := by decide +kernel
theorem dX7_worthed_82 : decode cX7_worthed 82 = .ok (.aload_n 0, 1) := by decide +kernel
theorem dX7_worthed_83 : decode cX7_worthed 83 = .ok (.getfield 10, 3) := by decide +kernel
theorem dX7_worthed_86 : decode cX7_worthed 86 = .ok (.invokevirtual 100, 3) := by decide +kernel
theorem dX7_worthed_89 : decode cX7_worthed 89 = .ok (.aload_n 0, 1) := by decide +kernel
theorem dX7_worthed_90 : decode cX7_worthed 90 = .ok (.getfield 10, 3) := by decide +kernel
theorem dX7_worthed_93 : decode cX7_worthed 93 = .ok (.iload 4, 2) := by decide +kernel
theorem dX7_worthed_95 : decode cX7_worthed 95 = .ok (.iload_n 3, 1) := by decide +kernel
theorem dX7_worthed_96 : decode cX7_worthed 96 = .ok (.invokevirtual 132, 3) := by decide +kernel
theorem dX7_worthed_99 : decode cX7_worthed 99 = .ok (.iconst 0, 1) := by decide +kernel
theorem dX7_worthed_100 : decode cX7_worthed 100 = .ok (.ireturn, 1) := by decide +kernel
theorem dX7_lock_0 : decode cX7_lock 0 = .ok (.iload_n 1, 1) := by decide +kernel
theorem dX7_lock_1 : decode cX7_lock 1 = .ok (.invokestatic 87, 3) := by decide +kernel
theorem dX7_lock_4 : decode cX7_lock 4 = .ok (.ifCond .ne 11, 3) := by decide +kernel
theorem dX7_lock_7 : decode cX7_lock 7 = .ok (.iload_n 1, 1) := by decide +kernel
theorem dX7_lock_8 : decode cX7_lock 8 = .ok (.bipush 64, 2) := by decide +kernel
theorem dX7_lock_10 : decode cX7_lock 10 = .ok (.if_icmp .eq 5, 3) := by decide +kernel
theorem dX7_lock_13 : decode cX7_lock 13 = .ok (.iconst (-1), 1) := by decide +kernel
theorem dX7_lock_14 : decode cX7_lock 14 = .ok (.ireturn, 1) := by decide +kernel
theorem dX7_lock_15 : decode cX7_lock 15 = .ok (.aload_n 0, 1) := by decide +kernel
theorem dX7_lock_16 : decode cX7_lock 16 = .ok (.getfield 10, 3) := by decide +kernel
theorem dX7_lock_19 : decode cX7_lock 19 = .ok (.invokevirtual 126, 3) := by decide +kernel
theorem dX7_lock_22 : decode cX7_lock 22 = .ok (.istore_n 2, 1) := by decide +kernel
theorem dX7_lock_23 : decode cX7_lock 23 = .ok (.aload_n 0, 1) := by decide +kernel
theorem dX7_lock_24 : decode cX7_lock 24 = .ok (.getfield 10, 3) := by decide +kernel
theorem dX7_lock_27 : decode cX7_lock 27 = .ok (.iload_n 1, 1) := by decide +kernel
theorem dX7_lock_28 : decode cX7_lock 28 = .ok (.invokevirtual 136, 3) := by decide +kernel
theorem dX7_lock_31 : decode cX7_lock 31 = .ok (.iload_n 2, 1) := by decide +kernel
theorem dX7_lock_32 : decode cX7_lock 32 = .ok (.ireturn, 1) := by decide +kernel
theorem dX7_undo_0 : decode cX7_undo 0 = .ok (.aload_n 0, 1) := by decide +kernel
theorem dX7_undo_1 : decode cX7_undo 1 = .ok (.getfield 19, 3) := by decide +kernel
theorem dX7_undo_4 : decode cX7_undo 4 = .ok (.aload_n 0, 1) := by decide +kernel
theorem dX7_undo_5 : decode cX7_undo 5 = .ok (.getfield 10, 3) := by decide +kernel
theorem dX7_undo_8 : decode cX7_undo 8 = .ok (.invokevirtual 140, 3) := by decide +kernel
theorem dX7_undo_11 : decode cX7_undo 11 = .ok (.ifCond .eq 13, 3) := by decide +kernel
theorem dX7_undo_14 : decode cX7_undo 14 = .ok (.aload_n 0, 1) := by decide +kernel
theorem dX7_undo_15 : decode cX7_undo 15 = .ok (.getfield 19, 3) := by decide +kernel
theorem dX7_undo_18 : decode cX7_undo 18 = .ok (.invokevirtual 144, 3) := by decide +kernel
theorem dX7_undo_21 : decode cX7_undo 21 = .ok (.goto 4, 3) := by decide +kernel
theorem dX7_undo_24 : decode cX7_undo 24 = .ok (.iconst (-1), 1) := by decide +kernel
theorem dX7_undo_25 : decode cX7_undo 25 = .ok (.ireturn, 1) := by decide +kernel
theorem dX7_keep_0 : decode cX7_keep 0 = .ok (.iload_n 1, 1) := by decide +kernel
theorem dX7_keep_1 : decode cX7_keep 1 = .ok (.ifCond .lt 8, 3) := by decide +kernel
theorem dX7_keep_4 : decode cX7_keep 4 = .ok (.iload_n 1, 1) := by decide +kernel
theorem dX7_keep_5 : decode cX7_keep 5 = .ok (.iconst 2, 1) := by decide +kernel
theorem dX7_keep_6 : decode cX7_keep 6 = .ok (.if_icmp .lt 5, 3) := by decide +kernel
theorem dX7_keep_9 : decode cX7_keep 9 = .ok (.iconst 0, 1) := by decide +kernel
theorem dX7_keep_10 : decode cX7_keep 10 = .ok (.ireturn, 1) := by decide +kernel
theorem dX7_keep_11 : decode cX7_keep 11 = .ok (.iload_n 2, 1) := by decide +kernel
theorem dX7_keep_12 : decode cX7_keep 12 = .ok (.ifCond .ne 25, 3) := by decide +kernel
theorem dX7_keep_15 : decode cX7_keep 15 = .ok (.aload_n 0, 1) := by decide +kernel
theorem dX7_keep_16 : decode cX7_keep 16 = .ok (.getfield 10, 3) := by decide +kernel
theorem dX7_keep_19 : decode cX7_keep 19 = .ok (.aload_n 0, 1) := by decide +kernel
theorem dX7_keep_20 : decode cX7_keep 20 = .ok (.getfield 25, 3) := by decide +kernel
theorem dX7_keep_23 : decode cX7_keep 23 = .ok (.iload_n 1, 1) := by decide +kernel
theorem dX7_keep_24 : decode cX7_keep 24 = .ok (.aaload, 1) := by decide +kernel
theorem dX7_keep_25 : decode cX7_keep 25 = .ok (.invokevirtual 147, 3) := by decide +kernel
theorem dX7_keep_28 : decode cX7_keep 28 = .ok (.aload_n 0, 1) := by decide +kernel
theorem dX7_keep_29 : decode cX7_keep 29 = .ok (.getfield 28, 3) := by decide +kernel
theorem dX7_keep_32 : decode cX7_keep 32 = .ok (.iload_n 1, 1) := by decide +kernel
theorem dX7_keep_33 : decode cX7_keep 33 = .ok (.iconst 1, 1) := by decide +kernel
theorem dX7_keep_34 : decode cX7_keep 34 = .ok (.bastore, 1) := by decide +kernel
theorem dX7_keep_35 : decode cX7_keep 35 = .ok (.iconst 1, 1) := by decide +kernel
theorem dX7_keep_36 : decode cX7_keep 36 = .ok (.ireturn, 1) := by decide +kernel
theorem dX7_keep_37 : decode cX7_keep 37 = .ok (.aload_n 0, 1) := by decide +kernel
theorem dX7_keep_38 : decode cX7_keep 38 = .ok (.getfield 28, 3) := by decide +kernel
theorem dX7_keep_41 : decode cX7_keep 41 = .ok (.iload_n 1, 1) := by decide +kernel
theorem dX7_keep_42 : decode cX7_keep 42 = .ok (.baload, 1) := by decide +kernel
theorem dX7_keep_43 : decode cX7_keep 43 = .ok (.ifCond .ne 5, 3) := by decide +kernel
theorem dX7_keep_46 : decode cX7_keep 46 = .ok (.iconst 0, 1) := by decide +kernel
theorem dX7_keep_47 : decode cX7_keep 47 = .ok (.ireturn, 1) := by decide +kernel
theorem dX7_keep_48 : decode cX7_keep 48 = .ok (.aload_n 0, 1) := by decide +kernel
theorem dX7_keep_49 : decode cX7_keep 49 = .ok (.getfield 10, 3) := by decide +kernel
theorem dX7_keep_52 : decode cX7_keep 52 = .ok (.aload_n 0, 1) := by decide +kernel
theorem dX7_keep_53 : decode cX7_keep 53 = .ok (.getfield 25, 3) := by decide +kernel
theorem dX7_keep_56 : decode cX7_keep 56 = .ok (.iload_n 1, 1) := by decide +kernel
theorem dX7_keep_57 : decode cX7_keep 57 = .ok (.aaload, 1) := by decide +kernel
theorem dX7_keep_58 : decode cX7_keep 58 = .ok (.invokevirtual 151, 3) := by decide +kernel
theorem dX7_keep_61 : decode cX7_keep 61 = .ok (.aload_n 0, 1) := by decide +kernel
theorem dX7_keep_62 : decode cX7_keep 62 = .ok (.getfield 19, 3) := by decide +kernel
theorem dX7_keep_65 : decode cX7_keep 65 = .ok (.invokevirtual 154, 3) := by decide +kernel
theorem dX7_keep_68 : decode cX7_keep 68 = .ok (.iconst 1, 1) := by decide +kernel
theorem dX7_keep_69 : decode cX7_keep 69 = .ok (.ireturn, 1) := by decide +kernel
theorem dX7_changeLife_0 : decode cX7_changeLife 0 = .ok (.aload_n 0, 1) := by decide +kernel
theorem dX7_changeLife_1 : decode cX7_changeLife 1 = .ok (.getfield 10, 3) := by decide +kernel
theorem dX7_changeLife_4 : decode cX7_changeLife 4 = .ok (.iload_n 1, 1) := by decide +kernel
theorem dX7_changeLife_5 : decode cX7_changeLife 5 = .ok (.invokevirtual 157, 3) := by decide +kernel
theorem dX7_changeLife_8 : decode cX7_changeLife 8 = .ok (.istore 4, 2) := by decide +kernel
theorem dX7_changeLife_10 : decode cX7_changeLife 10 = .ok (.aload_n 0, 1) := by decide +kernel
theorem dX7_changeLife_11 : decode cX7_changeLife 11 = .ok (.getfield 10, 3) := by decide +kernel
theorem dX7_changeLife_14 : decode cX7_changeLife 14 = .ok (.iload_n 1, 1) := by decide +kernel
theorem dX7_changeLife_15 : decode cX7_changeLife 15 = .ok (.invokevirtual 129, 3) := by decide +kernel
theorem dX7_changeLife_18 : decode cX7_changeLife 18 = .ok (.istore 5, 2) := by decide +kernel
theorem dX7_changeLife_20 : decode cX7_changeLife 20 = .ok (.aload_n 0, 1) := by decide +kernel
theorem dX7_changeLife_21 : decode cX7_changeLife 21 = .ok (.iload 4, 2) := by decide +kernel
theorem dX7_changeLife_23 : decode cX7_changeLife 23 = .ok (.iload_n 1, 1) := by decide +kernel
theorem dX7_changeLife_24 : decode cX7_changeLife 24 = .ok (.iload_n 2, 1) := by decide +kernel
theorem dX7_changeLife_25 : decode cX7_changeLife 25 = .ok (.iload_n 3, 1) := by decide +kernel
theorem dX7_changeLife_26 : decode cX7_changeLife 26 = .ok (.invokevirtual 93, 3) := by decide +kernel
theorem dX7_changeLife_29 : decode cX7_changeLife 29 = .ok (.istore 6, 2) := by decide +kernel
theorem dX7_changeLife_31 : decode cX7_changeLife 31 = .ok (.iload 6, 2) := by decide +kernel
theorem dX7_changeLife_33 : decode cX7_changeLife 33 = .ok (.ifCond .eq 6, 3) := by decide +kernel
theorem dX7_changeLife_36 : decode cX7_changeLife 36 = .ok (.iload 6, 2) := by decide +kernel
theorem dX7_changeLife_38 : decode cX7_changeLife 38 = .ok (.ireturn, 1) := by decide +kernel
theorem dX7_changeLife_39 : decode cX7_changeLife 39 = .ok (.aload_n 0, 1) := by decide +kernel
theorem dX7_changeLife_40 : decode cX7_changeLife 40 = .ok (.getfield 19, 3) := by decide +kernel
theorem dX7_changeLife_43 : decode cX7_changeLife 43 = .ok (.aload_n 0, 1) := by decide +kernel
theorem dX7_changeLife_44 : decode cX7_changeLife 44 = .ok (.getfield 10, 3) := by decide +kernel
theorem dX7_changeLife_47 : decode cX7_changeLife 47 = .ok (.invokevirtual 100, 3) := by decide +kernel
theorem dX7_changeLife_50 : decode cX7_changeLife 50 = .ok (.aload_n 0, 1) := by decide +kernel
theorem dX7_changeLife_51 : decode cX7_changeLife 51 = .ok (.getfield 10, 3) := by decide +kernel
theorem dX7_changeLife_54 : decode cX7_changeLife 54 = .ok (.iload_n 1, 1) := by decide +kernel
theorem dX7_changeLife_55 : decode cX7_changeLife 55 = .ok (.invokevirtual 160, 3) := by decide +kernel
theorem dX7_changeLife_58 : decode cX7_changeLife 58 = .ok (.iload_n 2, 1) := by decide +kernel
theorem dX7_changeLife_59 : decode cX7_changeLife 59 = .ok (.iload_n 3, 1) := by decide +kernel
theorem dX7_changeLife_60 : decode cX7_changeLife 60 = .ok (.if_icmp .ge 16, 3) := by decide +kernel
theorem dX7_changeLife_63 : decode cX7_changeLife 63 = .ok (.aload_n 0, 1) := by decide +kernel
theorem dX7_changeLife_64 : decode cX7_changeLife 64 = .ok (.getfield 10, 3) := by decide +kernel
theorem dX7_changeLife_67 : decode cX7_changeLife 67 = .ok (.iload 4, 2) := by decide +kernel
theorem dX7_changeLife_69 : decode cX7_changeLife 69 = .ok (.iload_n 2, 1) := by decide +kernel
theorem dX7_changeLife_70 : decode cX7_changeLife 70 = .ok (.iload_n 3, 1) := by decide +kernel
theorem dX7_changeLife_71 : decode cX7_changeLife 71 = .ok (.iload 5, 2) := by decide +kernel
theorem dX7_changeLife_73 : decode cX7_changeLife 73 = .ok (.invokevirtual 104, 3) := by decide +kernel
theorem dX7_changeLife_76 : decode cX7_changeLife 76 = .ok (.iconst 0, 1) := by decide +kernel
theorem dX7_changeLife_77 : decode cX7_changeLife 77 = .ok (.ireturn, 1) := by decide +kernel
theorem dX7_whyRefused_0 : decode cX7_whyRefused 0 = .ok (.iload_n 3, 1) := by decide +kernel
theorem dX7_whyRefused_1 : decode cX7_whyRefused 1 = .ok (.iload 4, 2) := by decide +kernel
theorem dX7_whyRefused_3 : decode cX7_whyRefused 3 = .ok (.invokestatic 163, 3) := by decide +kernel
theorem dX7_whyRefused_6 : decode cX7_whyRefused 6 = .ok (.lstore 5, 2) := by decide +kernel
theorem dX7_whyRefused_8 : decode cX7_whyRefused 8 = .ok (.aload_n 0, 1) := by decide +kernel
theorem dX7_whyRefused_9 : decode cX7_whyRefused 9 = .ok (.getfield 10, 3) := by decide +kernel
theorem dX7_whyRefused_12 : decode cX7_whyRefused 12 = .ok (.iload_n 1, 1) := by decide +kernel
theorem dX7_whyRefused_13 : decode cX7_whyRefused 13 = .ok (.iload_n 2, 1) := by decide +kernel
theorem dX7_whyRefused_14 : decode cX7_whyRefused 14 = .ok (.invokevirtual 167, 3) := by decide +kernel
theorem dX7_whyRefused_17 : decode cX7_whyRefused 17 = .ok (.lstore 7, 2) := by decide +kernel
theorem dX7_whyRefused_19 : decode cX7_whyRefused 19 = .ok (.aload_n 0, 1) := by decide +kernel
theorem dX7_whyRefused_20 : decode cX7_whyRefused 20 = .ok (.getfield 10, 3) := by decide +kernel
theorem dX7_whyRefused_23 : decode cX7_whyRefused 23 = .ok (.iload_n 1, 1) := by decide +kernel
theorem dX7_whyRefused_24 : decode cX7_whyRefused 24 = .ok (.iconst (-1), 1) := by decide +kernel
theorem dX7_whyRefused_25 : decode cX7_whyRefused 25 = .ok (.invokevirtual 167, 3) := by decide +kernel
theorem dX7_whyRefused_28 : decode cX7_whyRefused 28 = .ok (.lload 7, 2) := by decide +kernel
theorem dX7_whyRefused_30 : decode cX7_whyRefused 30 = .ok (.lload 5, 2) := by decide +kernel
theorem dX7_whyRefused_32 : decode cX7_whyRefused 32 = .ok (.lor, 1) := by decide +kernel
theorem dX7_whyRefused_33 : decode cX7_whyRefused 33 = .ok (.lxor, 1) := by decide +kernel
theorem dX7_whyRefused_34 : decode cX7_whyRefused 34 = .ok (.lstore 9, 2) := by decide +kernel
theorem dX7_whyRefused_36 : decode cX7_whyRefused 36 = .ok (.lload 9, 2) := by decide +kernel
theorem dX7_whyRefused_38 : decode cX7_whyRefused 38 = .ok (.iconst 0, 1) := by decide +kernel
theorem dX7_whyRefused_39 : decode cX7_whyRefused 39 = .ok (.aload_n 0, 1) := by decide +kernel
theorem dX7_whyRefused_40 : decode cX7_whyRefused 40 = .ok (.getfield 10, 3) := by decide +kernel
theorem dX7_whyRefused_43 : decode cX7_whyRefused 43 = .ok (.invokevirtual 126, 3) := by decide +kernel
theorem dX7_whyRefused_46 : decode cX7_whyRefused 46 = .ok (.invokestatic 163, 3) := by decide +kernel
theorem dX7_whyRefused_49 : decode cX7_whyRefused 49 = .ok (.land, 1) := by decide +kernel
theorem dX7_whyRefused_50 : decode cX7_whyRefused 50 = .ok (.lconst 0, 1) := by decide +kernel
theorem dX7_whyRefused_51 : decode cX7_whyRefused 51 = .ok (.lcmp, 1) := by decide +kernel
theorem dX7_whyRefused_52 : decode cX7_whyRefused 52 = .ok (.ifCond .eq 5, 3) := by decide +kernel
theorem dX7_whyRefused_55 : decode cX7_whyRefused 55 = .ok (.iconst 3, 1) := by decide +kernel
theorem dX7_whyRefused_56 : decode cX7_whyRefused 56 = .ok (.ireturn, 1) := by decide +kernel
theorem dX7_whyRefused_57 : decode cX7_whyRefused 57 = .ok (.lload 7, 2) := by decide +kernel
theorem dX7_whyRefused_59 : decode cX7_whyRefused 59 = .ok (.lload 5, 2) := by decide +kernel
theorem dX7_whyRefused_61 : decode cX7_whyRefused 61 = .ok (.land, 1) := by decide +kernel
theorem dX7_whyRefused_62 : decode cX7_whyRefused 62 = .ok (.lconst 0, 1) := by decide +kernel
theorem dX7_whyRefused_63 : decode cX7_whyRefused 63 = .ok (.lcmp, 1) := by decide +kernel
theorem dX7_whyRefused_64 : decode cX7_whyRefused 64 = .ok (.ifCond .eq 7, 3) := by decide +kernel
theorem dX7_whyRefused_67 : decode cX7_whyRefused 67 = .ok (.iconst 4, 1) := by decide +kernel
theorem dX7_whyRefused_68 : decode cX7_whyRefused 68 = .ok (.goto 4, 3) := by decide +kernel
theorem dX7_whyRefused_71 : decode cX7_whyRefused 71 = .ok (.iconst 0, 1) := by decide +kernel
theorem dX7_whyRefused_72 : decode cX7_whyRefused 72 = .ok (.ireturn, 1) := by decide +kernel
theorem dX7_feed_0 : decode cX7_feed 0 = .ok (.aload_n 0, 1) := by decide +kernel
theorem dX7_feed_1 : decode cX7_feed 1 = .ok (.getfield 35, 3) := by decide +kernel
theorem dX7_feed_4 : decode cX7_feed 4 = .ok (.invokevirtual 170, 3) := by decide +kernel
theorem dX7_feed_7 : decode cX7_feed 7 = .ok (.bipush 20, 2) := by decide +kernel
theorem dX7_feed_9 : decode cX7_feed 9 = .ok (.iadd, 1) := by decide +kernel
theorem dX7_feed_10 : decode cX7_feed 10 = .ok (.sipush 600, 3) := by decide +kernel
theorem dX7_feed_13 : decode cX7_feed 13 = .ok (.if_icmp .le 5, 3) := by decide +kernel
theorem dX7_feed_16 : decode cX7_feed 16 = .ok (.iconst (-1), 1) := by decide +kernel
theorem dX7_feed_17 : decode cX7_feed 17 = .ok (.ireturn, 1) := by decide +kernel
theorem dX7_feed_18 : decode cX7_feed 18 = .ok (.aload_n 0, 1) := by decide +kernel
theorem dX7_feed_19 : decode cX7_feed 19 = .ok (.getfield 35, 3) := by decide +kernel
theorem dX7_feed_22 : decode cX7_feed 22 = .ok (.iload_n 1, 1) := by decide +kernel
theorem dX7_feed_23 : decode cX7_feed 23 = .ok (.invokevirtual 173, 3) := by decide +kernel
theorem dX7_feed_26 : decode cX7_feed 26 = .ok (.aload_n 0, 1) := by decide +kernel
theorem dX7_feed_27 : decode cX7_feed 27 = .ok (.getfield 35, 3) := by decide +kernel
theorem dX7_feed_30 : decode cX7_feed 30 = .ok (.iload_n 2, 1) := by decide +kernel
theorem dX7_feed_31 : decode cX7_feed 31 = .ok (.invokevirtual 173, 3) := by decide +kernel
theorem dX7_feed_34 : decode cX7_feed 34 = .ok (.aload_n 0, 1) := by decide +kernel
theorem dX7_feed_35 : decode cX7_feed 35 = .ok (.getfield 35, 3) := by decide +kernel
theorem dX7_feed_38 : decode cX7_feed 38 = .ok (.iload_n 3, 1) := by decide +kernel
theorem dX7_feed_39 : decode cX7_feed 39 = .ok (.invokevirtual 173, 3) := by decide +kernel
theorem dX7_feed_42 : decode cX7_feed 42 = .ok (.aload_n 0, 1) := by decide +kernel
theorem dX7_feed_43 : decode cX7_feed 43 = .ok (.getfield 35, 3) := by decide +kernel
theorem dX7_feed_46 : decode cX7_feed 46 = .ok (.iload 4, 2) := by decide +kernel
theorem dX7_feed_48 : decode cX7_feed 48 = .ok (.invokevirtual 173, 3) := by decide +kernel
theorem dX7_feed_51 : decode cX7_feed 51 = .ok (.aload_n 0, 1) := by decide +kernel
theorem dX7_feed_52 : decode cX7_feed 52 = .ok (.getfield 35, 3) := by decide +kernel
theorem dX7_feed_55 : decode cX7_feed 55 = .ok (.iload 5, 2) := by decide +kernel
theorem dX7_feed_57 : decode cX7_feed 57 = .ok (.invokevirtual 173, 3) := by decide +kernel
theorem dX7_feed_60 : decode cX7_feed 60 = .ok (.aload_n 0, 1) := by decide +kernel
theorem dX7_feed_61 : decode cX7_feed 61 = .ok (.getfield 35, 3) := by decide +kernel
theorem dX7_feed_64 : decode cX7_feed 64 = .ok (.invokevirtual 170, 3) := by decide +kernel
theorem dX7_feed_67 : decode cX7_feed 67 = .ok (.ireturn, 1) := by decide +kernel
theorem dX7_text_0 : decode cX7_text 0 = .ok (.iload_n 1, 1) := by decide +kernel
theorem dX7_text_1 : decode cX7_text 1 = .ok (.ifCond .lt 14, 3) := by decide +kernel
theorem dX7_text_4 : decode cX7_text 4 = .ok (.iload_n 1, 1) := by decide +kernel
theorem dX7_text_5 : decode cX7_text 5 = .ok (.aload_n 0, 1) := by decide +kernel
theorem dX7_text_6 : decode cX7_text 6 = .ok (.getfield 35, 3) := by decide +kernel
theorem dX7_text_9 : decode cX7_text 9 = .ok (.invokevirtual 170, 3) := by decide +kernel
theorem dX7_text_12 : decode cX7_text 12 = .ok (.if_icmp .le 5, 3) := by decide +kernel
theorem dX7_text_15 : decode cX7_text 15 = .ok (.iconst (-1), 1) := by decide +kernel
theorem dX7_text_16 : decode cX7_text 16 = .ok (.ireturn, 1) := by decide +kernel
theorem dX7_text_17 : decode cX7_text 17 = .ok (.aload_n 0, 1) := by decide +kernel
theorem dX7_text_18 : decode cX7_text 18 = .ok (.getfield 35, 3) := by decide +kernel
theorem dX7_text_21 : decode cX7_text 21 = .ok (.iload_n 1, 1) := by decide +kernel
theorem dX7_text_22 : decode cX7_text 22 = .ok (.invokevirtual 176, 3) := by decide +kernel
theorem dX7_text_25 : decode cX7_text 25 = .ok (.iconst 0, 1) := by decide +kernel
theorem dX7_text_26 : decode cX7_text 26 = .ok (.istore_n 2, 1) := by decide +kernel
theorem dX7_text_27 : decode cX7_text 27 = .ok (.iload_n 2, 1) := by decide +kernel
theorem dX7_text_28 : decode cX7_text 28 = .ok (.sipush 600, 3) := by decide +kernel
theorem dX7_text_31 : decode cX7_text 31 = .ok (.if_icmp .ge 39, 3) := by decide +kernel
theorem dX7_text_34 : decode cX7_text 34 = .ok (.aload_n 0, 1) := by decide +kernel
theorem dX7_text_35 : decode cX7_text 35 = .ok (.getfield 35, 3) := by decide +kernel
theorem dX7_text_38 : decode cX7_text 38 = .ok (.invokevirtual 179, 3) := by decide +kernel
theorem dX7_text_41 : decode cX7_text 41 = .ok (.ifCond .ne 29, 3) := by decide +kernel
theorem dX7_text_44 : decode cX7_text 44 = .ok (.aload_n 0, 1) := by decide +kernel
theorem dX7_text_45 : decode cX7_text 45 = .ok (.getfield 35, 3) := by decide +kernel
theorem dX7_text_48 : decode cX7_text 48 = .ok (.invokevirtual 182, 3) := by decide +kernel
theorem dX7_text_51 : decode cX7_text 51 = .ok (.getstatic 186, 3) := by decide +kernel
theorem dX7_text_54 : decode cX7_text 54 = .ok (.if_acmp .eq 16, 3) := by decide +kernel
theorem dX7_text_57 : decode cX7_text 57 = .ok (.aload_n 0, 1) := by decide +kernel
theorem dX7_text_58 : decode cX7_text 58 = .ok (.getfield 44, 3) := by decide +kernel
theorem dX7_text_61 : decode cX7_text 61 = .ok (.invokevirtual 192, 3) := by decide +kernel
theorem dX7_text_64 : decode cX7_text 64 = .ok (.iinc 2 1, 3) := by decide +kernel
theorem dX7_text_67 : decode cX7_text 67 = .ok (.goto (-40), 3) := by decide +kernel
theorem dX7_text_70 : decode cX7_text 70 = .ok (.aload_n 0, 1) := by decide +kernel
theorem dX7_text_71 : decode cX7_text 71 = .ok (.getfield 35, 3) := by decide +kernel
theorem dX7_text_74 : decode cX7_text 74 = .ok (.invokevirtual 179, 3) := by decide +kernel
theorem dX7_text_77 : decode cX7_text 77 = .ok (.ifCond .eq 14, 3) := by decide +kernel
theorem dX7_text_80 : decode cX7_text 80 = .ok (.bipush (-2), 2) := by decide +kernel
theorem dX7_text_82 : decode cX7_text 82 = .ok (.aload_n 0, 1) := by decide +kernel
theorem dX7_text_83 : decode cX7_text 83 = .ok (.getfield 35, 3) := by decide +kernel
theorem dX7_text_86 : decode cX7_text 86 = .ok (.invokevirtual 195, 3) := by decide +kernel
theorem dX7_text_89 : decode cX7_text 89 = .ok (.isub, 1) := by decide +kernel
theorem dX7_text_90 : decode cX7_text 90 = .ok (.ireturn, 1) := by decide +kernel
theorem dX7_text_91 : decode cX7_text 91 = .ok (.aload_n 0, 1) := by decide +kernel
theorem dX7_text_92 : decode cX7_text 92 = .ok (.iload_n 2, 1) := by decide +kernel
theorem dX7_text_93 : decode cX7_text 93 = .ok (.invokevirtual 198, 3) := by decide +kernel
theorem dX7_text_96 : decode cX7_text 96 = .ok (.aload_n 0, 1) := by decide +kernel
theorem dX7_text_97 : decode cX7_text 97 = .ok (.getfield 66, 3) := by decide +kernel
theorem dX7_text_100 : decode cX7_text 100 = .ok (.aload_n 0, 1) := by decide +kernel
theorem dX7_text_101 : decode cX7_text 101 = .ok (.getfield 70, 3) := by decide +kernel
theorem dX7_text_104 : decode cX7_text 104 = .ok (.isub, 1) := by decide +kernel
theorem dX7_text_105 : decode cX7_text 105 = .ok (.ireturn, 1) := by decide +kernel
theorem dX7_ran_0 : decode cX7_ran 0 = .ok (.aload_n 0, 1) := by decide +kernel
theorem dX7_ran_1 : decode cX7_ran 1 = .ok (.getfield 62, 3) := by decide +kernel
theorem dX7_ran_4 : decode cX7_ran 4 = .ok (.ifCond .ne 5, 3) := by decide +kernel
theorem dX7_ran_7 : decode cX7_ran 7 = .ok (.iconst (-1), 1) := by decide +kernel
theorem dX7_ran_8 : decode cX7_ran 8 = .ok (.ireturn, 1) := by decide +kernel
theorem dX7_ran_9 : decode cX7_ran 9 = .ok (.iload_n 1, 1) := by decide +kernel
theorem dX7_ran_10 : decode cX7_ran 10 = .ok (.tableswitch 50 0 3 #[30, 35, 40, 45], 30) := by decide +kernel
theorem dX7_ran_40 : decode cX7_ran 40 = .ok (.aload_n 0, 1) := by decide +kernel
theorem dX7_ran_41 : decode cX7_ran 41 = .ok (.getfield 66, 3) := by decide +kernel
theorem dX7_ran_44 : decode cX7_ran 44 = .ok (.ireturn, 1) := by decide +kernel
theorem dX7_ran_45 : decode cX7_ran 45 = .ok (.aload_n 0, 1) := by decide +kernel
theorem dX7_ran_46 : decode cX7_ran 46 = .ok (.getfield 70, 3) := by decide +kernel
theorem dX7_ran_49 : decode cX7_ran 49 = .ok (.ireturn, 1) := by decide +kernel
theorem dX7_ran_50 : decode cX7_ran 50 = .ok (.aload_n 0, 1) := by decide +kernel
theorem dX7_ran_51 : decode cX7_ran 51 = .ok (.getfield 73, 3) := by decide +kernel
theorem dX7_ran_54 : decode cX7_ran 54 = .ok (.ireturn, 1) := by decide +kernel
theorem dX7_ran_55 : decode cX7_ran 55 = .ok (.aload_n 0, 1) := by decide +kernel
theorem dX7_ran_56 : decode cX7_ran 56 = .ok (.getfield 76, 3) := by decide +kernel
theorem dX7_ran_59 : decode cX7_ran 59 = .ok (.ireturn, 1) := by decide +kernel
theorem dX7_ran_60 : decode cX7_ran 60 = .ok (.iconst (-1), 1) := by decide +kernel
theorem dX7_ran_61 : decode cX7_ran 61 = .ok (.ireturn, 1) := by decide +kernel
theorem dX7_ask_0 : decode cX7_ask 0 = .ok (.iload_n 1, 1) := by decide +kernel
theorem dX7_ask_1 : decode cX7_ask 1 = .ok (.ifCond .lt 14, 3) := by decide +kernel
theorem dX7_ask_4 : decode cX7_ask 4 = .ok (.iload_n 1, 1) := by decide +kernel
theorem dX7_ask_5 : decode cX7_ask 5 = .ok (.aload_n 0, 1) := by decide +kernel
theorem dX7_ask_6 : decode cX7_ask 6 = .ok (.getfield 35, 3) := by decide +kernel
theorem dX7_ask_9 : decode cX7_ask 9 = .ok (.invokevirtual 170, 3) := by decide +kernel
theorem dX7_ask_12 : decode cX7_ask 12 = .ok (.if_icmp .le 5, 3) := by decide +kernel
theorem dX7_ask_15 : decode cX7_ask 15 = .ok (.iconst (-1), 1) := by decide +kernel
theorem dX7_ask_16 : decode cX7_ask 16 = .ok (.ireturn, 1) := by decide +kernel
theorem dX7_ask_17 : decode cX7_ask 17 = .ok (.aload_n 0, 1) := by decide +kernel
theorem dX7_ask_18 : decode cX7_ask 18 = .ok (.getfield 35, 3) := by decide +kernel
theorem dX7_ask_21 : decode cX7_ask 21 = .ok (.iload_n 1, 1) := by decide +kernel
theorem dX7_ask_22 : decode cX7_ask 22 = .ok (.invokevirtual 176, 3) := by decide +kernel
theorem dX7_ask_25 : decode cX7_ask 25 = .ok (.aload_n 0, 1) := by decide +kernel
theorem dX7_ask_26 : decode cX7_ask 26 = .ok (.getfield 51, 3) := by decide +kernel
theorem dX7_ask_29 : decode cX7_ask 29 = .ok (.invokevirtual 201, 3) := by decide +kernel
theorem dX7_ask_32 : decode cX7_ask 32 = .ok (.aload_n 0, 1) := by decide +kernel
theorem dX7_ask_33 : decode cX7_ask 33 = .ok (.getfield 35, 3) := by decide +kernel
theorem dX7_ask_36 : decode cX7_ask 36 = .ok (.invokevirtual 179, 3) := by decide +kernel
theorem dX7_ask_39 : decode cX7_ask 39 = .ok (.ifCond .eq 24, 3) := by decide +kernel
theorem dX7_ask_42 : decode cX7_ask 42 = .ok (.bipush (-2), 2) := by decide +kernel
theorem dX7_ask_44 : decode cX7_ask 44 = .ok (.iconst 2, 1) := by decide +kernel
theorem dX7_ask_45 : decode cX7_ask 45 = .ok (.aload_n 0, 1) := by decide +kernel
theorem dX7_ask_46 : decode cX7_ask 46 = .ok (.getfield 35, 3) := by decide +kernel
theorem dX7_ask_49 : decode cX7_ask 49 = .ok (.invokevirtual 195, 3) := by decide +kernel
theorem dX7_ask_52 : decode cX7_ask 52 = .ok (.imul, 1) := by decide +kernel
theorem dX7_ask_53 : decode cX7_ask 53 = .ok (.aload_n 0, 1) := by decide +kernel
theorem dX7_ask_54 : decode cX7_ask 54 = .ok (.getfield 35, 3) := by decide +kernel
theorem dX7_ask_57 : decode cX7_ask 57 = .ok (.invokevirtual 179, 3) := by decide +kernel
theorem dX7_ask_60 : decode cX7_ask 60 = .ok (.iadd, 1) := by decide +kernel
theorem dX7_ask_61 : decode cX7_ask 61 = .ok (.isub, 1) := by decide +kernel
theorem dX7_ask_62 : decode cX7_ask 62 = .ok (.ireturn, 1) := by decide +kernel
theorem dX7_ask_63 : decode cX7_ask 63 = .ok (.aload_n 0, 1) := by decide +kernel
theorem dX7_ask_64 : decode cX7_ask 64 = .ok (.getfield 51, 3) := by decide +kernel
theorem dX7_ask_67 : decode cX7_ask 67 = .ok (.invokevirtual 202, 3) := by decide +kernel
theorem dX7_ask_70 : decode cX7_ask 70 = .ok (.astore_n 2, 1) := by decide +kernel
theorem dX7_ask_71 : decode cX7_ask 71 = .ok (.aload_n 2, 1) := by decide +kernel
theorem dX7_ask_72 : decode cX7_ask 72 = .ok (.getstatic 205, 3) := by decide +kernel
theorem dX7_ask_75 : decode cX7_ask 75 = .ok (.if_acmp .eq 10, 3) := by decide +kernel
theorem dX7_ask_78 : decode cX7_ask 78 = .ok (.aload_n 2, 1) := by decide +kernel
theorem dX7_ask_79 : decode cX7_ask 79 = .ok (.getstatic 208, 3) := by decide +kernel
theorem dX7_ask_82 : decode cX7_ask 82 = .ok (.if_acmp .ne 20, 3) := by decide +kernel
theorem dX7_ask_85 : decode cX7_ask 85 = .ok (.aload_n 0, 1) := by decide +kernel
theorem dX7_ask_86 : decode cX7_ask 86 = .ok (.aload_n 2, 1) := by decide +kernel
theorem dX7_ask_87 : decode cX7_ask 87 = .ok (.getstatic 208, 3) := by decide +kernel
theorem dX7_ask_90 : decode cX7_ask 90 = .ok (.if_acmp .ne 7, 3) := by decide +kernel
theorem dX7_ask_93 : decode cX7_ask 93 = .ok (.iconst 1, 1) := by decide +kernel
theorem dX7_ask_94 : decode cX7_ask 94 = .ok (.goto 4, 3) := by decide +kernel
theorem dX7_ask_97 : decode cX7_ask 97 = .ok (.iconst 0, 1) := by decide +kernel
theorem dX7_ask_98 : decode cX7_ask 98 = .ok (.invokevirtual 211, 3) := by decide +kernel
theorem dX7_ask_101 : decode cX7_ask 101 = .ok (.ireturn, 1) := by decide +kernel
theorem dX7_ask_102 : decode cX7_ask 102 = .ok (.aload_n 0, 1) := by decide +kernel
theorem dX7_ask_103 : decode cX7_ask 103 = .ok (.aload_n 2, 1) := by decide +kernel
theorem dX7_ask_104 : decode cX7_ask 104 = .ok (.getstatic 215, 3) := by decide +kernel
theorem dX7_ask_107 : decode cX7_ask 107 = .ok (.if_acmp .ne 7, 3) := by decide +kernel
theorem dX7_ask_110 : decode cX7_ask 110 = .ok (.iconst 1, 1) := by decide +kernel
theorem dX7_ask_111 : decode cX7_ask 111 = .ok (.goto 4, 3) := by decide +kernel
theorem dX7_ask_114 : decode cX7_ask 114 = .ok (.iconst 0, 1) := by decide +kernel
theorem dX7_ask_115 : decode cX7_ask 115 = .ok (.invokevirtual 218, 3) := by decide +kernel
theorem dX7_ask_118 : decode cX7_ask 118 = .ok (.ireturn, 1) := by decide +kernel
theorem dX7_report_0 : decode cX7_report 0 = .ok (.iload_n 1, 1) := by decide +kernel
theorem dX7_report_1 : decode cX7_report 1 = .ok (.iconst (-1), 1) := by decide +kernel
theorem dX7_report_2 : decode cX7_report 2 = .ok (.if_icmp .ge 5, 3) := by decide +kernel
theorem dX7_report_5 : decode cX7_report 5 = .ok (.iconst (-1), 1) := by decide +kernel
theorem dX7_report_6 : decode cX7_report 6 = .ok (.ireturn, 1) := by decide +kernel
theorem dX7_report_7 : decode cX7_report 7 = .ok (.aload_n 0, 1) := by decide +kernel
theorem dX7_report_8 : decode cX7_report 8 = .ok (.getfield 58, 3) := by decide +kernel
theorem dX7_report_11 : decode cX7_report 11 = .ok (.invokevirtual 221, 3) := by decide +kernel
theorem dX7_report_14 : decode cX7_report 14 = .ok (.iconst 0, 1) := by decide +kernel
theorem dX7_report_15 : decode cX7_report 15 = .ok (.istore_n 2, 1) := by decide +kernel
theorem dX7_report_16 : decode cX7_report 16 = .ok (.iload_n 2, 1) := by decide +kernel
theorem dX7_report_17 : decode cX7_report 17 = .ok (.aload_n 0, 1) := by decide +kernel
theorem dX7_report_18 : decode cX7_report 18 = .ok (.getfield 10, 3) := by decide +kernel
theorem dX7_report_21 : decode cX7_report 21 = .ok (.invokevirtual 96, 3) := by decide +kernel
theorem dX7_report_24 : decode cX7_report 24 = .ok (.if_icmp .ge 14, 3) := by decide +kernel
theorem dX7_report_27 : decode cX7_report 27 = .ok (.aload_n 0, 1) := by decide +kernel
theorem dX7_report_28 : decode cX7_report 28 = .ok (.iload_n 2, 1) := by decide +kernel
theorem dX7_report_29 : decode cX7_report 29 = .ok (.invokevirtual 224, 3) := by decide +kernel
theorem dX7_report_32 : decode cX7_report 32 = .ok (.iinc 2 1, 3) := by decide +kernel
theorem dX7_report_35 : decode cX7_report 35 = .ok (.goto (-19), 3) := by decide +kernel
theorem dX7_report_38 : decode cX7_report 38 = .ok (.iload_n 1, 1) := by decide +kernel
theorem dX7_report_39 : decode cX7_report 39 = .ok (.iconst (-1), 1) := by decide +kernel
theorem dX7_report_40 : decode cX7_report 40 = .ok (.if_icmp .ne 11, 3) := by decide +kernel
theorem dX7_report_43 : decode cX7_report 43 = .ok (.aload_n 0, 1) := by decide +kernel
theorem dX7_report_44 : decode cX7_report 44 = .ok (.getfield 58, 3) := by decide +kernel
theorem dX7_report_47 : decode cX7_report 47 = .ok (.invokevirtual 227, 3) := by decide +kernel
theorem dX7_report_50 : decode cX7_report 50 = .ok (.ireturn, 1) := by decide +kernel
theorem dX7_report_51 : decode cX7_report 51 = .ok (.iload_n 1, 1) := by decide +kernel
theorem dX7_report_52 : decode cX7_report 52 = .ok (.aload_n 0, 1) := by decide +kernel
theorem dX7_report_53 : decode cX7_report 53 = .ok (.getfield 58, 3) := by decide +kernel
theorem dX7_report_56 : decode cX7_report 56 = .ok (.invokevirtual 227, 3) := by decide +kernel
theorem dX7_report_59 : decode cX7_report 59 = .ok (.if_icmp .ge 14, 3) := by decide +kernel
theorem dX7_report_62 : decode cX7_report 62 = .ok (.aload_n 0, 1) := by decide +kernel
theorem dX7_report_63 : decode cX7_report 63 = .ok (.getfield 58, 3) := by decide +kernel
theorem dX7_report_66 : decode cX7_report 66 = .ok (.iload_n 1, 1) := by decide +kernel
theorem dX7_report_67 : decode cX7_report 67 = .ok (.invokevirtual 228, 3) := by decide +kernel
theorem dX7_report_70 : decode cX7_report 70 = .ok (.goto 5, 3) := by decide +kernel
theorem dX7_report_73 : decode cX7_report 73 = .ok (.bipush (-2), 2) := by decide +kernel
theorem dX7_report_75 : decode cX7_report 75 = .ok (.ireturn, 1) := by decide +kernel
theorem dX7_runLines_0 : decode cX7_runLines 0 = .ok (.aload_n 0, 1) := by decide +kernel
theorem dX7_runLines_1 : decode cX7_runLines 1 = .ok (.iconst 1, 1) := by decide +kernel
theorem dX7_runLines_2 : decode cX7_runLines 2 = .ok (.putfield 62, 3) := by decide +kernel
theorem dX7_runLines_5 : decode cX7_runLines 5 = .ok (.aload_n 0, 1) := by decide +kernel
theorem dX7_runLines_6 : decode cX7_runLines 6 = .ok (.iload_n 1, 1) := by decide +kernel
theorem dX7_runLines_7 : decode cX7_runLines 7 = .ok (.putfield 66, 3) := by decide +kernel
theorem dX7_runLines_10 : decode cX7_runLines 10 = .ok (.aload_n 0, 1) := by decide +kernel
theorem dX7_runLines_11 : decode cX7_runLines 11 = .ok (.iconst 0, 1) := by decide +kernel
theorem dX7_runLines_12 : decode cX7_runLines 12 = .ok (.putfield 70, 3) := by decide +kernel
theorem dX7_runLines_15 : decode cX7_runLines 15 = .ok (.aload_n 0, 1) := by decide +kernel
theorem dX7_runLines_16 : decode cX7_runLines 16 = .ok (.iconst (-1), 1) := by decide +kernel
theorem dX7_runLines_17 : decode cX7_runLines 17 = .ok (.putfield 73, 3) := by decide +kernel
theorem dX7_runLines_20 : decode cX7_runLines 20 = .ok (.aload_n 0, 1) := by decide +kernel
theorem dX7_runLines_21 : decode cX7_runLines 21 = .ok (.iconst 0, 1) := by decide +kernel
theorem dX7_runLines_22 : decode cX7_runLines 22 = .ok (.putfield 76, 3) := by decide +kernel
theorem dX7_runLines_25 : decode cX7_runLines 25 = .ok (.aload_n 0, 1) := by decide +kernel
theorem dX7_runLines_26 : decode cX7_runLines 26 = .ok (.getfield 35, 3) := by decide +kernel
theorem dX7_runLines_29 : decode cX7_runLines 29 = .ok (.iconst 0, 1) := by decide +kernel
theorem dX7_runLines_30 : decode cX7_runLines 30 = .ok (.invokevirtual 231, 3) := by decide +kernel
theorem dX7_runLines_33 : decode cX7_runLines 33 = .ok (.iconst 0, 1) := by decide +kernel
theorem dX7_runLines_34 : decode cX7_runLines 34 = .ok (.istore_n 2, 1) := by decide +kernel
theorem dX7_runLines_35 : decode cX7_runLines 35 = .ok (.iload_n 2, 1) := by decide +kernel
theorem dX7_runLines_36 : decode cX7_runLines 36 = .ok (.iload_n 1, 1) := by decide +kernel
theorem dX7_runLines_37 : decode cX7_runLines 37 = .ok (.if_icmp .ge 52, 3) := by decide +kernel
theorem dX7_runLines_40 : decode cX7_runLines 40 = .ok (.aload_n 0, 1) := by decide +kernel
theorem dX7_runLines_41 : decode cX7_runLines 41 = .ok (.getfield 44, 3) := by decide +kernel
theorem dX7_runLines_44 : decode cX7_runLines 44 = .ok (.invokevirtual 192, 3) := by decide +kernel
theorem dX7_runLines_47 : decode cX7_runLines 47 = .ok (.aload_n 0, 1) := by decide +kernel
theorem dX7_runLines_48 : decode cX7_runLines 48 = .ok (.invokevirtual 234, 3) := by decide +kernel
theorem dX7_runLines_51 : decode cX7_runLines 51 = .ok (.istore_n 3, 1) := by decide +kernel
theorem dX7_runLines_52 : decode cX7_runLines 52 = .ok (.iload_n 3, 1) := by decide +kernel
theorem dX7_runLines_53 : decode cX7_runLines 53 = .ok (.ifCond .eq 30, 3) := by decide +kernel
theorem dX7_runLines_56 : decode cX7_runLines 56 = .ok (.aload_n 0, 1) := by decide +kernel
theorem dX7_runLines_57 : decode cX7_runLines 57 = .ok (.getfield 70, 3) := by decide +kernel
theorem dX7_runLines_60 : decode cX7_runLines 60 = .ok (.ifCond .ne 13, 3) := by decide +kernel
theorem dX7_runLines_63 : decode cX7_runLines 63 = .ok (.aload_n 0, 1) := by decide +kernel
theorem dX7_runLines_64 : decode cX7_runLines 64 = .ok (.iload_n 2, 1) := by decide +kernel
theorem dX7_runLines_65 : decode cX7_runLines 65 = .ok (.putfield 73, 3) := by decide +kernel
theorem dX7_runLines_68 : decode cX7_runLines 68 = .ok (.aload_n 0, 1) := by decide +kernel
theorem dX7_runLines_69 : decode cX7_runLines 69 = .ok (.iload_n 3, 1) := by decide +kernel
theorem dX7_runLines_70 : decode cX7_runLines 70 = .ok (.putfield 76, 3) := by decide +kernel
theorem dX7_runLines_73 : decode cX7_runLines 73 = .ok (.aload_n 0, 1) := by decide +kernel
theorem dX7_runLines_74 : decode cX7_runLines 74 = .ok (.dup, 1) := by decide +kernel
theorem dX7_runLines_75 : decode cX7_runLines 75 = .ok (.getfield 70, 3) := by decide +kernel
theorem dX7_runLines_78 : decode cX7_runLines 78 = .ok (.iconst 1, 1) := by decide +kernel
theorem dX7_runLines_79 : decode cX7_runLines 79 = .ok (.iadd, 1) := by decide +kernel
theorem dX7_runLines_80 : decode cX7_runLines 80 = .ok (.putfield 70, 3) := by decide +kernel
theorem dX7_runLines_83 : decode cX7_runLines 83 = .ok (.iinc 2 1, 3) := by decide +kernel
theorem dX7_runLines_86 : decode cX7_runLines 86 = .ok (.goto (-51), 3) := by decide +kernel
theorem dX7_runLines_89 : decode cX7_runLines 89 = .ok (.return_, 1) := by decide +kernel
theorem dX7_runLine_0 : decode cX7_runLine 0 = .ok (.aload_n 0, 1) := by decide +kernel
theorem dX7_runLine_1 : decode cX7_runLine 1 = .ok (.getfield 44, 3) := by decide +kernel
theorem dX7_runLine_4 : decode cX7_runLine 4 = .ok (.invokevirtual 237, 3) := by decide +kernel
theorem dX7_runLine_7 : decode cX7_runLine 7 = .ok (.astore_n 1, 1) := by decide +kernel
theorem dX7_runLine_8 : decode cX7_runLine 8 = .ok (.aload_n 1, 1) := by decide +kernel
theorem dX7_runLine_9 : decode cX7_runLine 9 = .ok (.getstatic 240, 3) := by decide +kernel
theorem dX7_runLine_12 : decode cX7_runLine 12 = .ok (.if_acmp .ne 29, 3) := by decide +kernel
theorem dX7_runLine_15 : decode cX7_runLine 15 = .ok (.aload_n 0, 1) := by decide +kernel
theorem dX7_runLine_16 : decode cX7_runLine 16 = .ok (.aload_n 0, 1) := by decide +kernel
theorem dX7_runLine_17 : decode cX7_runLine 17 = .ok (.getfield 44, 3) := by decide +kernel
theorem dX7_runLine_20 : decode cX7_runLine 20 = .ok (.invokevirtual 243, 3) := by decide +kernel
theorem dX7_runLine_23 : decode cX7_runLine 23 = .ok (.aload_n 0, 1) := by decide +kernel
theorem dX7_runLine_24 : decode cX7_runLine 24 = .ok (.getfield 44, 3) := by decide +kernel
theorem dX7_runLine_27 : decode cX7_runLine 27 = .ok (.invokevirtual 246, 3) := by decide +kernel
theorem dX7_runLine_30 : decode cX7_runLine 30 = .ok (.aload_n 0, 1) := by decide +kernel
theorem dX7_runLine_31 : decode cX7_runLine 31 = .ok (.getfield 44, 3) := by decide +kernel
theorem dX7_runLine_34 : decode cX7_runLine 34 = .ok (.invokevirtual 249, 3) := by decide +kernel
theorem dX7_runLine_37 : decode cX7_runLine 37 = .ok (.invokevirtual 252, 3) := by decide +kernel
theorem dX7_runLine_40 : decode cX7_runLine 40 = .ok (.ireturn, 1) := by decide +kernel
theorem dX7_runLine_41 : decode cX7_runLine 41 = .ok (.aload_n 1, 1) := by decide +kernel
theorem dX7_runLine_42 : decode cX7_runLine 42 = .ok (.getstatic 255, 3) := by decide +kernel
theorem dX7_runLine_45 : decode cX7_runLine 45 = .ok (.if_acmp .ne 36, 3) := by decide +kernel
theorem dX7_runLine_48 : decode cX7_runLine 48 = .ok (.aload_n 0, 1) := by decide +kernel
theorem dX7_runLine_49 : decode cX7_runLine 49 = .ok (.aload_n 0, 1) := by decide +kernel
theorem dX7_runLine_50 : decode cX7_runLine 50 = .ok (.getfield 44, 3) := by decide +kernel
theorem dX7_runLine_53 : decode cX7_runLine 53 = .ok (.invokevirtual 243, 3) := by decide +kernel
theorem dX7_runLine_56 : decode cX7_runLine 56 = .ok (.aload_n 0, 1) := by decide +kernel
theorem dX7_runLine_57 : decode cX7_runLine 57 = .ok (.getfield 44, 3) := by decide +kernel
theorem dX7_runLine_60 : decode cX7_runLine 60 = .ok (.invokevirtual 246, 3) := by decide +kernel
theorem dX7_runLine_63 : decode cX7_runLine 63 = .ok (.aload_n 0, 1) := by decide +kernel
theorem dX7_runLine_64 : decode cX7_runLine 64 = .ok (.getfield 44, 3) := by decide +kernel
theorem dX7_runLine_67 : decode cX7_runLine 67 = .ok (.invokevirtual 258, 3) := by decide +kernel
theorem dX7_runLine_70 : decode cX7_runLine 70 = .ok (.aload_n 0, 1) := by decide +kernel
theorem dX7_runLine_71 : decode cX7_runLine 71 = .ok (.getfield 44, 3) := by decide +kernel
theorem dX7_runLine_74 : decode cX7_runLine 74 = .ok (.invokevirtual 249, 3) := by decide +kernel
theorem dX7_runLine_77 : decode cX7_runLine 77 = .ok (.invokevirtual 79, 3) := by decide +kernel
theorem dX7_runLine_80 : decode cX7_runLine 80 = .ok (.ireturn, 1) := by decide +kernel
theorem dX7_runLine_81 : decode cX7_runLine 81 = .ok (.aload_n 1, 1) := by decide +kernel
theorem dX7_runLine_82 : decode cX7_runLine 82 = .ok (.getstatic 261, 3) := by decide +kernel
theorem dX7_runLine_85 : decode cX7_runLine 85 = .ok (.if_acmp .ne 22, 3) := by decide +kernel
theorem dX7_runLine_88 : decode cX7_runLine 88 = .ok (.aload_n 0, 1) := by decide +kernel
theorem dX7_runLine_89 : decode cX7_runLine 89 = .ok (.aload_n 0, 1) := by decide +kernel
theorem dX7_runLine_90 : decode cX7_runLine 90 = .ok (.getfield 44, 3) := by decide +kernel
theorem dX7_runLine_93 : decode cX7_runLine 93 = .ok (.invokevirtual 243, 3) := by decide +kernel
theorem dX7_runLine_96 : decode cX7_runLine 96 = .ok (.aload_n 0, 1) := by decide +kernel
theorem dX7_runLine_97 : decode cX7_runLine 97 = .ok (.getfield 44, 3) := by decide +kernel
theorem dX7_runLine_100 : decode cX7_runLine 100 = .ok (.invokevirtual 246, 3) := by decide +kernel
theorem dX7_runLine_103 : decode cX7_runLine 103 = .ok (.invokevirtual 264, 3) := by decide +kernel
theorem dX7_runLine_106 : decode cX7_runLine 106 = .ok (.ireturn, 1) := by decide +kernel
theorem dX7_runLine_107 : decode cX7_runLine 107 = .ok (.aload_n 1, 1) := by decide +kernel
theorem dX7_runLine_108 : decode cX7_runLine 108 = .ok (.getstatic 267, 3) := by decide +kernel
theorem dX7_runLine_111 : decode cX7_runLine 111 = .ok (.if_acmp .ne 22, 3) := by decide +kernel
theorem dX7_runLine_114 : decode cX7_runLine 114 = .ok (.aload_n 0, 1) := by decide +kernel
theorem dX7_runLine_115 : decode cX7_runLine 115 = .ok (.aload_n 0, 1) := by decide +kernel
theorem dX7_runLine_116 : decode cX7_runLine 116 = .ok (.getfield 44, 3) := by decide +kernel
theorem dX7_runLine_119 : decode cX7_runLine 119 = .ok (.invokevirtual 243, 3) := by decide +kernel
theorem dX7_runLine_122 : decode cX7_runLine 122 = .ok (.aload_n 0, 1) := by decide +kernel
theorem dX7_runLine_123 : decode cX7_runLine 123 = .ok (.getfield 44, 3) := by decide +kernel
theorem dX7_runLine_126 : decode cX7_runLine 126 = .ok (.invokevirtual 246, 3) := by decide +kernel
theorem dX7_runLine_129 : decode cX7_runLine 129 = .ok (.invokevirtual 270, 3) := by decide +kernel
theorem dX7_runLine_132 : decode cX7_runLine 132 = .ok (.ireturn, 1) := by decide +kernel
theorem dX7_runLine_133 : decode cX7_runLine 133 = .ok (.aload_n 1, 1) := by decide +kernel
theorem dX7_runLine_134 : decode cX7_runLine 134 = .ok (.getstatic 273, 3) := by decide +kernel
theorem dX7_runLine_137 : decode cX7_runLine 137 = .ok (.if_acmp .ne 22, 3) := by decide +kernel
theorem dX7_runLine_140 : decode cX7_runLine 140 = .ok (.aload_n 0, 1) := by decide +kernel
theorem dX7_runLine_141 : decode cX7_runLine 141 = .ok (.aload_n 0, 1) := by decide +kernel
theorem dX7_runLine_142 : decode cX7_runLine 142 = .ok (.getfield 44, 3) := by decide +kernel
theorem dX7_runLine_145 : decode cX7_runLine 145 = .ok (.invokevirtual 243, 3) := by decide +kernel
theorem dX7_runLine_148 : decode cX7_runLine 148 = .ok (.aload_n 0, 1) := by decide +kernel
theorem dX7_runLine_149 : decode cX7_runLine 149 = .ok (.getfield 44, 3) := by decide +kernel
theorem dX7_runLine_152 : decode cX7_runLine 152 = .ok (.invokevirtual 246, 3) := by decide +kernel
theorem dX7_runLine_155 : decode cX7_runLine 155 = .ok (.invokevirtual 276, 3) := by decide +kernel
theorem dX7_runLine_158 : decode cX7_runLine 158 = .ok (.ireturn, 1) := by decide +kernel
theorem dX7_runLine_159 : decode cX7_runLine 159 = .ok (.aload_n 1, 1) := by decide +kernel
theorem dX7_runLine_160 : decode cX7_runLine 160 = .ok (.getstatic 279, 3) := by decide +kernel
theorem dX7_runLine_163 : decode cX7_runLine 163 = .ok (.if_acmp .ne 29, 3) := by decide +kernel
theorem dX7_runLine_166 : decode cX7_runLine 166 = .ok (.aload_n 0, 1) := by decide +kernel
theorem dX7_runLine_167 : decode cX7_runLine 167 = .ok (.aload_n 0, 1) := by decide +kernel
theorem dX7_runLine_168 : decode cX7_runLine 168 = .ok (.getfield 44, 3) := by decide +kernel
theorem dX7_runLine_171 : decode cX7_runLine 171 = .ok (.invokevirtual 243, 3) := by decide +kernel
theorem dX7_runLine_174 : decode cX7_runLine 174 = .ok (.aload_n 0, 1) := by decide +kernel
theorem dX7_runLine_175 : decode cX7_runLine 175 = .ok (.getfield 44, 3) := by decide +kernel
theorem dX7_runLine_178 : decode cX7_runLine 178 = .ok (.invokevirtual 246, 3) := by decide +kernel
theorem dX7_runLine_181 : decode cX7_runLine 181 = .ok (.aload_n 0, 1) := by decide +kernel
theorem dX7_runLine_182 : decode cX7_runLine 182 = .ok (.getfield 44, 3) := by decide +kernel
theorem dX7_runLine_185 : decode cX7_runLine 185 = .ok (.invokevirtual 258, 3) := by decide +kernel
theorem dX7_runLine_188 : decode cX7_runLine 188 = .ok (.invokevirtual 282, 3) := by decide +kernel
theorem dX7_runLine_191 : decode cX7_runLine 191 = .ok (.ireturn, 1) := by decide +kernel
theorem dX7_runLine_192 : decode cX7_runLine 192 = .ok (.aload_n 1, 1) := by decide +kernel
theorem dX7_runLine_193 : decode cX7_runLine 193 = .ok (.getstatic 215, 3) := by decide +kernel
theorem dX7_runLine_196 : decode cX7_runLine 196 = .ok (.if_acmp .ne 29, 3) := by decide +kernel
theorem dX7_runLine_199 : decode cX7_runLine 199 = .ok (.aload_n 0, 1) := by decide +kernel
theorem dX7_runLine_200 : decode cX7_runLine 200 = .ok (.aload_n 0, 1) := by decide +kernel
theorem dX7_runLine_201 : decode cX7_runLine 201 = .ok (.getfield 44, 3) := by decide +kernel
theorem dX7_runLine_204 : decode cX7_runLine 204 = .ok (.invokevirtual 243, 3) := by decide +kernel
theorem dX7_runLine_207 : decode cX7_runLine 207 = .ok (.aload_n 0, 1) := by decide +kernel
theorem dX7_runLine_208 : decode cX7_runLine 208 = .ok (.getfield 44, 3) := by decide +kernel
theorem dX7_runLine_211 : decode cX7_runLine 211 = .ok (.invokevirtual 246, 3) := by decide +kernel
theorem dX7_runLine_214 : decode cX7_runLine 214 = .ok (.aload_n 0, 1) := by decide +kernel
theorem dX7_runLine_215 : decode cX7_runLine 215 = .ok (.getfield 44, 3) := by decide +kernel
theorem dX7_runLine_218 : decode cX7_runLine 218 = .ok (.invokevirtual 249, 3) := by decide +kernel
theorem dX7_runLine_221 : decode cX7_runLine 221 = .ok (.invokevirtual 285, 3) := by decide +kernel
theorem dX7_runLine_224 : decode cX7_runLine 224 = .ok (.ireturn, 1) := by decide +kernel
theorem dX7_runLine_225 : decode cX7_runLine 225 = .ok (.aload_n 1, 1) := by decide +kernel
theorem dX7_runLine_226 : decode cX7_runLine 226 = .ok (.getstatic 288, 3) := by decide +kernel
theorem dX7_runLine_229 : decode cX7_runLine 229 = .ok (.if_acmp .ne 24, 3) := by decide +kernel
theorem dX7_runLine_232 : decode cX7_runLine 232 = .ok (.aload_n 0, 1) := by decide +kernel
theorem dX7_runLine_233 : decode cX7_runLine 233 = .ok (.aload_n 0, 1) := by decide +kernel
theorem dX7_runLine_234 : decode cX7_runLine 234 = .ok (.getfield 44, 3) := by decide +kernel
theorem dX7_runLine_237 : decode cX7_runLine 237 = .ok (.invokevirtual 246, 3) := by decide +kernel
theorem dX7_runLine_240 : decode cX7_runLine 240 = .ok (.invokevirtual 291, 3) := by decide +kernel
theorem dX7_runLine_243 : decode cX7_runLine 243 = .ok (.iconst (-1), 1) := by decide +kernel
theorem dX7_runLine_244 : decode cX7_runLine 244 = .ok (.if_icmp .ne 7, 3) := by decide +kernel
theorem dX7_runLine_247 : decode cX7_runLine 247 = .ok (.iconst 1, 1) := by decide +kernel
theorem dX7_runLine_248 : decode cX7_runLine 248 = .ok (.goto 4, 3) := by decide +kernel
theorem dX7_runLine_251 : decode cX7_runLine 251 = .ok (.iconst 0, 1) := by decide +kernel
theorem dX7_runLine_252 : decode cX7_runLine 252 = .ok (.ireturn, 1) := by decide +kernel
theorem dX7_runLine_253 : decode cX7_runLine 253 = .ok (.aload_n 0, 1) := by decide +kernel
theorem dX7_runLine_254 : decode cX7_runLine 254 = .ok (.invokevirtual 294, 3) := by decide +kernel
theorem dX7_runLine_257 : decode cX7_runLine 257 = .ok (.iconst (-1), 1) := by decide +kernel
theorem dX7_runLine_258 : decode cX7_runLine 258 = .ok (.if_icmp .ne 7, 3) := by decide +kernel
theorem dX7_runLine_261 : decode cX7_runLine 261 = .ok (.iconst 2, 1) := by decide +kernel
theorem dX7_runLine_262 : decode cX7_runLine 262 = .ok (.goto 4, 3) := by decide +kernel
theorem dX7_runLine_265 : decode cX7_runLine 265 = .ok (.iconst 0, 1) := by decide +kernel
theorem dX7_runLine_266 : decode cX7_runLine 266 = .ok (.ireturn, 1) := by decide +kernel
theorem dX7_livesAsked_0 : decode cX7_livesAsked 0 = .ok (.iconst 0, 1) := by decide +kernel
theorem dX7_livesAsked_1 : decode cX7_livesAsked 1 = .ok (.istore_n 2, 1) := by decide +kernel
theorem dX7_livesAsked_2 : decode cX7_livesAsked 2 = .ok (.iconst 0, 1) := by decide +kernel
theorem dX7_livesAsked_3 : decode cX7_livesAsked 3 = .ok (.istore_n 3, 1) := by decide +kernel
theorem dX7_livesAsked_4 : decode cX7_livesAsked 4 = .ok (.iload_n 3, 1) := by decide +kernel
theorem dX7_livesAsked_5 : decode cX7_livesAsked 5 = .ok (.aload_n 0, 1) := by decide +kernel
theorem dX7_livesAsked_6 : decode cX7_livesAsked 6 = .ok (.getfield 10, 3) := by decide +kernel
theorem dX7_livesAsked_9 : decode cX7_livesAsked 9 = .ok (.invokevirtual 96, 3) := by decide +kernel
theorem dX7_livesAsked_12 : decode cX7_livesAsked 12 = .ok (.if_icmp .ge 51, 3) := by decide +kernel
theorem dX7_livesAsked_15 : decode cX7_livesAsked 15 = .ok (.aload_n 0, 1) := by decide +kernel
theorem dX7_livesAsked_16 : decode cX7_livesAsked 16 = .ok (.getfield 51, 3) := by decide +kernel
theorem dX7_livesAsked_19 : decode cX7_livesAsked 19 = .ok (.aload_n 0, 1) := by decide +kernel
theorem dX7_livesAsked_20 : decode cX7_livesAsked 20 = .ok (.getfield 10, 3) := by decide +kernel
theorem dX7_livesAsked_23 : decode cX7_livesAsked 23 = .ok (.iload_n 3, 1) := by decide +kernel
theorem dX7_livesAsked_24 : decode cX7_livesAsked 24 = .ok (.invokevirtual 297, 3) := by decide +kernel
theorem dX7_livesAsked_27 : decode cX7_livesAsked 27 = .ok (.aload_n 0, 1) := by decide +kernel
theorem dX7_livesAsked_28 : decode cX7_livesAsked 28 = .ok (.getfield 51, 3) := by decide +kernel
theorem dX7_livesAsked_31 : decode cX7_livesAsked 31 = .ok (.iconst 0, 1) := by decide +kernel
theorem dX7_livesAsked_32 : decode cX7_livesAsked 32 = .ok (.invokevirtual 301, 3) := by decide +kernel
theorem dX7_livesAsked_35 : decode cX7_livesAsked 35 = .ok (.ifCond .eq 22, 3) := by decide +kernel
theorem dX7_livesAsked_38 : decode cX7_livesAsked 38 = .ok (.iload_n 2, 1) := by decide +kernel
theorem dX7_livesAsked_39 : decode cX7_livesAsked 39 = .ok (.iload_n 1, 1) := by decide +kernel
theorem dX7_livesAsked_40 : decode cX7_livesAsked 40 = .ok (.ifCond .eq 14, 3) := by decide +kernel
theorem dX7_livesAsked_43 : decode cX7_livesAsked 43 = .ok (.aload_n 0, 1) := by decide +kernel
theorem dX7_livesAsked_44 : decode cX7_livesAsked 44 = .ok (.getfield 10, 3) := by decide +kernel
theorem dX7_livesAsked_47 : decode cX7_livesAsked 47 = .ok (.iload_n 3, 1) := by decide +kernel
theorem dX7_livesAsked_48 : decode cX7_livesAsked 48 = .ok (.invokevirtual 129, 3) := by decide +kernel
theorem dX7_livesAsked_51 : decode cX7_livesAsked 51 = .ok (.goto 4, 3) := by decide +kernel
theorem dX7_livesAsked_54 : decode cX7_livesAsked 54 = .ok (.iconst 1, 1) := by decide +kernel
theorem dX7_livesAsked_55 : decode cX7_livesAsked 55 = .ok (.iadd, 1) := by decide +kernel
theorem dX7_livesAsked_56 : decode cX7_livesAsked 56 = .ok (.istore_n 2, 1) := by decide +kernel
theorem dX7_livesAsked_57 : decode cX7_livesAsked 57 = .ok (.iinc 3 1, 3) := by decide +kernel
theorem dX7_livesAsked_60 : decode cX7_livesAsked 60 = .ok (.goto (-56), 3) := by decide +kernel
theorem dX7_livesAsked_63 : decode cX7_livesAsked 63 = .ok (.iload_n 2, 1) := by decide +kernel
theorem dX7_livesAsked_64 : decode cX7_livesAsked 64 = .ok (.ireturn, 1) := by decide +kernel
theorem dX7_hoursAsked_0 : decode cX7_hoursAsked 0 = .ok (.iconst 0, 1) := by decide +kernel
theorem dX7_hoursAsked_1 : decode cX7_hoursAsked 1 = .ok (.istore_n 2, 1) := by decide +kernel
theorem dX7_hoursAsked_2 : decode cX7_hoursAsked 2 = .ok (.iconst 0, 1) := by decide +kernel
theorem dX7_hoursAsked_3 : decode cX7_hoursAsked 3 = .ok (.istore_n 3, 1) := by decide +kernel
theorem dX7_hoursAsked_4 : decode cX7_hoursAsked 4 = .ok (.iconst 0, 1) := by decide +kernel
theorem dX7_hoursAsked_5 : decode cX7_hoursAsked 5 = .ok (.istore 4, 2) := by decide +kernel
theorem dX7_hoursAsked_7 : decode cX7_hoursAsked 7 = .ok (.iconst 0, 1) := by decide +kernel
theorem dX7_hoursAsked_8 : decode cX7_hoursAsked 8 = .ok (.istore 5, 2) := by decide +kernel
theorem dX7_hoursAsked_10 : decode cX7_hoursAsked 10 = .ok (.iload 5, 2) := by decide +kernel
theorem dX7_hoursAsked_12 : decode cX7_hoursAsked 12 = .ok (.bipush 64, 2) := by decide +kernel
theorem dX7_hoursAsked_14 : decode cX7_hoursAsked 14 = .ok (.if_icmp .ge 66, 3) := by decide +kernel
theorem dX7_hoursAsked_17 : decode cX7_hoursAsked 17 = .ok (.aload_n 0, 1) := by decide +kernel
theorem dX7_hoursAsked_18 : decode cX7_hoursAsked 18 = .ok (.getfield 51, 3) := by decide +kernel
theorem dX7_hoursAsked_21 : decode cX7_hoursAsked 21 = .ok (.aload_n 0, 1) := by decide +kernel
theorem dX7_hoursAsked_22 : decode cX7_hoursAsked 22 = .ok (.getfield 10, 3) := by decide +kernel
theorem dX7_hoursAsked_25 : decode cX7_hoursAsked 25 = .ok (.iload 5, 2) := by decide +kernel
theorem dX7_hoursAsked_27 : decode cX7_hoursAsked 27 = .ok (.invokevirtual 304, 3) := by decide +kernel
theorem dX7_hoursAsked_30 : decode cX7_hoursAsked 30 = .ok (.aload_n 0, 1) := by decide +kernel
theorem dX7_hoursAsked_31 : decode cX7_hoursAsked 31 = .ok (.getfield 51, 3) := by decide +kernel
theorem dX7_hoursAsked_34 : decode cX7_hoursAsked 34 = .ok (.iconst 0, 1) := by decide +kernel
theorem dX7_hoursAsked_35 : decode cX7_hoursAsked 35 = .ok (.invokevirtual 301, 3) := by decide +kernel
theorem dX7_hoursAsked_38 : decode cX7_hoursAsked 38 = .ok (.istore 6, 2) := by decide +kernel
theorem dX7_hoursAsked_40 : decode cX7_hoursAsked 40 = .ok (.iload_n 2, 1) := by decide +kernel
theorem dX7_hoursAsked_41 : decode cX7_hoursAsked 41 = .ok (.iload 6, 2) := by decide +kernel
theorem dX7_hoursAsked_43 : decode cX7_hoursAsked 43 = .ok (.ifCond .eq 7, 3) := by decide +kernel
theorem dX7_hoursAsked_46 : decode cX7_hoursAsked 46 = .ok (.iconst 1, 1) := by decide +kernel
theorem dX7_hoursAsked_47 : decode cX7_hoursAsked 47 = .ok (.goto 4, 3) := by decide +kernel
theorem dX7_hoursAsked_50 : decode cX7_hoursAsked 50 = .ok (.iconst 0, 1) := by decide +kernel
theorem dX7_hoursAsked_51 : decode cX7_hoursAsked 51 = .ok (.iadd, 1) := by decide +kernel
theorem dX7_hoursAsked_52 : decode cX7_hoursAsked 52 = .ok (.istore_n 2, 1) := by decide +kernel
theorem dX7_hoursAsked_53 : decode cX7_hoursAsked 53 = .ok (.iload 6, 2) := by decide +kernel
theorem dX7_hoursAsked_55 : decode cX7_hoursAsked 55 = .ok (.ifCond .eq 9, 3) := by decide +kernel
theorem dX7_hoursAsked_58 : decode cX7_hoursAsked 58 = .ok (.iload_n 3, 1) := by decide +kernel
theorem dX7_hoursAsked_59 : decode cX7_hoursAsked 59 = .ok (.iconst 1, 1) := by decide +kernel
theorem dX7_hoursAsked_60 : decode cX7_hoursAsked 60 = .ok (.iadd, 1) := by decide +kernel
theorem dX7_hoursAsked_61 : decode cX7_hoursAsked 61 = .ok (.goto 4, 3) := by decide +kernel
theorem dX7_hoursAsked_64 : decode cX7_hoursAsked 64 = .ok (.iconst 0, 1) := by decide +kernel
theorem dX7_hoursAsked_65 : decode cX7_hoursAsked 65 = .ok (.istore_n 3, 1) := by decide +kernel
theorem dX7_hoursAsked_66 : decode cX7_hoursAsked 66 = .ok (.iload 4, 2) := by decide +kernel
theorem dX7_hoursAsked_68 : decode cX7_hoursAsked 68 = .ok (.iload_n 3, 1) := by decide +kernel
theorem dX7_hoursAsked_69 : decode cX7_hoursAsked 69 = .ok (.invokestatic 307, 3) := by decide +kernel
theorem dX7_hoursAsked_72 : decode cX7_hoursAsked 72 = .ok (.istore 4, 2) := by decide +kernel
theorem dX7_hoursAsked_74 : decode cX7_hoursAsked 74 = .ok (.iinc 5 1, 3) := by decide +kernel
theorem dX7_hoursAsked_77 : decode cX7_hoursAsked 77 = .ok (.goto (-67), 3) := by decide +kernel
theorem dX7_hoursAsked_80 : decode cX7_hoursAsked 80 = .ok (.iload_n 1, 1) := by decide +kernel
theorem dX7_hoursAsked_81 : decode cX7_hoursAsked 81 = .ok (.ifCond .eq 8, 3) := by decide +kernel
theorem dX7_hoursAsked_84 : decode cX7_hoursAsked 84 = .ok (.iload 4, 2) := by decide +kernel
theorem dX7_hoursAsked_86 : decode cX7_hoursAsked 86 = .ok (.goto 4, 3) := by decide +kernel
theorem dX7_hoursAsked_89 : decode cX7_hoursAsked 89 = .ok (.iload_n 2, 1) := by decide +kernel
theorem dX7_hoursAsked_90 : decode cX7_hoursAsked 90 = .ok (.ireturn, 1) := by decide +kernel
theorem dX7_writeLife_0 : decode cX7_writeLife 0 = .ok (.aload_n 0, 1) := by decide +kernel
theorem dX7_writeLife_1 : decode cX7_writeLife 1 = .ok (.getfield 58, 3) := by decide +kernel
theorem dX7_writeLife_4 : decode cX7_writeLife 4 = .ok (.aload_n 0, 1) := by decide +kernel
theorem dX7_writeLife_5 : decode cX7_writeLife 5 = .ok (.getfield 10, 3) := by decide +kernel
theorem dX7_writeLife_8 : decode cX7_writeLife 8 = .ok (.iload_n 1, 1) := by decide +kernel
theorem dX7_writeLife_9 : decode cX7_writeLife 9 = .ok (.invokevirtual 157, 3) := by decide +kernel
theorem dX7_writeLife_12 : decode cX7_writeLife 12 = .ok (.invokevirtual 312, 3) := by decide +kernel
theorem dX7_writeLife_15 : decode cX7_writeLife 15 = .ok (.aload_n 0, 1) := by decide +kernel
theorem dX7_writeLife_16 : decode cX7_writeLife 16 = .ok (.getfield 58, 3) := by decide +kernel
theorem dX7_writeLife_19 : decode cX7_writeLife 19 = .ok (.ldc_w 315, 3) := by decide +kernel
theorem dX7_writeLife_22 : decode cX7_writeLife 22 = .ok (.invokevirtual 317, 3) := by decide +kernel
theorem dX7_writeLife_25 : decode cX7_writeLife 25 = .ok (.aload_n 0, 1) := by decide +kernel
theorem dX7_writeLife_26 : decode cX7_writeLife 26 = .ok (.getfield 58, 3) := by decide +kernel
theorem dX7_writeLife_29 : decode cX7_writeLife 29 = .ok (.aload_n 0, 1) := by decide +kernel
theorem dX7_writeLife_30 : decode cX7_writeLife 30 = .ok (.getfield 10, 3) := by decide +kernel
theorem dX7_writeLife_33 : decode cX7_writeLife 33 = .ok (.iload_n 1, 1) := by decide +kernel
theorem dX7_writeLife_34 : decode cX7_writeLife 34 = .ok (.invokevirtual 112, 3) := by decide +kernel
theorem dX7_writeLife_37 : decode cX7_writeLife 37 = .ok (.invokevirtual 312, 3) := by decide +kernel
theorem dX7_writeLife_40 : decode cX7_writeLife 40 = .ok (.aload_n 0, 1) := by decide +kernel
theorem dX7_writeLife_41 : decode cX7_writeLife 41 = .ok (.getfield 10, 3) := by decide +kernel
theorem dX7_writeLife_44 : decode cX7_writeLife 44 = .ok (.iload_n 1, 1) := by decide +kernel
theorem dX7_writeLife_45 : decode cX7_writeLife 45 = .ok (.invokevirtual 123, 3) := by decide +kernel
theorem dX7_writeLife_48 : decode cX7_writeLife 48 = .ok (.bipush 64, 2) := by decide +kernel
theorem dX7_writeLife_50 : decode cX7_writeLife 50 = .ok (.if_icmp .ne 16, 3) := by decide +kernel
theorem dX7_writeLife_53 : decode cX7_writeLife 53 = .ok (.aload_n 0, 1) := by decide +kernel
theorem dX7_writeLife_54 : decode cX7_writeLife 54 = .ok (.getfield 58, 3) := by decide +kernel
theorem dX7_writeLife_57 : decode cX7_writeLife 57 = .ok (.ldc_w 321, 3) := by decide +kernel
theorem dX7_writeLife_60 : decode cX7_writeLife 60 = .ok (.invokevirtual 317, 3) := by decide +kernel
theorem dX7_writeLife_63 : decode cX7_writeLife 63 = .ok (.goto 28, 3) := by decide +kernel
theorem dX7_writeLife_66 : decode cX7_writeLife 66 = .ok (.aload_n 0, 1) := by decide +kernel
theorem dX7_writeLife_67 : decode cX7_writeLife 67 = .ok (.getfield 58, 3) := by decide +kernel
theorem dX7_writeLife_70 : decode cX7_writeLife 70 = .ok (.ldc_w 323, 3) := by decide +kernel
theorem dX7_writeLife_73 : decode cX7_writeLife 73 = .ok (.invokevirtual 317, 3) := by decide +kernel
theorem dX7_writeLife_76 : decode cX7_writeLife 76 = .ok (.aload_n 0, 1) := by decide +kernel
theorem dX7_writeLife_77 : decode cX7_writeLife 77 = .ok (.getfield 58, 3) := by decide +kernel
theorem dX7_writeLife_80 : decode cX7_writeLife 80 = .ok (.aload_n 0, 1) := by decide +kernel
theorem dX7_writeLife_81 : decode cX7_writeLife 81 = .ok (.getfield 10, 3) := by decide +kernel
theorem dX7_writeLife_84 : decode cX7_writeLife 84 = .ok (.iload_n 1, 1) := by decide +kernel
theorem dX7_writeLife_85 : decode cX7_writeLife 85 = .ok (.invokevirtual 123, 3) := by decide +kernel
theorem dX7_writeLife_88 : decode cX7_writeLife 88 = .ok (.invokevirtual 312, 3) := by decide +kernel
theorem dX7_writeLife_91 : decode cX7_writeLife 91 = .ok (.aload_n 0, 1) := by decide +kernel
theorem dX7_writeLife_92 : decode cX7_writeLife 92 = .ok (.getfield 10, 3) := by decide +kernel
theorem dX7_writeLife_95 : decode cX7_writeLife 95 = .ok (.iload_n 1, 1) := by decide +kernel
theorem dX7_writeLife_96 : decode cX7_writeLife 96 = .ok (.invokevirtual 129, 3) := by decide +kernel
theorem dX7_writeLife_99 : decode cX7_writeLife 99 = .ok (.ifCond .eq 28, 3) := by decide +kernel
theorem dX7_writeLife_102 : decode cX7_writeLife 102 = .ok (.aload_n 0, 1) := by decide +kernel
theorem dX7_writeLife_103 : decode cX7_writeLife 103 = .ok (.getfield 58, 3) := by decide +kernel
theorem dX7_writeLife_106 : decode cX7_writeLife 106 = .ok (.ldc_w 325, 3) := by decide +kernel
theorem dX7_writeLife_109 : decode cX7_writeLife 109 = .ok (.invokevirtual 317, 3) := by decide +kernel
theorem dX7_writeLife_112 : decode cX7_writeLife 112 = .ok (.aload_n 0, 1) := by decide +kernel
theorem dX7_writeLife_113 : decode cX7_writeLife 113 = .ok (.getfield 58, 3) := by decide +kernel
theorem dX7_writeLife_116 : decode cX7_writeLife 116 = .ok (.aload_n 0, 1) := by decide +kernel
theorem dX7_writeLife_117 : decode cX7_writeLife 117 = .ok (.getfield 10, 3) := by decide +kernel
theorem dX7_writeLife_120 : decode cX7_writeLife 120 = .ok (.iload_n 1, 1) := by decide +kernel
theorem dX7_writeLife_121 : decode cX7_writeLife 121 = .ok (.invokevirtual 129, 3) := by decide +kernel
theorem dX7_writeLife_124 : decode cX7_writeLife 124 = .ok (.invokevirtual 312, 3) := by decide +kernel
theorem dX7_writeLife_127 : decode cX7_writeLife 127 = .ok (.aload_n 0, 1) := by decide +kernel
theorem dX7_writeLife_128 : decode cX7_writeLife 128 = .ok (.getfield 58, 3) := by decide +kernel
theorem dX7_writeLife_131 : decode cX7_writeLife 131 = .ok (.ldc_w 327, 3) := by decide +kernel
theorem dX7_writeLife_134 : decode cX7_writeLife 134 = .ok (.invokevirtual 317, 3) := by decide +kernel
theorem dX7_writeLife_137 : decode cX7_writeLife 137 = .ok (.return_, 1) := by decide +kernel
theorem dX7_count_0 : decode cX7_count 0 = .ok (.iload_n 1, 1) := by decide +kernel
theorem dX7_count_1 : decode cX7_count 1 = .ok (.tableswitch 87 0 5 #[39, 47, 55, 63, 71, 79], 39) := by decide +kernel
theorem dX7_count_40 : decode cX7_count 40 = .ok (.aload_n 0, 1) := by decide +kernel
