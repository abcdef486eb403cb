theorem dX4_read_117 : decode cX4_read 117 = .ok (.invokevirtual 62, 3) := by decide +kernel
theorem dX4_read_120 : decode cX4_read 120 = .ok (.return_, 1) := by decide +kernel
theorem dX4_tellLife_0 : decode cX4_tellLife 0 = .ok (.aload_n 1, 1) := by decide +kernel
theorem dX4_tellLife_1 : decode cX4_tellLife 1 = .ok (.ifnonnull 4, 3) := by decide +kernel
theorem dX4_tellLife_4 : decode cX4_tellLife 4 = .ok (.return_, 1) := by decide +kernel
theorem dX4_tellLife_5 : decode cX4_tellLife 5 = .ok (.aload_n 1, 1) := by decide +kernel
theorem dX4_tellLife_6 : decode cX4_tellLife 6 = .ok (.iload_n 2, 1) := by decide +kernel
theorem dX4_tellLife_7 : decode cX4_tellLife 7 = .ok (.invokevirtual 76, 3) := by decide +kernel
theorem dX4_tellLife_10 : decode cX4_tellLife 10 = .ok (.istore_n 3, 1) := by decide +kernel
theorem dX4_tellLife_11 : decode cX4_tellLife 11 = .ok (.aload_n 1, 1) := by decide +kernel
theorem dX4_tellLife_12 : decode cX4_tellLife 12 = .ok (.iload_n 2, 1) := by decide +kernel
theorem dX4_tellLife_13 : decode cX4_tellLife 13 = .ok (.invokevirtual 82, 3) := by decide +kernel
theorem dX4_tellLife_16 : decode cX4_tellLife 16 = .ok (.istore 4, 2) := by decide +kernel
theorem dX4_tellLife_18 : decode cX4_tellLife 18 = .ok (.aload_n 0, 1) := by decide +kernel
theorem dX4_tellLife_19 : decode cX4_tellLife 19 = .ok (.getfield 11, 3) := by decide +kernel
theorem dX4_tellLife_22 : decode cX4_tellLife 22 = .ok (.iconst 0, 1) := by decide +kernel
theorem dX4_tellLife_23 : decode cX4_tellLife 23 = .ok (.aload_n 1, 1) := by decide +kernel
theorem dX4_tellLife_24 : decode cX4_tellLife 24 = .ok (.iload_n 2, 1) := by decide +kernel
theorem dX4_tellLife_25 : decode cX4_tellLife 25 = .ok (.invokevirtual 85, 3) := by decide +kernel
theorem dX4_tellLife_28 : decode cX4_tellLife 28 = .ok (.iastore, 1) := by decide +kernel
theorem dX4_tellLife_29 : decode cX4_tellLife 29 = .ok (.aload_n 0, 1) := by decide +kernel
theorem dX4_tellLife_30 : decode cX4_tellLife 30 = .ok (.getfield 11, 3) := by decide +kernel
theorem dX4_tellLife_33 : decode cX4_tellLife 33 = .ok (.iconst 1, 1) := by decide +kernel
theorem dX4_tellLife_34 : decode cX4_tellLife 34 = .ok (.iload_n 3, 1) := by decide +kernel
theorem dX4_tellLife_35 : decode cX4_tellLife 35 = .ok (.iastore, 1) := by decide +kernel
theorem dX4_tellLife_36 : decode cX4_tellLife 36 = .ok (.aload_n 0, 1) := by decide +kernel
theorem dX4_tellLife_37 : decode cX4_tellLife 37 = .ok (.getfield 11, 3) := by decide +kernel
theorem dX4_tellLife_40 : decode cX4_tellLife 40 = .ok (.iconst 2, 1) := by decide +kernel
theorem dX4_tellLife_41 : decode cX4_tellLife 41 = .ok (.iload 4, 2) := by decide +kernel
theorem dX4_tellLife_43 : decode cX4_tellLife 43 = .ok (.iastore, 1) := by decide +kernel
theorem dX4_tellLife_44 : decode cX4_tellLife 44 = .ok (.aload_n 0, 1) := by decide +kernel
theorem dX4_tellLife_45 : decode cX4_tellLife 45 = .ok (.getfield 11, 3) := by decide +kernel
theorem dX4_tellLife_48 : decode cX4_tellLife 48 = .ok (.iconst 3, 1) := by decide +kernel
theorem dX4_tellLife_49 : decode cX4_tellLife 49 = .ok (.iload 4, 2) := by decide +kernel
theorem dX4_tellLife_51 : decode cX4_tellLife 51 = .ok (.iload_n 3, 1) := by decide +kernel
theorem dX4_tellLife_52 : decode cX4_tellLife 52 = .ok (.isub, 1) := by decide +kernel
theorem dX4_tellLife_53 : decode cX4_tellLife 53 = .ok (.iastore, 1) := by decide +kernel
theorem dX4_tellLife_54 : decode cX4_tellLife 54 = .ok (.aload_n 0, 1) := by decide +kernel
theorem dX4_tellLife_55 : decode cX4_tellLife 55 = .ok (.getfield 11, 3) := by decide +kernel
theorem dX4_tellLife_58 : decode cX4_tellLife 58 = .ok (.iconst 4, 1) := by decide +kernel
theorem dX4_tellLife_59 : decode cX4_tellLife 59 = .ok (.aload_n 1, 1) := by decide +kernel
theorem dX4_tellLife_60 : decode cX4_tellLife 60 = .ok (.iload_n 2, 1) := by decide +kernel
theorem dX4_tellLife_61 : decode cX4_tellLife 61 = .ok (.invokevirtual 88, 3) := by decide +kernel
theorem dX4_tellLife_64 : decode cX4_tellLife 64 = .ok (.iastore, 1) := by decide +kernel
theorem dX4_tellLife_65 : decode cX4_tellLife 65 = .ok (.aload_n 0, 1) := by decide +kernel
theorem dX4_tellLife_66 : decode cX4_tellLife 66 = .ok (.getfield 11, 3) := by decide +kernel
theorem dX4_tellLife_69 : decode cX4_tellLife 69 = .ok (.iconst 5, 1) := by decide +kernel
theorem dX4_tellLife_70 : decode cX4_tellLife 70 = .ok (.iload_n 3, 1) := by decide +kernel
theorem dX4_tellLife_71 : decode cX4_tellLife 71 = .ok (.iload 4, 2) := by decide +kernel
theorem dX4_tellLife_73 : decode cX4_tellLife 73 = .ok (.invokestatic 91, 3) := by decide +kernel
theorem dX4_tellLife_76 : decode cX4_tellLife 76 = .ok (.iastore, 1) := by decide +kernel
theorem dX4_tellLife_77 : decode cX4_tellLife 77 = .ok (.aload_n 0, 1) := by decide +kernel
theorem dX4_tellLife_78 : decode cX4_tellLife 78 = .ok (.getfield 32, 3) := by decide +kernel
theorem dX4_tellLife_81 : decode cX4_tellLife 81 = .ok (.aload_n 0, 1) := by decide +kernel
theorem dX4_tellLife_82 : decode cX4_tellLife 82 = .ok (.getfield 28, 3) := by decide +kernel
theorem dX4_tellLife_85 : decode cX4_tellLife 85 = .ok (.invokevirtual 95, 3) := by decide +kernel
theorem dX4_tellLife_88 : decode cX4_tellLife 88 = .ok (.return_, 1) := by decide +kernel
theorem dX4_tellHour_0 : decode cX4_tellHour 0 = .ok (.aload_n 1, 1) := by decide +kernel
theorem dX4_tellHour_1 : decode cX4_tellHour 1 = .ok (.ifnonnull 4, 3) := by decide +kernel
theorem dX4_tellHour_4 : decode cX4_tellHour 4 = .ok (.return_, 1) := by decide +kernel
theorem dX4_tellHour_5 : decode cX4_tellHour 5 = .ok (.aload_n 1, 1) := by decide +kernel
theorem dX4_tellHour_6 : decode cX4_tellHour 6 = .ok (.iload_n 2, 1) := by decide +kernel
theorem dX4_tellHour_7 : decode cX4_tellHour 7 = .ok (.iconst 0, 1) := by decide +kernel
theorem dX4_tellHour_8 : decode cX4_tellHour 8 = .ok (.invokevirtual 98, 3) := by decide +kernel
theorem dX4_tellHour_11 : decode cX4_tellHour 11 = .ok (.istore_n 3, 1) := by decide +kernel
theorem dX4_tellHour_12 : decode cX4_tellHour 12 = .ok (.aload_n 1, 1) := by decide +kernel
theorem dX4_tellHour_13 : decode cX4_tellHour 13 = .ok (.iload_n 2, 1) := by decide +kernel
theorem dX4_tellHour_14 : decode cX4_tellHour 14 = .ok (.sipush 999, 3) := by decide +kernel
theorem dX4_tellHour_17 : decode cX4_tellHour 17 = .ok (.invokevirtual 101, 3) := by decide +kernel
theorem dX4_tellHour_20 : decode cX4_tellHour 20 = .ok (.istore 4, 2) := by decide +kernel
theorem dX4_tellHour_22 : decode cX4_tellHour 22 = .ok (.aload_n 0, 1) := by decide +kernel
theorem dX4_tellHour_23 : decode cX4_tellHour 23 = .ok (.getfield 11, 3) := by decide +kernel
theorem dX4_tellHour_26 : decode cX4_tellHour 26 = .ok (.iconst 0, 1) := by decide +kernel
theorem dX4_tellHour_27 : decode cX4_tellHour 27 = .ok (.iload_n 2, 1) := by decide +kernel
theorem dX4_tellHour_28 : decode cX4_tellHour 28 = .ok (.iastore, 1) := by decide +kernel
theorem dX4_tellHour_29 : decode cX4_tellHour 29 = .ok (.aload_n 0, 1) := by decide +kernel
theorem dX4_tellHour_30 : decode cX4_tellHour 30 = .ok (.getfield 11, 3) := by decide +kernel
theorem dX4_tellHour_33 : decode cX4_tellHour 33 = .ok (.iconst 1, 1) := by decide +kernel
theorem dX4_tellHour_34 : decode cX4_tellHour 34 = .ok (.aload_n 1, 1) := by decide +kernel
theorem dX4_tellHour_35 : decode cX4_tellHour 35 = .ok (.iload_n 2, 1) := by decide +kernel
theorem dX4_tellHour_36 : decode cX4_tellHour 36 = .ok (.invokevirtual 104, 3) := by decide +kernel
theorem dX4_tellHour_39 : decode cX4_tellHour 39 = .ok (.iastore, 1) := by decide +kernel
theorem dX4_tellHour_40 : decode cX4_tellHour 40 = .ok (.aload_n 0, 1) := by decide +kernel
theorem dX4_tellHour_41 : decode cX4_tellHour 41 = .ok (.getfield 11, 3) := by decide +kernel
theorem dX4_tellHour_44 : decode cX4_tellHour 44 = .ok (.iconst 2, 1) := by decide +kernel
theorem dX4_tellHour_45 : decode cX4_tellHour 45 = .ok (.aload_n 1, 1) := by decide +kernel
theorem dX4_tellHour_46 : decode cX4_tellHour 46 = .ok (.iload_n 2, 1) := by decide +kernel
theorem dX4_tellHour_47 : decode cX4_tellHour 47 = .ok (.iconst 0, 1) := by decide +kernel
theorem dX4_tellHour_48 : decode cX4_tellHour 48 = .ok (.sipush 999, 3) := by decide +kernel
theorem dX4_tellHour_51 : decode cX4_tellHour 51 = .ok (.invokevirtual 107, 3) := by decide +kernel
theorem dX4_tellHour_54 : decode cX4_tellHour 54 = .ok (.iastore, 1) := by decide +kernel
theorem dX4_tellHour_55 : decode cX4_tellHour 55 = .ok (.aload_n 0, 1) := by decide +kernel
theorem dX4_tellHour_56 : decode cX4_tellHour 56 = .ok (.getfield 11, 3) := by decide +kernel
theorem dX4_tellHour_59 : decode cX4_tellHour 59 = .ok (.iconst 3, 1) := by decide +kernel
theorem dX4_tellHour_60 : decode cX4_tellHour 60 = .ok (.iload_n 3, 1) := by decide +kernel
theorem dX4_tellHour_61 : decode cX4_tellHour 61 = .ok (.ifCond .ge 7, 3) := by decide +kernel
theorem dX4_tellHour_64 : decode cX4_tellHour 64 = .ok (.iconst (-1), 1) := by decide +kernel
theorem dX4_tellHour_65 : decode cX4_tellHour 65 = .ok (.goto 8, 3) := by decide +kernel
theorem dX4_tellHour_68 : decode cX4_tellHour 68 = .ok (.aload_n 1, 1) := by decide +kernel
theorem dX4_tellHour_69 : decode cX4_tellHour 69 = .ok (.iload_n 3, 1) := by decide +kernel
theorem dX4_tellHour_70 : decode cX4_tellHour 70 = .ok (.invokevirtual 85, 3) := by decide +kernel
theorem dX4_tellHour_73 : decode cX4_tellHour 73 = .ok (.iastore, 1) := by decide +kernel
theorem dX4_tellHour_74 : decode cX4_tellHour 74 = .ok (.aload_n 0, 1) := by decide +kernel
theorem dX4_tellHour_75 : decode cX4_tellHour 75 = .ok (.getfield 11, 3) := by decide +kernel
theorem dX4_tellHour_78 : decode cX4_tellHour 78 = .ok (.iconst 4, 1) := by decide +kernel
theorem dX4_tellHour_79 : decode cX4_tellHour 79 = .ok (.iload 4, 2) := by decide +kernel
theorem dX4_tellHour_81 : decode cX4_tellHour 81 = .ok (.ifCond .ge 7, 3) := by decide +kernel
theorem dX4_tellHour_84 : decode cX4_tellHour 84 = .ok (.iconst (-1), 1) := by decide +kernel
theorem dX4_tellHour_85 : decode cX4_tellHour 85 = .ok (.goto 9, 3) := by decide +kernel
theorem dX4_tellHour_88 : decode cX4_tellHour 88 = .ok (.aload_n 1, 1) := by decide +kernel
theorem dX4_tellHour_89 : decode cX4_tellHour 89 = .ok (.iload 4, 2) := by decide +kernel
theorem dX4_tellHour_91 : decode cX4_tellHour 91 = .ok (.invokevirtual 85, 3) := by decide +kernel
theorem dX4_tellHour_94 : decode cX4_tellHour 94 = .ok (.iastore, 1) := by decide +kernel
theorem dX4_tellHour_95 : decode cX4_tellHour 95 = .ok (.aload_n 0, 1) := by decide +kernel
theorem dX4_tellHour_96 : decode cX4_tellHour 96 = .ok (.getfield 32, 3) := by decide +kernel
theorem dX4_tellHour_99 : decode cX4_tellHour 99 = .ok (.aload_n 0, 1) := by decide +kernel
theorem dX4_tellHour_100 : decode cX4_tellHour 100 = .ok (.getfield 28, 3) := by decide +kernel
theorem dX4_tellHour_103 : decode cX4_tellHour 103 = .ok (.invokevirtual 95, 3) := by decide +kernel
theorem dX4_tellHour_106 : decode cX4_tellHour 106 = .ok (.return_, 1) := by decide +kernel
theorem dX4_condHolds_0 : decode cX4_condHolds 0 = .ok (.iconst 0, 1) := by decide +kernel
theorem dX4_condHolds_1 : decode cX4_condHolds 1 = .ok (.istore_n 2, 1) := by decide +kernel
theorem dX4_condHolds_2 : decode cX4_condHolds 2 = .ok (.aload_n 0, 1) := by decide +kernel
theorem dX4_condHolds_3 : decode cX4_condHolds 3 = .ok (.iload_n 1, 1) := by decide +kernel
theorem dX4_condHolds_4 : decode cX4_condHolds 4 = .ok (.invokevirtual 111, 3) := by decide +kernel
theorem dX4_condHolds_7 : decode cX4_condHolds 7 = .ok (.istore_n 3, 1) := by decide +kernel
theorem dX4_condHolds_8 : decode cX4_condHolds 8 = .ok (.iconst 0, 1) := by decide +kernel
theorem dX4_condHolds_9 : decode cX4_condHolds 9 = .ok (.istore 4, 2) := by decide +kernel
theorem dX4_condHolds_11 : decode cX4_condHolds 11 = .ok (.iload 4, 2) := by decide +kernel
theorem dX4_condHolds_13 : decode cX4_condHolds 13 = .ok (.sipush 600, 3) := by decide +kernel
theorem dX4_condHolds_16 : decode cX4_condHolds 16 = .ok (.if_icmp .ge 56, 3) := by decide +kernel
theorem dX4_condHolds_19 : decode cX4_condHolds 19 = .ok (.aload_n 0, 1) := by decide +kernel
theorem dX4_condHolds_20 : decode cX4_condHolds 20 = .ok (.getfield 32, 3) := by decide +kernel
theorem dX4_condHolds_23 : decode cX4_condHolds 23 = .ok (.getstatic 114, 3) := by decide +kernel
theorem dX4_condHolds_26 : decode cX4_condHolds 26 = .ok (.invokevirtual 117, 3) := by decide +kernel
theorem dX4_condHolds_29 : decode cX4_condHolds 29 = .ok (.ifCond .eq 14, 3) := by decide +kernel
theorem dX4_condHolds_32 : decode cX4_condHolds 32 = .ok (.iload_n 3, 1) := by decide +kernel
theorem dX4_condHolds_33 : decode cX4_condHolds 33 = .ok (.aload_n 0, 1) := by decide +kernel
theorem dX4_condHolds_34 : decode cX4_condHolds 34 = .ok (.iload_n 1, 1) := by decide +kernel
theorem dX4_condHolds_35 : decode cX4_condHolds 35 = .ok (.invokevirtual 111, 3) := by decide +kernel
theorem dX4_condHolds_38 : decode cX4_condHolds 38 = .ok (.iand, 1) := by decide +kernel
theorem dX4_condHolds_39 : decode cX4_condHolds 39 = .ok (.istore_n 3, 1) := by decide +kernel
theorem dX4_condHolds_40 : decode cX4_condHolds 40 = .ok (.goto 26, 3) := by decide +kernel
theorem dX4_condHolds_43 : decode cX4_condHolds 43 = .ok (.aload_n 0, 1) := by decide +kernel
theorem dX4_condHolds_44 : decode cX4_condHolds 44 = .ok (.getfield 32, 3) := by decide +kernel
theorem dX4_condHolds_47 : decode cX4_condHolds 47 = .ok (.getstatic 121, 3) := by decide +kernel
theorem dX4_condHolds_50 : decode cX4_condHolds 50 = .ok (.invokevirtual 117, 3) := by decide +kernel
theorem dX4_condHolds_53 : decode cX4_condHolds 53 = .ok (.ifCond .eq 19, 3) := by decide +kernel
theorem dX4_condHolds_56 : decode cX4_condHolds 56 = .ok (.iload_n 2, 1) := by decide +kernel
theorem dX4_condHolds_57 : decode cX4_condHolds 57 = .ok (.iload_n 3, 1) := by decide +kernel
theorem dX4_condHolds_58 : decode cX4_condHolds 58 = .ok (.ior, 1) := by decide +kernel
theorem dX4_condHolds_59 : decode cX4_condHolds 59 = .ok (.istore_n 2, 1) := by decide +kernel
theorem dX4_condHolds_60 : decode cX4_condHolds 60 = .ok (.aload_n 0, 1) := by decide +kernel
theorem dX4_condHolds_61 : decode cX4_condHolds 61 = .ok (.iload_n 1, 1) := by decide +kernel
theorem dX4_condHolds_62 : decode cX4_condHolds 62 = .ok (.invokevirtual 111, 3) := by decide +kernel
theorem dX4_condHolds_65 : decode cX4_condHolds 65 = .ok (.istore_n 3, 1) := by decide +kernel
theorem dX4_condHolds_66 : decode cX4_condHolds 66 = .ok (.iinc 4 1, 3) := by decide +kernel
theorem dX4_condHolds_69 : decode cX4_condHolds 69 = .ok (.goto (-58), 3) := by decide +kernel
theorem dX4_condHolds_72 : decode cX4_condHolds 72 = .ok (.iload_n 2, 1) := by decide +kernel
theorem dX4_condHolds_73 : decode cX4_condHolds 73 = .ok (.ifCond .ne 7, 3) := by decide +kernel
theorem dX4_condHolds_76 : decode cX4_condHolds 76 = .ok (.iload_n 3, 1) := by decide +kernel
theorem dX4_condHolds_77 : decode cX4_condHolds 77 = .ok (.ifCond .eq 7, 3) := by decide +kernel
theorem dX4_condHolds_80 : decode cX4_condHolds 80 = .ok (.iconst 1, 1) := by decide +kernel
theorem dX4_condHolds_81 : decode cX4_condHolds 81 = .ok (.goto 4, 3) := by decide +kernel
theorem dX4_condHolds_84 : decode cX4_condHolds 84 = .ok (.iconst 0, 1) := by decide +kernel
theorem dX4_condHolds_85 : decode cX4_condHolds 85 = .ok (.ireturn, 1) := by decide +kernel
theorem dX4_factHolds_0 : decode cX4_factHolds 0 = .ok (.aload_n 0, 1) := by decide +kernel
theorem dX4_factHolds_1 : decode cX4_factHolds 1 = .ok (.getfield 32, 3) := by decide +kernel
theorem dX4_factHolds_4 : decode cX4_factHolds 4 = .ok (.invokevirtual 36, 3) := by decide +kernel
theorem dX4_factHolds_7 : decode cX4_factHolds 7 = .ok (.astore_n 2, 1) := by decide +kernel
theorem dX4_factHolds_8 : decode cX4_factHolds 8 = .ok (.aload_n 2, 1) := by decide +kernel
theorem dX4_factHolds_9 : decode cX4_factHolds 9 = .ok (.getstatic 124, 3) := by decide +kernel
theorem dX4_factHolds_12 : decode cX4_factHolds 12 = .ok (.if_acmp .eq 15, 3) := by decide +kernel
theorem dX4_factHolds_15 : decode cX4_factHolds 15 = .ok (.aload_n 2, 1) := by decide +kernel
theorem dX4_factHolds_16 : decode cX4_factHolds 16 = .ok (.getstatic 127, 3) := by decide +kernel
theorem dX4_factHolds_19 : decode cX4_factHolds 19 = .ok (.if_acmp .eq 8, 3) := by decide +kernel
theorem dX4_factHolds_22 : decode cX4_factHolds 22 = .ok (.aload_n 0, 1) := by decide +kernel
theorem dX4_factHolds_23 : decode cX4_factHolds 23 = .ok (.invokevirtual 130, 3) := by decide +kernel
theorem dX4_factHolds_26 : decode cX4_factHolds 26 = .ok (.ireturn, 1) := by decide +kernel
theorem dX4_factHolds_27 : decode cX4_factHolds 27 = .ok (.iload_n 1, 1) := by decide +kernel
theorem dX4_factHolds_28 : decode cX4_factHolds 28 = .ok (.iconst 5, 1) := by decide +kernel
theorem dX4_factHolds_29 : decode cX4_factHolds 29 = .ok (.if_icmp .lt 13, 3) := by decide +kernel
theorem dX4_factHolds_32 : decode cX4_factHolds 32 = .ok (.aload_n 0, 1) := by decide +kernel
theorem dX4_factHolds_33 : decode cX4_factHolds 33 = .ok (.getfield 32, 3) := by decide +kernel
theorem dX4_factHolds_36 : decode cX4_factHolds 36 = .ok (.iconst 2, 1) := by decide +kernel
theorem dX4_factHolds_37 : decode cX4_factHolds 37 = .ok (.invokevirtual 51, 3) := by decide +kernel
theorem dX4_factHolds_40 : decode cX4_factHolds 40 = .ok (.iconst 0, 1) := by decide +kernel
theorem dX4_factHolds_41 : decode cX4_factHolds 41 = .ok (.ireturn, 1) := by decide +kernel
theorem dX4_factHolds_42 : decode cX4_factHolds 42 = .ok (.aload_n 0, 1) := by decide +kernel
theorem dX4_factHolds_43 : decode cX4_factHolds 43 = .ok (.getfield 32, 3) := by decide +kernel
theorem dX4_factHolds_46 : decode cX4_factHolds 46 = .ok (.invokevirtual 55, 3) := by decide +kernel
theorem dX4_factHolds_49 : decode cX4_factHolds 49 = .ok (.pop, 1) := by decide +kernel
theorem dX4_factHolds_50 : decode cX4_factHolds 50 = .ok (.aload_n 2, 1) := by decide +kernel
theorem dX4_factHolds_51 : decode cX4_factHolds 51 = .ok (.getstatic 124, 3) := by decide +kernel
theorem dX4_factHolds_54 : decode cX4_factHolds 54 = .ok (.if_acmp .ne 19, 3) := by decide +kernel
theorem dX4_factHolds_57 : decode cX4_factHolds 57 = .ok (.aload_n 0, 1) := by decide +kernel
theorem dX4_factHolds_58 : decode cX4_factHolds 58 = .ok (.iload_n 1, 1) := by decide +kernel
theorem dX4_factHolds_59 : decode cX4_factHolds 59 = .ok (.iconst 1, 1) := by decide +kernel
theorem dX4_factHolds_60 : decode cX4_factHolds 60 = .ok (.iadd, 1) := by decide +kernel
theorem dX4_factHolds_61 : decode cX4_factHolds 61 = .ok (.invokevirtual 111, 3) := by decide +kernel
theorem dX4_factHolds_64 : decode cX4_factHolds 64 = .ok (.ifCond .ne 7, 3) := by decide +kernel
theorem dX4_factHolds_67 : decode cX4_factHolds 67 = .ok (.iconst 1, 1) := by decide +kernel
theorem dX4_factHolds_68 : decode cX4_factHolds 68 = .ok (.goto 4, 3) := by decide +kernel
theorem dX4_factHolds_71 : decode cX4_factHolds 71 = .ok (.iconst 0, 1) := by decide +kernel
theorem dX4_factHolds_72 : decode cX4_factHolds 72 = .ok (.ireturn, 1) := by decide +kernel
theorem dX4_factHolds_73 : decode cX4_factHolds 73 = .ok (.aload_n 0, 1) := by decide +kernel
theorem dX4_factHolds_74 : decode cX4_factHolds 74 = .ok (.iload_n 1, 1) := by decide +kernel
theorem dX4_factHolds_75 : decode cX4_factHolds 75 = .ok (.iconst 1, 1) := by decide +kernel
theorem dX4_factHolds_76 : decode cX4_factHolds 76 = .ok (.iadd, 1) := by decide +kernel
theorem dX4_factHolds_77 : decode cX4_factHolds 77 = .ok (.invokevirtual 69, 3) := by decide +kernel
theorem dX4_factHolds_80 : decode cX4_factHolds 80 = .ok (.istore_n 3, 1) := by decide +kernel
theorem dX4_factHolds_81 : decode cX4_factHolds 81 = .ok (.aload_n 0, 1) := by decide +kernel
theorem dX4_factHolds_82 : decode cX4_factHolds 82 = .ok (.getfield 32, 3) := by decide +kernel
theorem dX4_factHolds_85 : decode cX4_factHolds 85 = .ok (.getstatic 134, 3) := by decide +kernel
theorem dX4_factHolds_88 : decode cX4_factHolds 88 = .ok (.invokevirtual 62, 3) := by decide +kernel
theorem dX4_factHolds_91 : decode cX4_factHolds 91 = .ok (.iload_n 3, 1) := by decide +kernel
theorem dX4_factHolds_92 : decode cX4_factHolds 92 = .ok (.ireturn, 1) := by decide +kernel
theorem dX4_comparisonHolds_0 : decode cX4_comparisonHolds 0 = .ok (.aload_n 0, 1) := by decide +kernel
theorem dX4_comparisonHolds_1 : decode cX4_comparisonHolds 1 = .ok (.invokevirtual 137, 3) := by decide +kernel
theorem dX4_comparisonHolds_4 : decode cX4_comparisonHolds 4 = .ok (.istore_n 1, 1) := by decide +kernel
theorem dX4_comparisonHolds_5 : decode cX4_comparisonHolds 5 = .ok (.aload_n 0, 1) := by decide +kernel
theorem dX4_comparisonHolds_6 : decode cX4_comparisonHolds 6 = .ok (.getfield 32, 3) := by decide +kernel
theorem dX4_comparisonHolds_9 : decode cX4_comparisonHolds 9 = .ok (.invokevirtual 36, 3) := by decide +kernel
theorem dX4_comparisonHolds_12 : decode cX4_comparisonHolds 12 = .ok (.astore_n 2, 1) := by decide +kernel
theorem dX4_comparisonHolds_13 : decode cX4_comparisonHolds 13 = .ok (.aload_n 2, 1) := by decide +kernel
theorem dX4_comparisonHolds_14 : decode cX4_comparisonHolds 14 = .ok (.getstatic 140, 3) := by decide +kernel
theorem dX4_comparisonHolds_17 : decode cX4_comparisonHolds 17 = .ok (.if_acmp .eq 27, 3) := by decide +kernel
theorem dX4_comparisonHolds_20 : decode cX4_comparisonHolds 20 = .ok (.aload_n 2, 1) := by decide +kernel
theorem dX4_comparisonHolds_21 : decode cX4_comparisonHolds 21 = .ok (.getstatic 143, 3) := by decide +kernel
theorem dX4_comparisonHolds_24 : decode cX4_comparisonHolds 24 = .ok (.if_acmp .eq 20, 3) := by decide +kernel
theorem dX4_comparisonHolds_27 : decode cX4_comparisonHolds 27 = .ok (.aload_n 2, 1) := by decide +kernel
theorem dX4_comparisonHolds_28 : decode cX4_comparisonHolds 28 = .ok (.getstatic 146, 3) := by decide +kernel
theorem dX4_comparisonHolds_31 : decode cX4_comparisonHolds 31 = .ok (.if_acmp .eq 13, 3) := by decide +kernel
theorem dX4_comparisonHolds_34 : decode cX4_comparisonHolds 34 = .ok (.aload_n 0, 1) := by decide +kernel
theorem dX4_comparisonHolds_35 : decode cX4_comparisonHolds 35 = .ok (.getfield 32, 3) := by decide +kernel
theorem dX4_comparisonHolds_38 : decode cX4_comparisonHolds 38 = .ok (.iconst 1, 1) := by decide +kernel
theorem dX4_comparisonHolds_39 : decode cX4_comparisonHolds 39 = .ok (.invokevirtual 51, 3) := by decide +kernel
theorem dX4_comparisonHolds_42 : decode cX4_comparisonHolds 42 = .ok (.iconst 0, 1) := by decide +kernel
theorem dX4_comparisonHolds_43 : decode cX4_comparisonHolds 43 = .ok (.ireturn, 1) := by decide +kernel
theorem dX4_comparisonHolds_44 : decode cX4_comparisonHolds 44 = .ok (.aload_n 0, 1) := by decide +kernel
theorem dX4_comparisonHolds_45 : decode cX4_comparisonHolds 45 = .ok (.getfield 32, 3) := by decide +kernel
theorem dX4_comparisonHolds_48 : decode cX4_comparisonHolds 48 = .ok (.invokevirtual 55, 3) := by decide +kernel
theorem dX4_comparisonHolds_51 : decode cX4_comparisonHolds 51 = .ok (.pop, 1) := by decide +kernel
theorem dX4_comparisonHolds_52 : decode cX4_comparisonHolds 52 = .ok (.aload_n 0, 1) := by decide +kernel
theorem dX4_comparisonHolds_53 : decode cX4_comparisonHolds 53 = .ok (.invokevirtual 137, 3) := by decide +kernel
theorem dX4_comparisonHolds_56 : decode cX4_comparisonHolds 56 = .ok (.istore_n 3, 1) := by decide +kernel
theorem dX4_comparisonHolds_57 : decode cX4_comparisonHolds 57 = .ok (.aload_n 2, 1) := by decide +kernel
theorem dX4_comparisonHolds_58 : decode cX4_comparisonHolds 58 = .ok (.getstatic 140, 3) := by decide +kernel
theorem dX4_comparisonHolds_61 : decode cX4_comparisonHolds 61 = .ok (.if_acmp .ne 14, 3) := by decide +kernel
theorem dX4_comparisonHolds_64 : decode cX4_comparisonHolds 64 = .ok (.iload_n 1, 1) := by decide +kernel
theorem dX4_comparisonHolds_65 : decode cX4_comparisonHolds 65 = .ok (.iload_n 3, 1) := by decide +kernel
theorem dX4_comparisonHolds_66 : decode cX4_comparisonHolds 66 = .ok (.if_icmp .ge 7, 3) := by decide +kernel
theorem dX4_comparisonHolds_69 : decode cX4_comparisonHolds 69 = .ok (.iconst 1, 1) := by decide +kernel
theorem dX4_comparisonHolds_70 : decode cX4_comparisonHolds 70 = .ok (.goto 4, 3) := by decide +kernel
theorem dX4_comparisonHolds_73 : decode cX4_comparisonHolds 73 = .ok (.iconst 0, 1) := by decide +kernel
theorem dX4_comparisonHolds_74 : decode cX4_comparisonHolds 74 = .ok (.ireturn, 1) := by decide +kernel
theorem dX4_comparisonHolds_75 : decode cX4_comparisonHolds 75 = .ok (.aload_n 2, 1) := by decide +kernel
theorem dX4_comparisonHolds_76 : decode cX4_comparisonHolds 76 = .ok (.getstatic 146, 3) := by decide +kernel
theorem dX4_comparisonHolds_79 : decode cX4_comparisonHolds 79 = .ok (.if_acmp .ne 16, 3) := by decide +kernel
theorem dX4_comparisonHolds_82 : decode cX4_comparisonHolds 82 = .ok (.iload_n 1, 1) := by decide +kernel
theorem dX4_comparisonHolds_83 : decode cX4_comparisonHolds 83 = .ok (.iload_n 3, 1) := by decide +kernel
theorem dX4_comparisonHolds_84 : decode cX4_comparisonHolds 84 = .ok (.if_icmp .le 7, 3) := by decide +kernel
theorem dX4_comparisonHolds_87 : decode cX4_comparisonHolds 87 = .ok (.iconst 1, 1) := by decide +kernel
theorem dX4_comparisonHolds_88 : decode cX4_comparisonHolds 88 = .ok (.goto 17, 3) := by decide +kernel
theorem dX4_comparisonHolds_91 : decode cX4_comparisonHolds 91 = .ok (.iconst 0, 1) := by decide +kernel
theorem dX4_comparisonHolds_92 : decode cX4_comparisonHolds 92 = .ok (.goto 13, 3) := by decide +kernel
theorem dX4_comparisonHolds_95 : decode cX4_comparisonHolds 95 = .ok (.iload_n 1, 1) := by decide +kernel
theorem dX4_comparisonHolds_96 : decode cX4_comparisonHolds 96 = .ok (.iload_n 3, 1) := by decide +kernel
theorem dX4_comparisonHolds_97 : decode cX4_comparisonHolds 97 = .ok (.if_icmp .ne 7, 3) := by decide +kernel
theorem dX4_comparisonHolds_100 : decode cX4_comparisonHolds 100 = .ok (.iconst 1, 1) := by decide +kernel
theorem dX4_comparisonHolds_101 : decode cX4_comparisonHolds 101 = .ok (.goto 4, 3) := by decide +kernel
theorem dX4_comparisonHolds_104 : decode cX4_comparisonHolds 104 = .ok (.iconst 0, 1) := by decide +kernel
theorem dX4_comparisonHolds_105 : decode cX4_comparisonHolds 105 = .ok (.ireturn, 1) := by decide +kernel
theorem dX4_total_0 : decode cX4_total 0 = .ok (.aload_n 0, 1) := by decide +kernel
theorem dX4_total_1 : decode cX4_total 1 = .ok (.invokevirtual 149, 3) := by decide +kernel
theorem dX4_total_4 : decode cX4_total 4 = .ok (.istore_n 1, 1) := by decide +kernel
theorem dX4_total_5 : decode cX4_total 5 = .ok (.iconst 0, 1) := by decide +kernel
theorem dX4_total_6 : decode cX4_total 6 = .ok (.istore_n 2, 1) := by decide +kernel
theorem dX4_total_7 : decode cX4_total 7 = .ok (.iload_n 2, 1) := by decide +kernel
theorem dX4_total_8 : decode cX4_total 8 = .ok (.sipush 600, 3) := by decide +kernel
theorem dX4_total_11 : decode cX4_total 11 = .ok (.if_icmp .ge 52, 3) := by decide +kernel
theorem dX4_total_14 : decode cX4_total 14 = .ok (.aload_n 0, 1) := by decide +kernel
theorem dX4_total_15 : decode cX4_total 15 = .ok (.getfield 32, 3) := by decide +kernel
theorem dX4_total_18 : decode cX4_total 18 = .ok (.getstatic 152, 3) := by decide +kernel
theorem dX4_total_21 : decode cX4_total 21 = .ok (.invokevirtual 117, 3) := by decide +kernel
theorem dX4_total_24 : decode cX4_total 24 = .ok (.ifCond .eq 13, 3) := by decide +kernel
theorem dX4_total_27 : decode cX4_total 27 = .ok (.iload_n 1, 1) := by decide +kernel
theorem dX4_total_28 : decode cX4_total 28 = .ok (.aload_n 0, 1) := by decide +kernel
theorem dX4_total_29 : decode cX4_total 29 = .ok (.invokevirtual 149, 3) := by decide +kernel
theorem dX4_total_32 : decode cX4_total 32 = .ok (.iadd, 1) := by decide +kernel
theorem dX4_total_33 : decode cX4_total 33 = .ok (.istore_n 1, 1) := by decide +kernel
theorem dX4_total_34 : decode cX4_total 34 = .ok (.goto 23, 3) := by decide +kernel
theorem dX4_total_37 : decode cX4_total 37 = .ok (.aload_n 0, 1) := by decide +kernel
theorem dX4_total_38 : decode cX4_total 38 = .ok (.getfield 32, 3) := by decide +kernel
theorem dX4_total_41 : decode cX4_total 41 = .ok (.getstatic 155, 3) := by decide +kernel
theorem dX4_total_44 : decode cX4_total 44 = .ok (.invokevirtual 117, 3) := by decide +kernel
theorem dX4_total_47 : decode cX4_total 47 = .ok (.ifCond .eq 16, 3) := by decide +kernel
theorem dX4_total_50 : decode cX4_total 50 = .ok (.iload_n 1, 1) := by decide +kernel
theorem dX4_total_51 : decode cX4_total 51 = .ok (.aload_n 0, 1) := by decide +kernel
theorem dX4_total_52 : decode cX4_total 52 = .ok (.invokevirtual 149, 3) := by decide +kernel
theorem dX4_total_55 : decode cX4_total 55 = .ok (.isub, 1) := by decide +kernel
theorem dX4_total_56 : decode cX4_total 56 = .ok (.istore_n 1, 1) := by decide +kernel
theorem dX4_total_57 : decode cX4_total 57 = .ok (.iinc 2 1, 3) := by decide +kernel
theorem dX4_total_60 : decode cX4_total 60 = .ok (.goto (-53), 3) := by decide +kernel
theorem dX4_total_63 : decode cX4_total 63 = .ok (.iload_n 1, 1) := by decide +kernel
theorem dX4_total_64 : decode cX4_total 64 = .ok (.ireturn, 1) := by decide +kernel
theorem dX4_value_0 : decode cX4_value 0 = .ok (.aload_n 0, 1) := by decide +kernel
theorem dX4_value_1 : decode cX4_value 1 = .ok (.getfield 32, 3) := by decide +kernel
theorem dX4_value_4 : decode cX4_value 4 = .ok (.invokevirtual 36, 3) := by decide +kernel
theorem dX4_value_7 : decode cX4_value 7 = .ok (.astore_n 1, 1) := by decide +kernel
theorem dX4_value_8 : decode cX4_value 8 = .ok (.aload_n 1, 1) := by decide +kernel
theorem dX4_value_9 : decode cX4_value 9 = .ok (.ifnonnull 5, 3) := by decide +kernel
theorem dX4_value_12 : decode cX4_value 12 = .ok (.iconst 0, 1) := by decide +kernel
theorem dX4_value_13 : decode cX4_value 13 = .ok (.ireturn, 1) := by decide +kernel
theorem dX4_value_14 : decode cX4_value 14 = .ok (.aload_n 1, 1) := by decide +kernel
theorem dX4_value_15 : decode cX4_value 15 = .ok (.getstatic 158, 3) := by decide +kernel
theorem dX4_value_18 : decode cX4_value 18 = .ok (.if_acmp .ne 11, 3) := by decide +kernel
theorem dX4_value_21 : decode cX4_value 21 = .ok (.aload_n 0, 1) := by decide +kernel
theorem dX4_value_22 : decode cX4_value 22 = .ok (.getfield 32, 3) := by decide +kernel
theorem dX4_value_25 : decode cX4_value 25 = .ok (.invokevirtual 55, 3) := by decide +kernel
theorem dX4_value_28 : decode cX4_value 28 = .ok (.ireturn, 1) := by decide +kernel
theorem dX4_value_29 : decode cX4_value 29 = .ok (.aload_n 0, 1) := by decide +kernel
theorem dX4_value_30 : decode cX4_value 30 = .ok (.getfield 24, 3) := by decide +kernel
theorem dX4_value_33 : decode cX4_value 33 = .ok (.ifCond .eq 10, 3) := by decide +kernel
theorem dX4_value_36 : decode cX4_value 36 = .ok (.aload_n 1, 1) := by decide +kernel
theorem dX4_value_37 : decode cX4_value 37 = .ok (.getfield 161, 3) := by decide +kernel
theorem dX4_value_40 : decode cX4_value 40 = .ok (.goto 7, 3) := by decide +kernel
theorem dX4_value_43 : decode cX4_value 43 = .ok (.aload_n 1, 1) := by decide +kernel
theorem dX4_value_44 : decode cX4_value 44 = .ok (.getfield 164, 3) := by decide +kernel
theorem dX4_value_47 : decode cX4_value 47 = .ok (.istore_n 2, 1) := by decide +kernel
theorem dX4_value_48 : decode cX4_value 48 = .ok (.iload_n 2, 1) := by decide +kernel
theorem dX4_value_49 : decode cX4_value 49 = .ok (.ifCond .lt 9, 3) := by decide +kernel
theorem dX4_value_52 : decode cX4_value 52 = .ok (.iload_n 2, 1) := by decide +kernel
theorem dX4_value_53 : decode cX4_value 53 = .ok (.bipush 6, 2) := by decide +kernel
theorem dX4_value_55 : decode cX4_value 55 = .ok (.if_icmp .lt 13, 3) := by decide +kernel
theorem dX4_value_58 : decode cX4_value 58 = .ok (.aload_n 0, 1) := by decide +kernel
theorem dX4_value_59 : decode cX4_value 59 = .ok (.getfield 32, 3) := by decide +kernel
theorem dX4_value_62 : decode cX4_value 62 = .ok (.iconst 1, 1) := by decide +kernel
theorem dX4_value_63 : decode cX4_value 63 = .ok (.invokevirtual 51, 3) := by decide +kernel
theorem dX4_value_66 : decode cX4_value 66 = .ok (.iconst 0, 1) := by decide +kernel
theorem dX4_value_67 : decode cX4_value 67 = .ok (.ireturn, 1) := by decide +kernel
theorem dX4_value_68 : decode cX4_value 68 = .ok (.aload_n 0, 1) := by decide +kernel
theorem dX4_value_69 : decode cX4_value 69 = .ok (.getfield 32, 3) := by decide +kernel
theorem dX4_value_72 : decode cX4_value 72 = .ok (.invokevirtual 55, 3) := by decide +kernel
theorem dX4_value_75 : decode cX4_value 75 = .ok (.pop, 1) := by decide +kernel
theorem dX4_value_76 : decode cX4_value 76 = .ok (.aload_n 0, 1) := by decide +kernel
theorem dX4_value_77 : decode cX4_value 77 = .ok (.getfield 11, 3) := by decide +kernel
theorem dX4_value_80 : decode cX4_value 80 = .ok (.iload_n 2, 1) := by decide +kernel
theorem dX4_value_81 : decode cX4_value 81 = .ok (.iaload, 1) := by decide +kernel
theorem dX4_value_82 : decode cX4_value 82 = .ok (.ireturn, 1) := by decide +kernel
