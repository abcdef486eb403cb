theorem dX8_drops_12 : decode cX8_drops 12 = .ok (.getfield 46, 3) := by decide +kernel
theorem dX8_drops_15 : decode cX8_drops 15 = .ok (.aload_n 0, 1) := by decide +kernel
theorem dX8_drops_16 : decode cX8_drops 16 = .ok (.getfield 328, 3) := by decide +kernel
theorem dX8_drops_19 : decode cX8_drops 19 = .ok (.iaload, 1) := by decide +kernel
theorem dX8_drops_20 : decode cX8_drops 20 = .ok (.iconst 0, 1) := by decide +kernel
theorem dX8_drops_21 : decode cX8_drops 21 = .ok (.invokevirtual 315, 3) := by decide +kernel
theorem dX8_drops_24 : decode cX8_drops 24 = .ok (.return_, 1) := by decide +kernel
theorem dX8_dropsNots_0 : decode cX8_dropsNots 0 = .ok (.aload_n 0, 1) := by decide +kernel
theorem dX8_dropsNots_1 : decode cX8_dropsNots 1 = .ok (.bipush 7, 2) := by decide +kernel
theorem dX8_dropsNots_3 : decode cX8_dropsNots 3 = .ok (.invokevirtual 331, 3) := by decide +kernel
theorem dX8_dropsNots_6 : decode cX8_dropsNots 6 = .ok (.ifCond .eq 20, 3) := by decide +kernel
theorem dX8_dropsNots_9 : decode cX8_dropsNots 9 = .ok (.aload_n 0, 1) := by decide +kernel
theorem dX8_dropsNots_10 : decode cX8_dropsNots 10 = .ok (.invokevirtual 334, 3) := by decide +kernel
theorem dX8_dropsNots_13 : decode cX8_dropsNots 13 = .ok (.aload_n 0, 1) := by decide +kernel
theorem dX8_dropsNots_14 : decode cX8_dropsNots 14 = .ok (.dup, 1) := by decide +kernel
theorem dX8_dropsNots_15 : decode cX8_dropsNots 15 = .ok (.getfield 337, 3) := by decide +kernel
theorem dX8_dropsNots_18 : decode cX8_dropsNots 18 = .ok (.iconst 1, 1) := by decide +kernel
theorem dX8_dropsNots_19 : decode cX8_dropsNots 19 = .ok (.isub, 1) := by decide +kernel
theorem dX8_dropsNots_20 : decode cX8_dropsNots 20 = .ok (.putfield 337, 3) := by decide +kernel
theorem dX8_dropsNots_23 : decode cX8_dropsNots 23 = .ok (.goto (-23), 3) := by decide +kernel
theorem dX8_dropsNots_26 : decode cX8_dropsNots 26 = .ok (.return_, 1) := by decide +kernel
theorem dX8_opens_0 : decode cX8_opens 0 = .ok (.aload_n 0, 1) := by decide +kernel
theorem dX8_opens_1 : decode cX8_opens 1 = .ok (.getfield 337, 3) := by decide +kernel
theorem dX8_opens_4 : decode cX8_opens 4 = .ok (.iconst 5, 1) := by decide +kernel
theorem dX8_opens_5 : decode cX8_opens 5 = .ok (.if_icmp .ne 9, 3) := by decide +kernel
theorem dX8_opens_8 : decode cX8_opens 8 = .ok (.aload_n 0, 1) := by decide +kernel
theorem dX8_opens_9 : decode cX8_opens 9 = .ok (.iconst 2, 1) := by decide +kernel
theorem dX8_opens_10 : decode cX8_opens 10 = .ok (.invokevirtual 186, 3) := by decide +kernel
theorem dX8_opens_13 : decode cX8_opens 13 = .ok (.ireturn, 1) := by decide +kernel
theorem dX8_opens_14 : decode cX8_opens 14 = .ok (.aload_n 0, 1) := by decide +kernel
theorem dX8_opens_15 : decode cX8_opens 15 = .ok (.dup, 1) := by decide +kernel
theorem dX8_opens_16 : decode cX8_opens 16 = .ok (.getfield 337, 3) := by decide +kernel
theorem dX8_opens_19 : decode cX8_opens 19 = .ok (.iconst 1, 1) := by decide +kernel
theorem dX8_opens_20 : decode cX8_opens 20 = .ok (.iadd, 1) := by decide +kernel
theorem dX8_opens_21 : decode cX8_opens 21 = .ok (.putfield 337, 3) := by decide +kernel
theorem dX8_opens_24 : decode cX8_opens 24 = .ok (.aload_n 0, 1) := by decide +kernel
theorem dX8_opens_25 : decode cX8_opens 25 = .ok (.getfield 46, 3) := by decide +kernel
theorem dX8_opens_28 : decode cX8_opens 28 = .ok (.aload_n 0, 1) := by decide +kernel
theorem dX8_opens_29 : decode cX8_opens 29 = .ok (.getfield 328, 3) := by decide +kernel
theorem dX8_opens_32 : decode cX8_opens 32 = .ok (.aload_n 0, 1) := by decide +kernel
theorem dX8_opens_33 : decode cX8_opens 33 = .ok (.ldc2_w 340, 3) := by decide +kernel
theorem dX8_opens_36 : decode cX8_opens 36 = .ok (.invokevirtual 192, 3) := by decide +kernel
theorem dX8_opens_39 : decode cX8_opens 39 = .ok (.ifCond .eq 8, 3) := by decide +kernel
theorem dX8_opens_42 : decode cX8_opens 42 = .ok (.bipush 7, 2) := by decide +kernel
theorem dX8_opens_44 : decode cX8_opens 44 = .ok (.goto 5, 3) := by decide +kernel
theorem dX8_opens_47 : decode cX8_opens 47 = .ok (.bipush 10, 2) := by decide +kernel
theorem dX8_opens_49 : decode cX8_opens 49 = .ok (.iastore, 1) := by decide +kernel
theorem dX8_opens_50 : decode cX8_opens 50 = .ok (.aload_n 0, 1) := by decide +kernel
theorem dX8_opens_51 : decode cX8_opens 51 = .ok (.dup, 1) := by decide +kernel
theorem dX8_opens_52 : decode cX8_opens 52 = .ok (.getfield 328, 3) := by decide +kernel
theorem dX8_opens_55 : decode cX8_opens 55 = .ok (.iconst 1, 1) := by decide +kernel
theorem dX8_opens_56 : decode cX8_opens 56 = .ok (.iadd, 1) := by decide +kernel
theorem dX8_opens_57 : decode cX8_opens 57 = .ok (.putfield 328, 3) := by decide +kernel
theorem dX8_opens_60 : decode cX8_opens 60 = .ok (.aload_n 0, 1) := by decide +kernel
theorem dX8_opens_61 : decode cX8_opens 61 = .ok (.invokevirtual 180, 3) := by decide +kernel
theorem dX8_opens_64 : decode cX8_opens 64 = .ok (.iconst 1, 1) := by decide +kernel
theorem dX8_opens_65 : decode cX8_opens 65 = .ok (.ireturn, 1) := by decide +kernel
theorem dX8_hasRound_0 : decode cX8_hasRound 0 = .ok (.iconst 0, 1) := by decide +kernel
theorem dX8_hasRound_1 : decode cX8_hasRound 1 = .ok (.istore_n 1, 1) := by decide +kernel
theorem dX8_hasRound_2 : decode cX8_hasRound 2 = .ok (.iload_n 1, 1) := by decide +kernel
theorem dX8_hasRound_3 : decode cX8_hasRound 3 = .ok (.aload_n 0, 1) := by decide +kernel
theorem dX8_hasRound_4 : decode cX8_hasRound 4 = .ok (.getfield 328, 3) := by decide +kernel
theorem dX8_hasRound_7 : decode cX8_hasRound 7 = .ok (.if_icmp .ge 22, 3) := by decide +kernel
theorem dX8_hasRound_10 : decode cX8_hasRound 10 = .ok (.aload_n 0, 1) := by decide +kernel
theorem dX8_hasRound_11 : decode cX8_hasRound 11 = .ok (.getfield 46, 3) := by decide +kernel
theorem dX8_hasRound_14 : decode cX8_hasRound 14 = .ok (.iload_n 1, 1) := by decide +kernel
theorem dX8_hasRound_15 : decode cX8_hasRound 15 = .ok (.iaload, 1) := by decide +kernel
theorem dX8_hasRound_16 : decode cX8_hasRound 16 = .ok (.bipush 10, 2) := by decide +kernel
theorem dX8_hasRound_18 : decode cX8_hasRound 18 = .ok (.if_icmp .ne 5, 3) := by decide +kernel
theorem dX8_hasRound_21 : decode cX8_hasRound 21 = .ok (.iconst 1, 1) := by decide +kernel
theorem dX8_hasRound_22 : decode cX8_hasRound 22 = .ok (.ireturn, 1) := by decide +kernel
theorem dX8_hasRound_23 : decode cX8_hasRound 23 = .ok (.iinc 1 1, 3) := by decide +kernel
theorem dX8_hasRound_26 : decode cX8_hasRound 26 = .ok (.goto (-24), 3) := by decide +kernel
theorem dX8_hasRound_29 : decode cX8_hasRound 29 = .ok (.iconst 0, 1) := by decide +kernel
theorem dX8_hasRound_30 : decode cX8_hasRound 30 = .ok (.ireturn, 1) := by decide +kernel
theorem dX8_closes_0 : decode cX8_closes 0 = .ok (.aload_n 0, 1) := by decide +kernel
theorem dX8_closes_1 : decode cX8_closes 1 = .ok (.bipush 41, 2) := by decide +kernel
theorem dX8_closes_3 : decode cX8_closes 3 = .ok (.invokevirtual 213, 3) := by decide +kernel
theorem dX8_closes_6 : decode cX8_closes 6 = .ok (.ifCond .eq 57, 3) := by decide +kernel
theorem dX8_closes_9 : decode cX8_closes 9 = .ok (.aload_n 0, 1) := by decide +kernel
theorem dX8_closes_10 : decode cX8_closes 10 = .ok (.invokevirtual 342, 3) := by decide +kernel
theorem dX8_closes_13 : decode cX8_closes 13 = .ok (.ifCond .eq 50, 3) := by decide +kernel
theorem dX8_closes_16 : decode cX8_closes 16 = .ok (.aload_n 0, 1) := by decide +kernel
theorem dX8_closes_17 : decode cX8_closes 17 = .ok (.bipush 10, 2) := by decide +kernel
theorem dX8_closes_19 : decode cX8_closes 19 = .ok (.invokevirtual 331, 3) := by decide +kernel
theorem dX8_closes_22 : decode cX8_closes 22 = .ok (.ifCond .ne 10, 3) := by decide +kernel
theorem dX8_closes_25 : decode cX8_closes 25 = .ok (.aload_n 0, 1) := by decide +kernel
theorem dX8_closes_26 : decode cX8_closes 26 = .ok (.invokevirtual 334, 3) := by decide +kernel
theorem dX8_closes_29 : decode cX8_closes 29 = .ok (.goto (-13), 3) := by decide +kernel
theorem dX8_closes_32 : decode cX8_closes 32 = .ok (.aload_n 0, 1) := by decide +kernel
theorem dX8_closes_33 : decode cX8_closes 33 = .ok (.dup, 1) := by decide +kernel
theorem dX8_closes_34 : decode cX8_closes 34 = .ok (.getfield 328, 3) := by decide +kernel
theorem dX8_closes_37 : decode cX8_closes 37 = .ok (.iconst 1, 1) := by decide +kernel
theorem dX8_closes_38 : decode cX8_closes 38 = .ok (.isub, 1) := by decide +kernel
theorem dX8_closes_39 : decode cX8_closes 39 = .ok (.putfield 328, 3) := by decide +kernel
theorem dX8_closes_42 : decode cX8_closes 42 = .ok (.aload_n 0, 1) := by decide +kernel
theorem dX8_closes_43 : decode cX8_closes 43 = .ok (.dup, 1) := by decide +kernel
theorem dX8_closes_44 : decode cX8_closes 44 = .ok (.getfield 337, 3) := by decide +kernel
theorem dX8_closes_47 : decode cX8_closes 47 = .ok (.iconst 1, 1) := by decide +kernel
theorem dX8_closes_48 : decode cX8_closes 48 = .ok (.isub, 1) := by decide +kernel
theorem dX8_closes_49 : decode cX8_closes 49 = .ok (.putfield 337, 3) := by decide +kernel
theorem dX8_closes_52 : decode cX8_closes 52 = .ok (.aload_n 0, 1) := by decide +kernel
theorem dX8_closes_53 : decode cX8_closes 53 = .ok (.invokevirtual 180, 3) := by decide +kernel
theorem dX8_closes_56 : decode cX8_closes 56 = .ok (.aload_n 0, 1) := by decide +kernel
theorem dX8_closes_57 : decode cX8_closes 57 = .ok (.invokevirtual 345, 3) := by decide +kernel
theorem dX8_closes_60 : decode cX8_closes 60 = .ok (.goto (-60), 3) := by decide +kernel
theorem dX8_closes_63 : decode cX8_closes 63 = .ok (.return_, 1) := by decide +kernel
theorem dX8_condition_0 : decode cX8_condition 0 = .ok (.aload_n 0, 1) := by decide +kernel
theorem dX8_condition_1 : decode cX8_condition 1 = .ok (.iconst 0, 1) := by decide +kernel
theorem dX8_condition_2 : decode cX8_condition 2 = .ok (.putfield 328, 3) := by decide +kernel
theorem dX8_condition_5 : decode cX8_condition 5 = .ok (.aload_n 0, 1) := by decide +kernel
theorem dX8_condition_6 : decode cX8_condition 6 = .ok (.iconst 0, 1) := by decide +kernel
theorem dX8_condition_7 : decode cX8_condition 7 = .ok (.putfield 337, 3) := by decide +kernel
theorem dX8_condition_10 : decode cX8_condition 10 = .ok (.aload_n 0, 1) := by decide +kernel
theorem dX8_condition_11 : decode cX8_condition 11 = .ok (.iconst 0, 1) := by decide +kernel
theorem dX8_condition_12 : decode cX8_condition 12 = .ok (.putfield 289, 3) := by decide +kernel
theorem dX8_condition_15 : decode cX8_condition 15 = .ok (.iconst 1, 1) := by decide +kernel
theorem dX8_condition_16 : decode cX8_condition 16 = .ok (.istore_n 1, 1) := by decide +kernel
theorem dX8_condition_17 : decode cX8_condition 17 = .ok (.iload_n 1, 1) := by decide +kernel
theorem dX8_condition_18 : decode cX8_condition 18 = .ok (.ifCond .eq 152, 3) := by decide +kernel
theorem dX8_condition_21 : decode cX8_condition 21 = .ok (.aload_n 0, 1) := by decide +kernel
theorem dX8_condition_22 : decode cX8_condition 22 = .ok (.ldc2_w 340, 3) := by decide +kernel
theorem dX8_condition_25 : decode cX8_condition 25 = .ok (.invokevirtual 192, 3) := by decide +kernel
theorem dX8_condition_28 : decode cX8_condition 28 = .ok (.ifCond .ne 12, 3) := by decide +kernel
theorem dX8_condition_31 : decode cX8_condition 31 = .ok (.aload_n 0, 1) := by decide +kernel
theorem dX8_condition_32 : decode cX8_condition 32 = .ok (.bipush 40, 2) := by decide +kernel
theorem dX8_condition_34 : decode cX8_condition 34 = .ok (.invokevirtual 213, 3) := by decide +kernel
theorem dX8_condition_37 : decode cX8_condition 37 = .ok (.ifCond .eq 12, 3) := by decide +kernel
theorem dX8_condition_40 : decode cX8_condition 40 = .ok (.aload_n 0, 1) := by decide +kernel
theorem dX8_condition_41 : decode cX8_condition 41 = .ok (.invokevirtual 348, 3) := by decide +kernel
theorem dX8_condition_44 : decode cX8_condition 44 = .ok (.ifCond .ne (-23), 3) := by decide +kernel
theorem dX8_condition_47 : decode cX8_condition 47 = .ok (.iconst 0, 1) := by decide +kernel
theorem dX8_condition_48 : decode cX8_condition 48 = .ok (.ireturn, 1) := by decide +kernel
theorem dX8_condition_49 : decode cX8_condition 49 = .ok (.aload_n 0, 1) := by decide +kernel
theorem dX8_condition_50 : decode cX8_condition 50 = .ok (.invokevirtual 351, 3) := by decide +kernel
theorem dX8_condition_53 : decode cX8_condition 53 = .ok (.ifCond .ne 5, 3) := by decide +kernel
theorem dX8_condition_56 : decode cX8_condition 56 = .ok (.iconst 0, 1) := by decide +kernel
theorem dX8_condition_57 : decode cX8_condition 57 = .ok (.ireturn, 1) := by decide +kernel
theorem dX8_condition_58 : decode cX8_condition 58 = .ok (.aload_n 0, 1) := by decide +kernel
theorem dX8_condition_59 : decode cX8_condition 59 = .ok (.invokevirtual 345, 3) := by decide +kernel
theorem dX8_condition_62 : decode cX8_condition 62 = .ok (.aload_n 0, 1) := by decide +kernel
theorem dX8_condition_63 : decode cX8_condition 63 = .ok (.invokevirtual 354, 3) := by decide +kernel
theorem dX8_condition_66 : decode cX8_condition 66 = .ok (.aload_n 0, 1) := by decide +kernel
theorem dX8_condition_67 : decode cX8_condition 67 = .ok (.ldc2_w 357, 3) := by decide +kernel
theorem dX8_condition_70 : decode cX8_condition 70 = .ok (.invokevirtual 192, 3) := by decide +kernel
theorem dX8_condition_73 : decode cX8_condition 73 = .ok (.ifCond .ne 13, 3) := by decide +kernel
theorem dX8_condition_76 : decode cX8_condition 76 = .ok (.aload_n 0, 1) := by decide +kernel
theorem dX8_condition_77 : decode cX8_condition 77 = .ok (.ldc2_w 359, 3) := by decide +kernel
theorem dX8_condition_80 : decode cX8_condition 80 = .ok (.invokevirtual 192, 3) := by decide +kernel
theorem dX8_condition_83 : decode cX8_condition 83 = .ok (.ifCond .eq 7, 3) := by decide +kernel
theorem dX8_condition_86 : decode cX8_condition 86 = .ok (.iconst 1, 1) := by decide +kernel
theorem dX8_condition_87 : decode cX8_condition 87 = .ok (.goto 4, 3) := by decide +kernel
theorem dX8_condition_90 : decode cX8_condition 90 = .ok (.iconst 0, 1) := by decide +kernel
theorem dX8_condition_91 : decode cX8_condition 91 = .ok (.istore_n 1, 1) := by decide +kernel
theorem dX8_condition_92 : decode cX8_condition 92 = .ok (.iload_n 1, 1) := by decide +kernel
theorem dX8_condition_93 : decode cX8_condition 93 = .ok (.ifCond .eq (-76), 3) := by decide +kernel
theorem dX8_condition_96 : decode cX8_condition 96 = .ok (.aload_n 0, 1) := by decide +kernel
theorem dX8_condition_97 : decode cX8_condition 97 = .ok (.ldc2_w 357, 3) := by decide +kernel
theorem dX8_condition_100 : decode cX8_condition 100 = .ok (.invokevirtual 192, 3) := by decide +kernel
theorem dX8_condition_103 : decode cX8_condition 103 = .ok (.istore_n 2, 1) := by decide +kernel
theorem dX8_condition_104 : decode cX8_condition 104 = .ok (.aload_n 0, 1) := by decide +kernel
theorem dX8_condition_105 : decode cX8_condition 105 = .ok (.bipush 8, 2) := by decide +kernel
theorem dX8_condition_107 : decode cX8_condition 107 = .ok (.invokevirtual 331, 3) := by decide +kernel
theorem dX8_condition_110 : decode cX8_condition 110 = .ok (.ifCond .ne 16, 3) := by decide +kernel
theorem dX8_condition_113 : decode cX8_condition 113 = .ok (.iload_n 2, 1) := by decide +kernel
theorem dX8_condition_114 : decode cX8_condition 114 = .ok (.ifCond .ne 19, 3) := by decide +kernel
theorem dX8_condition_117 : decode cX8_condition 117 = .ok (.aload_n 0, 1) := by decide +kernel
theorem dX8_condition_118 : decode cX8_condition 118 = .ok (.bipush 9, 2) := by decide +kernel
theorem dX8_condition_120 : decode cX8_condition 120 = .ok (.invokevirtual 331, 3) := by decide +kernel
theorem dX8_condition_123 : decode cX8_condition 123 = .ok (.ifCond .eq 10, 3) := by decide +kernel
theorem dX8_condition_126 : decode cX8_condition 126 = .ok (.aload_n 0, 1) := by decide +kernel
theorem dX8_condition_127 : decode cX8_condition 127 = .ok (.invokevirtual 334, 3) := by decide +kernel
theorem dX8_condition_130 : decode cX8_condition 130 = .ok (.goto (-26), 3) := by decide +kernel
theorem dX8_condition_133 : decode cX8_condition 133 = .ok (.aload_n 0, 1) := by decide +kernel
theorem dX8_condition_134 : decode cX8_condition 134 = .ok (.getfield 46, 3) := by decide +kernel
theorem dX8_condition_137 : decode cX8_condition 137 = .ok (.aload_n 0, 1) := by decide +kernel
theorem dX8_condition_138 : decode cX8_condition 138 = .ok (.getfield 328, 3) := by decide +kernel
theorem dX8_condition_141 : decode cX8_condition 141 = .ok (.iload_n 2, 1) := by decide +kernel
theorem dX8_condition_142 : decode cX8_condition 142 = .ok (.ifCond .eq 8, 3) := by decide +kernel
theorem dX8_condition_145 : decode cX8_condition 145 = .ok (.bipush 8, 2) := by decide +kernel
theorem dX8_condition_147 : decode cX8_condition 147 = .ok (.goto 5, 3) := by decide +kernel
theorem dX8_condition_150 : decode cX8_condition 150 = .ok (.bipush 9, 2) := by decide +kernel
theorem dX8_condition_152 : decode cX8_condition 152 = .ok (.iastore, 1) := by decide +kernel
theorem dX8_condition_153 : decode cX8_condition 153 = .ok (.aload_n 0, 1) := by decide +kernel
theorem dX8_condition_154 : decode cX8_condition 154 = .ok (.dup, 1) := by decide +kernel
theorem dX8_condition_155 : decode cX8_condition 155 = .ok (.getfield 328, 3) := by decide +kernel
theorem dX8_condition_158 : decode cX8_condition 158 = .ok (.iconst 1, 1) := by decide +kernel
theorem dX8_condition_159 : decode cX8_condition 159 = .ok (.iadd, 1) := by decide +kernel
theorem dX8_condition_160 : decode cX8_condition 160 = .ok (.putfield 328, 3) := by decide +kernel
theorem dX8_condition_163 : decode cX8_condition 163 = .ok (.aload_n 0, 1) := by decide +kernel
theorem dX8_condition_164 : decode cX8_condition 164 = .ok (.invokevirtual 180, 3) := by decide +kernel
theorem dX8_condition_167 : decode cX8_condition 167 = .ok (.goto (-150), 3) := by decide +kernel
theorem dX8_condition_170 : decode cX8_condition 170 = .ok (.aload_n 0, 1) := by decide +kernel
theorem dX8_condition_171 : decode cX8_condition 171 = .ok (.getfield 162, 3) := by decide +kernel
theorem dX8_condition_174 : decode cX8_condition 174 = .ok (.ifCond .ne 10, 3) := by decide +kernel
theorem dX8_condition_177 : decode cX8_condition 177 = .ok (.aload_n 0, 1) := by decide +kernel
theorem dX8_condition_178 : decode cX8_condition 178 = .ok (.invokevirtual 342, 3) := by decide +kernel
theorem dX8_condition_181 : decode cX8_condition 181 = .ok (.ifCond .eq 9, 3) := by decide +kernel
theorem dX8_condition_184 : decode cX8_condition 184 = .ok (.aload_n 0, 1) := by decide +kernel
theorem dX8_condition_185 : decode cX8_condition 185 = .ok (.iconst 1, 1) := by decide +kernel
theorem dX8_condition_186 : decode cX8_condition 186 = .ok (.invokevirtual 186, 3) := by decide +kernel
theorem dX8_condition_189 : decode cX8_condition 189 = .ok (.ireturn, 1) := by decide +kernel
theorem dX8_condition_190 : decode cX8_condition 190 = .ok (.aload_n 0, 1) := by decide +kernel
theorem dX8_condition_191 : decode cX8_condition 191 = .ok (.getfield 328, 3) := by decide +kernel
theorem dX8_condition_194 : decode cX8_condition 194 = .ok (.ifCond .le 10, 3) := by decide +kernel
theorem dX8_condition_197 : decode cX8_condition 197 = .ok (.aload_n 0, 1) := by decide +kernel
theorem dX8_condition_198 : decode cX8_condition 198 = .ok (.invokevirtual 334, 3) := by decide +kernel
theorem dX8_condition_201 : decode cX8_condition 201 = .ok (.goto (-11), 3) := by decide +kernel
theorem dX8_condition_204 : decode cX8_condition 204 = .ok (.iconst 1, 1) := by decide +kernel
theorem dX8_condition_205 : decode cX8_condition 205 = .ok (.ireturn, 1) := by decide +kernel
theorem dX8_joined_0 : decode cX8_joined 0 = .ok (.iload_n 0, 1) := by decide +kernel
theorem dX8_joined_1 : decode cX8_joined 1 = .ok (.tableswitch 88 2 8 #[43, 47, 51, 62, 73, 88, 84], 43) := by decide +kernel
theorem dX8_joined_44 : decode cX8_joined 44 = .ok (.iload_n 1, 1) := by decide +kernel
theorem dX8_joined_45 : decode cX8_joined 45 = .ok (.iload_n 2, 1) := by decide +kernel
theorem dX8_joined_46 : decode cX8_joined 46 = .ok (.iadd, 1) := by decide +kernel
theorem dX8_joined_47 : decode cX8_joined 47 = .ok (.ireturn, 1) := by decide +kernel
theorem dX8_joined_48 : decode cX8_joined 48 = .ok (.iload_n 1, 1) := by decide +kernel
theorem dX8_joined_49 : decode cX8_joined 49 = .ok (.iload_n 2, 1) := by decide +kernel
theorem dX8_joined_50 : decode cX8_joined 50 = .ok (.isub, 1) := by decide +kernel
theorem dX8_joined_51 : decode cX8_joined 51 = .ok (.ireturn, 1) := by decide +kernel
theorem dX8_joined_52 : decode cX8_joined 52 = .ok (.iload_n 1, 1) := by decide +kernel
theorem dX8_joined_53 : decode cX8_joined 53 = .ok (.iload_n 2, 1) := by decide +kernel
theorem dX8_joined_54 : decode cX8_joined 54 = .ok (.if_icmp .ge 7, 3) := by decide +kernel
theorem dX8_joined_57 : decode cX8_joined 57 = .ok (.iconst 1, 1) := by decide +kernel
theorem dX8_joined_58 : decode cX8_joined 58 = .ok (.goto 4, 3) := by decide +kernel
theorem dX8_joined_61 : decode cX8_joined 61 = .ok (.iconst 0, 1) := by decide +kernel
theorem dX8_joined_62 : decode cX8_joined 62 = .ok (.ireturn, 1) := by decide +kernel
theorem dX8_joined_63 : decode cX8_joined 63 = .ok (.iload_n 1, 1) := by decide +kernel
theorem dX8_joined_64 : decode cX8_joined 64 = .ok (.iload_n 2, 1) := by decide +kernel
theorem dX8_joined_65 : decode cX8_joined 65 = .ok (.if_icmp .ne 7, 3) := by decide +kernel
theorem dX8_joined_68 : decode cX8_joined 68 = .ok (.iconst 1, 1) := by decide +kernel
theorem dX8_joined_69 : decode cX8_joined 69 = .ok (.goto 4, 3) := by decide +kernel
theorem dX8_joined_72 : decode cX8_joined 72 = .ok (.iconst 0, 1) := by decide +kernel
theorem dX8_joined_73 : decode cX8_joined 73 = .ok (.ireturn, 1) := by decide +kernel
theorem dX8_joined_74 : decode cX8_joined 74 = .ok (.iload_n 1, 1) := by decide +kernel
theorem dX8_joined_75 : decode cX8_joined 75 = .ok (.iload_n 2, 1) := by decide +kernel
theorem dX8_joined_76 : decode cX8_joined 76 = .ok (.if_icmp .le 7, 3) := by decide +kernel
theorem dX8_joined_79 : decode cX8_joined 79 = .ok (.iconst 1, 1) := by decide +kernel
theorem dX8_joined_80 : decode cX8_joined 80 = .ok (.goto 4, 3) := by decide +kernel
theorem dX8_joined_83 : decode cX8_joined 83 = .ok (.iconst 0, 1) := by decide +kernel
theorem dX8_joined_84 : decode cX8_joined 84 = .ok (.ireturn, 1) := by decide +kernel
theorem dX8_joined_85 : decode cX8_joined 85 = .ok (.iload_n 1, 1) := by decide +kernel
theorem dX8_joined_86 : decode cX8_joined 86 = .ok (.iload_n 2, 1) := by decide +kernel
theorem dX8_joined_87 : decode cX8_joined 87 = .ok (.iand, 1) := by decide +kernel
theorem dX8_joined_88 : decode cX8_joined 88 = .ok (.ireturn, 1) := by decide +kernel
theorem dX8_joined_89 : decode cX8_joined 89 = .ok (.iload_n 1, 1) := by decide +kernel
theorem dX8_joined_90 : decode cX8_joined 90 = .ok (.iload_n 2, 1) := by decide +kernel
theorem dX8_joined_91 : decode cX8_joined 91 = .ok (.ior, 1) := by decide +kernel
theorem dX8_joined_92 : decode cX8_joined 92 = .ok (.ireturn, 1) := by decide +kernel
theorem dX8_holds_0 : decode cX8_holds 0 = .ok (.iconst 0, 1) := by decide +kernel
theorem dX8_holds_1 : decode cX8_holds 1 = .ok (.istore_n 1, 1) := by decide +kernel
theorem dX8_holds_2 : decode cX8_holds 2 = .ok (.iconst 0, 1) := by decide +kernel
theorem dX8_holds_3 : decode cX8_holds 3 = .ok (.istore_n 2, 1) := by decide +kernel
theorem dX8_holds_4 : decode cX8_holds 4 = .ok (.iload_n 2, 1) := by decide +kernel
theorem dX8_holds_5 : decode cX8_holds 5 = .ok (.aload_n 0, 1) := by decide +kernel
theorem dX8_holds_6 : decode cX8_holds 6 = .ok (.getfield 289, 3) := by decide +kernel
theorem dX8_holds_9 : decode cX8_holds 9 = .ok (.if_icmp .ge 125, 3) := by decide +kernel
theorem dX8_holds_12 : decode cX8_holds 12 = .ok (.aload_n 0, 1) := by decide +kernel
theorem dX8_holds_13 : decode cX8_holds 13 = .ok (.getfield 43, 3) := by decide +kernel
theorem dX8_holds_16 : decode cX8_holds 16 = .ok (.iload_n 2, 1) := by decide +kernel
theorem dX8_holds_17 : decode cX8_holds 17 = .ok (.iaload, 1) := by decide +kernel
theorem dX8_holds_18 : decode cX8_holds 18 = .ok (.sipush 1000, 3) := by decide +kernel
theorem dX8_holds_21 : decode cX8_holds 21 = .ok (.idiv, 1) := by decide +kernel
theorem dX8_holds_22 : decode cX8_holds 22 = .ok (.istore_n 3, 1) := by decide +kernel
theorem dX8_holds_23 : decode cX8_holds 23 = .ok (.aload_n 0, 1) := by decide +kernel
theorem dX8_holds_24 : decode cX8_holds 24 = .ok (.getfield 43, 3) := by decide +kernel
theorem dX8_holds_27 : decode cX8_holds 27 = .ok (.iload_n 2, 1) := by decide +kernel
theorem dX8_holds_28 : decode cX8_holds 28 = .ok (.iaload, 1) := by decide +kernel
theorem dX8_holds_29 : decode cX8_holds 29 = .ok (.sipush 1000, 3) := by decide +kernel
theorem dX8_holds_32 : decode cX8_holds 32 = .ok (.irem, 1) := by decide +kernel
theorem dX8_holds_33 : decode cX8_holds 33 = .ok (.istore 4, 2) := by decide +kernel
theorem dX8_holds_35 : decode cX8_holds 35 = .ok (.iload_n 3, 1) := by decide +kernel
theorem dX8_holds_36 : decode cX8_holds 36 = .ok (.ifCond .eq 8, 3) := by decide +kernel
theorem dX8_holds_39 : decode cX8_holds 39 = .ok (.iload_n 3, 1) := by decide +kernel
theorem dX8_holds_40 : decode cX8_holds 40 = .ok (.iconst 1, 1) := by decide +kernel
theorem dX8_holds_41 : decode cX8_holds 41 = .ok (.if_icmp .ne 31, 3) := by decide +kernel
theorem dX8_holds_44 : decode cX8_holds 44 = .ok (.aload_n 0, 1) := by decide +kernel
theorem dX8_holds_45 : decode cX8_holds 45 = .ok (.getfield 52, 3) := by decide +kernel
theorem dX8_holds_48 : decode cX8_holds 48 = .ok (.iload_n 1, 1) := by decide +kernel
theorem dX8_holds_49 : decode cX8_holds 49 = .ok (.iload_n 3, 1) := by decide +kernel
theorem dX8_holds_50 : decode cX8_holds 50 = .ok (.ifCond .ne 8, 3) := by decide +kernel
theorem dX8_holds_53 : decode cX8_holds 53 = .ok (.iload 4, 2) := by decide +kernel
theorem dX8_holds_55 : decode cX8_holds 55 = .ok (.goto 10, 3) := by decide +kernel
theorem dX8_holds_58 : decode cX8_holds 58 = .ok (.aload_n 0, 1) := by decide +kernel
theorem dX8_holds_59 : decode cX8_holds 59 = .ok (.getfield 49, 3) := by decide +kernel
theorem dX8_holds_62 : decode cX8_holds 62 = .ok (.iload 4, 2) := by decide +kernel
theorem dX8_holds_64 : decode cX8_holds 64 = .ok (.iaload, 1) := by decide +kernel
theorem dX8_holds_65 : decode cX8_holds 65 = .ok (.iastore, 1) := by decide +kernel
theorem dX8_holds_66 : decode cX8_holds 66 = .ok (.iinc 1 1, 3) := by decide +kernel
theorem dX8_holds_69 : decode cX8_holds 69 = .ok (.goto 59, 3) := by decide +kernel
theorem dX8_holds_72 : decode cX8_holds 72 = .ok (.iload_n 3, 1) := by decide +kernel
theorem dX8_holds_73 : decode cX8_holds 73 = .ok (.bipush 7, 2) := by decide +kernel
theorem dX8_holds_75 : decode cX8_holds 75 = .ok (.if_icmp .ne 24, 3) := by decide +kernel
theorem dX8_holds_78 : decode cX8_holds 78 = .ok (.aload_n 0, 1) := by decide +kernel
theorem dX8_holds_79 : decode cX8_holds 79 = .ok (.getfield 52, 3) := by decide +kernel
theorem dX8_holds_82 : decode cX8_holds 82 = .ok (.iload_n 1, 1) := by decide +kernel
theorem dX8_holds_83 : decode cX8_holds 83 = .ok (.iconst 1, 1) := by decide +kernel
theorem dX8_holds_84 : decode cX8_holds 84 = .ok (.isub, 1) := by decide +kernel
theorem dX8_holds_85 : decode cX8_holds 85 = .ok (.iconst 1, 1) := by decide +kernel
theorem dX8_holds_86 : decode cX8_holds 86 = .ok (.aload_n 0, 1) := by decide +kernel
theorem dX8_holds_87 : decode cX8_holds 87 = .ok (.getfield 52, 3) := by decide +kernel
theorem dX8_holds_90 : decode cX8_holds 90 = .ok (.iload_n 1, 1) := by decide +kernel
theorem dX8_holds_91 : decode cX8_holds 91 = .ok (.iconst 1, 1) := by decide +kernel
theorem dX8_holds_92 : decode cX8_holds 92 = .ok (.isub, 1) := by decide +kernel
theorem dX8_holds_93 : decode cX8_holds 93 = .ok (.iaload, 1) := by decide +kernel
theorem dX8_holds_94 : decode cX8_holds 94 = .ok (.isub, 1) := by decide +kernel
theorem dX8_holds_95 : decode cX8_holds 95 = .ok (.iastore, 1) := by decide +kernel
theorem dX8_holds_96 : decode cX8_holds 96 = .ok (.goto 32, 3) := by decide +kernel
theorem dX8_holds_99 : decode cX8_holds 99 = .ok (.iinc 1 (-1), 3) := by decide +kernel
theorem dX8_holds_102 : decode cX8_holds 102 = .ok (.aload_n 0, 1) := by decide +kernel
theorem dX8_holds_103 : decode cX8_holds 103 = .ok (.getfield 52, 3) := by decide +kernel
theorem dX8_holds_106 : decode cX8_holds 106 = .ok (.iload_n 1, 1) := by decide +kernel
theorem dX8_holds_107 : decode cX8_holds 107 = .ok (.iconst 1, 1) := by decide +kernel
theorem dX8_holds_108 : decode cX8_holds 108 = .ok (.isub, 1) := by decide +kernel
theorem dX8_holds_109 : decode cX8_holds 109 = .ok (.iload_n 3, 1) := by decide +kernel
theorem dX8_holds_110 : decode cX8_holds 110 = .ok (.aload_n 0, 1) := by decide +kernel
theorem dX8_holds_111 : decode cX8_holds 111 = .ok (.getfield 52, 3) := by decide +kernel
theorem dX8_holds_114 : decode cX8_holds 114 = .ok (.iload_n 1, 1) := by decide +kernel
theorem dX8_holds_115 : decode cX8_holds 115 = .ok (.iconst 1, 1) := by decide +kernel
theorem dX8_holds_116 : decode cX8_holds 116 = .ok (.isub, 1) := by decide +kernel
theorem dX8_holds_117 : decode cX8_holds 117 = .ok (.iaload, 1) := by decide +kernel
theorem dX8_holds_118 : decode cX8_holds 118 = .ok (.aload_n 0, 1) := by decide +kernel
theorem dX8_holds_119 : decode cX8_holds 119 = .ok (.getfield 52, 3) := by decide +kernel
theorem dX8_holds_122 : decode cX8_holds 122 = .ok (.iload_n 1, 1) := by decide +kernel
theorem dX8_holds_123 : decode cX8_holds 123 = .ok (.iaload, 1) := by decide +kernel
theorem dX8_holds_124 : decode cX8_holds 124 = .ok (.invokestatic 361, 3) := by decide +kernel
theorem dX8_holds_127 : decode cX8_holds 127 = .ok (.iastore, 1) := by decide +kernel
theorem dX8_holds_128 : decode cX8_holds 128 = .ok (.iinc 2 1, 3) := by decide +kernel
theorem dX8_holds_131 : decode cX8_holds 131 = .ok (.goto (-127), 3) := by decide +kernel
theorem dX8_holds_134 : decode cX8_holds 134 = .ok (.aload_n 0, 1) := by decide +kernel
theorem dX8_holds_135 : decode cX8_holds 135 = .ok (.getfield 52, 3) := by decide +kernel
theorem dX8_holds_138 : decode cX8_holds 138 = .ok (.iconst 0, 1) := by decide +kernel
theorem dX8_holds_139 : decode cX8_holds 139 = .ok (.iaload, 1) := by decide +kernel
theorem dX8_holds_140 : decode cX8_holds 140 = .ok (.iconst 1, 1) := by decide +kernel
theorem dX8_holds_141 : decode cX8_holds 141 = .ok (.if_icmp .ne 7, 3) := by decide +kernel
theorem dX8_holds_144 : decode cX8_holds 144 = .ok (.iconst 1, 1) := by decide +kernel
theorem dX8_holds_145 : decode cX8_holds 145 = .ok (.goto 4, 3) := by decide +kernel
theorem dX8_holds_148 : decode cX8_holds 148 = .ok (.iconst 0, 1) := by decide +kernel
theorem dX8_holds_149 : decode cX8_holds 149 = .ok (.ireturn, 1) := by decide +kernel
theorem dX8_askLives_0 : decode cX8_askLives 0 = .ok (.iconst 0, 1) := by decide +kernel
theorem dX8_askLives_1 : decode cX8_askLives 1 = .ok (.istore_n 2, 1) := by decide +kernel
theorem dX8_askLives_2 : decode cX8_askLives 2 = .ok (.iconst 0, 1) := by decide +kernel
theorem dX8_askLives_3 : decode cX8_askLives 3 = .ok (.istore_n 3, 1) := by decide +kernel
theorem dX8_askLives_4 : decode cX8_askLives 4 = .ok (.iload_n 3, 1) := by decide +kernel
theorem dX8_askLives_5 : decode cX8_askLives 5 = .ok (.aload_n 0, 1) := by decide +kernel
theorem dX8_askLives_6 : decode cX8_askLives 6 = .ok (.getfield 13, 3) := by decide +kernel
theorem dX8_askLives_9 : decode cX8_askLives 9 = .ok (.iconst 0, 1) := by decide +kernel
theorem dX8_askLives_10 : decode cX8_askLives 10 = .ok (.iaload, 1) := by decide +kernel
theorem dX8_askLives_11 : decode cX8_askLives 11 = .ok (.if_icmp .ge 115, 3) := by decide +kernel
theorem dX8_askLives_14 : decode cX8_askLives 14 = .ok (.aload_n 0, 1) := by decide +kernel
theorem dX8_askLives_15 : decode cX8_askLives 15 = .ok (.getfield 49, 3) := by decide +kernel
theorem dX8_askLives_18 : decode cX8_askLives 18 = .ok (.iconst 0, 1) := by decide +kernel
theorem dX8_askLives_19 : decode cX8_askLives 19 = .ok (.aload_n 0, 1) := by decide +kernel
theorem dX8_askLives_20 : decode cX8_askLives 20 = .ok (.iload_n 3, 1) := by decide +kernel
theorem dX8_askLives_21 : decode cX8_askLives 21 = .ok (.iconst 0, 1) := by decide +kernel
theorem dX8_askLives_22 : decode cX8_askLives 22 = .ok (.invokevirtual 123, 3) := by decide +kernel
theorem dX8_askLives_25 : decode cX8_askLives 25 = .ok (.iastore, 1) := by decide +kernel
theorem dX8_askLives_26 : decode cX8_askLives 26 = .ok (.aload_n 0, 1) := by decide +kernel
theorem dX8_askLives_27 : decode cX8_askLives 27 = .ok (.getfield 49, 3) := by decide +kernel
theorem dX8_askLives_30 : decode cX8_askLives 30 = .ok (.iconst 1, 1) := by decide +kernel
theorem dX8_askLives_31 : decode cX8_askLives 31 = .ok (.aload_n 0, 1) := by decide +kernel
theorem dX8_askLives_32 : decode cX8_askLives 32 = .ok (.iload_n 3, 1) := by decide +kernel
theorem dX8_askLives_33 : decode cX8_askLives 33 = .ok (.iconst 1, 1) := by decide +kernel
theorem dX8_askLives_34 : decode cX8_askLives 34 = .ok (.invokevirtual 123, 3) := by decide +kernel
theorem dX8_askLives_37 : decode cX8_askLives 37 = .ok (.iastore, 1) := by decide +kernel
theorem dX8_askLives_38 : decode cX8_askLives 38 = .ok (.aload_n 0, 1) := by decide +kernel
theorem dX8_askLives_39 : decode cX8_askLives 39 = .ok (.getfield 49, 3) := by decide +kernel
theorem dX8_askLives_42 : decode cX8_askLives 42 = .ok (.iconst 2, 1) := by decide +kernel
theorem dX8_askLives_43 : decode cX8_askLives 43 = .ok (.aload_n 0, 1) := by decide +kernel
theorem dX8_askLives_44 : decode cX8_askLives 44 = .ok (.iload_n 3, 1) := by decide +kernel
theorem dX8_askLives_45 : decode cX8_askLives 45 = .ok (.iconst 2, 1) := by decide +kernel
theorem dX8_askLives_46 : decode cX8_askLives 46 = .ok (.invokevirtual 123, 3) := by decide +kernel
theorem dX8_askLives_49 : decode cX8_askLives 49 = .ok (.iastore, 1) := by decide +kernel
theorem dX8_askLives_50 : decode cX8_askLives 50 = .ok (.aload_n 0, 1) := by decide +kernel
theorem dX8_askLives_51 : decode cX8_askLives 51 = .ok (.getfield 49, 3) := by decide +kernel
theorem dX8_askLives_54 : decode cX8_askLives 54 = .ok (.iconst 3, 1) := by decide +kernel
theorem dX8_askLives_55 : decode cX8_askLives 55 = .ok (.aload_n 0, 1) := by decide +kernel
theorem dX8_askLives_56 : decode cX8_askLives 56 = .ok (.iload_n 3, 1) := by decide +kernel
theorem dX8_askLives_57 : decode cX8_askLives 57 = .ok (.iconst 2, 1) := by decide +kernel
theorem dX8_askLives_58 : decode cX8_askLives 58 = .ok (.invokevirtual 123, 3) := by decide +kernel
theorem dX8_askLives_61 : decode cX8_askLives 61 = .ok (.aload_n 0, 1) := by decide +kernel
theorem dX8_askLives_62 : decode cX8_askLives 62 = .ok (.iload_n 3, 1) := by decide +kernel
theorem dX8_askLives_63 : decode cX8_askLives 63 = .ok (.iconst 1, 1) := by decide +kernel
theorem dX8_askLives_64 : decode cX8_askLives 64 = .ok (.invokevirtual 123, 3) := by decide +kernel
theorem dX8_askLives_67 : decode cX8_askLives 67 = .ok (.isub, 1) := by decide +kernel
theorem dX8_askLives_68 : decode cX8_askLives 68 = .ok (.iastore, 1) := by decide +kernel
theorem dX8_askLives_69 : decode cX8_askLives 69 = .ok (.aload_n 0, 1) := by decide +kernel
theorem dX8_askLives_70 : decode cX8_askLives 70 = .ok (.getfield 49, 3) := by decide +kernel
theorem dX8_askLives_73 : decode cX8_askLives 73 = .ok (.iconst 4, 1) := by decide +kernel
theorem dX8_askLives_74 : decode cX8_askLives 74 = .ok (.aload_n 0, 1) := by decide +kernel
theorem dX8_askLives_75 : decode cX8_askLives 75 = .ok (.iload_n 3, 1) := by decide +kernel
theorem dX8_askLives_76 : decode cX8_askLives 76 = .ok (.iconst 3, 1) := by decide +kernel
theorem dX8_askLives_77 : decode cX8_askLives 77 = .ok (.invokevirtual 123, 3) := by decide +kernel
theorem dX8_askLives_80 : decode cX8_askLives 80 = .ok (.iastore, 1) := by decide +kernel
theorem dX8_askLives_81 : decode cX8_askLives 81 = .ok (.aload_n 0, 1) := by decide +kernel
theorem dX8_askLives_82 : decode cX8_askLives 82 = .ok (.getfield 49, 3) := by decide +kernel
theorem dX8_askLives_85 : decode cX8_askLives 85 = .ok (.iconst 5, 1) := by decide +kernel
theorem dX8_askLives_86 : decode cX8_askLives 86 = .ok (.aload_n 0, 1) := by decide +kernel
theorem dX8_askLives_87 : decode cX8_askLives 87 = .ok (.iload_n 3, 1) := by decide +kernel
theorem dX8_askLives_88 : decode cX8_askLives 88 = .ok (.invokevirtual 364, 3) := by decide +kernel
theorem dX8_askLives_91 : decode cX8_askLives 91 = .ok (.iastore, 1) := by decide +kernel
theorem dX8_askLives_92 : decode cX8_askLives 92 = .ok (.iload_n 2, 1) := by decide +kernel
theorem dX8_askLives_93 : decode cX8_askLives 93 = .ok (.aload_n 0, 1) := by decide +kernel
theorem dX8_askLives_94 : decode cX8_askLives 94 = .ok (.invokevirtual 367, 3) := by decide +kernel
theorem dX8_askLives_97 : decode cX8_askLives 97 = .ok (.ifCond .eq 20, 3) := by decide +kernel
theorem dX8_askLives_100 : decode cX8_askLives 100 = .ok (.iload_n 1, 1) := by decide +kernel
theorem dX8_askLives_101 : decode cX8_askLives 101 = .ok (.ifCond .eq 12, 3) := by decide +kernel
theorem dX8_askLives_104 : decode cX8_askLives 104 = .ok (.aload_n 0, 1) := by decide +kernel
theorem dX8_askLives_105 : decode cX8_askLives 105 = .ok (.iload_n 3, 1) := by decide +kernel
theorem dX8_askLives_106 : decode cX8_askLives 106 = .ok (.iconst 3, 1) := by decide +kernel
theorem dX8_askLives_107 : decode cX8_askLives 107 = .ok (.invokevirtual 123, 3) := by decide +kernel
theorem dX8_askLives_110 : decode cX8_askLives 110 = .ok (.goto 8, 3) := by decide +kernel
theorem dX8_askLives_113 : decode cX8_askLives 113 = .ok (.iconst 1, 1) := by decide +kernel
theorem dX8_askLives_114 : decode cX8_askLives 114 = .ok (.goto 4, 3) := by decide +kernel
theorem dX8_askLives_117 : decode cX8_askLives 117 = .ok (.iconst 0, 1) := by decide +kernel
theorem dX8_askLives_118 : decode cX8_askLives 118 = .ok (.iadd, 1) := by decide +kernel
theorem dX8_askLives_119 : decode cX8_askLives 119 = .ok (.istore_n 2, 1) := by decide +kernel
theorem dX8_askLives_120 : decode cX8_askLives 120 = .ok (.iinc 3 1, 3) := by decide +kernel
theorem dX8_askLives_123 : decode cX8_askLives 123 = .ok (.goto (-119), 3) := by decide +kernel
theorem dX8_askLives_126 : decode cX8_askLives 126 = .ok (.iload_n 2, 1) := by decide +kernel
theorem dX8_askLives_127 : decode cX8_askLives 127 = .ok (.ireturn, 1) := by decide +kernel
theorem dX8_askHours_0 : decode cX8_askHours 0 = .ok (.iconst 0, 1) := by decide +kernel
theorem dX8_askHours_1 : decode cX8_askHours 1 = .ok (.istore_n 2, 1) := by decide +kernel
theorem dX8_askHours_2 : decode cX8_askHours 2 = .ok (.iconst 0, 1) := by decide +kernel
theorem dX8_askHours_3 : decode cX8_askHours 3 = .ok (.istore_n 3, 1) := by decide +kernel
theorem dX8_askHours_4 : decode cX8_askHours 4 = .ok (.iconst 0, 1) := by decide +kernel
theorem dX8_askHours_5 : decode cX8_askHours 5 = .ok (.istore 4, 2) := by decide +kernel
theorem dX8_askHours_7 : decode cX8_askHours 7 = .ok (.iconst 0, 1) := by decide +kernel
theorem dX8_askHours_8 : decode cX8_askHours 8 = .ok (.istore 5, 2) := by decide +kernel
theorem dX8_askHours_10 : decode cX8_askHours 10 = .ok (.iload 5, 2) := by decide +kernel
theorem dX8_askHours_12 : decode cX8_askHours 12 = .ok (.bipush 64, 2) := by decide +kernel
theorem dX8_askHours_14 : decode cX8_askHours 14 = .ok (.if_icmp .ge 120, 3) := by decide +kernel
theorem dX8_askHours_17 : decode cX8_askHours 17 = .ok (.aload_n 0, 1) := by decide +kernel
theorem dX8_askHours_18 : decode cX8_askHours 18 = .ok (.getfield 49, 3) := by decide +kernel
theorem dX8_askHours_21 : decode cX8_askHours 21 = .ok (.iconst 0, 1) := by decide +kernel
theorem dX8_askHours_22 : decode cX8_askHours 22 = .ok (.iload 5, 2) := by decide +kernel
theorem dX8_askHours_24 : decode cX8_askHours 24 = .ok (.iastore, 1) := by decide +kernel
theorem dX8_askHours_25 : decode cX8_askHours 25 = .ok (.aload_n 0, 1) := by decide +kernel
theorem dX8_askHours_26 : decode cX8_askHours 26 = .ok (.getfield 49, 3) := by decide +kernel
theorem dX8_askHours_29 : decode cX8_askHours 29 = .ok (.iconst 1, 1) := by decide +kernel
theorem dX8_askHours_30 : decode cX8_askHours 30 = .ok (.aload_n 0, 1) := by decide +kernel
theorem dX8_askHours_31 : decode cX8_askHours 31 = .ok (.iload 5, 2) := by decide +kernel
theorem dX8_askHours_33 : decode cX8_askHours 33 = .ok (.invokevirtual 370, 3) := by decide +kernel
theorem dX8_askHours_36 : decode cX8_askHours 36 = .ok (.iastore, 1) := by decide +kernel
theorem dX8_askHours_37 : decode cX8_askHours 37 = .ok (.aload_n 0, 1) := by decide +kernel
theorem dX8_askHours_38 : decode cX8_askHours 38 = .ok (.getfield 49, 3) := by decide +kernel
theorem dX8_askHours_41 : decode cX8_askHours 41 = .ok (.iconst 2, 1) := by decide +kernel
theorem dX8_askHours_42 : decode cX8_askHours 42 = .ok (.aload_n 0, 1) := by decide +kernel
theorem dX8_askHours_43 : decode cX8_askHours 43 = .ok (.iload 5, 2) := by decide +kernel
theorem dX8_askHours_45 : decode cX8_askHours 45 = .ok (.iconst 0, 1) := by decide +kernel
theorem dX8_askHours_46 : decode cX8_askHours 46 = .ok (.sipush 999, 3) := by decide +kernel
theorem dX8_askHours_49 : decode cX8_askHours 49 = .ok (.invokevirtual 373, 3) := by decide +kernel
theorem dX8_askHours_52 : decode cX8_askHours 52 = .ok (.iastore, 1) := by decide +kernel
theorem dX8_askHours_53 : decode cX8_askHours 53 = .ok (.aload_n 0, 1) := by decide +kernel
theorem dX8_askHours_54 : decode cX8_askHours 54 = .ok (.getfield 49, 3) := by decide +kernel
theorem dX8_askHours_57 : decode cX8_askHours 57 = .ok (.iconst 3, 1) := by decide +kernel
theorem dX8_askHours_58 : decode cX8_askHours 58 = .ok (.aload_n 0, 1) := by decide +kernel
theorem dX8_askHours_59 : decode cX8_askHours 59 = .ok (.iconst 0, 1) := by decide +kernel
theorem dX8_askHours_60 : decode cX8_askHours 60 = .ok (.iload 5, 2) := by decide +kernel
theorem dX8_askHours_62 : decode cX8_askHours 62 = .ok (.invokevirtual 376, 3) := by decide +kernel
theorem dX8_askHours_65 : decode cX8_askHours 65 = .ok (.iastore, 1) := by decide +kernel
theorem dX8_askHours_66 : decode cX8_askHours 66 = .ok (.aload_n 0, 1) := by decide +kernel
theorem dX8_askHours_67 : decode cX8_askHours 67 = .ok (.getfield 49, 3) := by decide +kernel
theorem dX8_askHours_70 : decode cX8_askHours 70 = .ok (.iconst 4, 1) := by decide +kernel
theorem dX8_askHours_71 : decode cX8_askHours 71 = .ok (.aload_n 0, 1) := by decide +kernel
theorem dX8_askHours_72 : decode cX8_askHours 72 = .ok (.sipush 999, 3) := by decide +kernel
theorem dX8_askHours_75 : decode cX8_askHours 75 = .ok (.iload 5, 2) := by decide +kernel
theorem dX8_askHours_77 : decode cX8_askHours 77 = .ok (.invokevirtual 379, 3) := by decide +kernel
theorem dX8_askHours_80 : decode cX8_askHours 80 = .ok (.iastore, 1) := by decide +kernel
theorem dX8_askHours_81 : decode cX8_askHours 81 = .ok (.aload_n 0, 1) := by decide +kernel
theorem dX8_askHours_82 : decode cX8_askHours 82 = .ok (.invokevirtual 367, 3) := by decide +kernel
theorem dX8_askHours_85 : decode cX8_askHours 85 = .ok (.istore 6, 2) := by decide +kernel
theorem dX8_askHours_87 : decode cX8_askHours 87 = .ok (.iload_n 2, 1) := by decide +kernel
theorem dX8_askHours_88 : decode cX8_askHours 88 = .ok (.iload 6, 2) := by decide +kernel
theorem dX8_askHours_90 : decode cX8_askHours 90 = .ok (.ifCond .eq 7, 3) := by decide +kernel
theorem dX8_askHours_93 : decode cX8_askHours 93 = .ok (.iconst 1, 1) := by decide +kernel
theorem dX8_askHours_94 : decode cX8_askHours 94 = .ok (.goto 4, 3) := by decide +kernel
theorem dX8_askHours_97 : decode cX8_askHours 97 = .ok (.iconst 0, 1) := by decide +kernel
theorem dX8_askHours_98 : decode cX8_askHours 98 = .ok (.iadd, 1) := by decide +kernel
theorem dX8_askHours_99 : decode cX8_askHours 99 = .ok (.istore_n 2, 1) := by decide +kernel
theorem dX8_askHours_100 : decode cX8_askHours 100 = .ok (.iload 6, 2) := by decide +kernel
theorem dX8_askHours_102 : decode cX8_askHours 102 = .ok (.ifCond .eq 10, 3) := by decide +kernel
theorem dX8_askHours_105 : decode cX8_askHours 105 = .ok (.iload 4, 2) := by decide +kernel
theorem dX8_askHours_107 : decode cX8_askHours 107 = .ok (.iconst 1, 1) := by decide +kernel
theorem dX8_askHours_108 : decode cX8_askHours 108 = .ok (.iadd, 1) := by decide +kernel
theorem dX8_askHours_109 : decode cX8_askHours 109 = .ok (.goto 4, 3) := by decide +kernel
theorem dX8_askHours_112 : decode cX8_askHours 112 = .ok (.iconst 0, 1) := by decide +kernel
theorem dX8_askHours_113 : decode cX8_askHours 113 = .ok (.istore 4, 2) := by decide +kernel
theorem dX8_askHours_115 : decode cX8_askHours 115 = .ok (.iload 4, 2) := by decide +kernel
theorem dX8_askHours_117 : decode cX8_askHours 117 = .ok (.iload_n 3, 1) := by decide +kernel
theorem dX8_askHours_118 : decode cX8_askHours 118 = .ok (.if_icmp .le 8, 3) := by decide +kernel
theorem dX8_askHours_121 : decode cX8_askHours 121 = .ok (.iload 4, 2) := by decide +kernel
theorem dX8_askHours_123 : decode cX8_askHours 123 = .ok (.goto 4, 3) := by decide +kernel
theorem dX8_askHours_126 : decode cX8_askHours 126 = .ok (.iload_n 3, 1) := by decide +kernel
theorem dX8_askHours_127 : decode cX8_askHours 127 = .ok (.istore_n 3, 1) := by decide +kernel
theorem dX8_askHours_128 : decode cX8_askHours 128 = .ok (.iinc 5 1, 3) := by decide +kernel
theorem dX8_askHours_131 : decode cX8_askHours 131 = .ok (.goto (-121), 3) := by decide +kernel
theorem dX8_askHours_134 : decode cX8_askHours 134 = .ok (.iload_n 1, 1) := by decide +kernel
theorem dX8_askHours_135 : decode cX8_askHours 135 = .ok (.ifCond .eq 7, 3) := by decide +kernel
theorem dX8_askHours_138 : decode cX8_askHours 138 = .ok (.iload_n 3, 1) := by decide +kernel
theorem dX8_askHours_139 : decode cX8_askHours 139 = .ok (.goto 4, 3) := by decide +kernel
theorem dX8_askHours_142 : decode cX8_askHours 142 = .ok (.iload_n 2, 1) := by decide +kernel
theorem dX8_askHours_143 : decode cX8_askHours 143 = .ok (.ireturn, 1) := by decide +kernel
theorem dX8_ask_0 : decode cX8_ask 0 = .ok (.aload_n 0, 1) := by decide +kernel
theorem dX8_ask_1 : decode cX8_ask 1 = .ok (.iload_n 1, 1) := by decide +kernel
theorem dX8_ask_2 : decode cX8_ask 2 = .ok (.invokevirtual 274, 3) := by decide +kernel
theorem dX8_ask_5 : decode cX8_ask 5 = .ok (.ifCond .ne 5, 3) := by decide +kernel
theorem dX8_ask_8 : decode cX8_ask 8 = .ok (.iconst (-1), 1) := by decide +kernel
theorem dX8_ask_9 : decode cX8_ask 9 = .ok (.ireturn, 1) := by decide +kernel
theorem dX8_ask_10 : decode cX8_ask 10 = .ok (.aload_n 0, 1) := by decide +kernel
theorem dX8_ask_11 : decode cX8_ask 11 = .ok (.ldc2_w 382, 3) := by decide +kernel
theorem dX8_ask_14 : decode cX8_ask 14 = .ok (.invokevirtual 192, 3) := by decide +kernel
theorem dX8_ask_17 : decode cX8_ask 17 = .ok (.ifCond .eq 7, 3) := by decide +kernel
theorem dX8_ask_20 : decode cX8_ask 20 = .ok (.iconst 0, 1) := by decide +kernel
theorem dX8_ask_21 : decode cX8_ask 21 = .ok (.goto 46, 3) := by decide +kernel
theorem dX8_ask_24 : decode cX8_ask 24 = .ok (.aload_n 0, 1) := by decide +kernel
theorem dX8_ask_25 : decode cX8_ask 25 = .ok (.ldc2_w 203, 3) := by decide +kernel
theorem dX8_ask_28 : decode cX8_ask 28 = .ok (.invokevirtual 192, 3) := by decide +kernel
theorem dX8_ask_31 : decode cX8_ask 31 = .ok (.ifCond .eq 7, 3) := by decide +kernel
theorem dX8_ask_34 : decode cX8_ask 34 = .ok (.iconst 1, 1) := by decide +kernel
theorem dX8_ask_35 : decode cX8_ask 35 = .ok (.goto 32, 3) := by decide +kernel
theorem dX8_ask_38 : decode cX8_ask 38 = .ok (.aload_n 0, 1) := by decide +kernel
theorem dX8_ask_39 : decode cX8_ask 39 = .ok (.ldc2_w 384, 3) := by decide +kernel
theorem dX8_ask_42 : decode cX8_ask 42 = .ok (.invokevirtual 192, 3) := by decide +kernel
theorem dX8_ask_45 : decode cX8_ask 45 = .ok (.ifCond .eq 7, 3) := by decide +kernel
theorem dX8_ask_48 : decode cX8_ask 48 = .ok (.iconst 2, 1) := by decide +kernel
theorem dX8_ask_49 : decode cX8_ask 49 = .ok (.goto 18, 3) := by decide +kernel
theorem dX8_ask_52 : decode cX8_ask 52 = .ok (.aload_n 0, 1) := by decide +kernel
theorem dX8_ask_53 : decode cX8_ask 53 = .ok (.ldc2_w 386, 3) := by decide +kernel
theorem dX8_ask_56 : decode cX8_ask 56 = .ok (.invokevirtual 192, 3) := by decide +kernel
theorem dX8_ask_59 : decode cX8_ask 59 = .ok (.ifCond .eq 7, 3) := by decide +kernel
theorem dX8_ask_62 : decode cX8_ask 62 = .ok (.iconst 3, 1) := by decide +kernel
theorem dX8_ask_63 : decode cX8_ask 63 = .ok (.goto 4, 3) := by decide +kernel
theorem dX8_ask_66 : decode cX8_ask 66 = .ok (.iconst (-1), 1) := by decide +kernel
theorem dX8_ask_67 : decode cX8_ask 67 = .ok (.istore_n 2, 1) := by decide +kernel
theorem dX8_ask_68 : decode cX8_ask 68 = .ok (.iload_n 2, 1) := by decide +kernel
theorem dX8_ask_69 : decode cX8_ask 69 = .ok (.iconst (-1), 1) := by decide +kernel
theorem dX8_ask_70 : decode cX8_ask 70 = .ok (.if_icmp .ne 24, 3) := by decide +kernel
theorem dX8_ask_73 : decode cX8_ask 73 = .ok (.aload_n 0, 1) := by decide +kernel
theorem dX8_ask_74 : decode cX8_ask 74 = .ok (.iconst 1, 1) := by decide +kernel
theorem dX8_ask_75 : decode cX8_ask 75 = .ok (.invokevirtual 186, 3) := by decide +kernel
theorem dX8_ask_78 : decode cX8_ask 78 = .ok (.pop, 1) := by decide +kernel
theorem dX8_ask_79 : decode cX8_ask 79 = .ok (.bipush (-2), 2) := by decide +kernel
theorem dX8_ask_81 : decode cX8_ask 81 = .ok (.iconst 2, 1) := by decide +kernel
theorem dX8_ask_82 : decode cX8_ask 82 = .ok (.aload_n 0, 1) := by decide +kernel
theorem dX8_ask_83 : decode cX8_ask 83 = .ok (.getfield 177, 3) := by decide +kernel
theorem dX8_ask_86 : decode cX8_ask 86 = .ok (.imul, 1) := by decide +kernel
theorem dX8_ask_87 : decode cX8_ask 87 = .ok (.aload_n 0, 1) := by decide +kernel
theorem dX8_ask_88 : decode cX8_ask 88 = .ok (.getfield 183, 3) := by decide +kernel
theorem dX8_ask_91 : decode cX8_ask 91 = .ok (.iadd, 1) := by decide +kernel
theorem dX8_ask_92 : decode cX8_ask 92 = .ok (.isub, 1) := by decide +kernel
theorem dX8_ask_93 : decode cX8_ask 93 = .ok (.ireturn, 1) := by decide +kernel
theorem dX8_ask_94 : decode cX8_ask 94 = .ok (.aload_n 0, 1) := by decide +kernel
theorem dX8_ask_95 : decode cX8_ask 95 = .ok (.iload_n 2, 1) := by decide +kernel
theorem dX8_ask_96 : decode cX8_ask 96 = .ok (.iconst 1, 1) := by decide +kernel
theorem dX8_ask_97 : decode cX8_ask 97 = .ok (.if_icmp .le 7, 3) := by decide +kernel
theorem dX8_ask_100 : decode cX8_ask 100 = .ok (.iconst 1, 1) := by decide +kernel
theorem dX8_ask_101 : decode cX8_ask 101 = .ok (.goto 4, 3) := by decide +kernel
theorem dX8_ask_104 : decode cX8_ask 104 = .ok (.iconst 0, 1) := by decide +kernel
theorem dX8_ask_105 : decode cX8_ask 105 = .ok (.putfield 292, 3) := by decide +kernel
theorem dX8_ask_108 : decode cX8_ask 108 = .ok (.aload_n 0, 1) := by decide +kernel
theorem dX8_ask_109 : decode cX8_ask 109 = .ok (.invokevirtual 180, 3) := by decide +kernel
theorem dX8_ask_112 : decode cX8_ask 112 = .ok (.aload_n 0, 1) := by decide +kernel
theorem dX8_ask_113 : decode cX8_ask 113 = .ok (.ldc2_w 388, 3) := by decide +kernel
theorem dX8_ask_116 : decode cX8_ask 116 = .ok (.invokevirtual 210, 3) := by decide +kernel
theorem dX8_ask_119 : decode cX8_ask 119 = .ok (.ifCond .eq 10, 3) := by decide +kernel
theorem dX8_ask_122 : decode cX8_ask 122 = .ok (.aload_n 0, 1) := by decide +kernel
theorem dX8_ask_123 : decode cX8_ask 123 = .ok (.invokevirtual 390, 3) := by decide +kernel
theorem dX8_ask_126 : decode cX8_ask 126 = .ok (.ifCond .ne 18, 3) := by decide +kernel
theorem dX8_ask_129 : decode cX8_ask 129 = .ok (.bipush (-2), 2) := by decide +kernel
theorem dX8_ask_131 : decode cX8_ask 131 = .ok (.iconst 2, 1) := by decide +kernel
theorem dX8_ask_132 : decode cX8_ask 132 = .ok (.aload_n 0, 1) := by decide +kernel
theorem dX8_ask_133 : decode cX8_ask 133 = .ok (.getfield 177, 3) := by decide +kernel
theorem dX8_ask_136 : decode cX8_ask 136 = .ok (.imul, 1) := by decide +kernel
theorem dX8_ask_137 : decode cX8_ask 137 = .ok (.aload_n 0, 1) := by decide +kernel
theorem dX8_ask_138 : decode cX8_ask 138 = .ok (.getfield 183, 3) := by decide +kernel
theorem dX8_ask_141 : decode cX8_ask 141 = .ok (.iadd, 1) := by decide +kernel
theorem dX8_ask_142 : decode cX8_ask 142 = .ok (.isub, 1) := by decide +kernel
theorem dX8_ask_143 : decode cX8_ask 143 = .ok (.ireturn, 1) := by decide +kernel
theorem dX8_ask_144 : decode cX8_ask 144 = .ok (.aload_n 0, 1) := by decide +kernel
theorem dX8_ask_145 : decode cX8_ask 145 = .ok (.getfield 292, 3) := by decide +kernel
theorem dX8_ask_148 : decode cX8_ask 148 = .ok (.ifCond .eq 20, 3) := by decide +kernel
theorem dX8_ask_151 : decode cX8_ask 151 = .ok (.aload_n 0, 1) := by decide +kernel
theorem dX8_ask_152 : decode cX8_ask 152 = .ok (.iload_n 2, 1) := by decide +kernel
theorem dX8_ask_153 : decode cX8_ask 153 = .ok (.iconst 3, 1) := by decide +kernel
theorem dX8_ask_154 : decode cX8_ask 154 = .ok (.if_icmp .ne 7, 3) := by decide +kernel
theorem dX8_ask_157 : decode cX8_ask 157 = .ok (.iconst 1, 1) := by decide +kernel
theorem dX8_ask_158 : decode cX8_ask 158 = .ok (.goto 4, 3) := by decide +kernel
theorem dX8_ask_161 : decode cX8_ask 161 = .ok (.iconst 0, 1) := by decide +kernel
theorem dX8_ask_162 : decode cX8_ask 162 = .ok (.invokevirtual 393, 3) := by decide +kernel
theorem dX8_ask_165 : decode cX8_ask 165 = .ok (.goto 17, 3) := by decide +kernel
theorem dX8_ask_168 : decode cX8_ask 168 = .ok (.aload_n 0, 1) := by decide +kernel
theorem dX8_ask_169 : decode cX8_ask 169 = .ok (.iload_n 2, 1) := by decide +kernel
theorem dX8_ask_170 : decode cX8_ask 170 = .ok (.iconst 1, 1) := by decide +kernel
theorem dX8_ask_171 : decode cX8_ask 171 = .ok (.if_icmp .ne 7, 3) := by decide +kernel
theorem dX8_ask_174 : decode cX8_ask 174 = .ok (.iconst 1, 1) := by decide +kernel
theorem dX8_ask_175 : decode cX8_ask 175 = .ok (.goto 4, 3) := by decide +kernel
theorem dX8_ask_178 : decode cX8_ask 178 = .ok (.iconst 0, 1) := by decide +kernel
theorem dX8_ask_179 : decode cX8_ask 179 = .ok (.invokevirtual 397, 3) := by decide +kernel
theorem dX8_ask_182 : decode cX8_ask 182 = .ok (.ireturn, 1) := by decide +kernel
theorem dX8_says_0 : decode cX8_says 0 = .ok (.aload_n 0, 1) := by decide +kernel
theorem dX8_says_1 : decode cX8_says 1 = .ok (.getfield 55, 3) := by decide +kernel
theorem dX8_says_4 : decode cX8_says 4 = .ok (.aload_n 0, 1) := by decide +kernel
theorem dX8_says_5 : decode cX8_says 5 = .ok (.getfield 400, 3) := by decide +kernel
theorem dX8_says_8 : decode cX8_says 8 = .ok (.iload_n 1, 1) := by decide +kernel
theorem dX8_says_9 : decode cX8_says 9 = .ok (.iastore, 1) := by decide +kernel
theorem dX8_says_10 : decode cX8_says 10 = .ok (.aload_n 0, 1) := by decide +kernel
theorem dX8_says_11 : decode cX8_says 11 = .ok (.dup, 1) := by decide +kernel
theorem dX8_says_12 : decode cX8_says 12 = .ok (.getfield 400, 3) := by decide +kernel
theorem dX8_says_15 : decode cX8_says 15 = .ok (.iconst 1, 1) := by decide +kernel
theorem dX8_says_16 : decode cX8_says 16 = .ok (.iadd, 1) := by decide +kernel
theorem dX8_says_17 : decode cX8_says 17 = .ok (.putfield 400, 3) := by decide +kernel
theorem dX8_says_20 : decode cX8_says 20 = .ok (.return_, 1) := by decide +kernel
theorem dX8_saysNumber_0 : decode cX8_saysNumber 0 = .ok (.iload_n 1, 1) := by decide +kernel
theorem dX8_saysNumber_1 : decode cX8_saysNumber 1 = .ok (.bipush 99, 2) := by decide +kernel
theorem dX8_saysNumber_3 : decode cX8_saysNumber 3 = .ok (.if_icmp .le 14, 3) := by decide +kernel
theorem dX8_saysNumber_6 : decode cX8_saysNumber 6 = .ok (.aload_n 0, 1) := by decide +kernel
theorem dX8_saysNumber_7 : decode cX8_saysNumber 7 = .ok (.bipush 48, 2) := by decide +kernel
theorem dX8_saysNumber_9 : decode cX8_saysNumber 9 = .ok (.iload_n 1, 1) := by decide +kernel
theorem dX8_saysNumber_10 : decode cX8_saysNumber 10 = .ok (.bipush 100, 2) := by decide +kernel
theorem dX8_saysNumber_12 : decode cX8_saysNumber 12 = .ok (.idiv, 1) := by decide +kernel
theorem dX8_saysNumber_13 : decode cX8_saysNumber 13 = .ok (.iadd, 1) := by decide +kernel
theorem dX8_saysNumber_14 : decode cX8_saysNumber 14 = .ok (.invokevirtual 403, 3) := by decide +kernel
theorem dX8_saysNumber_17 : decode cX8_saysNumber 17 = .ok (.iload_n 1, 1) := by decide +kernel
theorem dX8_saysNumber_18 : decode cX8_saysNumber 18 = .ok (.bipush 9, 2) := by decide +kernel
theorem dX8_saysNumber_20 : decode cX8_saysNumber 20 = .ok (.if_icmp .le 17, 3) := by decide +kernel
theorem dX8_saysNumber_23 : decode cX8_saysNumber 23 = .ok (.aload_n 0, 1) := by decide +kernel
theorem dX8_saysNumber_24 : decode cX8_saysNumber 24 = .ok (.bipush 48, 2) := by decide +kernel
theorem dX8_saysNumber_26 : decode cX8_saysNumber 26 = .ok (.iload_n 1, 1) := by decide +kernel
theorem dX8_saysNumber_27 : decode cX8_saysNumber 27 = .ok (.bipush 10, 2) := by decide +kernel
theorem dX8_saysNumber_29 : decode cX8_saysNumber 29 = .ok (.idiv, 1) := by decide +kernel
theorem dX8_saysNumber_30 : decode cX8_saysNumber 30 = .ok (.bipush 10, 2) := by decide +kernel
theorem dX8_saysNumber_32 : decode cX8_saysNumber 32 = .ok (.irem, 1) := by decide +kernel
theorem dX8_saysNumber_33 : decode cX8_saysNumber 33 = .ok (.iadd, 1) := by decide +kernel
theorem dX8_saysNumber_34 : decode cX8_saysNumber 34 = .ok (.invokevirtual 403, 3) := by decide +kernel
theorem dX8_saysNumber_37 : decode cX8_saysNumber 37 = .ok (.aload_n 0, 1) := by decide +kernel
theorem dX8_saysNumber_38 : decode cX8_saysNumber 38 = .ok (.bipush 48, 2) := by decide +kernel
theorem dX8_saysNumber_40 : decode cX8_saysNumber 40 = .ok (.iload_n 1, 1) := by decide +kernel
theorem dX8_saysNumber_41 : decode cX8_saysNumber 41 = .ok (.bipush 10, 2) := by decide +kernel
theorem dX8_saysNumber_43 : decode cX8_saysNumber 43 = .ok (.irem, 1) := by decide +kernel
theorem dX8_saysNumber_44 : decode cX8_saysNumber 44 = .ok (.iadd, 1) := by decide +kernel
theorem dX8_saysNumber_45 : decode cX8_saysNumber 45 = .ok (.invokevirtual 403, 3) := by decide +kernel
theorem dX8_saysNumber_48 : decode cX8_saysNumber 48 = .ok (.aload_n 0, 1) := by decide +kernel
theorem dX8_saysNumber_49 : decode cX8_saysNumber 49 = .ok (.bipush 32, 2) := by decide +kernel
theorem dX8_saysNumber_51 : decode cX8_saysNumber 51 = .ok (.invokevirtual 403, 3) := by decide +kernel
theorem dX8_saysNumber_54 : decode cX8_saysNumber 54 = .ok (.return_, 1) := by decide +kernel
theorem dX8_saysWord_0 : decode cX8_saysWord 0 = .ok (.bipush 30, 2) := by decide +kernel
theorem dX8_saysWord_2 : decode cX8_saysWord 2 = .ok (.istore_n 3, 1) := by decide +kernel
theorem dX8_saysWord_3 : decode cX8_saysWord 3 = .ok (.iload_n 3, 1) := by decide +kernel
theorem dX8_saysWord_4 : decode cX8_saysWord 4 = .ok (.ifCond .lt 33, 3) := by decide +kernel
theorem dX8_saysWord_7 : decode cX8_saysWord 7 = .ok (.lload_n 1, 1) := by decide +kernel
theorem dX8_saysWord_8 : decode cX8_saysWord 8 = .ok (.iload_n 3, 1) := by decide +kernel
theorem dX8_saysWord_9 : decode cX8_saysWord 9 = .ok (.lshr, 1) := by decide +kernel
theorem dX8_saysWord_10 : decode cX8_saysWord 10 = .ok (.ldc2_w 406, 3) := by decide +kernel
theorem dX8_saysWord_13 : decode cX8_saysWord 13 = .ok (.land, 1) := by decide +kernel
theorem dX8_saysWord_14 : decode cX8_saysWord 14 = .ok (.l2i, 1) := by decide +kernel
theorem dX8_saysWord_15 : decode cX8_saysWord 15 = .ok (.istore 4, 2) := by decide +kernel
theorem dX8_saysWord_17 : decode cX8_saysWord 17 = .ok (.iload 4, 2) := by decide +kernel
theorem dX8_saysWord_19 : decode cX8_saysWord 19 = .ok (.ifCond .le 12, 3) := by decide +kernel
theorem dX8_saysWord_22 : decode cX8_saysWord 22 = .ok (.aload_n 0, 1) := by decide +kernel
theorem dX8_saysWord_23 : decode cX8_saysWord 23 = .ok (.bipush 96, 2) := by decide +kernel
theorem dX8_saysWord_25 : decode cX8_saysWord 25 = .ok (.iload 4, 2) := by decide +kernel
theorem dX8_saysWord_27 : decode cX8_saysWord 27 = .ok (.iadd, 1) := by decide +kernel
theorem dX8_saysWord_28 : decode cX8_saysWord 28 = .ok (.invokevirtual 403, 3) := by decide +kernel
theorem dX8_saysWord_31 : decode cX8_saysWord 31 = .ok (.iinc 3 (-5), 3) := by decide +kernel
theorem dX8_saysWord_34 : decode cX8_saysWord 34 = .ok (.goto (-31), 3) := by decide +kernel
theorem dX8_saysWord_37 : decode cX8_saysWord 37 = .ok (.aload_n 0, 1) := by decide +kernel
theorem dX8_saysWord_38 : decode cX8_saysWord 38 = .ok (.bipush 32, 2) := by decide +kernel
theorem dX8_saysWord_40 : decode cX8_saysWord 40 = .ok (.invokevirtual 403, 3) := by decide +kernel
theorem dX8_saysWord_43 : decode cX8_saysWord 43 = .ok (.return_, 1) := by decide +kernel
theorem dX8_report_0 : decode cX8_report 0 = .ok (.aload_n 0, 1) := by decide +kernel
theorem dX8_report_1 : decode cX8_report 1 = .ok (.iconst 0, 1) := by decide +kernel
theorem dX8_report_2 : decode cX8_report 2 = .ok (.putfield 1, 3) := by decide +kernel
theorem dX8_report_5 : decode cX8_report 5 = .ok (.aload_n 0, 1) := by decide +kernel
theorem dX8_report_6 : decode cX8_report 6 = .ok (.iconst 0, 1) := by decide +kernel
theorem dX8_report_7 : decode cX8_report 7 = .ok (.putfield 400, 3) := by decide +kernel
theorem dX8_report_10 : decode cX8_report 10 = .ok (.iconst 0, 1) := by decide +kernel
theorem dX8_report_11 : decode cX8_report 11 = .ok (.istore_n 2, 1) := by decide +kernel
theorem dX8_report_12 : decode cX8_report 12 = .ok (.iload_n 2, 1) := by decide +kernel
theorem dX8_report_13 : decode cX8_report 13 = .ok (.aload_n 0, 1) := by decide +kernel
theorem dX8_report_14 : decode cX8_report 14 = .ok (.getfield 13, 3) := by decide +kernel
theorem dX8_report_17 : decode cX8_report 17 = .ok (.iconst 0, 1) := by decide +kernel
theorem dX8_report_18 : decode cX8_report 18 = .ok (.iaload, 1) := by decide +kernel
theorem dX8_report_19 : decode cX8_report 19 = .ok (.if_icmp .ge 112, 3) := by decide +kernel
theorem dX8_report_22 : decode cX8_report 22 = .ok (.aload_n 0, 1) := by decide +kernel
theorem dX8_report_23 : decode cX8_report 23 = .ok (.aload_n 0, 1) := by decide +kernel
theorem dX8_report_24 : decode cX8_report 24 = .ok (.iload_n 2, 1) := by decide +kernel
theorem dX8_report_25 : decode cX8_report 25 = .ok (.iconst 0, 1) := by decide +kernel
theorem dX8_report_26 : decode cX8_report 26 = .ok (.invokevirtual 123, 3) := by decide +kernel
theorem dX8_report_29 : decode cX8_report 29 = .ok (.invokevirtual 408, 3) := by decide +kernel
theorem dX8_report_32 : decode cX8_report 32 = .ok (.aload_n 0, 1) := by decide +kernel
theorem dX8_report_33 : decode cX8_report 33 = .ok (.ldc2_w 218, 3) := by decide +kernel
theorem dX8_report_36 : decode cX8_report 36 = .ok (.invokevirtual 411, 3) := by decide +kernel
theorem dX8_report_39 : decode cX8_report 39 = .ok (.aload_n 0, 1) := by decide +kernel
theorem dX8_report_40 : decode cX8_report 40 = .ok (.aload_n 0, 1) := by decide +kernel
theorem dX8_report_41 : decode cX8_report 41 = .ok (.iload_n 2, 1) := by decide +kernel
theorem dX8_report_42 : decode cX8_report 42 = .ok (.iconst 1, 1) := by decide +kernel
theorem dX8_report_43 : decode cX8_report 43 = .ok (.invokevirtual 123, 3) := by decide +kernel
theorem dX8_report_46 : decode cX8_report 46 = .ok (.invokevirtual 408, 3) := by decide +kernel
theorem dX8_report_49 : decode cX8_report 49 = .ok (.aload_n 0, 1) := by decide +kernel
theorem dX8_report_50 : decode cX8_report 50 = .ok (.iload_n 2, 1) := by decide +kernel
theorem dX8_report_51 : decode cX8_report 51 = .ok (.iconst 2, 1) := by decide +kernel
theorem dX8_report_52 : decode cX8_report 52 = .ok (.invokevirtual 123, 3) := by decide +kernel
theorem dX8_report_55 : decode cX8_report 55 = .ok (.bipush 64, 2) := by decide +kernel
theorem dX8_report_57 : decode cX8_report 57 = .ok (.if_icmp .ne 13, 3) := by decide +kernel
theorem dX8_report_60 : decode cX8_report 60 = .ok (.aload_n 0, 1) := by decide +kernel
theorem dX8_report_61 : decode cX8_report 61 = .ok (.ldc2_w 415, 3) := by decide +kernel
theorem dX8_report_64 : decode cX8_report 64 = .ok (.invokevirtual 411, 3) := by decide +kernel
theorem dX8_report_67 : decode cX8_report 67 = .ok (.goto 20, 3) := by decide +kernel
theorem dX8_report_70 : decode cX8_report 70 = .ok (.aload_n 0, 1) := by decide +kernel
theorem dX8_report_71 : decode cX8_report 71 = .ok (.ldc2_w 231, 3) := by decide +kernel
theorem dX8_report_74 : decode cX8_report 74 = .ok (.invokevirtual 411, 3) := by decide +kernel
theorem dX8_report_77 : decode cX8_report 77 = .ok (.aload_n 0, 1) := by decide +kernel
theorem dX8_report_78 : decode cX8_report 78 = .ok (.aload_n 0, 1) := by decide +kernel
theorem dX8_report_79 : decode cX8_report 79 = .ok (.iload_n 2, 1) := by decide +kernel
theorem dX8_report_80 : decode cX8_report 80 = .ok (.iconst 2, 1) := by decide +kernel
theorem dX8_report_81 : decode cX8_report 81 = .ok (.invokevirtual 123, 3) := by decide +kernel
theorem dX8_report_84 : decode cX8_report 84 = .ok (.invokevirtual 408, 3) := by decide +kernel
theorem dX8_report_87 : decode cX8_report 87 = .ok (.aload_n 0, 1) := by decide +kernel
theorem dX8_report_88 : decode cX8_report 88 = .ok (.iload_n 2, 1) := by decide +kernel
theorem dX8_report_89 : decode cX8_report 89 = .ok (.iconst 3, 1) := by decide +kernel
theorem dX8_report_90 : decode cX8_report 90 = .ok (.invokevirtual 123, 3) := by decide +kernel
theorem dX8_report_93 : decode cX8_report 93 = .ok (.ifCond .eq 20, 3) := by decide +kernel
theorem dX8_report_96 : decode cX8_report 96 = .ok (.aload_n 0, 1) := by decide +kernel
theorem dX8_report_97 : decode cX8_report 97 = .ok (.ldc2_w 203, 3) := by decide +kernel
theorem dX8_report_100 : decode cX8_report 100 = .ok (.invokevirtual 411, 3) := by decide +kernel
theorem dX8_report_103 : decode cX8_report 103 = .ok (.aload_n 0, 1) := by decide +kernel
theorem dX8_report_104 : decode cX8_report 104 = .ok (.aload_n 0, 1) := by decide +kernel
theorem dX8_report_105 : decode cX8_report 105 = .ok (.iload_n 2, 1) := by decide +kernel
theorem dX8_report_106 : decode cX8_report 106 = .ok (.iconst 3, 1) := by decide +kernel
theorem dX8_report_107 : decode cX8_report 107 = .ok (.invokevirtual 123, 3) := by decide +kernel
theorem dX8_report_110 : decode cX8_report 110 = .ok (.invokevirtual 408, 3) := by decide +kernel
theorem dX8_report_113 : decode cX8_report 113 = .ok (.aload_n 0, 1) := by decide +kernel
theorem dX8_report_114 : decode cX8_report 114 = .ok (.bipush 59, 2) := by decide +kernel
theorem dX8_report_116 : decode cX8_report 116 = .ok (.invokevirtual 403, 3) := by decide +kernel
theorem dX8_report_119 : decode cX8_report 119 = .ok (.aload_n 0, 1) := by decide +kernel
theorem dX8_report_120 : decode cX8_report 120 = .ok (.bipush 32, 2) := by decide +kernel
theorem dX8_report_122 : decode cX8_report 122 = .ok (.invokevirtual 403, 3) := by decide +kernel
theorem dX8_report_125 : decode cX8_report 125 = .ok (.iinc 2 1, 3) := by decide +kernel
theorem dX8_report_128 : decode cX8_report 128 = .ok (.goto (-116), 3) := by decide +kernel
theorem dX8_report_131 : decode cX8_report 131 = .ok (.iload_n 1, 1) := by decide +kernel
theorem dX8_report_132 : decode cX8_report 132 = .ok (.iconst (-1), 1) := by decide +kernel
theorem dX8_report_133 : decode cX8_report 133 = .ok (.if_icmp .ne 10, 3) := by decide +kernel
theorem dX8_report_136 : decode cX8_report 136 = .ok (.aload_n 0, 1) := by decide +kernel
theorem dX8_report_137 : decode cX8_report 137 = .ok (.getfield 400, 3) := by decide +kernel
theorem dX8_report_140 : decode cX8_report 140 = .ok (.goto 31, 3) := by decide +kernel
theorem dX8_report_143 : decode cX8_report 143 = .ok (.iload_n 1, 1) := by decide +kernel
theorem dX8_report_144 : decode cX8_report 144 = .ok (.iconst (-1), 1) := by decide +kernel
theorem dX8_report_145 : decode cX8_report 145 = .ok (.if_icmp .ge 7, 3) := by decide +kernel
theorem dX8_report_148 : decode cX8_report 148 = .ok (.iconst (-1), 1) := by decide +kernel
theorem dX8_report_149 : decode cX8_report 149 = .ok (.goto 22, 3) := by decide +kernel
theorem dX8_report_152 : decode cX8_report 152 = .ok (.iload_n 1, 1) := by decide +kernel
theorem dX8_report_153 : decode cX8_report 153 = .ok (.aload_n 0, 1) := by decide +kernel
theorem dX8_report_154 : decode cX8_report 154 = .ok (.getfield 400, 3) := by decide +kernel
theorem dX8_report_157 : decode cX8_report 157 = .ok (.if_icmp .ge 12, 3) := by decide +kernel
theorem dX8_report_160 : decode cX8_report 160 = .ok (.aload_n 0, 1) := by decide +kernel
theorem dX8_report_161 : decode cX8_report 161 = .ok (.getfield 55, 3) := by decide +kernel
theorem dX8_report_164 : decode cX8_report 164 = .ok (.iload_n 1, 1) := by decide +kernel
theorem dX8_report_165 : decode cX8_report 165 = .ok (.iaload, 1) := by decide +kernel
theorem dX8_report_166 : decode cX8_report 166 = .ok (.goto 5, 3) := by decide +kernel
theorem dX8_report_169 : decode cX8_report 169 = .ok (.bipush (-2), 2) := by decide +kernel
theorem dX8_report_171 : decode cX8_report 171 = .ok (.ireturn, 1) := by decide +kernel
theorem dX8_count_0 : decode cX8_count 0 = .ok (.aload_n 0, 1) := by decide +kernel
theorem dX8_count_1 : decode cX8_count 1 = .ok (.iconst 0, 1) := by decide +kernel
theorem dX8_count_2 : decode cX8_count 2 = .ok (.putfield 1, 3) := by decide +kernel
theorem dX8_count_5 : decode cX8_count 5 = .ok (.iconst 0, 1) := by decide +kernel
theorem dX8_count_6 : decode cX8_count 6 = .ok (.istore_n 2, 1) := by decide +kernel
theorem dX8_count_7 : decode cX8_count 7 = .ok (.iload_n 1, 1) := by decide +kernel
theorem dX8_count_8 : decode cX8_count 8 = .ok (.tableswitch 141 0 5 #[40, 47, 96, 103, 108, 113], 40) := by decide +kernel
theorem dX8_count_48 : decode cX8_count 48 = .ok (.aload_n 0, 1) := by decide +kernel
theorem dX8_count_49 : decode cX8_count 49 = .ok (.getfield 13, 3) := by decide +kernel
theorem dX8_count_52 : decode cX8_count 52 = .ok (.iconst 0, 1) := by decide +kernel
theorem dX8_count_53 : decode cX8_count 53 = .ok (.iaload, 1) := by decide +kernel
theorem dX8_count_54 : decode cX8_count 54 = .ok (.ireturn, 1) := by decide +kernel
theorem dX8_count_55 : decode cX8_count 55 = .ok (.iconst 0, 1) := by decide +kernel
theorem dX8_count_56 : decode cX8_count 56 = .ok (.istore_n 3, 1) := by decide +kernel
theorem dX8_count_57 : decode cX8_count 57 = .ok (.iload_n 3, 1) := by decide +kernel
theorem dX8_count_58 : decode cX8_count 58 = .ok (.aload_n 0, 1) := by decide +kernel
theorem dX8_count_59 : decode cX8_count 59 = .ok (.getfield 13, 3) := by decide +kernel
theorem dX8_count_62 : decode cX8_count 62 = .ok (.iconst 0, 1) := by decide +kernel
theorem dX8_count_63 : decode cX8_count 63 = .ok (.iaload, 1) := by decide +kernel
theorem dX8_count_64 : decode cX8_count 64 = .ok (.if_icmp .ge 38, 3) := by decide +kernel
theorem dX8_count_67 : decode cX8_count 67 = .ok (.iload_n 2, 1) := by decide +kernel
theorem dX8_count_68 : decode cX8_count 68 = .ok (.iload_n 3, 1) := by decide +kernel
theorem dX8_count_69 : decode cX8_count 69 = .ok (.ifCond .eq 20, 3) := by decide +kernel
theorem dX8_count_72 : decode cX8_count 72 = .ok (.aload_n 0, 1) := by decide +kernel
theorem dX8_count_73 : decode cX8_count 73 = .ok (.iload_n 3, 1) := by decide +kernel
theorem dX8_count_74 : decode cX8_count 74 = .ok (.iconst 0, 1) := by decide +kernel
theorem dX8_count_75 : decode cX8_count 75 = .ok (.invokevirtual 123, 3) := by decide +kernel
theorem dX8_count_78 : decode cX8_count 78 = .ok (.aload_n 0, 1) := by decide +kernel
theorem dX8_count_79 : decode cX8_count 79 = .ok (.iload_n 3, 1) := by decide +kernel
theorem dX8_count_80 : decode cX8_count 80 = .ok (.iconst 1, 1) := by decide +kernel
theorem dX8_count_81 : decode cX8_count 81 = .ok (.isub, 1) := by decide +kernel
theorem dX8_count_82 : decode cX8_count 82 = .ok (.iconst 0, 1) := by decide +kernel
theorem dX8_count_83 : decode cX8_count 83 = .ok (.invokevirtual 123, 3) := by decide +kernel
theorem dX8_count_86 : decode cX8_count 86 = .ok (.if_icmp .eq 7, 3) := by decide +kernel
theorem dX8_count_89 : decode cX8_count 89 = .ok (.iconst 1, 1) := by decide +kernel
theorem dX8_count_90 : decode cX8_count 90 = .ok (.goto 4, 3) := by decide +kernel
theorem dX8_count_93 : decode cX8_count 93 = .ok (.iconst 0, 1) := by decide +kernel
theorem dX8_count_94 : decode cX8_count 94 = .ok (.iadd, 1) := by decide +kernel
theorem dX8_count_95 : decode cX8_count 95 = .ok (.istore_n 2, 1) := by decide +kernel
theorem dX8_count_96 : decode cX8_count 96 = .ok (.iinc 3 1, 3) := by decide +kernel
theorem dX8_count_99 : decode cX8_count 99 = .ok (.goto (-42), 3) := by decide +kernel
theorem dX8_count_102 : decode cX8_count 102 = .ok (.iload_n 2, 1) := by decide +kernel
theorem dX8_count_103 : decode cX8_count 103 = .ok (.ireturn, 1) := by decide +kernel
theorem dX8_count_104 : decode cX8_count 104 = .ok (.aload_n 0, 1) := by decide +kernel
theorem dX8_count_105 : decode cX8_count 105 = .ok (.getfield 13, 3) := by decide +kernel
theorem dX8_count_108 : decode cX8_count 108 = .ok (.iconst 1, 1) := by decide +kernel
theorem dX8_count_109 : decode cX8_count 109 = .ok (.iaload, 1) := by decide +kernel
theorem dX8_count_110 : decode cX8_count 110 = .ok (.ireturn, 1) := by decide +kernel
theorem dX8_count_111 : decode cX8_count 111 = .ok (.aload_n 0, 1) := by decide +kernel
theorem dX8_count_112 : decode cX8_count 112 = .ok (.getfield 94, 3) := by decide +kernel
theorem dX8_count_115 : decode cX8_count 115 = .ok (.ireturn, 1) := by decide +kernel
theorem dX8_count_116 : decode cX8_count 116 = .ok (.aload_n 0, 1) := by decide +kernel
theorem dX8_count_117 : decode cX8_count 117 = .ok (.getfield 137, 3) := by decide +kernel
theorem dX8_count_120 : decode cX8_count 120 = .ok (.ireturn, 1) := by decide +kernel
theorem dX8_count_121 : decode cX8_count 121 = .ok (.iconst 0, 1) := by decide +kernel
theorem dX8_count_122 : decode cX8_count 122 = .ok (.istore_n 3, 1) := by decide +kernel
theorem dX8_count_123 : decode cX8_count 123 = .ok (.iload_n 3, 1) := by decide +kernel
theorem dX8_count_124 : decode cX8_count 124 = .ok (.aload_n 0, 1) := by decide +kernel
theorem dX8_count_125 : decode cX8_count 125 = .ok (.getfield 13, 3) := by decide +kernel
theorem dX8_count_128 : decode cX8_count 128 = .ok (.iconst 0, 1) := by decide +kernel
theorem dX8_count_129 : decode cX8_count 129 = .ok (.iaload, 1) := by decide +kernel
theorem dX8_count_130 : decode cX8_count 130 = .ok (.if_icmp .ge 17, 3) := by decide +kernel
theorem dX8_count_133 : decode cX8_count 133 = .ok (.iload_n 2, 1) := by decide +kernel
theorem dX8_count_134 : decode cX8_count 134 = .ok (.aload_n 0, 1) := by decide +kernel
theorem dX8_count_135 : decode cX8_count 135 = .ok (.iload_n 3, 1) := by decide +kernel
theorem dX8_count_136 : decode cX8_count 136 = .ok (.invokevirtual 364, 3) := by decide +kernel
theorem dX8_count_139 : decode cX8_count 139 = .ok (.iadd, 1) := by decide +kernel
theorem dX8_count_140 : decode cX8_count 140 = .ok (.istore_n 2, 1) := by decide +kernel
theorem dX8_count_141 : decode cX8_count 141 = .ok (.iinc 3 1, 3) := by decide +kernel
theorem dX8_count_144 : decode cX8_count 144 = .ok (.goto (-21), 3) := by decide +kernel
theorem dX8_count_147 : decode cX8_count 147 = .ok (.iload_n 2, 1) := by decide +kernel
theorem dX8_count_148 : decode cX8_count 148 = .ok (.ireturn, 1) := by decide +kernel
theorem dX8_count_149 : decode cX8_count 149 = .ok (.iconst (-1), 1) := by decide +kernel
theorem dX8_count_150 : decode cX8_count 150 = .ok (.ireturn, 1) := by decide +kernel
theorem dX8_life_0 : decode cX8_life 0 = .ok (.aload_n 0, 1) := by decide +kernel
theorem dX8_life_1 : decode cX8_life 1 = .ok (.iload_n 1, 1) := by decide +kernel
theorem dX8_life_2 : decode cX8_life 2 = .ok (.ifCond .lt 25, 3) := by decide +kernel
theorem dX8_life_5 : decode cX8_life 5 = .ok (.iload_n 1, 1) := by decide +kernel
theorem dX8_life_6 : decode cX8_life 6 = .ok (.aload_n 0, 1) := by decide +kernel
theorem dX8_life_7 : decode cX8_life 7 = .ok (.getfield 13, 3) := by decide +kernel
theorem dX8_life_10 : decode cX8_life 10 = .ok (.iconst 0, 1) := by decide +kernel
theorem dX8_life_11 : decode cX8_life 11 = .ok (.iaload, 1) := by decide +kernel
theorem dX8_life_12 : decode cX8_life 12 = .ok (.if_icmp .ge 15, 3) := by decide +kernel
theorem dX8_life_15 : decode cX8_life 15 = .ok (.iload_n 2, 1) := by decide +kernel
theorem dX8_life_16 : decode cX8_life 16 = .ok (.i2l, 1) := by decide +kernel
theorem dX8_life_17 : decode cX8_life 17 = .ok (.lconst 0, 1) := by decide +kernel
theorem dX8_life_18 : decode cX8_life 18 = .ok (.ldc2_w 417, 3) := by decide +kernel
theorem dX8_life_21 : decode cX8_life 21 = .ok (.invokestatic 60, 3) := by decide +kernel
theorem dX8_life_24 : decode cX8_life 24 = .ok (.ifCond .ne 7, 3) := by decide +kernel
theorem dX8_life_27 : decode cX8_life 27 = .ok (.iconst 1, 1) := by decide +kernel
theorem dX8_life_28 : decode cX8_life 28 = .ok (.goto 4, 3) := by decide +kernel
theorem dX8_life_31 : decode cX8_life 31 = .ok (.iconst 0, 1) := by decide +kernel
theorem dX8_life_32 : decode cX8_life 32 = .ok (.putfield 1, 3) := by decide +kernel
theorem dX8_life_35 : decode cX8_life 35 = .ok (.aload_n 0, 1) := by decide +kernel
theorem dX8_life_36 : decode cX8_life 36 = .ok (.getfield 1, 3) := by decide +kernel
theorem dX8_life_39 : decode cX8_life 39 = .ok (.iconst 1, 1) := by decide +kernel
theorem dX8_life_40 : decode cX8_life 40 = .ok (.if_icmp .ne 7, 3) := by decide +kernel
theorem dX8_life_43 : decode cX8_life 43 = .ok (.iconst 0, 1) := by decide +kernel
theorem dX8_life_44 : decode cX8_life 44 = .ok (.goto 22, 3) := by decide +kernel
theorem dX8_life_47 : decode cX8_life 47 = .ok (.iload_n 2, 1) := by decide +kernel
theorem dX8_life_48 : decode cX8_life 48 = .ok (.iconst 4, 1) := by decide +kernel
theorem dX8_life_49 : decode cX8_life 49 = .ok (.if_icmp .ne 11, 3) := by decide +kernel
theorem dX8_life_52 : decode cX8_life 52 = .ok (.aload_n 0, 1) := by decide +kernel
theorem dX8_life_53 : decode cX8_life 53 = .ok (.iload_n 1, 1) := by decide +kernel
theorem dX8_life_54 : decode cX8_life 54 = .ok (.invokevirtual 364, 3) := by decide +kernel
theorem dX8_life_57 : decode cX8_life 57 = .ok (.goto 9, 3) := by decide +kernel
theorem dX8_life_60 : decode cX8_life 60 = .ok (.aload_n 0, 1) := by decide +kernel
theorem dX8_life_61 : decode cX8_life 61 = .ok (.iload_n 1, 1) := by decide +kernel
theorem dX8_life_62 : decode cX8_life 62 = .ok (.iload_n 2, 1) := by decide +kernel
theorem dX8_life_63 : decode cX8_life 63 = .ok (.invokevirtual 123, 3) := by decide +kernel
theorem dX8_life_66 : decode cX8_life 66 = .ok (.ireturn, 1) := by decide +kernel
theorem dX8_which_0 : decode cX8_which 0 = .ok (.aload_n 0, 1) := by decide +kernel
theorem dX8_which_1 : decode cX8_which 1 = .ok (.iconst 0, 1) := by decide +kernel
theorem dX8_which_2 : decode cX8_which 2 = .ok (.putfield 1, 3) := by decide +kernel
theorem dX8_which_5 : decode cX8_which 5 = .ok (.iload_n 1, 1) := by decide +kernel
theorem dX8_which_6 : decode cX8_which 6 = .ok (.invokestatic 101, 3) := by decide +kernel
theorem dX8_which_9 : decode cX8_which 9 = .ok (.ifCond .eq 10, 3) := by decide +kernel
theorem dX8_which_12 : decode cX8_which 12 = .ok (.iload_n 2, 1) := by decide +kernel
theorem dX8_which_13 : decode cX8_which 13 = .ok (.invokestatic 104, 3) := by decide +kernel
theorem dX8_which_16 : decode cX8_which 16 = .ok (.ifCond .ne 5, 3) := by decide +kernel
theorem dX8_which_19 : decode cX8_which 19 = .ok (.iconst (-1), 1) := by decide +kernel
theorem dX8_which_20 : decode cX8_which 20 = .ok (.ireturn, 1) := by decide +kernel
theorem dX8_which_21 : decode cX8_which 21 = .ok (.aload_n 0, 1) := by decide +kernel
theorem dX8_which_22 : decode cX8_which 22 = .ok (.getfield 13, 3) := by decide +kernel
theorem dX8_which_25 : decode cX8_which 25 = .ok (.iload_n 1, 1) := by decide +kernel
theorem dX8_which_26 : decode cX8_which 26 = .ok (.iload_n 2, 1) := by decide +kernel
theorem dX8_which_27 : decode cX8_which 27 = .ok (.invokestatic 74, 3) := by decide +kernel
theorem dX8_which_30 : decode cX8_which 30 = .ok (.istore_n 3, 1) := by decide +kernel
theorem dX8_which_31 : decode cX8_which 31 = .ok (.iload_n 3, 1) := by decide +kernel
theorem dX8_which_32 : decode cX8_which 32 = .ok (.iconst (-1), 1) := by decide +kernel
theorem dX8_which_33 : decode cX8_which 33 = .ok (.if_icmp .ne 8, 3) := by decide +kernel
theorem dX8_which_36 : decode cX8_which 36 = .ok (.bipush (-2), 2) := by decide +kernel
theorem dX8_which_38 : decode cX8_which 38 = .ok (.goto 4, 3) := by decide +kernel
theorem dX8_which_41 : decode cX8_which 41 = .ok (.iload_n 3, 1) := by decide +kernel
theorem dX8_which_42 : decode cX8_which 42 = .ok (.ireturn, 1) := by decide +kernel
theorem dX8_countAt_0 : decode cX8_countAt 0 = .ok (.iconst 0, 1) := by decide +kernel
theorem dX8_countAt_1 : decode cX8_countAt 1 = .ok (.istore_n 2, 1) := by decide +kernel
theorem dX8_countAt_2 : decode cX8_countAt 2 = .ok (.iconst 0, 1) := by decide +kernel
theorem dX8_countAt_3 : decode cX8_countAt 3 = .ok (.istore_n 3, 1) := by decide +kernel
theorem dX8_countAt_4 : decode cX8_countAt 4 = .ok (.iload_n 3, 1) := by decide +kernel
theorem dX8_countAt_5 : decode cX8_countAt 5 = .ok (.aload_n 0, 1) := by decide +kernel
theorem dX8_countAt_6 : decode cX8_countAt 6 = .ok (.getfield 13, 3) := by decide +kernel
theorem dX8_countAt_9 : decode cX8_countAt 9 = .ok (.iconst 0, 1) := by decide +kernel
theorem dX8_countAt_10 : decode cX8_countAt 10 = .ok (.iaload, 1) := by decide +kernel
theorem dX8_countAt_11 : decode cX8_countAt 11 = .ok (.if_icmp .ge 29, 3) := by decide +kernel
theorem dX8_countAt_14 : decode cX8_countAt 14 = .ok (.iload_n 2, 1) := by decide +kernel
theorem dX8_countAt_15 : decode cX8_countAt 15 = .ok (.aload_n 0, 1) := by decide +kernel
theorem dX8_countAt_16 : decode cX8_countAt 16 = .ok (.getfield 13, 3) := by decide +kernel
theorem dX8_countAt_19 : decode cX8_countAt 19 = .ok (.iload_n 3, 1) := by decide +kernel
theorem dX8_countAt_20 : decode cX8_countAt 20 = .ok (.iload_n 1, 1) := by decide +kernel
theorem dX8_countAt_21 : decode cX8_countAt 21 = .ok (.invokestatic 70, 3) := by decide +kernel
theorem dX8_countAt_24 : decode cX8_countAt 24 = .ok (.ifCond .eq 7, 3) := by decide +kernel
theorem dX8_countAt_27 : decode cX8_countAt 27 = .ok (.iconst 1, 1) := by decide +kernel
theorem dX8_countAt_28 : decode cX8_countAt 28 = .ok (.goto 4, 3) := by decide +kernel
theorem dX8_countAt_31 : decode cX8_countAt 31 = .ok (.iconst 0, 1) := by decide +kernel
theorem dX8_countAt_32 : decode cX8_countAt 32 = .ok (.iadd, 1) := by decide +kernel
theorem dX8_countAt_33 : decode cX8_countAt 33 = .ok (.istore_n 2, 1) := by decide +kernel
theorem dX8_countAt_34 : decode cX8_countAt 34 = .ok (.iinc 3 1, 3) := by decide +kernel
theorem dX8_countAt_37 : decode cX8_countAt 37 = .ok (.goto (-33), 3) := by decide +kernel
theorem dX8_countAt_40 : decode cX8_countAt 40 = .ok (.iload_n 2, 1) := by decide +kernel
theorem dX8_countAt_41 : decode cX8_countAt 41 = .ok (.ireturn, 1) := by decide +kernel
theorem dX8_sumAt_0 : decode cX8_sumAt 0 = .ok (.iconst 0, 1) := by decide +kernel
theorem dX8_sumAt_1 : decode cX8_sumAt 1 = .ok (.istore 4, 2) := by decide +kernel
theorem dX8_sumAt_3 : decode cX8_sumAt 3 = .ok (.iconst 0, 1) := by decide +kernel
theorem dX8_sumAt_4 : decode cX8_sumAt 4 = .ok (.istore 5, 2) := by decide +kernel
theorem dX8_sumAt_6 : decode cX8_sumAt 6 = .ok (.iload 5, 2) := by decide +kernel
theorem dX8_sumAt_8 : decode cX8_sumAt 8 = .ok (.aload_n 0, 1) := by decide +kernel
theorem dX8_sumAt_9 : decode cX8_sumAt 9 = .ok (.getfield 13, 3) := by decide +kernel
theorem dX8_sumAt_12 : decode cX8_sumAt 12 = .ok (.iconst 0, 1) := by decide +kernel
theorem dX8_sumAt_13 : decode cX8_sumAt 13 = .ok (.iaload, 1) := by decide +kernel
theorem dX8_sumAt_14 : decode cX8_sumAt 14 = .ok (.if_icmp .ge 56, 3) := by decide +kernel
theorem dX8_sumAt_17 : decode cX8_sumAt 17 = .ok (.iload 4, 2) := by decide +kernel
theorem dX8_sumAt_19 : decode cX8_sumAt 19 = .ok (.aload_n 0, 1) := by decide +kernel
theorem dX8_sumAt_20 : decode cX8_sumAt 20 = .ok (.getfield 13, 3) := by decide +kernel
theorem dX8_sumAt_23 : decode cX8_sumAt 23 = .ok (.iload 5, 2) := by decide +kernel
theorem dX8_sumAt_25 : decode cX8_sumAt 25 = .ok (.iload_n 1, 1) := by decide +kernel
theorem dX8_sumAt_26 : decode cX8_sumAt 26 = .ok (.invokestatic 70, 3) := by decide +kernel
theorem dX8_sumAt_29 : decode cX8_sumAt 29 = .ok (.ifCond .eq 31, 3) := by decide +kernel
theorem dX8_sumAt_32 : decode cX8_sumAt 32 = .ok (.aload_n 0, 1) := by decide +kernel
theorem dX8_sumAt_33 : decode cX8_sumAt 33 = .ok (.iload 5, 2) := by decide +kernel
theorem dX8_sumAt_35 : decode cX8_sumAt 35 = .ok (.iconst 0, 1) := by decide +kernel
theorem dX8_sumAt_36 : decode cX8_sumAt 36 = .ok (.invokevirtual 123, 3) := by decide +kernel
theorem dX8_sumAt_39 : decode cX8_sumAt 39 = .ok (.i2l, 1) := by decide +kernel
theorem dX8_sumAt_40 : decode cX8_sumAt 40 = .ok (.iload_n 2, 1) := by decide +kernel
theorem dX8_sumAt_41 : decode cX8_sumAt 41 = .ok (.i2l, 1) := by decide +kernel
theorem dX8_sumAt_42 : decode cX8_sumAt 42 = .ok (.iload_n 3, 1) := by decide +kernel
theorem dX8_sumAt_43 : decode cX8_sumAt 43 = .ok (.i2l, 1) := by decide +kernel
theorem dX8_sumAt_44 : decode cX8_sumAt 44 = .ok (.invokestatic 60, 3) := by decide +kernel
theorem dX8_sumAt_47 : decode cX8_sumAt 47 = .ok (.ifCond .eq 13, 3) := by decide +kernel
theorem dX8_sumAt_50 : decode cX8_sumAt 50 = .ok (.aload_n 0, 1) := by decide +kernel
theorem dX8_sumAt_51 : decode cX8_sumAt 51 = .ok (.iload 5, 2) := by decide +kernel
theorem dX8_sumAt_53 : decode cX8_sumAt 53 = .ok (.iconst 3, 1) := by decide +kernel
theorem dX8_sumAt_54 : decode cX8_sumAt 54 = .ok (.invokevirtual 123, 3) := by decide +kernel
theorem dX8_sumAt_57 : decode cX8_sumAt 57 = .ok (.goto 4, 3) := by decide +kernel
theorem dX8_sumAt_60 : decode cX8_sumAt 60 = .ok (.iconst 0, 1) := by decide +kernel
theorem dX8_sumAt_61 : decode cX8_sumAt 61 = .ok (.iadd, 1) := by decide +kernel
theorem dX8_sumAt_62 : decode cX8_sumAt 62 = .ok (.istore 4, 2) := by decide +kernel
theorem dX8_sumAt_64 : decode cX8_sumAt 64 = .ok (.iinc 5 1, 3) := by decide +kernel
theorem dX8_sumAt_67 : decode cX8_sumAt 67 = .ok (.goto (-61), 3) := by decide +kernel
theorem dX8_sumAt_70 : decode cX8_sumAt 70 = .ok (.iload 4, 2) := by decide +kernel
theorem dX8_sumAt_72 : decode cX8_sumAt 72 = .ok (.ireturn, 1) := by decide +kernel
theorem dX8_leastFrom_0 : decode cX8_leastFrom 0 = .ok (.iconst 0, 1) := by decide +kernel
theorem dX8_leastFrom_1 : decode cX8_leastFrom 1 = .ok (.istore_n 3, 1) := by decide +kernel
theorem dX8_leastFrom_2 : decode cX8_leastFrom 2 = .ok (.iload_n 3, 1) := by decide +kernel
theorem dX8_leastFrom_3 : decode cX8_leastFrom 3 = .ok (.aload_n 0, 1) := by decide +kernel
theorem dX8_leastFrom_4 : decode cX8_leastFrom 4 = .ok (.getfield 13, 3) := by decide +kernel
theorem dX8_leastFrom_7 : decode cX8_leastFrom 7 = .ok (.iconst 0, 1) := by decide +kernel
theorem dX8_leastFrom_8 : decode cX8_leastFrom 8 = .ok (.iaload, 1) := by decide +kernel
theorem dX8_leastFrom_9 : decode cX8_leastFrom 9 = .ok (.if_icmp .ge 38, 3) := by decide +kernel
theorem dX8_leastFrom_12 : decode cX8_leastFrom 12 = .ok (.aload_n 0, 1) := by decide +kernel
theorem dX8_leastFrom_13 : decode cX8_leastFrom 13 = .ok (.getfield 13, 3) := by decide +kernel
theorem dX8_leastFrom_16 : decode cX8_leastFrom 16 = .ok (.iload_n 3, 1) := by decide +kernel
theorem dX8_leastFrom_17 : decode cX8_leastFrom 17 = .ok (.iload_n 2, 1) := by decide +kernel
theorem dX8_leastFrom_18 : decode cX8_leastFrom 18 = .ok (.invokestatic 70, 3) := by decide +kernel
theorem dX8_leastFrom_21 : decode cX8_leastFrom 21 = .ok (.ifCond .eq 20, 3) := by decide +kernel
theorem dX8_leastFrom_24 : decode cX8_leastFrom 24 = .ok (.aload_n 0, 1) := by decide +kernel
theorem dX8_leastFrom_25 : decode cX8_leastFrom 25 = .ok (.iload_n 3, 1) := by decide +kernel
theorem dX8_leastFrom_26 : decode cX8_leastFrom 26 = .ok (.iconst 0, 1) := by decide +kernel
theorem dX8_leastFrom_27 : decode cX8_leastFrom 27 = .ok (.invokevirtual 123, 3) := by decide +kernel
theorem dX8_leastFrom_30 : decode cX8_leastFrom 30 = .ok (.iload_n 1, 1) := by decide +kernel
theorem dX8_leastFrom_31 : decode cX8_leastFrom 31 = .ok (.if_icmp .lt 10, 3) := by decide +kernel
theorem dX8_leastFrom_34 : decode cX8_leastFrom 34 = .ok (.aload_n 0, 1) := by decide +kernel
theorem dX8_leastFrom_35 : decode cX8_leastFrom 35 = .ok (.iload_n 3, 1) := by decide +kernel
theorem dX8_leastFrom_36 : decode cX8_leastFrom 36 = .ok (.iconst 0, 1) := by decide +kernel
theorem dX8_leastFrom_37 : decode cX8_leastFrom 37 = .ok (.invokevirtual 123, 3) := by decide +kernel
theorem dX8_leastFrom_40 : decode cX8_leastFrom 40 = .ok (.ireturn, 1) := by decide +kernel
theorem dX8_leastFrom_41 : decode cX8_leastFrom 41 = .ok (.iinc 3 1, 3) := by decide +kernel
theorem dX8_leastFrom_44 : decode cX8_leastFrom 44 = .ok (.goto (-42), 3) := by decide +kernel
theorem dX8_leastFrom_47 : decode cX8_leastFrom 47 = .ok (.iconst (-1), 1) := by decide +kernel
theorem dX8_leastFrom_48 : decode cX8_leastFrom 48 = .ok (.ireturn, 1) := by decide +kernel
theorem dX8_greatestTo_0 : decode cX8_greatestTo 0 = .ok (.aload_n 0, 1) := by decide +kernel
theorem dX8_greatestTo_1 : decode cX8_greatestTo 1 = .ok (.getfield 13, 3) := by decide +kernel
theorem dX8_greatestTo_4 : decode cX8_greatestTo 4 = .ok (.iconst 0, 1) := by decide +kernel
theorem dX8_greatestTo_5 : decode cX8_greatestTo 5 = .ok (.iaload, 1) := by decide +kernel
theorem dX8_greatestTo_6 : decode cX8_greatestTo 6 = .ok (.iconst 1, 1) := by decide +kernel
theorem dX8_greatestTo_7 : decode cX8_greatestTo 7 = .ok (.isub, 1) := by decide +kernel
theorem dX8_greatestTo_8 : decode cX8_greatestTo 8 = .ok (.istore_n 3, 1) := by decide +kernel
theorem dX8_greatestTo_9 : decode cX8_greatestTo 9 = .ok (.iload_n 3, 1) := by decide +kernel
