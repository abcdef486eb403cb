theorem dX0_init_0 : decode cX0_init 0 = .ok (.aload_n 0, 1) := by decide +kernel
theorem dX0_init_1 : decode cX0_init 1 = .ok (.invokespecial 3, 3) := by decide +kernel
theorem dX0_init_4 : decode cX0_init 4 = .ok (.aload_n 0, 1) := by decide +kernel
theorem dX0_init_5 : decode cX0_init 5 = .ok (.getstatic 9, 3) := by decide +kernel
theorem dX0_init_8 : decode cX0_init 8 = .ok (.putfield 15, 3) := by decide +kernel
theorem dX0_init_11 : decode cX0_init 11 = .ok (.aload_n 0, 1) := by decide +kernel
theorem dX0_init_12 : decode cX0_init 12 = .ok (.iconst 0, 1) := by decide +kernel
theorem dX0_init_13 : decode cX0_init 13 = .ok (.putfield 20, 3) := by decide +kernel
theorem dX0_init_16 : decode cX0_init 16 = .ok (.aload_n 0, 1) := by decide +kernel
theorem dX0_init_17 : decode cX0_init 17 = .ok (.iconst 0, 1) := by decide +kernel
theorem dX0_init_18 : decode cX0_init 18 = .ok (.putfield 24, 3) := by decide +kernel
theorem dX0_init_21 : decode cX0_init 21 = .ok (.aload_n 0, 1) := by decide +kernel
theorem dX0_init_22 : decode cX0_init 22 = .ok (.iconst 0, 1) := by decide +kernel
theorem dX0_init_23 : decode cX0_init 23 = .ok (.putfield 27, 3) := by decide +kernel
theorem dX0_init_26 : decode cX0_init 26 = .ok (.aload_n 0, 1) := by decide +kernel
theorem dX0_init_27 : decode cX0_init 27 = .ok (.iconst 0, 1) := by decide +kernel
theorem dX0_init_28 : decode cX0_init 28 = .ok (.putfield 30, 3) := by decide +kernel
theorem dX0_init_31 : decode cX0_init 31 = .ok (.aload_n 0, 1) := by decide +kernel
theorem dX0_init_32 : decode cX0_init 32 = .ok (.aload_n 1, 1) := by decide +kernel
theorem dX0_init_33 : decode cX0_init 33 = .ok (.putfield 33, 3) := by decide +kernel
theorem dX0_init_36 : decode cX0_init 36 = .ok (.return_, 1) := by decide +kernel
theorem dX0_verb_0 : decode cX0_verb 0 = .ok (.aload_n 0, 1) := by decide +kernel
theorem dX0_verb_1 : decode cX0_verb 1 = .ok (.getfield 15, 3) := by decide +kernel
theorem dX0_verb_4 : decode cX0_verb 4 = .ok (.areturn, 1) := by decide +kernel
theorem dX0_number_0 : decode cX0_number 0 = .ok (.aload_n 0, 1) := by decide +kernel
theorem dX0_number_1 : decode cX0_number 1 = .ok (.getfield 20, 3) := by decide +kernel
theorem dX0_number_4 : decode cX0_number 4 = .ok (.ireturn, 1) := by decide +kernel
theorem dX0_hour_0 : decode cX0_hour 0 = .ok (.aload_n 0, 1) := by decide +kernel
theorem dX0_hour_1 : decode cX0_hour 1 = .ok (.getfield 24, 3) := by decide +kernel
theorem dX0_hour_4 : decode cX0_hour 4 = .ok (.ireturn, 1) := by decide +kernel
theorem dX0_other_0 : decode cX0_other 0 = .ok (.aload_n 0, 1) := by decide +kernel
theorem dX0_other_1 : decode cX0_other 1 = .ok (.getfield 27, 3) := by decide +kernel
theorem dX0_other_4 : decode cX0_other 4 = .ok (.ireturn, 1) := by decide +kernel
theorem dX0_worth_0 : decode cX0_worth 0 = .ok (.aload_n 0, 1) := by decide +kernel
theorem dX0_worth_1 : decode cX0_worth 1 = .ok (.getfield 30, 3) := by decide +kernel
theorem dX0_worth_4 : decode cX0_worth 4 = .ok (.ireturn, 1) := by decide +kernel
theorem dX0_read_0 : decode cX0_read 0 = .ok (.aload_n 0, 1) := by decide +kernel
theorem dX0_read_1 : decode cX0_read 1 = .ok (.iconst 0, 1) := by decide +kernel
theorem dX0_read_2 : decode cX0_read 2 = .ok (.putfield 20, 3) := by decide +kernel
theorem dX0_read_5 : decode cX0_read 5 = .ok (.aload_n 0, 1) := by decide +kernel
theorem dX0_read_6 : decode cX0_read 6 = .ok (.iconst 0, 1) := by decide +kernel
theorem dX0_read_7 : decode cX0_read 7 = .ok (.putfield 24, 3) := by decide +kernel
theorem dX0_read_10 : decode cX0_read 10 = .ok (.aload_n 0, 1) := by decide +kernel
theorem dX0_read_11 : decode cX0_read 11 = .ok (.iconst 0, 1) := by decide +kernel
theorem dX0_read_12 : decode cX0_read 12 = .ok (.putfield 27, 3) := by decide +kernel
theorem dX0_read_15 : decode cX0_read 15 = .ok (.aload_n 0, 1) := by decide +kernel
theorem dX0_read_16 : decode cX0_read 16 = .ok (.iconst 0, 1) := by decide +kernel
theorem dX0_read_17 : decode cX0_read 17 = .ok (.putfield 30, 3) := by decide +kernel
theorem dX0_read_20 : decode cX0_read 20 = .ok (.aload_n 0, 1) := by decide +kernel
theorem dX0_read_21 : decode cX0_read 21 = .ok (.getstatic 37, 3) := by decide +kernel
theorem dX0_read_24 : decode cX0_read 24 = .ok (.invokevirtual 40, 3) := by decide +kernel
theorem dX0_read_27 : decode cX0_read 27 = .ok (.ifCond .eq 17, 3) := by decide +kernel
theorem dX0_read_30 : decode cX0_read 30 = .ok (.aload_n 0, 1) := by decide +kernel
theorem dX0_read_31 : decode cX0_read 31 = .ok (.aload_n 0, 1) := by decide +kernel
theorem dX0_read_32 : decode cX0_read 32 = .ok (.getfield 33, 3) := by decide +kernel
theorem dX0_read_35 : decode cX0_read 35 = .ok (.invokevirtual 44, 3) := by decide +kernel
theorem dX0_read_38 : decode cX0_read 38 = .ok (.putfield 24, 3) := by decide +kernel
theorem dX0_read_41 : decode cX0_read 41 = .ok (.goto 28, 3) := by decide +kernel
theorem dX0_read_44 : decode cX0_read 44 = .ok (.aload_n 0, 1) := by decide +kernel
theorem dX0_read_45 : decode cX0_read 45 = .ok (.getstatic 9, 3) := by decide +kernel
theorem dX0_read_48 : decode cX0_read 48 = .ok (.invokevirtual 40, 3) := by decide +kernel
theorem dX0_read_51 : decode cX0_read 51 = .ok (.ifCond .ne 18, 3) := by decide +kernel
theorem dX0_read_54 : decode cX0_read 54 = .ok (.aload_n 0, 1) := by decide +kernel
theorem dX0_read_55 : decode cX0_read 55 = .ok (.aload_n 0, 1) := by decide +kernel
theorem dX0_read_56 : decode cX0_read 56 = .ok (.getfield 33, 3) := by decide +kernel
theorem dX0_read_59 : decode cX0_read 59 = .ok (.invokevirtual 44, 3) := by decide +kernel
theorem dX0_read_62 : decode cX0_read 62 = .ok (.putfield 20, 3) := by decide +kernel
theorem dX0_read_65 : decode cX0_read 65 = .ok (.aload_n 0, 1) := by decide +kernel
theorem dX0_read_66 : decode cX0_read 66 = .ok (.invokevirtual 50, 3) := by decide +kernel
theorem dX0_read_69 : decode cX0_read 69 = .ok (.aload_n 0, 1) := by decide +kernel
theorem dX0_read_70 : decode cX0_read 70 = .ok (.getfield 33, 3) := by decide +kernel
theorem dX0_read_73 : decode cX0_read 73 = .ok (.getstatic 53, 3) := by decide +kernel
theorem dX0_read_76 : decode cX0_read 76 = .ok (.invokevirtual 56, 3) := by decide +kernel
theorem dX0_read_79 : decode cX0_read 79 = .ok (.return_, 1) := by decide +kernel
theorem dX0_readDeed_0 : decode cX0_readDeed 0 = .ok (.aload_n 0, 1) := by decide +kernel
theorem dX0_readDeed_1 : decode cX0_readDeed 1 = .ok (.getstatic 60, 3) := by decide +kernel
theorem dX0_readDeed_4 : decode cX0_readDeed 4 = .ok (.invokevirtual 40, 3) := by decide +kernel
theorem dX0_readDeed_7 : decode cX0_readDeed 7 = .ok (.ifCond .eq 21, 3) := by decide +kernel
theorem dX0_readDeed_10 : decode cX0_readDeed 10 = .ok (.aload_n 0, 1) := by decide +kernel
theorem dX0_readDeed_11 : decode cX0_readDeed 11 = .ok (.aload_n 0, 1) := by decide +kernel
theorem dX0_readDeed_12 : decode cX0_readDeed 12 = .ok (.getfield 33, 3) := by decide +kernel
theorem dX0_readDeed_15 : decode cX0_readDeed 15 = .ok (.invokevirtual 44, 3) := by decide +kernel
theorem dX0_readDeed_18 : decode cX0_readDeed 18 = .ok (.putfield 24, 3) := by decide +kernel
theorem dX0_readDeed_21 : decode cX0_readDeed 21 = .ok (.aload_n 0, 1) := by decide +kernel
theorem dX0_readDeed_22 : decode cX0_readDeed 22 = .ok (.invokevirtual 63, 3) := by decide +kernel
theorem dX0_readDeed_25 : decode cX0_readDeed 25 = .ok (.goto 220, 3) := by decide +kernel
theorem dX0_readDeed_28 : decode cX0_readDeed 28 = .ok (.aload_n 0, 1) := by decide +kernel
theorem dX0_readDeed_29 : decode cX0_readDeed 29 = .ok (.getstatic 66, 3) := by decide +kernel
theorem dX0_readDeed_32 : decode cX0_readDeed 32 = .ok (.invokevirtual 40, 3) := by decide +kernel
theorem dX0_readDeed_35 : decode cX0_readDeed 35 = .ok (.ifCond .eq 42, 3) := by decide +kernel
theorem dX0_readDeed_38 : decode cX0_readDeed 38 = .ok (.aload_n 0, 1) := by decide +kernel
theorem dX0_readDeed_39 : decode cX0_readDeed 39 = .ok (.aload_n 0, 1) := by decide +kernel
theorem dX0_readDeed_40 : decode cX0_readDeed 40 = .ok (.getfield 33, 3) := by decide +kernel
theorem dX0_readDeed_43 : decode cX0_readDeed 43 = .ok (.invokevirtual 44, 3) := by decide +kernel
theorem dX0_readDeed_46 : decode cX0_readDeed 46 = .ok (.putfield 24, 3) := by decide +kernel
theorem dX0_readDeed_49 : decode cX0_readDeed 49 = .ok (.aload_n 0, 1) := by decide +kernel
theorem dX0_readDeed_50 : decode cX0_readDeed 50 = .ok (.getfield 33, 3) := by decide +kernel
theorem dX0_readDeed_53 : decode cX0_readDeed 53 = .ok (.getstatic 69, 3) := by decide +kernel
theorem dX0_readDeed_56 : decode cX0_readDeed 56 = .ok (.invokevirtual 56, 3) := by decide +kernel
theorem dX0_readDeed_59 : decode cX0_readDeed 59 = .ok (.aload_n 0, 1) := by decide +kernel
theorem dX0_readDeed_60 : decode cX0_readDeed 60 = .ok (.aload_n 0, 1) := by decide +kernel
theorem dX0_readDeed_61 : decode cX0_readDeed 61 = .ok (.getfield 33, 3) := by decide +kernel
theorem dX0_readDeed_64 : decode cX0_readDeed 64 = .ok (.invokevirtual 44, 3) := by decide +kernel
theorem dX0_readDeed_67 : decode cX0_readDeed 67 = .ok (.putfield 27, 3) := by decide +kernel
theorem dX0_readDeed_70 : decode cX0_readDeed 70 = .ok (.aload_n 0, 1) := by decide +kernel
theorem dX0_readDeed_71 : decode cX0_readDeed 71 = .ok (.invokevirtual 63, 3) := by decide +kernel
theorem dX0_readDeed_74 : decode cX0_readDeed 74 = .ok (.goto 171, 3) := by decide +kernel
theorem dX0_readDeed_77 : decode cX0_readDeed 77 = .ok (.aload_n 0, 1) := by decide +kernel
theorem dX0_readDeed_78 : decode cX0_readDeed 78 = .ok (.getstatic 72, 3) := by decide +kernel
theorem dX0_readDeed_81 : decode cX0_readDeed 81 = .ok (.invokevirtual 40, 3) := by decide +kernel
theorem dX0_readDeed_84 : decode cX0_readDeed 84 = .ok (.ifCond .eq 64, 3) := by decide +kernel
theorem dX0_readDeed_87 : decode cX0_readDeed 87 = .ok (.aload_n 0, 1) := by decide +kernel
theorem dX0_readDeed_88 : decode cX0_readDeed 88 = .ok (.aload_n 0, 1) := by decide +kernel
theorem dX0_readDeed_89 : decode cX0_readDeed 89 = .ok (.getfield 33, 3) := by decide +kernel
theorem dX0_readDeed_92 : decode cX0_readDeed 92 = .ok (.invokevirtual 44, 3) := by decide +kernel
theorem dX0_readDeed_95 : decode cX0_readDeed 95 = .ok (.putfield 24, 3) := by decide +kernel
theorem dX0_readDeed_98 : decode cX0_readDeed 98 = .ok (.aload_n 0, 1) := by decide +kernel
theorem dX0_readDeed_99 : decode cX0_readDeed 99 = .ok (.getfield 33, 3) := by decide +kernel
theorem dX0_readDeed_102 : decode cX0_readDeed 102 = .ok (.getstatic 75, 3) := by decide +kernel
theorem dX0_readDeed_105 : decode cX0_readDeed 105 = .ok (.invokevirtual 56, 3) := by decide +kernel
theorem dX0_readDeed_108 : decode cX0_readDeed 108 = .ok (.aload_n 0, 1) := by decide +kernel
theorem dX0_readDeed_109 : decode cX0_readDeed 109 = .ok (.getfield 33, 3) := by decide +kernel
theorem dX0_readDeed_112 : decode cX0_readDeed 112 = .ok (.getstatic 78, 3) := by decide +kernel
theorem dX0_readDeed_115 : decode cX0_readDeed 115 = .ok (.invokevirtual 81, 3) := by decide +kernel
theorem dX0_readDeed_118 : decode cX0_readDeed 118 = .ok (.istore_n 1, 1) := by decide +kernel
theorem dX0_readDeed_119 : decode cX0_readDeed 119 = .ok (.aload_n 0, 1) := by decide +kernel
theorem dX0_readDeed_120 : decode cX0_readDeed 120 = .ok (.iload_n 1, 1) := by decide +kernel
theorem dX0_readDeed_121 : decode cX0_readDeed 121 = .ok (.ifCond .eq 14, 3) := by decide +kernel
theorem dX0_readDeed_124 : decode cX0_readDeed 124 = .ok (.aload_n 0, 1) := by decide +kernel
theorem dX0_readDeed_125 : decode cX0_readDeed 125 = .ok (.getfield 33, 3) := by decide +kernel
theorem dX0_readDeed_128 : decode cX0_readDeed 128 = .ok (.invokevirtual 44, 3) := by decide +kernel
theorem dX0_readDeed_131 : decode cX0_readDeed 131 = .ok (.ineg, 1) := by decide +kernel
theorem dX0_readDeed_132 : decode cX0_readDeed 132 = .ok (.goto 10, 3) := by decide +kernel
theorem dX0_readDeed_135 : decode cX0_readDeed 135 = .ok (.aload_n 0, 1) := by decide +kernel
theorem dX0_readDeed_136 : decode cX0_readDeed 136 = .ok (.getfield 33, 3) := by decide +kernel
theorem dX0_readDeed_139 : decode cX0_readDeed 139 = .ok (.invokevirtual 44, 3) := by decide +kernel
theorem dX0_readDeed_142 : decode cX0_readDeed 142 = .ok (.putfield 27, 3) := by decide +kernel
theorem dX0_readDeed_145 : decode cX0_readDeed 145 = .ok (.goto 100, 3) := by decide +kernel
theorem dX0_readDeed_148 : decode cX0_readDeed 148 = .ok (.aload_n 0, 1) := by decide +kernel
theorem dX0_readDeed_149 : decode cX0_readDeed 149 = .ok (.getstatic 84, 3) := by decide +kernel
theorem dX0_readDeed_152 : decode cX0_readDeed 152 = .ok (.invokevirtual 40, 3) := by decide +kernel
theorem dX0_readDeed_155 : decode cX0_readDeed 155 = .ok (.ifCond .eq 38, 3) := by decide +kernel
theorem dX0_readDeed_158 : decode cX0_readDeed 158 = .ok (.aload_n 0, 1) := by decide +kernel
theorem dX0_readDeed_159 : decode cX0_readDeed 159 = .ok (.aload_n 0, 1) := by decide +kernel
theorem dX0_readDeed_160 : decode cX0_readDeed 160 = .ok (.getfield 33, 3) := by decide +kernel
theorem dX0_readDeed_163 : decode cX0_readDeed 163 = .ok (.invokevirtual 44, 3) := by decide +kernel
theorem dX0_readDeed_166 : decode cX0_readDeed 166 = .ok (.putfield 30, 3) := by decide +kernel
theorem dX0_readDeed_169 : decode cX0_readDeed 169 = .ok (.aload_n 0, 1) := by decide +kernel
theorem dX0_readDeed_170 : decode cX0_readDeed 170 = .ok (.getfield 33, 3) := by decide +kernel
theorem dX0_readDeed_173 : decode cX0_readDeed 173 = .ok (.getstatic 87, 3) := by decide +kernel
theorem dX0_readDeed_176 : decode cX0_readDeed 176 = .ok (.invokevirtual 56, 3) := by decide +kernel
theorem dX0_readDeed_179 : decode cX0_readDeed 179 = .ok (.aload_n 0, 1) := by decide +kernel
theorem dX0_readDeed_180 : decode cX0_readDeed 180 = .ok (.aload_n 0, 1) := by decide +kernel
theorem dX0_readDeed_181 : decode cX0_readDeed 181 = .ok (.getfield 33, 3) := by decide +kernel
theorem dX0_readDeed_184 : decode cX0_readDeed 184 = .ok (.invokevirtual 44, 3) := by decide +kernel
theorem dX0_readDeed_187 : decode cX0_readDeed 187 = .ok (.putfield 24, 3) := by decide +kernel
theorem dX0_readDeed_190 : decode cX0_readDeed 190 = .ok (.goto 55, 3) := by decide +kernel
theorem dX0_readDeed_193 : decode cX0_readDeed 193 = .ok (.aload_n 0, 1) := by decide +kernel
theorem dX0_readDeed_194 : decode cX0_readDeed 194 = .ok (.getstatic 90, 3) := by decide +kernel
theorem dX0_readDeed_197 : decode cX0_readDeed 197 = .ok (.invokevirtual 40, 3) := by decide +kernel
theorem dX0_readDeed_200 : decode cX0_readDeed 200 = .ok (.ifCond .ne 23, 3) := by decide +kernel
theorem dX0_readDeed_203 : decode cX0_readDeed 203 = .ok (.aload_n 0, 1) := by decide +kernel
theorem dX0_readDeed_204 : decode cX0_readDeed 204 = .ok (.getstatic 93, 3) := by decide +kernel
theorem dX0_readDeed_207 : decode cX0_readDeed 207 = .ok (.invokevirtual 40, 3) := by decide +kernel
theorem dX0_readDeed_210 : decode cX0_readDeed 210 = .ok (.ifCond .ne 13, 3) := by decide +kernel
theorem dX0_readDeed_213 : decode cX0_readDeed 213 = .ok (.aload_n 0, 1) := by decide +kernel
theorem dX0_readDeed_214 : decode cX0_readDeed 214 = .ok (.getstatic 96, 3) := by decide +kernel
theorem dX0_readDeed_217 : decode cX0_readDeed 217 = .ok (.invokevirtual 40, 3) := by decide +kernel
theorem dX0_readDeed_220 : decode cX0_readDeed 220 = .ok (.ifCond .eq 17, 3) := by decide +kernel
theorem dX0_readDeed_223 : decode cX0_readDeed 223 = .ok (.aload_n 0, 1) := by decide +kernel
theorem dX0_readDeed_224 : decode cX0_readDeed 224 = .ok (.aload_n 0, 1) := by decide +kernel
theorem dX0_readDeed_225 : decode cX0_readDeed 225 = .ok (.getfield 33, 3) := by decide +kernel
theorem dX0_readDeed_228 : decode cX0_readDeed 228 = .ok (.invokevirtual 44, 3) := by decide +kernel
theorem dX0_readDeed_231 : decode cX0_readDeed 231 = .ok (.putfield 24, 3) := by decide +kernel
theorem dX0_readDeed_234 : decode cX0_readDeed 234 = .ok (.goto 11, 3) := by decide +kernel
theorem dX0_readDeed_237 : decode cX0_readDeed 237 = .ok (.aload_n 0, 1) := by decide +kernel
theorem dX0_readDeed_238 : decode cX0_readDeed 238 = .ok (.getfield 33, 3) := by decide +kernel
theorem dX0_readDeed_241 : decode cX0_readDeed 241 = .ok (.iconst 1, 1) := by decide +kernel
theorem dX0_readDeed_242 : decode cX0_readDeed 242 = .ok (.invokevirtual 99, 3) := by decide +kernel
theorem dX0_readDeed_245 : decode cX0_readDeed 245 = .ok (.return_, 1) := by decide +kernel
theorem dX0_readsVerb_0 : decode cX0_readsVerb 0 = .ok (.aload_n 0, 1) := by decide +kernel
theorem dX0_readsVerb_1 : decode cX0_readsVerb 1 = .ok (.getfield 33, 3) := by decide +kernel
theorem dX0_readsVerb_4 : decode cX0_readsVerb 4 = .ok (.aload_n 1, 1) := by decide +kernel
theorem dX0_readsVerb_5 : decode cX0_readsVerb 5 = .ok (.invokevirtual 81, 3) := by decide +kernel
theorem dX0_readsVerb_8 : decode cX0_readsVerb 8 = .ok (.ifCond .ne 5, 3) := by decide +kernel
theorem dX0_readsVerb_11 : decode cX0_readsVerb 11 = .ok (.iconst 0, 1) := by decide +kernel
theorem dX0_readsVerb_12 : decode cX0_readsVerb 12 = .ok (.ireturn, 1) := by decide +kernel
theorem dX0_readsVerb_13 : decode cX0_readsVerb 13 = .ok (.aload_n 0, 1) := by decide +kernel
theorem dX0_readsVerb_14 : decode cX0_readsVerb 14 = .ok (.aload_n 1, 1) := by decide +kernel
theorem dX0_readsVerb_15 : decode cX0_readsVerb 15 = .ok (.putfield 15, 3) := by decide +kernel
theorem dX0_readsVerb_18 : decode cX0_readsVerb 18 = .ok (.iconst 1, 1) := by decide +kernel
theorem dX0_readsVerb_19 : decode cX0_readsVerb 19 = .ok (.ireturn, 1) := by decide +kernel
theorem dX0_readWorthIfTold_0 : decode cX0_readWorthIfTold 0 = .ok (.aload_n 0, 1) := by decide +kernel
theorem dX0_readWorthIfTold_1 : decode cX0_readWorthIfTold 1 = .ok (.getfield 33, 3) := by decide +kernel
theorem dX0_readWorthIfTold_4 : decode cX0_readWorthIfTold 4 = .ok (.getstatic 84, 3) := by decide +kernel
theorem dX0_readWorthIfTold_7 : decode cX0_readWorthIfTold 7 = .ok (.invokevirtual 81, 3) := by decide +kernel
theorem dX0_readWorthIfTold_10 : decode cX0_readWorthIfTold 10 = .ok (.ifCond .eq 14, 3) := by decide +kernel
theorem dX0_readWorthIfTold_13 : decode cX0_readWorthIfTold 13 = .ok (.aload_n 0, 1) := by decide +kernel
theorem dX0_readWorthIfTold_14 : decode cX0_readWorthIfTold 14 = .ok (.aload_n 0, 1) := by decide +kernel
theorem dX0_readWorthIfTold_15 : decode cX0_readWorthIfTold 15 = .ok (.getfield 33, 3) := by decide +kernel
theorem dX0_readWorthIfTold_18 : decode cX0_readWorthIfTold 18 = .ok (.invokevirtual 44, 3) := by decide +kernel
theorem dX0_readWorthIfTold_21 : decode cX0_readWorthIfTold 21 = .ok (.putfield 30, 3) := by decide +kernel
theorem dX0_readWorthIfTold_24 : decode cX0_readWorthIfTold 24 = .ok (.return_, 1) := by decide +kernel
theorem dX1_init_0 : decode cX1_init 0 = .ok (.aload_n 0, 1) := by decide +kernel
theorem dX1_init_1 : decode cX1_init 1 = .ok (.invokespecial 5, 3) := by decide +kernel
theorem dX1_init_4 : decode cX1_init 4 = .ok (.aload_n 0, 1) := by decide +kernel
theorem dX1_init_5 : decode cX1_init 5 = .ok (.sipush 162, 3) := by decide +kernel
theorem dX1_init_8 : decode cX1_init 8 = .ok (.newarray .int, 2) := by decide +kernel
theorem dX1_init_10 : decode cX1_init 10 = .ok (.putfield 11, 3) := by decide +kernel
theorem dX1_init_13 : decode cX1_init 13 = .ok (.return_, 1) := by decide +kernel
theorem dX1_lockHour_0 : decode cX1_lockHour 0 = .ok (.aload_n 0, 1) := by decide +kernel
theorem dX1_lockHour_1 : decode cX1_lockHour 1 = .ok (.getfield 11, 3) := by decide +kernel
theorem dX1_lockHour_4 : decode cX1_lockHour 4 = .ok (.iconst 0, 1) := by decide +kernel
theorem dX1_lockHour_5 : decode cX1_lockHour 5 = .ok (.iaload, 1) := by decide +kernel
theorem dX1_lockHour_6 : decode cX1_lockHour 6 = .ok (.ireturn, 1) := by decide +kernel
theorem dX1_setLock_0 : decode cX1_setLock 0 = .ok (.aload_n 0, 1) := by decide +kernel
theorem dX1_setLock_1 : decode cX1_setLock 1 = .ok (.getfield 11, 3) := by decide +kernel
theorem dX1_setLock_4 : decode cX1_setLock 4 = .ok (.iconst 0, 1) := by decide +kernel
theorem dX1_setLock_5 : decode cX1_setLock 5 = .ok (.iload_n 1, 1) := by decide +kernel
theorem dX1_setLock_6 : decode cX1_setLock 6 = .ok (.iastore, 1) := by decide +kernel
theorem dX1_setLock_7 : decode cX1_setLock 7 = .ok (.return_, 1) := by decide +kernel
theorem dX1_size_0 : decode cX1_size 0 = .ok (.aload_n 0, 1) := by decide +kernel
theorem dX1_size_1 : decode cX1_size 1 = .ok (.getfield 11, 3) := by decide +kernel
theorem dX1_size_4 : decode cX1_size 4 = .ok (.iconst 1, 1) := by decide +kernel
theorem dX1_size_5 : decode cX1_size 5 = .ok (.iaload, 1) := by decide +kernel
theorem dX1_size_6 : decode cX1_size 6 = .ok (.ireturn, 1) := by decide +kernel
theorem dX1_numberOf_0 : decode cX1_numberOf 0 = .ok (.iload_n 1, 1) := by decide +kernel
theorem dX1_numberOf_1 : decode cX1_numberOf 1 = .ok (.ifCond .lt 22, 3) := by decide +kernel
theorem dX1_numberOf_4 : decode cX1_numberOf 4 = .ok (.iload_n 1, 1) := by decide +kernel
theorem dX1_numberOf_5 : decode cX1_numberOf 5 = .ok (.bipush 40, 2) := by decide +kernel
theorem dX1_numberOf_7 : decode cX1_numberOf 7 = .ok (.if_icmp .ge 16, 3) := by decide +kernel
theorem dX1_numberOf_10 : decode cX1_numberOf 10 = .ok (.aload_n 0, 1) := by decide +kernel
theorem dX1_numberOf_11 : decode cX1_numberOf 11 = .ok (.getfield 11, 3) := by decide +kernel
theorem dX1_numberOf_14 : decode cX1_numberOf 14 = .ok (.iconst 2, 1) := by decide +kernel
theorem dX1_numberOf_15 : decode cX1_numberOf 15 = .ok (.iconst 4, 1) := by decide +kernel
theorem dX1_numberOf_16 : decode cX1_numberOf 16 = .ok (.iload_n 1, 1) := by decide +kernel
theorem dX1_numberOf_17 : decode cX1_numberOf 17 = .ok (.imul, 1) := by decide +kernel
theorem dX1_numberOf_18 : decode cX1_numberOf 18 = .ok (.iadd, 1) := by decide +kernel
theorem dX1_numberOf_19 : decode cX1_numberOf 19 = .ok (.iaload, 1) := by decide +kernel
theorem dX1_numberOf_20 : decode cX1_numberOf 20 = .ok (.goto 4, 3) := by decide +kernel
theorem dX1_numberOf_23 : decode cX1_numberOf 23 = .ok (.iconst 0, 1) := by decide +kernel
theorem dX1_numberOf_24 : decode cX1_numberOf 24 = .ok (.ireturn, 1) := by decide +kernel
theorem dX1_birthOf_0 : decode cX1_birthOf 0 = .ok (.iload_n 1, 1) := by decide +kernel
theorem dX1_birthOf_1 : decode cX1_birthOf 1 = .ok (.ifCond .lt 24, 3) := by decide +kernel
theorem dX1_birthOf_4 : decode cX1_birthOf 4 = .ok (.iload_n 1, 1) := by decide +kernel
theorem dX1_birthOf_5 : decode cX1_birthOf 5 = .ok (.bipush 40, 2) := by decide +kernel
theorem dX1_birthOf_7 : decode cX1_birthOf 7 = .ok (.if_icmp .ge 18, 3) := by decide +kernel
theorem dX1_birthOf_10 : decode cX1_birthOf 10 = .ok (.aload_n 0, 1) := by decide +kernel
theorem dX1_birthOf_11 : decode cX1_birthOf 11 = .ok (.getfield 11, 3) := by decide +kernel
theorem dX1_birthOf_14 : decode cX1_birthOf 14 = .ok (.iconst 2, 1) := by decide +kernel
theorem dX1_birthOf_15 : decode cX1_birthOf 15 = .ok (.iconst 4, 1) := by decide +kernel
theorem dX1_birthOf_16 : decode cX1_birthOf 16 = .ok (.iload_n 1, 1) := by decide +kernel
theorem dX1_birthOf_17 : decode cX1_birthOf 17 = .ok (.imul, 1) := by decide +kernel
theorem dX1_birthOf_18 : decode cX1_birthOf 18 = .ok (.iadd, 1) := by decide +kernel
theorem dX1_birthOf_19 : decode cX1_birthOf 19 = .ok (.iconst 1, 1) := by decide +kernel
theorem dX1_birthOf_20 : decode cX1_birthOf 20 = .ok (.iadd, 1) := by decide +kernel
theorem dX1_birthOf_21 : decode cX1_birthOf 21 = .ok (.iaload, 1) := by decide +kernel
theorem dX1_birthOf_22 : decode cX1_birthOf 22 = .ok (.goto 4, 3) := by decide +kernel
theorem dX1_birthOf_25 : decode cX1_birthOf 25 = .ok (.iconst 0, 1) := by decide +kernel
theorem dX1_birthOf_26 : decode cX1_birthOf 26 = .ok (.ireturn, 1) := by decide +kernel
theorem dX1_deathOf_0 : decode cX1_deathOf 0 = .ok (.iload_n 1, 1) := by decide +kernel
theorem dX1_deathOf_1 : decode cX1_deathOf 1 = .ok (.ifCond .lt 24, 3) := by decide +kernel
theorem dX1_deathOf_4 : decode cX1_deathOf 4 = .ok (.iload_n 1, 1) := by decide +kernel
theorem dX1_deathOf_5 : decode cX1_deathOf 5 = .ok (.bipush 40, 2) := by decide +kernel
theorem dX1_deathOf_7 : decode cX1_deathOf 7 = .ok (.if_icmp .ge 18, 3) := by decide +kernel
theorem dX1_deathOf_10 : decode cX1_deathOf 10 = .ok (.aload_n 0, 1) := by decide +kernel
theorem dX1_deathOf_11 : decode cX1_deathOf 11 = .ok (.getfield 11, 3) := by decide +kernel
theorem dX1_deathOf_14 : decode cX1_deathOf 14 = .ok (.iconst 2, 1) := by decide +kernel
theorem dX1_deathOf_15 : decode cX1_deathOf 15 = .ok (.iconst 4, 1) := by decide +kernel
theorem dX1_deathOf_16 : decode cX1_deathOf 16 = .ok (.iload_n 1, 1) := by decide +kernel
theorem dX1_deathOf_17 : decode cX1_deathOf 17 = .ok (.imul, 1) := by decide +kernel
theorem dX1_deathOf_18 : decode cX1_deathOf 18 = .ok (.iadd, 1) := by decide +kernel
theorem dX1_deathOf_19 : decode cX1_deathOf 19 = .ok (.iconst 2, 1) := by decide +kernel
theorem dX1_deathOf_20 : decode cX1_deathOf 20 = .ok (.iadd, 1) := by decide +kernel
theorem dX1_deathOf_21 : decode cX1_deathOf 21 = .ok (.iaload, 1) := by decide +kernel
theorem dX1_deathOf_22 : decode cX1_deathOf 22 = .ok (.goto 4, 3) := by decide +kernel
theorem dX1_deathOf_25 : decode cX1_deathOf 25 = .ok (.iconst 0, 1) := by decide +kernel
theorem dX1_deathOf_26 : decode cX1_deathOf 26 = .ok (.ireturn, 1) := by decide +kernel
theorem dX1_worthOf_0 : decode cX1_worthOf 0 = .ok (.iload_n 1, 1) := by decide +kernel
theorem dX1_worthOf_1 : decode cX1_worthOf 1 = .ok (.ifCond .lt 24, 3) := by decide +kernel
theorem dX1_worthOf_4 : decode cX1_worthOf 4 = .ok (.iload_n 1, 1) := by decide +kernel
theorem dX1_worthOf_5 : decode cX1_worthOf 5 = .ok (.bipush 40, 2) := by decide +kernel
theorem dX1_worthOf_7 : decode cX1_worthOf 7 = .ok (.if_icmp .ge 18, 3) := by decide +kernel
theorem dX1_worthOf_10 : decode cX1_worthOf 10 = .ok (.aload_n 0, 1) := by decide +kernel
theorem dX1_worthOf_11 : decode cX1_worthOf 11 = .ok (.getfield 11, 3) := by decide +kernel
theorem dX1_worthOf_14 : decode cX1_worthOf 14 = .ok (.iconst 2, 1) := by decide +kernel
theorem dX1_worthOf_15 : decode cX1_worthOf 15 = .ok (.iconst 4, 1) := by decide +kernel
theorem dX1_worthOf_16 : decode cX1_worthOf 16 = .ok (.iload_n 1, 1) := by decide +kernel
theorem dX1_worthOf_17 : decode cX1_worthOf 17 = .ok (.imul, 1) := by decide +kernel
theorem dX1_worthOf_18 : decode cX1_worthOf 18 = .ok (.iadd, 1) := by decide +kernel
theorem dX1_worthOf_19 : decode cX1_worthOf 19 = .ok (.iconst 3, 1) := by decide +kernel
theorem dX1_worthOf_20 : decode cX1_worthOf 20 = .ok (.iadd, 1) := by decide +kernel
theorem dX1_worthOf_21 : decode cX1_worthOf 21 = .ok (.iaload, 1) := by decide +kernel
theorem dX1_worthOf_22 : decode cX1_worthOf 22 = .ok (.goto 4, 3) := by decide +kernel
theorem dX1_worthOf_25 : decode cX1_worthOf 25 = .ok (.iconst 0, 1) := by decide +kernel
theorem dX1_worthOf_26 : decode cX1_worthOf 26 = .ok (.ireturn, 1) := by decide +kernel
theorem dX1_setWorth_0 : decode cX1_setWorth 0 = .ok (.iload_n 1, 1) := by decide +kernel
theorem dX1_setWorth_1 : decode cX1_setWorth 1 = .ok (.ifCond .lt 22, 3) := by decide +kernel
theorem dX1_setWorth_4 : decode cX1_setWorth 4 = .ok (.iload_n 1, 1) := by decide +kernel
theorem dX1_setWorth_5 : decode cX1_setWorth 5 = .ok (.bipush 40, 2) := by decide +kernel
theorem dX1_setWorth_7 : decode cX1_setWorth 7 = .ok (.if_icmp .ge 16, 3) := by decide +kernel
theorem dX1_setWorth_10 : decode cX1_setWorth 10 = .ok (.aload_n 0, 1) := by decide +kernel
theorem dX1_setWorth_11 : decode cX1_setWorth 11 = .ok (.getfield 11, 3) := by decide +kernel
theorem dX1_setWorth_14 : decode cX1_setWorth 14 = .ok (.iconst 2, 1) := by decide +kernel
theorem dX1_setWorth_15 : decode cX1_setWorth 15 = .ok (.iconst 4, 1) := by decide +kernel
theorem dX1_setWorth_16 : decode cX1_setWorth 16 = .ok (.iload_n 1, 1) := by decide +kernel
theorem dX1_setWorth_17 : decode cX1_setWorth 17 = .ok (.imul, 1) := by decide +kernel
theorem dX1_setWorth_18 : decode cX1_setWorth 18 = .ok (.iadd, 1) := by decide +kernel
theorem dX1_setWorth_19 : decode cX1_setWorth 19 = .ok (.iconst 3, 1) := by decide +kernel
theorem dX1_setWorth_20 : decode cX1_setWorth 20 = .ok (.iadd, 1) := by decide +kernel
theorem dX1_setWorth_21 : decode cX1_setWorth 21 = .ok (.iload_n 2, 1) := by decide +kernel
theorem dX1_setWorth_22 : decode cX1_setWorth 22 = .ok (.iastore, 1) := by decide +kernel
theorem dX1_setWorth_23 : decode cX1_setWorth 23 = .ok (.return_, 1) := by decide +kernel
theorem dX1_copyTo_0 : decode cX1_copyTo 0 = .ok (.aload_n 1, 1) := by decide +kernel
theorem dX1_copyTo_1 : decode cX1_copyTo 1 = .ok (.ifnull 24, 3) := by decide +kernel
theorem dX1_copyTo_4 : decode cX1_copyTo 4 = .ok (.aload_n 1, 1) := by decide +kernel
theorem dX1_copyTo_5 : decode cX1_copyTo 5 = .ok (.arraylength, 1) := by decide +kernel
theorem dX1_copyTo_6 : decode cX1_copyTo 6 = .ok (.sipush 162, 3) := by decide +kernel
theorem dX1_copyTo_9 : decode cX1_copyTo 9 = .ok (.if_icmp .lt 16, 3) := by decide +kernel
theorem dX1_copyTo_12 : decode cX1_copyTo 12 = .ok (.aload_n 0, 1) := by decide +kernel
theorem dX1_copyTo_13 : decode cX1_copyTo 13 = .ok (.getfield 11, 3) := by decide +kernel
theorem dX1_copyTo_16 : decode cX1_copyTo 16 = .ok (.iconst 0, 1) := by decide +kernel
theorem dX1_copyTo_17 : decode cX1_copyTo 17 = .ok (.aload_n 1, 1) := by decide +kernel
theorem dX1_copyTo_18 : decode cX1_copyTo 18 = .ok (.iconst 0, 1) := by decide +kernel
theorem dX1_copyTo_19 : decode cX1_copyTo 19 = .ok (.sipush 162, 3) := by decide +kernel
theorem dX1_copyTo_22 : decode cX1_copyTo 22 = .ok (.invokestatic 15, 3) := by decide +kernel
theorem dX1_copyTo_25 : decode cX1_copyTo 25 = .ok (.return_, 1) := by decide +kernel
theorem dX1_copyFrom_0 : decode cX1_copyFrom 0 = .ok (.aload_n 1, 1) := by decide +kernel
theorem dX1_copyFrom_1 : decode cX1_copyFrom 1 = .ok (.ifnull 24, 3) := by decide +kernel
theorem dX1_copyFrom_4 : decode cX1_copyFrom 4 = .ok (.aload_n 1, 1) := by decide +kernel
theorem dX1_copyFrom_5 : decode cX1_copyFrom 5 = .ok (.arraylength, 1) := by decide +kernel
theorem dX1_copyFrom_6 : decode cX1_copyFrom 6 = .ok (.sipush 162, 3) := by decide +kernel
theorem dX1_copyFrom_9 : decode cX1_copyFrom 9 = .ok (.if_icmp .lt 16, 3) := by decide +kernel
theorem dX1_copyFrom_12 : decode cX1_copyFrom 12 = .ok (.aload_n 1, 1) := by decide +kernel
theorem dX1_copyFrom_13 : decode cX1_copyFrom 13 = .ok (.iconst 0, 1) := by decide +kernel
theorem dX1_copyFrom_14 : decode cX1_copyFrom 14 = .ok (.aload_n 0, 1) := by decide +kernel
theorem dX1_copyFrom_15 : decode cX1_copyFrom 15 = .ok (.getfield 11, 3) := by decide +kernel
theorem dX1_copyFrom_18 : decode cX1_copyFrom 18 = .ok (.iconst 0, 1) := by decide +kernel
theorem dX1_copyFrom_19 : decode cX1_copyFrom 19 = .ok (.sipush 162, 3) := by decide +kernel
theorem dX1_copyFrom_22 : decode cX1_copyFrom 22 = .ok (.invokestatic 15, 3) := by decide +kernel
theorem dX1_copyFrom_25 : decode cX1_copyFrom 25 = .ok (.return_, 1) := by decide +kernel
theorem dX1_insert_0 : decode cX1_insert 0 = .ok (.aload_n 0, 1) := by decide +kernel
theorem dX1_insert_1 : decode cX1_insert 1 = .ok (.invokevirtual 21, 3) := by decide +kernel
theorem dX1_insert_4 : decode cX1_insert 4 = .ok (.istore 5, 2) := by decide +kernel
theorem dX1_insert_6 : decode cX1_insert 6 = .ok (.iload 5, 2) := by decide +kernel
theorem dX1_insert_8 : decode cX1_insert 8 = .ok (.ifCond .lt 10, 3) := by decide +kernel
theorem dX1_insert_11 : decode cX1_insert 11 = .ok (.iload 5, 2) := by decide +kernel
theorem dX1_insert_13 : decode cX1_insert 13 = .ok (.bipush 40, 2) := by decide +kernel
theorem dX1_insert_15 : decode cX1_insert 15 = .ok (.if_icmp .lt 4, 3) := by decide +kernel
theorem dX1_insert_18 : decode cX1_insert 18 = .ok (.return_, 1) := by decide +kernel
theorem dX1_insert_19 : decode cX1_insert 19 = .ok (.iconst 0, 1) := by decide +kernel
theorem dX1_insert_20 : decode cX1_insert 20 = .ok (.istore 6, 2) := by decide +kernel
theorem dX1_insert_22 : decode cX1_insert 22 = .ok (.iconst 0, 1) := by decide +kernel
theorem dX1_insert_23 : decode cX1_insert 23 = .ok (.istore 7, 2) := by decide +kernel
theorem dX1_insert_25 : decode cX1_insert 25 = .ok (.iload 7, 2) := by decide +kernel
theorem dX1_insert_27 : decode cX1_insert 27 = .ok (.iload 5, 2) := by decide +kernel
theorem dX1_insert_29 : decode cX1_insert 29 = .ok (.if_icmp .ge 45, 3) := by decide +kernel
theorem dX1_insert_32 : decode cX1_insert 32 = .ok (.aload_n 0, 1) := by decide +kernel
theorem dX1_insert_33 : decode cX1_insert 33 = .ok (.iload 7, 2) := by decide +kernel
theorem dX1_insert_35 : decode cX1_insert 35 = .ok (.invokevirtual 25, 3) := by decide +kernel
theorem dX1_insert_38 : decode cX1_insert 38 = .ok (.iload_n 1, 1) := by decide +kernel
theorem dX1_insert_39 : decode cX1_insert 39 = .ok (.if_icmp .lt 23, 3) := by decide +kernel
theorem dX1_insert_42 : decode cX1_insert 42 = .ok (.aload_n 0, 1) := by decide +kernel
theorem dX1_insert_43 : decode cX1_insert 43 = .ok (.iload 7, 2) := by decide +kernel
theorem dX1_insert_45 : decode cX1_insert 45 = .ok (.invokevirtual 25, 3) := by decide +kernel
theorem dX1_insert_48 : decode cX1_insert 48 = .ok (.iload_n 1, 1) := by decide +kernel
theorem dX1_insert_49 : decode cX1_insert 49 = .ok (.if_icmp .ne 19, 3) := by decide +kernel
theorem dX1_insert_52 : decode cX1_insert 52 = .ok (.aload_n 0, 1) := by decide +kernel
theorem dX1_insert_53 : decode cX1_insert 53 = .ok (.iload 7, 2) := by decide +kernel
theorem dX1_insert_55 : decode cX1_insert 55 = .ok (.invokevirtual 29, 3) := by decide +kernel
theorem dX1_insert_58 : decode cX1_insert 58 = .ok (.iload_n 2, 1) := by decide +kernel
theorem dX1_insert_59 : decode cX1_insert 59 = .ok (.if_icmp .ge 9, 3) := by decide +kernel
theorem dX1_insert_62 : decode cX1_insert 62 = .ok (.iload 7, 2) := by decide +kernel
theorem dX1_insert_64 : decode cX1_insert 64 = .ok (.iconst 1, 1) := by decide +kernel
theorem dX1_insert_65 : decode cX1_insert 65 = .ok (.iadd, 1) := by decide +kernel
theorem dX1_insert_66 : decode cX1_insert 66 = .ok (.istore 6, 2) := by decide +kernel
theorem dX1_insert_68 : decode cX1_insert 68 = .ok (.iinc 7 1, 3) := by decide +kernel
theorem dX1_insert_71 : decode cX1_insert 71 = .ok (.goto (-46), 3) := by decide +kernel
theorem dX1_insert_74 : decode cX1_insert 74 = .ok (.iconst 2, 1) := by decide +kernel
theorem dX1_insert_75 : decode cX1_insert 75 = .ok (.iconst 4, 1) := by decide +kernel
theorem dX1_insert_76 : decode cX1_insert 76 = .ok (.iload 6, 2) := by decide +kernel
theorem dX1_insert_78 : decode cX1_insert 78 = .ok (.imul, 1) := by decide +kernel
theorem dX1_insert_79 : decode cX1_insert 79 = .ok (.iadd, 1) := by decide +kernel
theorem dX1_insert_80 : decode cX1_insert 80 = .ok (.istore 7, 2) := by decide +kernel
theorem dX1_insert_82 : decode cX1_insert 82 = .ok (.aload_n 0, 1) := by decide +kernel
theorem dX1_insert_83 : decode cX1_insert 83 = .ok (.getfield 11, 3) := by decide +kernel
theorem dX1_insert_86 : decode cX1_insert 86 = .ok (.iload 7, 2) := by decide +kernel
theorem dX1_insert_88 : decode cX1_insert 88 = .ok (.aload_n 0, 1) := by decide +kernel
theorem dX1_insert_89 : decode cX1_insert 89 = .ok (.getfield 11, 3) := by decide +kernel
theorem dX1_insert_92 : decode cX1_insert 92 = .ok (.iload 7, 2) := by decide +kernel
theorem dX1_insert_94 : decode cX1_insert 94 = .ok (.iconst 4, 1) := by decide +kernel
theorem dX1_insert_95 : decode cX1_insert 95 = .ok (.iadd, 1) := by decide +kernel
theorem dX1_insert_96 : decode cX1_insert 96 = .ok (.iconst 4, 1) := by decide +kernel
theorem dX1_insert_97 : decode cX1_insert 97 = .ok (.iload 5, 2) := by decide +kernel
theorem dX1_insert_99 : decode cX1_insert 99 = .ok (.iload 6, 2) := by decide +kernel
theorem dX1_insert_101 : decode cX1_insert 101 = .ok (.isub, 1) := by decide +kernel
theorem dX1_insert_102 : decode cX1_insert 102 = .ok (.imul, 1) := by decide +kernel
theorem dX1_insert_103 : decode cX1_insert 103 = .ok (.invokestatic 15, 3) := by decide +kernel
theorem dX1_insert_106 : decode cX1_insert 106 = .ok (.aload_n 0, 1) := by decide +kernel
theorem dX1_insert_107 : decode cX1_insert 107 = .ok (.getfield 11, 3) := by decide +kernel
theorem dX1_insert_110 : decode cX1_insert 110 = .ok (.iconst 1, 1) := by decide +kernel
theorem dX1_insert_111 : decode cX1_insert 111 = .ok (.iload 5, 2) := by decide +kernel
theorem dX1_insert_113 : decode cX1_insert 113 = .ok (.iconst 1, 1) := by decide +kernel
theorem dX1_insert_114 : decode cX1_insert 114 = .ok (.iadd, 1) := by decide +kernel
theorem dX1_insert_115 : decode cX1_insert 115 = .ok (.iastore, 1) := by decide +kernel
theorem dX1_insert_116 : decode cX1_insert 116 = .ok (.aload_n 0, 1) := by decide +kernel
theorem dX1_insert_117 : decode cX1_insert 117 = .ok (.getfield 11, 3) := by decide +kernel
theorem dX1_insert_120 : decode cX1_insert 120 = .ok (.iload 7, 2) := by decide +kernel
theorem dX1_insert_122 : decode cX1_insert 122 = .ok (.iload_n 1, 1) := by decide +kernel
theorem dX1_insert_123 : decode cX1_insert 123 = .ok (.iastore, 1) := by decide +kernel
theorem dX1_insert_124 : decode cX1_insert 124 = .ok (.aload_n 0, 1) := by decide +kernel
theorem dX1_insert_125 : decode cX1_insert 125 = .ok (.getfield 11, 3) := by decide +kernel
theorem dX1_insert_128 : decode cX1_insert 128 = .ok (.iload 7, 2) := by decide +kernel
theorem dX1_insert_130 : decode cX1_insert 130 = .ok (.iconst 1, 1) := by decide +kernel
theorem dX1_insert_131 : decode cX1_insert 131 = .ok (.iadd, 1) := by decide +kernel
theorem dX1_insert_132 : decode cX1_insert 132 = .ok (.iload_n 2, 1) := by decide +kernel
theorem dX1_insert_133 : decode cX1_insert 133 = .ok (.iastore, 1) := by decide +kernel
theorem dX1_insert_134 : decode cX1_insert 134 = .ok (.aload_n 0, 1) := by decide +kernel
theorem dX1_insert_135 : decode cX1_insert 135 = .ok (.getfield 11, 3) := by decide +kernel
theorem dX1_insert_138 : decode cX1_insert 138 = .ok (.iload 7, 2) := by decide +kernel
theorem dX1_insert_140 : decode cX1_insert 140 = .ok (.iconst 2, 1) := by decide +kernel
theorem dX1_insert_141 : decode cX1_insert 141 = .ok (.iadd, 1) := by decide +kernel
theorem dX1_insert_142 : decode cX1_insert 142 = .ok (.iload_n 3, 1) := by decide +kernel
theorem dX1_insert_143 : decode cX1_insert 143 = .ok (.iastore, 1) := by decide +kernel
theorem dX1_insert_144 : decode cX1_insert 144 = .ok (.aload_n 0, 1) := by decide +kernel
theorem dX1_insert_145 : decode cX1_insert 145 = .ok (.getfield 11, 3) := by decide +kernel
theorem dX1_insert_148 : decode cX1_insert 148 = .ok (.iload 7, 2) := by decide +kernel
theorem dX1_insert_150 : decode cX1_insert 150 = .ok (.iconst 3, 1) := by decide +kernel
theorem dX1_insert_151 : decode cX1_insert 151 = .ok (.iadd, 1) := by decide +kernel
theorem dX1_insert_152 : decode cX1_insert 152 = .ok (.iload 4, 2) := by decide +kernel
theorem dX1_insert_154 : decode cX1_insert 154 = .ok (.iastore, 1) := by decide +kernel
theorem dX1_insert_155 : decode cX1_insert 155 = .ok (.return_, 1) := by decide +kernel
theorem dX1_remove_0 : decode cX1_remove 0 = .ok (.aload_n 0, 1) := by decide +kernel
theorem dX1_remove_1 : decode cX1_remove 1 = .ok (.invokevirtual 21, 3) := by decide +kernel
theorem dX1_remove_4 : decode cX1_remove 4 = .ok (.istore_n 2, 1) := by decide +kernel
theorem dX1_remove_5 : decode cX1_remove 5 = .ok (.iload_n 1, 1) := by decide +kernel
theorem dX1_remove_6 : decode cX1_remove 6 = .ok (.ifCond .lt 14, 3) := by decide +kernel
theorem dX1_remove_9 : decode cX1_remove 9 = .ok (.iload_n 1, 1) := by decide +kernel
theorem dX1_remove_10 : decode cX1_remove 10 = .ok (.iload_n 2, 1) := by decide +kernel
theorem dX1_remove_11 : decode cX1_remove 11 = .ok (.if_icmp .ge 9, 3) := by decide +kernel
theorem dX1_remove_14 : decode cX1_remove 14 = .ok (.iload_n 2, 1) := by decide +kernel
theorem dX1_remove_15 : decode cX1_remove 15 = .ok (.bipush 40, 2) := by decide +kernel
theorem dX1_remove_17 : decode cX1_remove 17 = .ok (.if_icmp .le 4, 3) := by decide +kernel
theorem dX1_remove_20 : decode cX1_remove 20 = .ok (.return_, 1) := by decide +kernel
theorem dX1_remove_21 : decode cX1_remove 21 = .ok (.iconst 2, 1) := by decide +kernel
theorem dX1_remove_22 : decode cX1_remove 22 = .ok (.iconst 4, 1) := by decide +kernel
theorem dX1_remove_23 : decode cX1_remove 23 = .ok (.iload_n 1, 1) := by decide +kernel
theorem dX1_remove_24 : decode cX1_remove 24 = .ok (.imul, 1) := by decide +kernel
theorem dX1_remove_25 : decode cX1_remove 25 = .ok (.iadd, 1) := by decide +kernel
theorem dX1_remove_26 : decode cX1_remove 26 = .ok (.istore_n 3, 1) := by decide +kernel
theorem dX1_remove_27 : decode cX1_remove 27 = .ok (.aload_n 0, 1) := by decide +kernel
theorem dX1_remove_28 : decode cX1_remove 28 = .ok (.getfield 11, 3) := by decide +kernel
theorem dX1_remove_31 : decode cX1_remove 31 = .ok (.iload_n 3, 1) := by decide +kernel
theorem dX1_remove_32 : decode cX1_remove 32 = .ok (.iconst 4, 1) := by decide +kernel
theorem dX1_remove_33 : decode cX1_remove 33 = .ok (.iadd, 1) := by decide +kernel
theorem dX1_remove_34 : decode cX1_remove 34 = .ok (.aload_n 0, 1) := by decide +kernel
theorem dX1_remove_35 : decode cX1_remove 35 = .ok (.getfield 11, 3) := by decide +kernel
theorem dX1_remove_38 : decode cX1_remove 38 = .ok (.iload_n 3, 1) := by decide +kernel
theorem dX1_remove_39 : decode cX1_remove 39 = .ok (.iconst 4, 1) := by decide +kernel
theorem dX1_remove_40 : decode cX1_remove 40 = .ok (.iload_n 2, 1) := by decide +kernel
theorem dX1_remove_41 : decode cX1_remove 41 = .ok (.iload_n 1, 1) := by decide +kernel
theorem dX1_remove_42 : decode cX1_remove 42 = .ok (.isub, 1) := by decide +kernel
theorem dX1_remove_43 : decode cX1_remove 43 = .ok (.iconst 1, 1) := by decide +kernel
theorem dX1_remove_44 : decode cX1_remove 44 = .ok (.isub, 1) := by decide +kernel
theorem dX1_remove_45 : decode cX1_remove 45 = .ok (.imul, 1) := by decide +kernel
theorem dX1_remove_46 : decode cX1_remove 46 = .ok (.invokestatic 15, 3) := by decide +kernel
theorem dX1_remove_49 : decode cX1_remove 49 = .ok (.aload_n 0, 1) := by decide +kernel
theorem dX1_remove_50 : decode cX1_remove 50 = .ok (.getfield 11, 3) := by decide +kernel
theorem dX1_remove_53 : decode cX1_remove 53 = .ok (.iconst 1, 1) := by decide +kernel
theorem dX1_remove_54 : decode cX1_remove 54 = .ok (.iload_n 2, 1) := by decide +kernel
theorem dX1_remove_55 : decode cX1_remove 55 = .ok (.iconst 1, 1) := by decide +kernel
theorem dX1_remove_56 : decode cX1_remove 56 = .ok (.isub, 1) := by decide +kernel
theorem dX1_remove_57 : decode cX1_remove 57 = .ok (.iastore, 1) := by decide +kernel
theorem dX1_remove_58 : decode cX1_remove 58 = .ok (.return_, 1) := by decide +kernel
theorem dX1_isAlive_0 : decode cX1_isAlive 0 = .ok (.aload_n 0, 1) := by decide +kernel
theorem dX1_isAlive_1 : decode cX1_isAlive 1 = .ok (.iload_n 1, 1) := by decide +kernel
theorem dX1_isAlive_2 : decode cX1_isAlive 2 = .ok (.invokevirtual 29, 3) := by decide +kernel
theorem dX1_isAlive_5 : decode cX1_isAlive 5 = .ok (.iload_n 2, 1) := by decide +kernel
theorem dX1_isAlive_6 : decode cX1_isAlive 6 = .ok (.if_icmp .gt 16, 3) := by decide +kernel
theorem dX1_isAlive_9 : decode cX1_isAlive 9 = .ok (.iload_n 2, 1) := by decide +kernel
theorem dX1_isAlive_10 : decode cX1_isAlive 10 = .ok (.aload_n 0, 1) := by decide +kernel
theorem dX1_isAlive_11 : decode cX1_isAlive 11 = .ok (.iload_n 1, 1) := by decide +kernel
theorem dX1_isAlive_12 : decode cX1_isAlive 12 = .ok (.invokevirtual 32, 3) := by decide +kernel
theorem dX1_isAlive_15 : decode cX1_isAlive 15 = .ok (.if_icmp .ge 7, 3) := by decide +kernel
theorem dX1_isAlive_18 : decode cX1_isAlive 18 = .ok (.iconst 1, 1) := by decide +kernel
theorem dX1_isAlive_19 : decode cX1_isAlive 19 = .ok (.goto 4, 3) := by decide +kernel
theorem dX1_isAlive_22 : decode cX1_isAlive 22 = .ok (.iconst 0, 1) := by decide +kernel
theorem dX1_isAlive_23 : decode cX1_isAlive 23 = .ok (.ireturn, 1) := by decide +kernel
theorem dX1_isCoveredBy_0 : decode cX1_isCoveredBy 0 = .ok (.aload_n 0, 1) := by decide +kernel
theorem dX1_isCoveredBy_1 : decode cX1_isCoveredBy 1 = .ok (.iload_n 1, 1) := by decide +kernel
theorem dX1_isCoveredBy_2 : decode cX1_isCoveredBy 2 = .ok (.invokevirtual 29, 3) := by decide +kernel
theorem dX1_isCoveredBy_5 : decode cX1_isCoveredBy 5 = .ok (.istore_n 3, 1) := by decide +kernel
theorem dX1_isCoveredBy_6 : decode cX1_isCoveredBy 6 = .ok (.aload_n 0, 1) := by decide +kernel
theorem dX1_isCoveredBy_7 : decode cX1_isCoveredBy 7 = .ok (.iload_n 1, 1) := by decide +kernel
theorem dX1_isCoveredBy_8 : decode cX1_isCoveredBy 8 = .ok (.invokevirtual 32, 3) := by decide +kernel
theorem dX1_isCoveredBy_11 : decode cX1_isCoveredBy 11 = .ok (.istore 4, 2) := by decide +kernel
theorem dX1_isCoveredBy_13 : decode cX1_isCoveredBy 13 = .ok (.iload_n 2, 1) := by decide +kernel
theorem dX1_isCoveredBy_14 : decode cX1_isCoveredBy 14 = .ok (.iload_n 3, 1) := by decide +kernel
theorem dX1_isCoveredBy_15 : decode cX1_isCoveredBy 15 = .ok (.iload 4, 2) := by decide +kernel
theorem dX1_isCoveredBy_17 : decode cX1_isCoveredBy 17 = .ok (.invokestatic 35, 3) := by decide +kernel
theorem dX1_isCoveredBy_20 : decode cX1_isCoveredBy 20 = .ok (.ifCond .eq 24, 3) := by decide +kernel
theorem dX1_isCoveredBy_23 : decode cX1_isCoveredBy 23 = .ok (.iload_n 2, 1) := by decide +kernel
theorem dX1_isCoveredBy_24 : decode cX1_isCoveredBy 24 = .ok (.iconst 1, 1) := by decide +kernel
theorem dX1_isCoveredBy_25 : decode cX1_isCoveredBy 25 = .ok (.if_icmp .eq 15, 3) := by decide +kernel
theorem dX1_isCoveredBy_28 : decode cX1_isCoveredBy 28 = .ok (.iload_n 2, 1) := by decide +kernel
theorem dX1_isCoveredBy_29 : decode cX1_isCoveredBy 29 = .ok (.iconst 2, 1) := by decide +kernel
theorem dX1_isCoveredBy_30 : decode cX1_isCoveredBy 30 = .ok (.idiv, 1) := by decide +kernel
theorem dX1_isCoveredBy_31 : decode cX1_isCoveredBy 31 = .ok (.iload_n 3, 1) := by decide +kernel
theorem dX1_isCoveredBy_32 : decode cX1_isCoveredBy 32 = .ok (.iload 4, 2) := by decide +kernel
theorem dX1_isCoveredBy_34 : decode cX1_isCoveredBy 34 = .ok (.invokestatic 35, 3) := by decide +kernel
theorem dX1_isCoveredBy_37 : decode cX1_isCoveredBy 37 = .ok (.ifCond .ne 7, 3) := by decide +kernel
theorem dX1_isCoveredBy_40 : decode cX1_isCoveredBy 40 = .ok (.iconst 1, 1) := by decide +kernel
theorem dX1_isCoveredBy_41 : decode cX1_isCoveredBy 41 = .ok (.goto 4, 3) := by decide +kernel
theorem dX1_isCoveredBy_44 : decode cX1_isCoveredBy 44 = .ok (.iconst 0, 1) := by decide +kernel
theorem dX1_isCoveredBy_45 : decode cX1_isCoveredBy 45 = .ok (.ireturn, 1) := by decide +kernel
theorem dX1_find_0 : decode cX1_find 0 = .ok (.iconst 0, 1) := by decide +kernel
theorem dX1_find_1 : decode cX1_find 1 = .ok (.istore_n 3, 1) := by decide +kernel
theorem dX1_find_2 : decode cX1_find 2 = .ok (.iload_n 3, 1) := by decide +kernel
theorem dX1_find_3 : decode cX1_find 3 = .ok (.aload_n 0, 1) := by decide +kernel
theorem dX1_find_4 : decode cX1_find 4 = .ok (.invokevirtual 21, 3) := by decide +kernel
theorem dX1_find_7 : decode cX1_find 7 = .ok (.if_icmp .ge 29, 3) := by decide +kernel
theorem dX1_find_10 : decode cX1_find 10 = .ok (.aload_n 0, 1) := by decide +kernel
theorem dX1_find_11 : decode cX1_find 11 = .ok (.iload_n 3, 1) := by decide +kernel
theorem dX1_find_12 : decode cX1_find 12 = .ok (.invokevirtual 25, 3) := by decide +kernel
theorem dX1_find_15 : decode cX1_find 15 = .ok (.iload_n 1, 1) := by decide +kernel
theorem dX1_find_16 : decode cX1_find 16 = .ok (.if_icmp .ne 14, 3) := by decide +kernel
theorem dX1_find_19 : decode cX1_find 19 = .ok (.aload_n 0, 1) := by decide +kernel
theorem dX1_find_20 : decode cX1_find 20 = .ok (.iload_n 3, 1) := by decide +kernel
theorem dX1_find_21 : decode cX1_find 21 = .ok (.iload_n 2, 1) := by decide +kernel
theorem dX1_find_22 : decode cX1_find 22 = .ok (.invokevirtual 39, 3) := by decide +kernel
theorem dX1_find_25 : decode cX1_find 25 = .ok (.ifCond .eq 5, 3) := by decide +kernel
theorem dX1_find_28 : decode cX1_find 28 = .ok (.iload_n 3, 1) := by decide +kernel
theorem dX1_find_29 : decode cX1_find 29 = .ok (.ireturn, 1) := by decide +kernel
theorem dX1_find_30 : decode cX1_find 30 = .ok (.iinc 3 1, 3) := by decide +kernel
theorem dX1_find_33 : decode cX1_find 33 = .ok (.goto (-31), 3) := by decide +kernel
theorem dX1_find_36 : decode cX1_find 36 = .ok (.iconst (-1), 1) := by decide +kernel
theorem dX1_find_37 : decode cX1_find 37 = .ok (.ireturn, 1) := by decide +kernel
theorem dX1_findDeath_0 : decode cX1_findDeath 0 = .ok (.iconst 0, 1) := by decide +kernel
theorem dX1_findDeath_1 : decode cX1_findDeath 1 = .ok (.istore_n 3, 1) := by decide +kernel
theorem dX1_findDeath_2 : decode cX1_findDeath 2 = .ok (.iload_n 3, 1) := by decide +kernel
theorem dX1_findDeath_3 : decode cX1_findDeath 3 = .ok (.aload_n 0, 1) := by decide +kernel
theorem dX1_findDeath_4 : decode cX1_findDeath 4 = .ok (.invokevirtual 21, 3) := by decide +kernel
theorem dX1_findDeath_7 : decode cX1_findDeath 7 = .ok (.if_icmp .ge 29, 3) := by decide +kernel
theorem dX1_findDeath_10 : decode cX1_findDeath 10 = .ok (.aload_n 0, 1) := by decide +kernel
theorem dX1_findDeath_11 : decode cX1_findDeath 11 = .ok (.iload_n 3, 1) := by decide +kernel
theorem dX1_findDeath_12 : decode cX1_findDeath 12 = .ok (.invokevirtual 25, 3) := by decide +kernel
theorem dX1_findDeath_15 : decode cX1_findDeath 15 = .ok (.iload_n 1, 1) := by decide +kernel
theorem dX1_findDeath_16 : decode cX1_findDeath 16 = .ok (.if_icmp .ne 14, 3) := by decide +kernel
theorem dX1_findDeath_19 : decode cX1_findDeath 19 = .ok (.aload_n 0, 1) := by decide +kernel
theorem dX1_findDeath_20 : decode cX1_findDeath 20 = .ok (.iload_n 3, 1) := by decide +kernel
theorem dX1_findDeath_21 : decode cX1_findDeath 21 = .ok (.invokevirtual 32, 3) := by decide +kernel
theorem dX1_findDeath_24 : decode cX1_findDeath 24 = .ok (.iload_n 2, 1) := by decide +kernel
theorem dX1_findDeath_25 : decode cX1_findDeath 25 = .ok (.if_icmp .ne 5, 3) := by decide +kernel
theorem dX1_findDeath_28 : decode cX1_findDeath 28 = .ok (.iload_n 3, 1) := by decide +kernel
theorem dX1_findDeath_29 : decode cX1_findDeath 29 = .ok (.ireturn, 1) := by decide +kernel
theorem dX1_findDeath_30 : decode cX1_findDeath 30 = .ok (.iinc 3 1, 3) := by decide +kernel
theorem dX1_findDeath_33 : decode cX1_findDeath 33 = .ok (.goto (-31), 3) := by decide +kernel
theorem dX1_findDeath_36 : decode cX1_findDeath 36 = .ok (.iconst (-1), 1) := by decide +kernel
theorem dX1_findDeath_37 : decode cX1_findDeath 37 = .ok (.ireturn, 1) := by decide +kernel
theorem dX1_firstAt_0 : decode cX1_firstAt 0 = .ok (.iconst 0, 1) := by decide +kernel
theorem dX1_firstAt_1 : decode cX1_firstAt 1 = .ok (.istore_n 3, 1) := by decide +kernel
theorem dX1_firstAt_2 : decode cX1_firstAt 2 = .ok (.iload_n 3, 1) := by decide +kernel
theorem dX1_firstAt_3 : decode cX1_firstAt 3 = .ok (.aload_n 0, 1) := by decide +kernel
theorem dX1_firstAt_4 : decode cX1_firstAt 4 = .ok (.invokevirtual 21, 3) := by decide +kernel
theorem dX1_firstAt_7 : decode cX1_firstAt 7 = .ok (.if_icmp .ge 29, 3) := by decide +kernel
theorem dX1_firstAt_10 : decode cX1_firstAt 10 = .ok (.aload_n 0, 1) := by decide +kernel
theorem dX1_firstAt_11 : decode cX1_firstAt 11 = .ok (.iload_n 3, 1) := by decide +kernel
theorem dX1_firstAt_12 : decode cX1_firstAt 12 = .ok (.invokevirtual 25, 3) := by decide +kernel
theorem dX1_firstAt_15 : decode cX1_firstAt 15 = .ok (.iload_n 2, 1) := by decide +kernel
theorem dX1_firstAt_16 : decode cX1_firstAt 16 = .ok (.if_icmp .lt 14, 3) := by decide +kernel
theorem dX1_firstAt_19 : decode cX1_firstAt 19 = .ok (.aload_n 0, 1) := by decide +kernel
theorem dX1_firstAt_20 : decode cX1_firstAt 20 = .ok (.iload_n 3, 1) := by decide +kernel
theorem dX1_firstAt_21 : decode cX1_firstAt 21 = .ok (.iload_n 1, 1) := by decide +kernel
theorem dX1_firstAt_22 : decode cX1_firstAt 22 = .ok (.invokevirtual 39, 3) := by decide +kernel
theorem dX1_firstAt_25 : decode cX1_firstAt 25 = .ok (.ifCond .eq 5, 3) := by decide +kernel
theorem dX1_firstAt_28 : decode cX1_firstAt 28 = .ok (.iload_n 3, 1) := by decide +kernel
theorem dX1_firstAt_29 : decode cX1_firstAt 29 = .ok (.ireturn, 1) := by decide +kernel
theorem dX1_firstAt_30 : decode cX1_firstAt 30 = .ok (.iinc 3 1, 3) := by decide +kernel
theorem dX1_firstAt_33 : decode cX1_firstAt 33 = .ok (.goto (-31), 3) := by decide +kernel
theorem dX1_firstAt_36 : decode cX1_firstAt 36 = .ok (.iconst (-1), 1) := by decide +kernel
theorem dX1_firstAt_37 : decode cX1_firstAt 37 = .ok (.ireturn, 1) := by decide +kernel
theorem dX1_lastAt_0 : decode cX1_lastAt 0 = .ok (.aload_n 0, 1) := by decide +kernel
theorem dX1_lastAt_1 : decode cX1_lastAt 1 = .ok (.invokevirtual 21, 3) := by decide +kernel
theorem dX1_lastAt_4 : decode cX1_lastAt 4 = .ok (.iconst 1, 1) := by decide +kernel
theorem dX1_lastAt_5 : decode cX1_lastAt 5 = .ok (.isub, 1) := by decide +kernel
theorem dX1_lastAt_6 : decode cX1_lastAt 6 = .ok (.istore_n 3, 1) := by decide +kernel
theorem dX1_lastAt_7 : decode cX1_lastAt 7 = .ok (.iload_n 3, 1) := by decide +kernel
theorem dX1_lastAt_8 : decode cX1_lastAt 8 = .ok (.ifCond .lt 29, 3) := by decide +kernel
theorem dX1_lastAt_11 : decode cX1_lastAt 11 = .ok (.aload_n 0, 1) := by decide +kernel
theorem dX1_lastAt_12 : decode cX1_lastAt 12 = .ok (.iload_n 3, 1) := by decide +kernel
theorem dX1_lastAt_13 : decode cX1_lastAt 13 = .ok (.invokevirtual 25, 3) := by decide +kernel
theorem dX1_lastAt_16 : decode cX1_lastAt 16 = .ok (.iload_n 2, 1) := by decide +kernel
theorem dX1_lastAt_17 : decode cX1_lastAt 17 = .ok (.if_icmp .gt 14, 3) := by decide +kernel
theorem dX1_lastAt_20 : decode cX1_lastAt 20 = .ok (.aload_n 0, 1) := by decide +kernel
theorem dX1_lastAt_21 : decode cX1_lastAt 21 = .ok (.iload_n 3, 1) := by decide +kernel
theorem dX1_lastAt_22 : decode cX1_lastAt 22 = .ok (.iload_n 1, 1) := by decide +kernel
theorem dX1_lastAt_23 : decode cX1_lastAt 23 = .ok (.invokevirtual 39, 3) := by decide +kernel
theorem dX1_lastAt_26 : decode cX1_lastAt 26 = .ok (.ifCond .eq 5, 3) := by decide +kernel
theorem dX1_lastAt_29 : decode cX1_lastAt 29 = .ok (.iload_n 3, 1) := by decide +kernel
theorem dX1_lastAt_30 : decode cX1_lastAt 30 = .ok (.ireturn, 1) := by decide +kernel
theorem dX1_lastAt_31 : decode cX1_lastAt 31 = .ok (.iinc 3 (-1), 3) := by decide +kernel
theorem dX1_lastAt_34 : decode cX1_lastAt 34 = .ok (.goto (-27), 3) := by decide +kernel
theorem dX1_lastAt_37 : decode cX1_lastAt 37 = .ok (.iconst (-1), 1) := by decide +kernel
theorem dX1_lastAt_38 : decode cX1_lastAt 38 = .ok (.ireturn, 1) := by decide +kernel
theorem dX1_countAt_0 : decode cX1_countAt 0 = .ok (.iconst 0, 1) := by decide +kernel
theorem dX1_countAt_1 : decode cX1_countAt 1 = .ok (.istore_n 2, 1) := by decide +kernel
theorem dX1_countAt_2 : decode cX1_countAt 2 = .ok (.iconst 0, 1) := by decide +kernel
theorem dX1_countAt_3 : decode cX1_countAt 3 = .ok (.istore_n 3, 1) := by decide +kernel
theorem dX1_countAt_4 : decode cX1_countAt 4 = .ok (.iload_n 3, 1) := by decide +kernel
theorem dX1_countAt_5 : decode cX1_countAt 5 = .ok (.aload_n 0, 1) := by decide +kernel
theorem dX1_countAt_6 : decode cX1_countAt 6 = .ok (.invokevirtual 21, 3) := by decide +kernel
theorem dX1_countAt_9 : decode cX1_countAt 9 = .ok (.if_icmp .ge 21, 3) := by decide +kernel
theorem dX1_countAt_12 : decode cX1_countAt 12 = .ok (.aload_n 0, 1) := by decide +kernel
theorem dX1_countAt_13 : decode cX1_countAt 13 = .ok (.iload_n 3, 1) := by decide +kernel
theorem dX1_countAt_14 : decode cX1_countAt 14 = .ok (.iload_n 1, 1) := by decide +kernel
theorem dX1_countAt_15 : decode cX1_countAt 15 = .ok (.invokevirtual 39, 3) := by decide +kernel
theorem dX1_countAt_18 : decode cX1_countAt 18 = .ok (.ifCond .eq 6, 3) := by decide +kernel
theorem dX1_countAt_21 : decode cX1_countAt 21 = .ok (.iinc 2 1, 3) := by decide +kernel
theorem dX1_countAt_24 : decode cX1_countAt 24 = .ok (.iinc 3 1, 3) := by decide +kernel
theorem dX1_countAt_27 : decode cX1_countAt 27 = .ok (.goto (-23), 3) := by decide +kernel
theorem dX1_countAt_30 : decode cX1_countAt 30 = .ok (.iload_n 2, 1) := by decide +kernel
theorem dX1_countAt_31 : decode cX1_countAt 31 = .ok (.ireturn, 1) := by decide +kernel
theorem dX1_worthsAt_0 : decode cX1_worthsAt 0 = .ok (.iconst 0, 1) := by decide +kernel
theorem dX1_worthsAt_1 : decode cX1_worthsAt 1 = .ok (.istore 4, 2) := by decide +kernel
theorem dX1_worthsAt_3 : decode cX1_worthsAt 3 = .ok (.iconst 0, 1) := by decide +kernel
theorem dX1_worthsAt_4 : decode cX1_worthsAt 4 = .ok (.istore 5, 2) := by decide +kernel
theorem dX1_worthsAt_6 : decode cX1_worthsAt 6 = .ok (.iload 5, 2) := by decide +kernel
theorem dX1_worthsAt_8 : decode cX1_worthsAt 8 = .ok (.aload_n 0, 1) := by decide +kernel
theorem dX1_worthsAt_9 : decode cX1_worthsAt 9 = .ok (.invokevirtual 21, 3) := by decide +kernel
theorem dX1_worthsAt_12 : decode cX1_worthsAt 12 = .ok (.if_icmp .ge 50, 3) := by decide +kernel
theorem dX1_worthsAt_15 : decode cX1_worthsAt 15 = .ok (.aload_n 0, 1) := by decide +kernel
theorem dX1_worthsAt_16 : decode cX1_worthsAt 16 = .ok (.iload 5, 2) := by decide +kernel
theorem dX1_worthsAt_18 : decode cX1_worthsAt 18 = .ok (.iload_n 1, 1) := by decide +kernel
theorem dX1_worthsAt_19 : decode cX1_worthsAt 19 = .ok (.invokevirtual 39, 3) := by decide +kernel
theorem dX1_worthsAt_22 : decode cX1_worthsAt 22 = .ok (.ifCond .eq 34, 3) := by decide +kernel
theorem dX1_worthsAt_25 : decode cX1_worthsAt 25 = .ok (.aload_n 0, 1) := by decide +kernel
theorem dX1_worthsAt_26 : decode cX1_worthsAt 26 = .ok (.iload 5, 2) := by decide +kernel
theorem dX1_worthsAt_28 : decode cX1_worthsAt 28 = .ok (.invokevirtual 25, 3) := by decide +kernel
theorem dX1_worthsAt_31 : decode cX1_worthsAt 31 = .ok (.iload_n 2, 1) := by decide +kernel
theorem dX1_worthsAt_32 : decode cX1_worthsAt 32 = .ok (.if_icmp .lt 24, 3) := by decide +kernel
theorem dX1_worthsAt_35 : decode cX1_worthsAt 35 = .ok (.aload_n 0, 1) := by decide +kernel
theorem dX1_worthsAt_36 : decode cX1_worthsAt 36 = .ok (.iload 5, 2) := by decide +kernel
theorem dX1_worthsAt_38 : decode cX1_worthsAt 38 = .ok (.invokevirtual 25, 3) := by decide +kernel
theorem dX1_worthsAt_41 : decode cX1_worthsAt 41 = .ok (.iload_n 3, 1) := by decide +kernel
theorem dX1_worthsAt_42 : decode cX1_worthsAt 42 = .ok (.if_icmp .gt 14, 3) := by decide +kernel
theorem dX1_worthsAt_45 : decode cX1_worthsAt 45 = .ok (.iload 4, 2) := by decide +kernel
theorem dX1_worthsAt_47 : decode cX1_worthsAt 47 = .ok (.aload_n 0, 1) := by decide +kernel
theorem dX1_worthsAt_48 : decode cX1_worthsAt 48 = .ok (.iload 5, 2) := by decide +kernel
theorem dX1_worthsAt_50 : decode cX1_worthsAt 50 = .ok (.invokevirtual 43, 3) := by decide +kernel
theorem dX1_worthsAt_53 : decode cX1_worthsAt 53 = .ok (.iadd, 1) := by decide +kernel
theorem dX1_worthsAt_54 : decode cX1_worthsAt 54 = .ok (.istore 4, 2) := by decide +kernel
theorem dX1_worthsAt_56 : decode cX1_worthsAt 56 = .ok (.iinc 5 1, 3) := by decide +kernel
theorem dX1_worthsAt_59 : decode cX1_worthsAt 59 = .ok (.goto (-53), 3) := by decide +kernel
theorem dX1_worthsAt_62 : decode cX1_worthsAt 62 = .ok (.iload 4, 2) := by decide +kernel
theorem dX1_worthsAt_64 : decode cX1_worthsAt 64 = .ok (.ireturn, 1) := by decide +kernel
theorem dX1_countNumbers_0 : decode cX1_countNumbers 0 = .ok (.iconst 0, 1) := by decide +kernel
theorem dX1_countNumbers_1 : decode cX1_countNumbers 1 = .ok (.istore_n 1, 1) := by decide +kernel
theorem dX1_countNumbers_2 : decode cX1_countNumbers 2 = .ok (.iconst 0, 1) := by decide +kernel
theorem dX1_countNumbers_3 : decode cX1_countNumbers 3 = .ok (.istore_n 2, 1) := by decide +kernel
theorem dX1_countNumbers_4 : decode cX1_countNumbers 4 = .ok (.iload_n 2, 1) := by decide +kernel
theorem dX1_countNumbers_5 : decode cX1_countNumbers 5 = .ok (.aload_n 0, 1) := by decide +kernel
theorem dX1_countNumbers_6 : decode cX1_countNumbers 6 = .ok (.invokevirtual 21, 3) := by decide +kernel
theorem dX1_countNumbers_9 : decode cX1_countNumbers 9 = .ok (.if_icmp .ge 31, 3) := by decide +kernel
theorem dX1_countNumbers_12 : decode cX1_countNumbers 12 = .ok (.iload_n 2, 1) := by decide +kernel
theorem dX1_countNumbers_13 : decode cX1_countNumbers 13 = .ok (.ifCond .eq 18, 3) := by decide +kernel
theorem dX1_countNumbers_16 : decode cX1_countNumbers 16 = .ok (.aload_n 0, 1) := by decide +kernel
theorem dX1_countNumbers_17 : decode cX1_countNumbers 17 = .ok (.iload_n 2, 1) := by decide +kernel
theorem dX1_countNumbers_18 : decode cX1_countNumbers 18 = .ok (.invokevirtual 25, 3) := by decide +kernel
theorem dX1_countNumbers_21 : decode cX1_countNumbers 21 = .ok (.aload_n 0, 1) := by decide +kernel
theorem dX1_countNumbers_22 : decode cX1_countNumbers 22 = .ok (.iload_n 2, 1) := by decide +kernel
theorem dX1_countNumbers_23 : decode cX1_countNumbers 23 = .ok (.iconst 1, 1) := by decide +kernel
theorem dX1_countNumbers_24 : decode cX1_countNumbers 24 = .ok (.isub, 1) := by decide +kernel
theorem dX1_countNumbers_25 : decode cX1_countNumbers 25 = .ok (.invokevirtual 25, 3) := by decide +kernel
theorem dX1_countNumbers_28 : decode cX1_countNumbers 28 = .ok (.if_icmp .eq 6, 3) := by decide +kernel
theorem dX1_countNumbers_31 : decode cX1_countNumbers 31 = .ok (.iinc 1 1, 3) := by decide +kernel
theorem dX1_countNumbers_34 : decode cX1_countNumbers 34 = .ok (.iinc 2 1, 3) := by decide +kernel
theorem dX1_countNumbers_37 : decode cX1_countNumbers 37 = .ok (.goto (-33), 3) := by decide +kernel
theorem dX1_countNumbers_40 : decode cX1_countNumbers 40 = .ok (.iload_n 1, 1) := by decide +kernel
theorem dX1_countNumbers_41 : decode cX1_countNumbers 41 = .ok (.ireturn, 1) := by decide +kernel
theorem dX1_countPieces_0 : decode cX1_countPieces 0 = .ok (.iconst 0, 1) := by decide +kernel
theorem dX1_countPieces_1 : decode cX1_countPieces 1 = .ok (.istore_n 1, 1) := by decide +kernel
theorem dX1_countPieces_2 : decode cX1_countPieces 2 = .ok (.iconst 0, 1) := by decide +kernel
theorem dX1_countPieces_3 : decode cX1_countPieces 3 = .ok (.istore_n 2, 1) := by decide +kernel
theorem dX1_countPieces_4 : decode cX1_countPieces 4 = .ok (.iload_n 2, 1) := by decide +kernel
theorem dX1_countPieces_5 : decode cX1_countPieces 5 = .ok (.aload_n 0, 1) := by decide +kernel
theorem dX1_countPieces_6 : decode cX1_countPieces 6 = .ok (.invokevirtual 21, 3) := by decide +kernel
theorem dX1_countPieces_9 : decode cX1_countPieces 9 = .ok (.if_icmp .ge 25, 3) := by decide +kernel
theorem dX1_countPieces_12 : decode cX1_countPieces 12 = .ok (.iload_n 1, 1) := by decide +kernel
theorem dX1_countPieces_13 : decode cX1_countPieces 13 = .ok (.aload_n 0, 1) := by decide +kernel
theorem dX1_countPieces_14 : decode cX1_countPieces 14 = .ok (.iload_n 2, 1) := by decide +kernel
theorem dX1_countPieces_15 : decode cX1_countPieces 15 = .ok (.invokevirtual 29, 3) := by decide +kernel
theorem dX1_countPieces_18 : decode cX1_countPieces 18 = .ok (.aload_n 0, 1) := by decide +kernel
theorem dX1_countPieces_19 : decode cX1_countPieces 19 = .ok (.iload_n 2, 1) := by decide +kernel
theorem dX1_countPieces_20 : decode cX1_countPieces 20 = .ok (.invokevirtual 32, 3) := by decide +kernel
theorem dX1_countPieces_23 : decode cX1_countPieces 23 = .ok (.invokestatic 46, 3) := by decide +kernel
theorem dX1_countPieces_26 : decode cX1_countPieces 26 = .ok (.iadd, 1) := by decide +kernel
theorem dX1_countPieces_27 : decode cX1_countPieces 27 = .ok (.istore_n 1, 1) := by decide +kernel
theorem dX1_countPieces_28 : decode cX1_countPieces 28 = .ok (.iinc 2 1, 3) := by decide +kernel
theorem dX1_countPieces_31 : decode cX1_countPieces 31 = .ok (.goto (-27), 3) := by decide +kernel
theorem dX1_countPieces_34 : decode cX1_countPieces 34 = .ok (.iload_n 1, 1) := by decide +kernel
theorem dX1_countPieces_35 : decode cX1_countPieces 35 = .ok (.ireturn, 1) := by decide +kernel
theorem dX1_hoursOf_0 : decode cX1_hoursOf 0 = .ok (.lconst 0, 1) := by decide +kernel
theorem dX1_hoursOf_1 : decode cX1_hoursOf 1 = .ok (.lstore_n 3, 1) := by decide +kernel
theorem dX1_hoursOf_2 : decode cX1_hoursOf 2 = .ok (.iconst 0, 1) := by decide +kernel
theorem dX1_hoursOf_3 : decode cX1_hoursOf 3 = .ok (.istore 5, 2) := by decide +kernel
theorem dX1_hoursOf_5 : decode cX1_hoursOf 5 = .ok (.iload 5, 2) := by decide +kernel
theorem dX1_hoursOf_7 : decode cX1_hoursOf 7 = .ok (.aload_n 0, 1) := by decide +kernel
theorem dX1_hoursOf_8 : decode cX1_hoursOf 8 = .ok (.invokevirtual 21, 3) := by decide +kernel
theorem dX1_hoursOf_11 : decode cX1_hoursOf 11 = .ok (.if_icmp .ge 43, 3) := by decide +kernel
theorem dX1_hoursOf_14 : decode cX1_hoursOf 14 = .ok (.iload 5, 2) := by decide +kernel
theorem dX1_hoursOf_16 : decode cX1_hoursOf 16 = .ok (.iload_n 2, 1) := by decide +kernel
theorem dX1_hoursOf_17 : decode cX1_hoursOf 17 = .ok (.if_icmp .eq 31, 3) := by decide +kernel
theorem dX1_hoursOf_20 : decode cX1_hoursOf 20 = .ok (.aload_n 0, 1) := by decide +kernel
theorem dX1_hoursOf_21 : decode cX1_hoursOf 21 = .ok (.iload 5, 2) := by decide +kernel
theorem dX1_hoursOf_23 : decode cX1_hoursOf 23 = .ok (.invokevirtual 25, 3) := by decide +kernel
theorem dX1_hoursOf_26 : decode cX1_hoursOf 26 = .ok (.iload_n 1, 1) := by decide +kernel
theorem dX1_hoursOf_27 : decode cX1_hoursOf 27 = .ok (.if_icmp .ne 21, 3) := by decide +kernel
theorem dX1_hoursOf_30 : decode cX1_hoursOf 30 = .ok (.lload_n 3, 1) := by decide +kernel
theorem dX1_hoursOf_31 : decode cX1_hoursOf 31 = .ok (.aload_n 0, 1) := by decide +kernel
theorem dX1_hoursOf_32 : decode cX1_hoursOf 32 = .ok (.iload 5, 2) := by decide +kernel
theorem dX1_hoursOf_34 : decode cX1_hoursOf 34 = .ok (.invokevirtual 29, 3) := by decide +kernel
theorem dX1_hoursOf_37 : decode cX1_hoursOf 37 = .ok (.aload_n 0, 1) := by decide +kernel
theorem dX1_hoursOf_38 : decode cX1_hoursOf 38 = .ok (.iload 5, 2) := by decide +kernel
theorem dX1_hoursOf_40 : decode cX1_hoursOf 40 = .ok (.invokevirtual 32, 3) := by decide +kernel
theorem dX1_hoursOf_43 : decode cX1_hoursOf 43 = .ok (.invokestatic 50, 3) := by decide +kernel
theorem dX1_hoursOf_46 : decode cX1_hoursOf 46 = .ok (.lor, 1) := by decide +kernel
theorem dX1_hoursOf_47 : decode cX1_hoursOf 47 = .ok (.lstore_n 3, 1) := by decide +kernel
theorem dX1_hoursOf_48 : decode cX1_hoursOf 48 = .ok (.iinc 5 1, 3) := by decide +kernel
theorem dX1_hoursOf_51 : decode cX1_hoursOf 51 = .ok (.goto (-46), 3) := by decide +kernel
theorem dX1_hoursOf_54 : decode cX1_hoursOf 54 = .ok (.lload_n 3, 1) := by decide +kernel
theorem dX1_hoursOf_55 : decode cX1_hoursOf 55 = .ok (.lreturn, 1) := by decide +kernel
theorem dX2_init_0 : decode cX2_init 0 = .ok (.aload_n 0, 1) := by decide +kernel
theorem dX2_init_1 : decode cX2_init 1 = .ok (.invokespecial 5, 3) := by decide +kernel
theorem dX2_init_4 : decode cX2_init 4 = .ok (.aload_n 0, 1) := by decide +kernel
theorem dX2_init_5 : decode cX2_init 5 = .ok (.sipush 1280, 3) := by decide +kernel
theorem dX2_init_8 : decode cX2_init 8 = .ok (.newarray .int, 2) := by decide +kernel
theorem dX2_init_10 : decode cX2_init 10 = .ok (.putfield 11, 3) := by decide +kernel
theorem dX2_init_13 : decode cX2_init 13 = .ok (.aload_n 0, 1) := by decide +kernel
theorem dX2_init_14 : decode cX2_init 14 = .ok (.iconst 0, 1) := by decide +kernel
theorem dX2_init_15 : decode cX2_init 15 = .ok (.putfield 15, 3) := by decide +kernel
theorem dX2_init_18 : decode cX2_init 18 = .ok (.return_, 1) := by decide +kernel
theorem dX2_length_0 : decode cX2_length 0 = .ok (.aload_n 0, 1) := by decide +kernel
theorem dX2_length_1 : decode cX2_length 1 = .ok (.getfield 15, 3) := by decide +kernel
theorem dX2_length_4 : decode cX2_length 4 = .ok (.ireturn, 1) := by decide +kernel
theorem dX2_byteAt_0 : decode cX2_byteAt 0 = .ok (.iload_n 1, 1) := by decide +kernel
theorem dX2_byteAt_1 : decode cX2_byteAt 1 = .ok (.ifCond .lt 10, 3) := by decide +kernel
theorem dX2_byteAt_4 : decode cX2_byteAt 4 = .ok (.iload_n 1, 1) := by decide +kernel
theorem dX2_byteAt_5 : decode cX2_byteAt 5 = .ok (.sipush 1280, 3) := by decide +kernel
theorem dX2_byteAt_8 : decode cX2_byteAt 8 = .ok (.if_icmp .lt 7, 3) := by decide +kernel
theorem dX2_byteAt_11 : decode cX2_byteAt 11 = .ok (.iconst 0, 1) := by decide +kernel
theorem dX2_byteAt_12 : decode cX2_byteAt 12 = .ok (.goto 9, 3) := by decide +kernel
theorem dX2_byteAt_15 : decode cX2_byteAt 15 = .ok (.aload_n 0, 1) := by decide +kernel
theorem dX2_byteAt_16 : decode cX2_byteAt 16 = .ok (.getfield 11, 3) := by decide +kernel
theorem dX2_byteAt_19 : decode cX2_byteAt 19 = .ok (.iload_n 1, 1) := by decide +kernel
theorem dX2_byteAt_20 : decode cX2_byteAt 20 = .ok (.iaload, 1) := by decide +kernel
theorem dX2_byteAt_21 : decode cX2_byteAt 21 = .ok (.ireturn, 1) := by decide +kernel
theorem dX2_clear_0 : decode cX2_clear 0 = .ok (.aload_n 0, 1) := by decide +kernel
theorem dX2_clear_1 : decode cX2_clear 1 = .ok (.iconst 0, 1) := by decide +kernel
theorem dX2_clear_2 : decode cX2_clear 2 = .ok (.putfield 15, 3) := by decide +kernel
theorem dX2_clear_5 : decode cX2_clear 5 = .ok (.return_, 1) := by decide +kernel
theorem dX2_addText_0 : decode cX2_addText 0 = .ok (.aload_n 1, 1) := by decide +kernel
theorem dX2_addText_1 : decode cX2_addText 1 = .ok (.ifnonnull 4, 3) := by decide +kernel
theorem dX2_addText_4 : decode cX2_addText 4 = .ok (.return_, 1) := by decide +kernel
theorem dX2_addText_5 : decode cX2_addText 5 = .ok (.iconst 0, 1) := by decide +kernel
theorem dX2_addText_6 : decode cX2_addText 6 = .ok (.istore_n 2, 1) := by decide +kernel
theorem dX2_addText_7 : decode cX2_addText 7 = .ok (.iload_n 2, 1) := by decide +kernel
theorem dX2_addText_8 : decode cX2_addText 8 = .ok (.aload_n 1, 1) := by decide +kernel
theorem dX2_addText_9 : decode cX2_addText 9 = .ok (.invokevirtual 19, 3) := by decide +kernel
theorem dX2_addText_12 : decode cX2_addText 12 = .ok (.if_icmp .ge 18, 3) := by decide +kernel
theorem dX2_addText_15 : decode cX2_addText 15 = .ok (.aload_n 0, 1) := by decide +kernel
theorem dX2_addText_16 : decode cX2_addText 16 = .ok (.aload_n 1, 1) := by decide +kernel
theorem dX2_addText_17 : decode cX2_addText 17 = .ok (.iload_n 2, 1) := by decide +kernel
theorem dX2_addText_18 : decode cX2_addText 18 = .ok (.invokevirtual 24, 3) := by decide +kernel
theorem dX2_addText_21 : decode cX2_addText 21 = .ok (.invokevirtual 28, 3) := by decide +kernel
theorem dX2_addText_24 : decode cX2_addText 24 = .ok (.iinc 2 1, 3) := by decide +kernel
theorem dX2_addText_27 : decode cX2_addText 27 = .ok (.goto (-20), 3) := by decide +kernel
theorem dX2_addText_30 : decode cX2_addText 30 = .ok (.return_, 1) := by decide +kernel
theorem dX2_addNumber_0 : decode cX2_addNumber 0 = .ok (.iload_n 1, 1) := by decide +kernel
theorem dX2_addNumber_1 : decode cX2_addNumber 1 = .ok (.bipush 100, 2) := by decide +kernel
theorem dX2_addNumber_3 : decode cX2_addNumber 3 = .ok (.if_icmp .lt 14, 3) := by decide +kernel
theorem dX2_addNumber_6 : decode cX2_addNumber 6 = .ok (.aload_n 0, 1) := by decide +kernel
theorem dX2_addNumber_7 : decode cX2_addNumber 7 = .ok (.bipush 48, 2) := by decide +kernel
theorem dX2_addNumber_9 : decode cX2_addNumber 9 = .ok (.iload_n 1, 1) := by decide +kernel
theorem dX2_addNumber_10 : decode cX2_addNumber 10 = .ok (.bipush 100, 2) := by decide +kernel
theorem dX2_addNumber_12 : decode cX2_addNumber 12 = .ok (.idiv, 1) := by decide +kernel
theorem dX2_addNumber_13 : decode cX2_addNumber 13 = .ok (.iadd, 1) := by decide +kernel
theorem dX2_addNumber_14 : decode cX2_addNumber 14 = .ok (.invokevirtual 28, 3) := by decide +kernel
theorem dX2_addNumber_17 : decode cX2_addNumber 17 = .ok (.iload_n 1, 1) := by decide +kernel
theorem dX2_addNumber_18 : decode cX2_addNumber 18 = .ok (.bipush 10, 2) := by decide +kernel
theorem dX2_addNumber_20 : decode cX2_addNumber 20 = .ok (.if_icmp .lt 17, 3) := by decide +kernel
theorem dX2_addNumber_23 : decode cX2_addNumber 23 = .ok (.aload_n 0, 1) := by decide +kernel
theorem dX2_addNumber_24 : decode cX2_addNumber 24 = .ok (.bipush 48, 2) := by decide +kernel
theorem dX2_addNumber_26 : decode cX2_addNumber 26 = .ok (.iload_n 1, 1) := by decide +kernel
theorem dX2_addNumber_27 : decode cX2_addNumber 27 = .ok (.bipush 10, 2) := by decide +kernel
theorem dX2_addNumber_29 : decode cX2_addNumber 29 = .ok (.idiv, 1) := by decide +kernel
theorem dX2_addNumber_30 : decode cX2_addNumber 30 = .ok (.bipush 10, 2) := by decide +kernel
theorem dX2_addNumber_32 : decode cX2_addNumber 32 = .ok (.irem, 1) := by decide +kernel
theorem dX2_addNumber_33 : decode cX2_addNumber 33 = .ok (.iadd, 1) := by decide +kernel
theorem dX2_addNumber_34 : decode cX2_addNumber 34 = .ok (.invokevirtual 28, 3) := by decide +kernel
theorem dX2_addNumber_37 : decode cX2_addNumber 37 = .ok (.aload_n 0, 1) := by decide +kernel
theorem dX2_addNumber_38 : decode cX2_addNumber 38 = .ok (.bipush 48, 2) := by decide +kernel
theorem dX2_addNumber_40 : decode cX2_addNumber 40 = .ok (.iload_n 1, 1) := by decide +kernel
theorem dX2_addNumber_41 : decode cX2_addNumber 41 = .ok (.bipush 10, 2) := by decide +kernel
theorem dX2_addNumber_43 : decode cX2_addNumber 43 = .ok (.irem, 1) := by decide +kernel
theorem dX2_addNumber_44 : decode cX2_addNumber 44 = .ok (.iadd, 1) := by decide +kernel
theorem dX2_addNumber_45 : decode cX2_addNumber 45 = .ok (.invokevirtual 28, 3) := by decide +kernel
theorem dX2_addNumber_48 : decode cX2_addNumber 48 = .ok (.return_, 1) := by decide +kernel
theorem dX2_addByte_0 : decode cX2_addByte 0 = .ok (.aload_n 0, 1) := by decide +kernel
theorem dX2_addByte_1 : decode cX2_addByte 1 = .ok (.getfield 15, 3) := by decide +kernel
theorem dX2_addByte_4 : decode cX2_addByte 4 = .ok (.ifCond .lt 33, 3) := by decide +kernel
theorem dX2_addByte_7 : decode cX2_addByte 7 = .ok (.aload_n 0, 1) := by decide +kernel
theorem dX2_addByte_8 : decode cX2_addByte 8 = .ok (.getfield 15, 3) := by decide +kernel
theorem dX2_addByte_11 : decode cX2_addByte 11 = .ok (.sipush 1280, 3) := by decide +kernel
theorem dX2_addByte_14 : decode cX2_addByte 14 = .ok (.if_icmp .ge 23, 3) := by decide +kernel
theorem dX2_addByte_17 : decode cX2_addByte 17 = .ok (.aload_n 0, 1) := by decide +kernel
theorem dX2_addByte_18 : decode cX2_addByte 18 = .ok (.getfield 11, 3) := by decide +kernel
theorem dX2_addByte_21 : decode cX2_addByte 21 = .ok (.aload_n 0, 1) := by decide +kernel
theorem dX2_addByte_22 : decode cX2_addByte 22 = .ok (.getfield 15, 3) := by decide +kernel
theorem dX2_addByte_25 : decode cX2_addByte 25 = .ok (.iload_n 1, 1) := by decide +kernel
theorem dX2_addByte_26 : decode cX2_addByte 26 = .ok (.iastore, 1) := by decide +kernel
theorem dX2_addByte_27 : decode cX2_addByte 27 = .ok (.aload_n 0, 1) := by decide +kernel
theorem dX2_addByte_28 : decode cX2_addByte 28 = .ok (.dup, 1) := by decide +kernel
theorem dX2_addByte_29 : decode cX2_addByte 29 = .ok (.getfield 15, 3) := by decide +kernel
theorem dX2_addByte_32 : decode cX2_addByte 32 = .ok (.iconst 1, 1) := by decide +kernel
theorem dX2_addByte_33 : decode cX2_addByte 33 = .ok (.iadd, 1) := by decide +kernel
theorem dX2_addByte_34 : decode cX2_addByte 34 = .ok (.putfield 15, 3) := by decide +kernel
theorem dX2_addByte_37 : decode cX2_addByte 37 = .ok (.return_, 1) := by decide +kernel
theorem dX3_init_0 : decode cX3_init 0 = .ok (.aload_n 0, 1) := by decide +kernel
theorem dX3_init_1 : decode cX3_init 1 = .ok (.invokespecial 3, 3) := by decide +kernel
theorem dX3_init_4 : decode cX3_init 4 = .ok (.aload_n 0, 1) := by decide +kernel
theorem dX3_init_5 : decode cX3_init 5 = .ok (.bipush 20, 2) := by decide +kernel
theorem dX3_init_7 : decode cX3_init 7 = .ok (.sipush 162, 3) := by decide +kernel
theorem dX3_init_10 : decode cX3_init 10 = .ok (.multianewarray 11 2, 4) := by decide +kernel
theorem dX3_init_14 : decode cX3_init 14 = .ok (.putfield 13, 3) := by decide +kernel
theorem dX3_init_17 : decode cX3_init 17 = .ok (.aload_n 0, 1) := by decide +kernel
theorem dX3_init_18 : decode cX3_init 18 = .ok (.iconst 0, 1) := by decide +kernel
theorem dX3_init_19 : decode cX3_init 19 = .ok (.putfield 18, 3) := by decide +kernel
theorem dX3_init_22 : decode cX3_init 22 = .ok (.aload_n 0, 1) := by decide +kernel
theorem dX3_init_23 : decode cX3_init 23 = .ok (.iconst 0, 1) := by decide +kernel
theorem dX3_init_24 : decode cX3_init 24 = .ok (.putfield 22, 3) := by decide +kernel
theorem dX3_init_27 : decode cX3_init 27 = .ok (.return_, 1) := by decide +kernel
theorem dX3_steps_0 : decode cX3_steps 0 = .ok (.aload_n 0, 1) := by decide +kernel
theorem dX3_steps_1 : decode cX3_steps 1 = .ok (.getfield 18, 3) := by decide +kernel
theorem dX3_steps_4 : decode cX3_steps 4 = .ok (.ireturn, 1) := by decide +kernel
theorem dX3_remember_0 : decode cX3_remember 0 = .ok (.aload_n 1, 1) := by decide +kernel
theorem dX3_remember_1 : decode cX3_remember 1 = .ok (.ifnull 19, 3) := by decide +kernel
theorem dX3_remember_4 : decode cX3_remember 4 = .ok (.aload_n 0, 1) := by decide +kernel
theorem dX3_remember_5 : decode cX3_remember 5 = .ok (.getfield 22, 3) := by decide +kernel
theorem dX3_remember_8 : decode cX3_remember 8 = .ok (.ifCond .lt 12, 3) := by decide +kernel
theorem dX3_remember_11 : decode cX3_remember 11 = .ok (.aload_n 0, 1) := by decide +kernel
theorem dX3_remember_12 : decode cX3_remember 12 = .ok (.getfield 22, 3) := by decide +kernel
theorem dX3_remember_15 : decode cX3_remember 15 = .ok (.bipush 20, 2) := by decide +kernel
theorem dX3_remember_17 : decode cX3_remember 17 = .ok (.if_icmp .lt 4, 3) := by decide +kernel
theorem dX3_remember_20 : decode cX3_remember 20 = .ok (.return_, 1) := by decide +kernel
theorem dX3_remember_21 : decode cX3_remember 21 = .ok (.aload_n 1, 1) := by decide +kernel
theorem dX3_remember_22 : decode cX3_remember 22 = .ok (.aload_n 0, 1) := by decide +kernel
theorem dX3_remember_23 : decode cX3_remember 23 = .ok (.getfield 13, 3) := by decide +kernel
theorem dX3_remember_26 : decode cX3_remember 26 = .ok (.aload_n 0, 1) := by decide +kernel
theorem dX3_remember_27 : decode cX3_remember 27 = .ok (.getfield 22, 3) := by decide +kernel
theorem dX3_remember_30 : decode cX3_remember 30 = .ok (.aaload, 1) := by decide +kernel
theorem dX3_remember_31 : decode cX3_remember 31 = .ok (.invokevirtual 25, 3) := by decide +kernel
theorem dX3_remember_34 : decode cX3_remember 34 = .ok (.aload_n 0, 1) := by decide +kernel
theorem dX3_remember_35 : decode cX3_remember 35 = .ok (.aload_n 0, 1) := by decide +kernel
theorem dX3_remember_36 : decode cX3_remember 36 = .ok (.getfield 22, 3) := by decide +kernel
theorem dX3_remember_39 : decode cX3_remember 39 = .ok (.bipush 19, 2) := by decide +kernel
theorem dX3_remember_41 : decode cX3_remember 41 = .ok (.if_icmp .ne 7, 3) := by decide +kernel
theorem dX3_remember_44 : decode cX3_remember 44 = .ok (.iconst 0, 1) := by decide +kernel
theorem dX3_remember_45 : decode cX3_remember 45 = .ok (.goto 9, 3) := by decide +kernel
theorem dX3_remember_48 : decode cX3_remember 48 = .ok (.aload_n 0, 1) := by decide +kernel
theorem dX3_remember_49 : decode cX3_remember 49 = .ok (.getfield 22, 3) := by decide +kernel
theorem dX3_remember_52 : decode cX3_remember 52 = .ok (.iconst 1, 1) := by decide +kernel
theorem dX3_remember_53 : decode cX3_remember 53 = .ok (.iadd, 1) := by decide +kernel
theorem dX3_remember_54 : decode cX3_remember 54 = .ok (.putfield 22, 3) := by decide +kernel
theorem dX3_remember_57 : decode cX3_remember 57 = .ok (.aload_n 0, 1) := by decide +kernel
theorem dX3_remember_58 : decode cX3_remember 58 = .ok (.aload_n 0, 1) := by decide +kernel
theorem dX3_remember_59 : decode cX3_remember 59 = .ok (.getfield 18, 3) := by decide +kernel
theorem dX3_remember_62 : decode cX3_remember 62 = .ok (.iconst 1, 1) := by decide +kernel
theorem dX3_remember_63 : decode cX3_remember 63 = .ok (.iadd, 1) := by decide +kernel
theorem dX3_remember_64 : decode cX3_remember 64 = .ok (.bipush 20, 2) := by decide +kernel
theorem dX3_remember_66 : decode cX3_remember 66 = .ok (.invokestatic 29, 3) := by decide +kernel
theorem dX3_remember_69 : decode cX3_remember 69 = .ok (.putfield 18, 3) := by decide +kernel
theorem dX3_remember_72 : decode cX3_remember 72 = .ok (.return_, 1) := by decide +kernel
theorem dX3_takeBack_0 : decode cX3_takeBack 0 = .ok (.aload_n 0, 1) := by decide +kernel
theorem dX3_takeBack_1 : decode cX3_takeBack 1 = .ok (.getfield 22, 3) := by decide +kernel
theorem dX3_takeBack_4 : decode cX3_takeBack 4 = .ok (.ifCond .ne 8, 3) := by decide +kernel
theorem dX3_takeBack_7 : decode cX3_takeBack 7 = .ok (.bipush 19, 2) := by decide +kernel
theorem dX3_takeBack_9 : decode cX3_takeBack 9 = .ok (.goto 9, 3) := by decide +kernel
theorem dX3_takeBack_12 : decode cX3_takeBack 12 = .ok (.aload_n 0, 1) := by decide +kernel
theorem dX3_takeBack_13 : decode cX3_takeBack 13 = .ok (.getfield 22, 3) := by decide +kernel
theorem dX3_takeBack_16 : decode cX3_takeBack 16 = .ok (.iconst 1, 1) := by decide +kernel
theorem dX3_takeBack_17 : decode cX3_takeBack 17 = .ok (.isub, 1) := by decide +kernel
theorem dX3_takeBack_18 : decode cX3_takeBack 18 = .ok (.istore_n 2, 1) := by decide +kernel
theorem dX3_takeBack_19 : decode cX3_takeBack 19 = .ok (.aload_n 1, 1) := by decide +kernel
theorem dX3_takeBack_20 : decode cX3_takeBack 20 = .ok (.ifnull 20, 3) := by decide +kernel
theorem dX3_takeBack_23 : decode cX3_takeBack 23 = .ok (.aload_n 0, 1) := by decide +kernel
theorem dX3_takeBack_24 : decode cX3_takeBack 24 = .ok (.getfield 18, 3) := by decide +kernel
theorem dX3_takeBack_27 : decode cX3_takeBack 27 = .ok (.ifCond .le 13, 3) := by decide +kernel
theorem dX3_takeBack_30 : decode cX3_takeBack 30 = .ok (.iload_n 2, 1) := by decide +kernel
theorem dX3_takeBack_31 : decode cX3_takeBack 31 = .ok (.ifCond .lt 9, 3) := by decide +kernel
theorem dX3_takeBack_34 : decode cX3_takeBack 34 = .ok (.iload_n 2, 1) := by decide +kernel
theorem dX3_takeBack_35 : decode cX3_takeBack 35 = .ok (.bipush 20, 2) := by decide +kernel
theorem dX3_takeBack_37 : decode cX3_takeBack 37 = .ok (.if_icmp .lt 5, 3) := by decide +kernel
theorem dX3_takeBack_40 : decode cX3_takeBack 40 = .ok (.iconst 0, 1) := by decide +kernel
theorem dX3_takeBack_41 : decode cX3_takeBack 41 = .ok (.ireturn, 1) := by decide +kernel
theorem dX3_takeBack_42 : decode cX3_takeBack 42 = .ok (.aload_n 1, 1) := by decide +kernel
theorem dX3_takeBack_43 : decode cX3_takeBack 43 = .ok (.aload_n 0, 1) := by decide +kernel
theorem dX3_takeBack_44 : decode cX3_takeBack 44 = .ok (.getfield 13, 3) := by decide +kernel
theorem dX3_takeBack_47 : decode cX3_takeBack 47 = .ok (.iload_n 2, 1) := by decide +kernel
theorem dX3_takeBack_48 : decode cX3_takeBack 48 = .ok (.aaload, 1) := by decide +kernel
theorem dX3_takeBack_49 : decode cX3_takeBack 49 = .ok (.invokevirtual 35, 3) := by decide +kernel
theorem dX3_takeBack_52 : decode cX3_takeBack 52 = .ok (.aload_n 0, 1) := by decide +kernel
theorem dX3_takeBack_53 : decode cX3_takeBack 53 = .ok (.iload_n 2, 1) := by decide +kernel
theorem dX3_takeBack_54 : decode cX3_takeBack 54 = .ok (.putfield 22, 3) := by decide +kernel
theorem dX3_takeBack_57 : decode cX3_takeBack 57 = .ok (.aload_n 0, 1) := by decide +kernel
theorem dX3_takeBack_58 : decode cX3_takeBack 58 = .ok (.dup, 1) := by decide +kernel
theorem dX3_takeBack_59 : decode cX3_takeBack 59 = .ok (.getfield 18, 3) := by decide +kernel
theorem dX3_takeBack_62 : decode cX3_takeBack 62 = .ok (.iconst 1, 1) := by decide +kernel
theorem dX3_takeBack_63 : decode cX3_takeBack 63 = .ok (.isub, 1) := by decide +kernel
theorem dX3_takeBack_64 : decode cX3_takeBack 64 = .ok (.putfield 18, 3) := by decide +kernel
theorem dX3_takeBack_67 : decode cX3_takeBack 67 = .ok (.iconst 1, 1) := by decide +kernel
theorem dX3_takeBack_68 : decode cX3_takeBack 68 = .ok (.ireturn, 1) := by decide +kernel
theorem dX3_forget_0 : decode cX3_forget 0 = .ok (.aload_n 0, 1) := by decide +kernel
theorem dX3_forget_1 : decode cX3_forget 1 = .ok (.iconst 0, 1) := by decide +kernel
theorem dX3_forget_2 : decode cX3_forget 2 = .ok (.putfield 18, 3) := by decide +kernel
theorem dX3_forget_5 : decode cX3_forget 5 = .ok (.return_, 1) := by decide +kernel
theorem dX4_init_0 : decode cX4_init 0 = .ok (.aload_n 0, 1) := by decide +kernel
theorem dX4_init_1 : decode cX4_init 1 = .ok (.invokespecial 3, 3) := by decide +kernel
theorem dX4_init_4 : decode cX4_init 4 = .ok (.aload_n 0, 1) := by decide +kernel
theorem dX4_init_5 : decode cX4_init 5 = .ok (.bipush 6, 2) := by decide +kernel
theorem dX4_init_7 : decode cX4_init 7 = .ok (.newarray .int, 2) := by decide +kernel
theorem dX4_init_9 : decode cX4_init 9 = .ok (.putfield 11, 3) := by decide +kernel
theorem dX4_init_12 : decode cX4_init 12 = .ok (.aload_n 0, 1) := by decide +kernel
theorem dX4_init_13 : decode cX4_init 13 = .ok (.getstatic 15, 3) := by decide +kernel
theorem dX4_init_16 : decode cX4_init 16 = .ok (.putfield 21, 3) := by decide +kernel
theorem dX4_init_19 : decode cX4_init 19 = .ok (.aload_n 0, 1) := by decide +kernel
theorem dX4_init_20 : decode cX4_init 20 = .ok (.iconst 0, 1) := by decide +kernel
theorem dX4_init_21 : decode cX4_init 21 = .ok (.putfield 24, 3) := by decide +kernel
theorem dX4_init_24 : decode cX4_init 24 = .ok (.aload_n 0, 1) := by decide +kernel
theorem dX4_init_25 : decode cX4_init 25 = .ok (.iconst 0, 1) := by decide +kernel
theorem dX4_init_26 : decode cX4_init 26 = .ok (.putfield 28, 3) := by decide +kernel
theorem dX4_init_29 : decode cX4_init 29 = .ok (.aload_n 0, 1) := by decide +kernel
theorem dX4_init_30 : decode cX4_init 30 = .ok (.aload_n 1, 1) := by decide +kernel
theorem dX4_init_31 : decode cX4_init 31 = .ok (.putfield 32, 3) := by decide +kernel
theorem dX4_init_34 : decode cX4_init 34 = .ok (.return_, 1) := by decide +kernel
theorem dX4_what_0 : decode cX4_what 0 = .ok (.aload_n 0, 1) := by decide +kernel
theorem dX4_what_1 : decode cX4_what 1 = .ok (.getfield 21, 3) := by decide +kernel
theorem dX4_what_4 : decode cX4_what 4 = .ok (.areturn, 1) := by decide +kernel
theorem dX4_read_0 : decode cX4_read 0 = .ok (.aload_n 0, 1) := by decide +kernel
theorem dX4_read_1 : decode cX4_read 1 = .ok (.aload_n 0, 1) := by decide +kernel
theorem dX4_read_2 : decode cX4_read 2 = .ok (.getfield 32, 3) := by decide +kernel
theorem dX4_read_5 : decode cX4_read 5 = .ok (.invokevirtual 36, 3) := by decide +kernel
theorem dX4_read_8 : decode cX4_read 8 = .ok (.putfield 21, 3) := by decide +kernel
theorem dX4_read_11 : decode cX4_read 11 = .ok (.aload_n 0, 1) := by decide +kernel
theorem dX4_read_12 : decode cX4_read 12 = .ok (.aload_n 0, 1) := by decide +kernel
theorem dX4_read_13 : decode cX4_read 13 = .ok (.getfield 21, 3) := by decide +kernel
theorem dX4_read_16 : decode cX4_read 16 = .ok (.getstatic 42, 3) := by decide +kernel
theorem dX4_read_19 : decode cX4_read 19 = .ok (.if_acmp .eq 13, 3) := by decide +kernel
theorem dX4_read_22 : decode cX4_read 22 = .ok (.aload_n 0, 1) := by decide +kernel
theorem dX4_read_23 : decode cX4_read 23 = .ok (.getfield 21, 3) := by decide +kernel
theorem dX4_read_26 : decode cX4_read 26 = .ok (.getstatic 45, 3) := by decide +kernel
theorem dX4_read_29 : decode cX4_read 29 = .ok (.if_acmp .ne 7, 3) := by decide +kernel
theorem dX4_read_32 : decode cX4_read 32 = .ok (.iconst 1, 1) := by decide +kernel
theorem dX4_read_33 : decode cX4_read 33 = .ok (.goto 4, 3) := by decide +kernel
theorem dX4_read_36 : decode cX4_read 36 = .ok (.iconst 0, 1) := by decide +kernel
theorem dX4_read_37 : decode cX4_read 37 = .ok (.putfield 24, 3) := by decide +kernel
theorem dX4_read_40 : decode cX4_read 40 = .ok (.aload_n 0, 1) := by decide +kernel
theorem dX4_read_41 : decode cX4_read 41 = .ok (.getfield 24, 3) := by decide +kernel
theorem dX4_read_44 : decode cX4_read 44 = .ok (.ifCond .ne 31, 3) := by decide +kernel
theorem dX4_read_47 : decode cX4_read 47 = .ok (.aload_n 0, 1) := by decide +kernel
theorem dX4_read_48 : decode cX4_read 48 = .ok (.getfield 21, 3) := by decide +kernel
theorem dX4_read_51 : decode cX4_read 51 = .ok (.getstatic 15, 3) := by decide +kernel
theorem dX4_read_54 : decode cX4_read 54 = .ok (.if_acmp .eq 21, 3) := by decide +kernel
theorem dX4_read_57 : decode cX4_read 57 = .ok (.aload_n 0, 1) := by decide +kernel
theorem dX4_read_58 : decode cX4_read 58 = .ok (.getfield 21, 3) := by decide +kernel
theorem dX4_read_61 : decode cX4_read 61 = .ok (.getstatic 48, 3) := by decide +kernel
theorem dX4_read_64 : decode cX4_read 64 = .ok (.if_acmp .eq 11, 3) := by decide +kernel
theorem dX4_read_67 : decode cX4_read 67 = .ok (.aload_n 0, 1) := by decide +kernel
theorem dX4_read_68 : decode cX4_read 68 = .ok (.getfield 32, 3) := by decide +kernel
theorem dX4_read_71 : decode cX4_read 71 = .ok (.iconst 1, 1) := by decide +kernel
theorem dX4_read_72 : decode cX4_read 72 = .ok (.invokevirtual 51, 3) := by decide +kernel
theorem dX4_read_75 : decode cX4_read 75 = .ok (.aload_n 0, 1) := by decide +kernel
theorem dX4_read_76 : decode cX4_read 76 = .ok (.getfield 32, 3) := by decide +kernel
theorem dX4_read_79 : decode cX4_read 79 = .ok (.invokevirtual 55, 3) := by decide +kernel
theorem dX4_read_82 : decode cX4_read 82 = .ok (.pop, 1) := by decide +kernel
theorem dX4_read_83 : decode cX4_read 83 = .ok (.aload_n 0, 1) := by decide +kernel
theorem dX4_read_84 : decode cX4_read 84 = .ok (.getfield 32, 3) := by decide +kernel
theorem dX4_read_87 : decode cX4_read 87 = .ok (.getstatic 59, 3) := by decide +kernel
theorem dX4_read_90 : decode cX4_read 90 = .ok (.invokevirtual 62, 3) := by decide +kernel
theorem dX4_read_93 : decode cX4_read 93 = .ok (.aload_n 0, 1) := by decide +kernel
theorem dX4_read_94 : decode cX4_read 94 = .ok (.aload_n 0, 1) := by decide +kernel
theorem dX4_read_95 : decode cX4_read 95 = .ok (.getfield 32, 3) := by decide +kernel
theorem dX4_read_98 : decode cX4_read 98 = .ok (.invokevirtual 66, 3) := by decide +kernel
theorem dX4_read_101 : decode cX4_read 101 = .ok (.putfield 28, 3) := by decide +kernel
theorem dX4_read_104 : decode cX4_read 104 = .ok (.aload_n 0, 1) := by decide +kernel
theorem dX4_read_105 : decode cX4_read 105 = .ok (.iconst 0, 1) := by decide +kernel
theorem dX4_read_106 : decode cX4_read 106 = .ok (.invokevirtual 69, 3) := by decide +kernel
theorem dX4_read_109 : decode cX4_read 109 = .ok (.pop, 1) := by decide +kernel
theorem dX4_read_110 : decode cX4_read 110 = .ok (.aload_n 0, 1) := by decide +kernel
theorem dX4_read_111 : decode cX4_read 111 = .ok (.getfield 32, 3) := by decide +kernel
theorem dX4_read_114 : decode cX4_read 114 = .ok (.getstatic 73, 3) := by decide +kernel
