/-! 14.chan -/
theorem dX1_part_0 : decode cX1_part 0 = .ok (.iload_n 1, 1) := by decide +kernel
theorem dX1_part_1 : decode cX1_part 1 = .ok (.ifCond .ne 10, 3) := by decide +kernel
theorem dX1_part_4 : decode cX1_part 4 = .ok (.aload_n 0, 1) := by decide +kernel
theorem dX1_part_5 : decode cX1_part 5 = .ok (.getfield 18, 3) := by decide +kernel
theorem dX1_part_8 : decode cX1_part 8 = .ok (.goto 7, 3) := by decide +kernel
theorem dX1_part_11 : decode cX1_part 11 = .ok (.aload_n 0, 1) := by decide +kernel
theorem dX1_part_12 : decode cX1_part 12 = .ok (.getfield 22, 3) := by decide +kernel
theorem dX1_part_15 : decode cX1_part 15 = .ok (.lreturn, 1) := by decide +kernel
theorem dX1_fraction_0 : decode cX1_fraction 0 = .ok (.lload_n 3, 1) := by decide +kernel
theorem dX1_fraction_1 : decode cX1_fraction 1 = .ok (.lstore 5, 2) := by decide +kernel
theorem dX1_fraction_3 : decode cX1_fraction 3 = .ok (.lload_n 1, 1) := by decide +kernel
theorem dX1_fraction_4 : decode cX1_fraction 4 = .ok (.lstore 7, 2) := by decide +kernel
theorem dX1_fraction_6 : decode cX1_fraction 6 = .ok (.iconst 0, 1) := by decide +kernel
theorem dX1_fraction_7 : decode cX1_fraction 7 = .ok (.istore 9, 2) := by decide +kernel
theorem dX1_fraction_9 : decode cX1_fraction 9 = .ok (.iload 9, 2) := by decide +kernel
theorem dX1_fraction_11 : decode cX1_fraction 11 = .ok (.sipush 1000, 3) := by decide +kernel
theorem dX1_fraction_14 : decode cX1_fraction 14 = .ok (.if_icmp .ge 31, 3) := by decide +kernel
theorem dX1_fraction_17 : decode cX1_fraction 17 = .ok (.lload 7, 2) := by decide +kernel
theorem dX1_fraction_19 : decode cX1_fraction 19 = .ok (.lconst 0, 1) := by decide +kernel
theorem dX1_fraction_20 : decode cX1_fraction 20 = .ok (.lcmp, 1) := by decide +kernel
theorem dX1_fraction_21 : decode cX1_fraction 21 = .ok (.ifCond .eq 24, 3) := by decide +kernel
theorem dX1_fraction_24 : decode cX1_fraction 24 = .ok (.lload 5, 2) := by decide +kernel
theorem dX1_fraction_26 : decode cX1_fraction 26 = .ok (.lload 7, 2) := by decide +kernel
theorem dX1_fraction_28 : decode cX1_fraction 28 = .ok (.lrem, 1) := by decide +kernel
theorem dX1_fraction_29 : decode cX1_fraction 29 = .ok (.lstore 10, 2) := by decide +kernel
theorem dX1_fraction_31 : decode cX1_fraction 31 = .ok (.lload 7, 2) := by decide +kernel
theorem dX1_fraction_33 : decode cX1_fraction 33 = .ok (.lstore 5, 2) := by decide +kernel
theorem dX1_fraction_35 : decode cX1_fraction 35 = .ok (.lload 10, 2) := by decide +kernel
theorem dX1_fraction_37 : decode cX1_fraction 37 = .ok (.lstore 7, 2) := by decide +kernel
theorem dX1_fraction_39 : decode cX1_fraction 39 = .ok (.iinc 9 1, 3) := by decide +kernel
theorem dX1_fraction_42 : decode cX1_fraction 42 = .ok (.goto (-33), 3) := by decide +kernel
theorem dX1_fraction_45 : decode cX1_fraction 45 = .ok (.aload_n 0, 1) := by decide +kernel
theorem dX1_fraction_46 : decode cX1_fraction 46 = .ok (.lload 5, 2) := by decide +kernel
theorem dX1_fraction_48 : decode cX1_fraction 48 = .ok (.lconst 0, 1) := by decide +kernel
theorem dX1_fraction_49 : decode cX1_fraction 49 = .ok (.lcmp, 1) := by decide +kernel
theorem dX1_fraction_50 : decode cX1_fraction 50 = .ok (.ifCond .ne 7, 3) := by decide +kernel
theorem dX1_fraction_53 : decode cX1_fraction 53 = .ok (.lconst 0, 1) := by decide +kernel
theorem dX1_fraction_54 : decode cX1_fraction 54 = .ok (.goto 7, 3) := by decide +kernel
theorem dX1_fraction_57 : decode cX1_fraction 57 = .ok (.lload_n 1, 1) := by decide +kernel
theorem dX1_fraction_58 : decode cX1_fraction 58 = .ok (.lload 5, 2) := by decide +kernel
theorem dX1_fraction_60 : decode cX1_fraction 60 = .ok (.ldiv, 1) := by decide +kernel
theorem dX1_fraction_61 : decode cX1_fraction 61 = .ok (.putfield 18, 3) := by decide +kernel
theorem dX1_fraction_64 : decode cX1_fraction 64 = .ok (.aload_n 0, 1) := by decide +kernel
theorem dX1_fraction_65 : decode cX1_fraction 65 = .ok (.lload 5, 2) := by decide +kernel
theorem dX1_fraction_67 : decode cX1_fraction 67 = .ok (.lconst 0, 1) := by decide +kernel
theorem dX1_fraction_68 : decode cX1_fraction 68 = .ok (.lcmp, 1) := by decide +kernel
theorem dX1_fraction_69 : decode cX1_fraction 69 = .ok (.ifCond .ne 7, 3) := by decide +kernel
theorem dX1_fraction_72 : decode cX1_fraction 72 = .ok (.lconst 1, 1) := by decide +kernel
theorem dX1_fraction_73 : decode cX1_fraction 73 = .ok (.goto 7, 3) := by decide +kernel
theorem dX1_fraction_76 : decode cX1_fraction 76 = .ok (.lload_n 3, 1) := by decide +kernel
theorem dX1_fraction_77 : decode cX1_fraction 77 = .ok (.lload 5, 2) := by decide +kernel
theorem dX1_fraction_79 : decode cX1_fraction 79 = .ok (.ldiv, 1) := by decide +kernel
theorem dX1_fraction_80 : decode cX1_fraction 80 = .ok (.putfield 22, 3) := by decide +kernel
theorem dX1_fraction_83 : decode cX1_fraction 83 = .ok (.return_, 1) := by decide +kernel
theorem dX1_worth_0 : decode cX1_worth 0 = .ok (.iload_n 1, 1) := by decide +kernel
theorem dX1_worth_1 : decode cX1_worth 1 = .ok (.ifCond .ne 5, 3) := by decide +kernel
theorem dX1_worth_4 : decode cX1_worth 4 = .ok (.iload_n 0, 1) := by decide +kernel
theorem dX1_worth_5 : decode cX1_worth 5 = .ok (.ireturn, 1) := by decide +kernel
theorem dX1_worth_6 : decode cX1_worth 6 = .ok (.iload_n 0, 1) := by decide +kernel
theorem dX1_worth_7 : decode cX1_worth 7 = .ok (.iload_n 1, 1) := by decide +kernel
theorem dX1_worth_8 : decode cX1_worth 8 = .ok (.if_icmp .lt 7, 3) := by decide +kernel
theorem dX1_worth_11 : decode cX1_worth 11 = .ok (.iconst 1, 1) := by decide +kernel
theorem dX1_worth_12 : decode cX1_worth 12 = .ok (.goto 4, 3) := by decide +kernel
theorem dX1_worth_15 : decode cX1_worth 15 = .ok (.iconst 0, 1) := by decide +kernel
theorem dX1_worth_16 : decode cX1_worth 16 = .ok (.ireturn, 1) := by decide +kernel
theorem dX1_spread_0 : decode cX1_spread 0 = .ok (.aload_n 1, 1) := by decide +kernel
theorem dX1_spread_1 : decode cX1_spread 1 = .ok (.getfield 29, 3) := by decide +kernel
theorem dX1_spread_4 : decode cX1_spread 4 = .ok (.astore 4, 2) := by decide +kernel
theorem dX1_spread_6 : decode cX1_spread 6 = .ok (.lconst 0, 1) := by decide +kernel
theorem dX1_spread_7 : decode cX1_spread 7 = .ok (.lstore 5, 2) := by decide +kernel
theorem dX1_spread_9 : decode cX1_spread 9 = .ok (.lconst 1, 1) := by decide +kernel
theorem dX1_spread_10 : decode cX1_spread 10 = .ok (.lstore 7, 2) := by decide +kernel
theorem dX1_spread_12 : decode cX1_spread 12 = .ok (.lconst 1, 1) := by decide +kernel
theorem dX1_spread_13 : decode cX1_spread 13 = .ok (.lstore 9, 2) := by decide +kernel
theorem dX1_spread_15 : decode cX1_spread 15 = .ok (.aload 4, 2) := by decide +kernel
theorem dX1_spread_17 : decode cX1_spread 17 = .ok (.getfield 35, 3) := by decide +kernel
theorem dX1_spread_20 : decode cX1_spread 20 = .ok (.iconst 1, 1) := by decide +kernel
theorem dX1_spread_21 : decode cX1_spread 21 = .ok (.isub, 1) := by decide +kernel
theorem dX1_spread_22 : decode cX1_spread 22 = .ok (.istore 11, 2) := by decide +kernel
theorem dX1_spread_24 : decode cX1_spread 24 = .ok (.iload 11, 2) := by decide +kernel
theorem dX1_spread_26 : decode cX1_spread 26 = .ok (.ifCond .lt 137, 3) := by decide +kernel
theorem dX1_spread_29 : decode cX1_spread 29 = .ok (.aload 4, 2) := by decide +kernel
theorem dX1_spread_31 : decode cX1_spread 31 = .ok (.getfield 41, 3) := by decide +kernel
theorem dX1_spread_34 : decode cX1_spread 34 = .ok (.iload 11, 2) := by decide +kernel
theorem dX1_spread_36 : decode cX1_spread 36 = .ok (.iaload, 1) := by decide +kernel
theorem dX1_spread_37 : decode cX1_spread 37 = .ok (.iload_n 2, 1) := by decide +kernel
theorem dX1_spread_38 : decode cX1_spread 38 = .ok (.if_icmp .le 6, 3) := by decide +kernel
theorem dX1_spread_41 : decode cX1_spread 41 = .ok (.goto 116, 3) := by decide +kernel
theorem dX1_spread_44 : decode cX1_spread 44 = .ok (.aload_n 0, 1) := by decide +kernel
theorem dX1_spread_45 : decode cX1_spread 45 = .ok (.getfield 25, 3) := by decide +kernel
theorem dX1_spread_48 : decode cX1_spread 48 = .ok (.iload_n 2, 1) := by decide +kernel
theorem dX1_spread_49 : decode cX1_spread 49 = .ok (.aload 4, 2) := by decide +kernel
theorem dX1_spread_51 : decode cX1_spread 51 = .ok (.getfield 41, 3) := by decide +kernel
theorem dX1_spread_54 : decode cX1_spread 54 = .ok (.iload 11, 2) := by decide +kernel
theorem dX1_spread_56 : decode cX1_spread 56 = .ok (.iaload, 1) := by decide +kernel
theorem dX1_spread_57 : decode cX1_spread 57 = .ok (.invokevirtual 45, 3) := by decide +kernel
theorem dX1_spread_60 : decode cX1_spread 60 = .ok (.istore 12, 2) := by decide +kernel
theorem dX1_spread_62 : decode cX1_spread 62 = .ok (.aload_n 0, 1) := by decide +kernel
theorem dX1_spread_63 : decode cX1_spread 63 = .ok (.getfield 25, 3) := by decide +kernel
theorem dX1_spread_66 : decode cX1_spread 66 = .ok (.aload 4, 2) := by decide +kernel
theorem dX1_spread_68 : decode cX1_spread 68 = .ok (.getfield 51, 3) := by decide +kernel
theorem dX1_spread_71 : decode cX1_spread 71 = .ok (.iload 11, 2) := by decide +kernel
theorem dX1_spread_73 : decode cX1_spread 73 = .ok (.iaload, 1) := by decide +kernel
theorem dX1_spread_74 : decode cX1_spread 74 = .ok (.aload_n 0, 1) := by decide +kernel
theorem dX1_spread_75 : decode cX1_spread 75 = .ok (.getfield 25, 3) := by decide +kernel
theorem dX1_spread_78 : decode cX1_spread 78 = .ok (.iload_n 2, 1) := by decide +kernel
theorem dX1_spread_79 : decode cX1_spread 79 = .ok (.iload 12, 2) := by decide +kernel
theorem dX1_spread_81 : decode cX1_spread 81 = .ok (.invokevirtual 54, 3) := by decide +kernel
theorem dX1_spread_84 : decode cX1_spread 84 = .ok (.invokevirtual 57, 3) := by decide +kernel
theorem dX1_spread_87 : decode cX1_spread 87 = .ok (.ifCond .ne 6, 3) := by decide +kernel
theorem dX1_spread_90 : decode cX1_spread 90 = .ok (.goto 67, 3) := by decide +kernel
theorem dX1_spread_93 : decode cX1_spread 93 = .ok (.aload_n 1, 1) := by decide +kernel
theorem dX1_spread_94 : decode cX1_spread 94 = .ok (.aload_n 0, 1) := by decide +kernel
theorem dX1_spread_95 : decode cX1_spread 95 = .ok (.getfield 25, 3) := by decide +kernel
theorem dX1_spread_98 : decode cX1_spread 98 = .ok (.iload 11, 2) := by decide +kernel
theorem dX1_spread_100 : decode cX1_spread 100 = .ok (.invokevirtual 61, 3) := by decide +kernel
theorem dX1_spread_103 : decode cX1_spread 103 = .ok (.istore 13, 2) := by decide +kernel
theorem dX1_spread_105 : decode cX1_spread 105 = .ok (.ldc2_w 65, 3) := by decide +kernel
theorem dX1_spread_108 : decode cX1_spread 108 = .ok (.lload 5, 2) := by decide +kernel
theorem dX1_spread_110 : decode cX1_spread 110 = .ok (.lmul, 1) := by decide +kernel
theorem dX1_spread_111 : decode cX1_spread 111 = .ok (.lload 7, 2) := by decide +kernel
theorem dX1_spread_113 : decode cX1_spread 113 = .ok (.iload 13, 2) := by decide +kernel
theorem dX1_spread_115 : decode cX1_spread 115 = .ok (.i2l, 1) := by decide +kernel
theorem dX1_spread_116 : decode cX1_spread 116 = .ok (.lmul, 1) := by decide +kernel
theorem dX1_spread_117 : decode cX1_spread 117 = .ok (.aload_n 0, 1) := by decide +kernel
theorem dX1_spread_118 : decode cX1_spread 118 = .ok (.getfield 25, 3) := by decide +kernel
theorem dX1_spread_121 : decode cX1_spread 121 = .ok (.iload_n 2, 1) := by decide +kernel
theorem dX1_spread_122 : decode cX1_spread 122 = .ok (.iload_n 2, 1) := by decide +kernel
theorem dX1_spread_123 : decode cX1_spread 123 = .ok (.iload 12, 2) := by decide +kernel
theorem dX1_spread_125 : decode cX1_spread 125 = .ok (.isub, 1) := by decide +kernel
theorem dX1_spread_126 : decode cX1_spread 126 = .ok (.invokevirtual 67, 3) := by decide +kernel
theorem dX1_spread_129 : decode cX1_spread 129 = .ok (.iload_n 3, 1) := by decide +kernel
theorem dX1_spread_130 : decode cX1_spread 130 = .ok (.invokestatic 70, 3) := by decide +kernel
theorem dX1_spread_133 : decode cX1_spread 133 = .ok (.i2l, 1) := by decide +kernel
theorem dX1_spread_134 : decode cX1_spread 134 = .ok (.lmul, 1) := by decide +kernel
theorem dX1_spread_135 : decode cX1_spread 135 = .ok (.ladd, 1) := by decide +kernel
theorem dX1_spread_136 : decode cX1_spread 136 = .ok (.lstore 5, 2) := by decide +kernel
theorem dX1_spread_138 : decode cX1_spread 138 = .ok (.lload 7, 2) := by decide +kernel
theorem dX1_spread_140 : decode cX1_spread 140 = .ok (.bipush 20, 2) := by decide +kernel
theorem dX1_spread_142 : decode cX1_spread 142 = .ok (.iload 13, 2) := by decide +kernel
theorem dX1_spread_144 : decode cX1_spread 144 = .ok (.isub, 1) := by decide +kernel
theorem dX1_spread_145 : decode cX1_spread 145 = .ok (.i2l, 1) := by decide +kernel
theorem dX1_spread_146 : decode cX1_spread 146 = .ok (.lmul, 1) := by decide +kernel
theorem dX1_spread_147 : decode cX1_spread 147 = .ok (.lstore 7, 2) := by decide +kernel
theorem dX1_spread_149 : decode cX1_spread 149 = .ok (.lload 9, 2) := by decide +kernel
theorem dX1_spread_151 : decode cX1_spread 151 = .ok (.ldc2_w 65, 3) := by decide +kernel
theorem dX1_spread_154 : decode cX1_spread 154 = .ok (.lmul, 1) := by decide +kernel
theorem dX1_spread_155 : decode cX1_spread 155 = .ok (.lstore 9, 2) := by decide +kernel
theorem dX1_spread_157 : decode cX1_spread 157 = .ok (.iinc 11 (-1), 3) := by decide +kernel
theorem dX1_spread_160 : decode cX1_spread 160 = .ok (.goto (-136), 3) := by decide +kernel
theorem dX1_spread_163 : decode cX1_spread 163 = .ok (.lload 5, 2) := by decide +kernel
theorem dX1_spread_165 : decode cX1_spread 165 = .ok (.lload 7, 2) := by decide +kernel
theorem dX1_spread_167 : decode cX1_spread 167 = .ok (.aload_n 0, 1) := by decide +kernel
theorem dX1_spread_168 : decode cX1_spread 168 = .ok (.getfield 25, 3) := by decide +kernel
theorem dX1_spread_171 : decode cX1_spread 171 = .ok (.iload_n 2, 1) := by decide +kernel
theorem dX1_spread_172 : decode cX1_spread 172 = .ok (.iconst 0, 1) := by decide +kernel
theorem dX1_spread_173 : decode cX1_spread 173 = .ok (.invokevirtual 67, 3) := by decide +kernel
theorem dX1_spread_176 : decode cX1_spread 176 = .ok (.iload_n 3, 1) := by decide +kernel
theorem dX1_spread_177 : decode cX1_spread 177 = .ok (.invokestatic 70, 3) := by decide +kernel
theorem dX1_spread_180 : decode cX1_spread 180 = .ok (.i2l, 1) := by decide +kernel
theorem dX1_spread_181 : decode cX1_spread 181 = .ok (.lmul, 1) := by decide +kernel
theorem dX1_spread_182 : decode cX1_spread 182 = .ok (.ladd, 1) := by decide +kernel
theorem dX1_spread_183 : decode cX1_spread 183 = .ok (.lstore 5, 2) := by decide +kernel
theorem dX1_spread_185 : decode cX1_spread 185 = .ok (.aload_n 0, 1) := by decide +kernel
theorem dX1_spread_186 : decode cX1_spread 186 = .ok (.lload 5, 2) := by decide +kernel
theorem dX1_spread_188 : decode cX1_spread 188 = .ok (.lload 9, 2) := by decide +kernel
theorem dX1_spread_190 : decode cX1_spread 190 = .ok (.invokevirtual 73, 3) := by decide +kernel
theorem dX1_spread_193 : decode cX1_spread 193 = .ok (.return_, 1) := by decide +kernel
theorem dX1_couldHold_0 : decode cX1_couldHold 0 = .ok (.aload_n 0, 1) := by decide +kernel
theorem dX1_couldHold_1 : decode cX1_couldHold 1 = .ok (.getfield 25, 3) := by decide +kernel
theorem dX1_couldHold_4 : decode cX1_couldHold 4 = .ok (.aload_n 1, 1) := by decide +kernel
theorem dX1_couldHold_5 : decode cX1_couldHold 5 = .ok (.getfield 51, 3) := by decide +kernel
theorem dX1_couldHold_8 : decode cX1_couldHold 8 = .ok (.iload_n 2, 1) := by decide +kernel
theorem dX1_couldHold_9 : decode cX1_couldHold 9 = .ok (.iaload, 1) := by decide +kernel
theorem dX1_couldHold_10 : decode cX1_couldHold 10 = .ok (.aload_n 0, 1) := by decide +kernel
theorem dX1_couldHold_11 : decode cX1_couldHold 11 = .ok (.getfield 25, 3) := by decide +kernel
theorem dX1_couldHold_14 : decode cX1_couldHold 14 = .ok (.iload_n 3, 1) := by decide +kernel
theorem dX1_couldHold_15 : decode cX1_couldHold 15 = .ok (.aload_n 0, 1) := by decide +kernel
theorem dX1_couldHold_16 : decode cX1_couldHold 16 = .ok (.getfield 25, 3) := by decide +kernel
theorem dX1_couldHold_19 : decode cX1_couldHold 19 = .ok (.iload_n 3, 1) := by decide +kernel
theorem dX1_couldHold_20 : decode cX1_couldHold 20 = .ok (.aload_n 1, 1) := by decide +kernel
theorem dX1_couldHold_21 : decode cX1_couldHold 21 = .ok (.getfield 41, 3) := by decide +kernel
theorem dX1_couldHold_24 : decode cX1_couldHold 24 = .ok (.iload_n 2, 1) := by decide +kernel
theorem dX1_couldHold_25 : decode cX1_couldHold 25 = .ok (.iaload, 1) := by decide +kernel
theorem dX1_couldHold_26 : decode cX1_couldHold 26 = .ok (.invokevirtual 45, 3) := by decide +kernel
theorem dX1_couldHold_29 : decode cX1_couldHold 29 = .ok (.invokevirtual 54, 3) := by decide +kernel
theorem dX1_couldHold_32 : decode cX1_couldHold 32 = .ok (.invokevirtual 57, 3) := by decide +kernel
theorem dX1_couldHold_35 : decode cX1_couldHold 35 = .ok (.ireturn, 1) := by decide +kernel
theorem dX1_ofStory_0 : decode cX1_ofStory 0 = .ok (.aload_n 1, 1) := by decide +kernel
theorem dX1_ofStory_1 : decode cX1_ofStory 1 = .ok (.getfield 29, 3) := by decide +kernel
theorem dX1_ofStory_4 : decode cX1_ofStory 4 = .ok (.astore 5, 2) := by decide +kernel
theorem dX1_ofStory_6 : decode cX1_ofStory 6 = .ok (.aload_n 0, 1) := by decide +kernel
theorem dX1_ofStory_7 : decode cX1_ofStory 7 = .ok (.getfield 12, 3) := by decide +kernel
theorem dX1_ofStory_10 : decode cX1_ofStory 10 = .ok (.aload_n 0, 1) := by decide +kernel
theorem dX1_ofStory_11 : decode cX1_ofStory 11 = .ok (.getfield 25, 3) := by decide +kernel
theorem dX1_ofStory_14 : decode cX1_ofStory 14 = .ok (.aload 5, 2) := by decide +kernel
theorem dX1_ofStory_16 : decode cX1_ofStory 16 = .ok (.iload_n 2, 1) := by decide +kernel
theorem dX1_ofStory_17 : decode cX1_ofStory 17 = .ok (.aload 5, 2) := by decide +kernel
theorem dX1_ofStory_19 : decode cX1_ofStory 19 = .ok (.invokevirtual 77, 3) := by decide +kernel
theorem dX1_ofStory_22 : decode cX1_ofStory 22 = .ok (.iload_n 3, 1) := by decide +kernel
theorem dX1_ofStory_23 : decode cX1_ofStory 23 = .ok (.iconst (-1), 1) := by decide +kernel
theorem dX1_ofStory_24 : decode cX1_ofStory 24 = .ok (.ixor, 1) := by decide +kernel
theorem dX1_ofStory_25 : decode cX1_ofStory 25 = .ok (.iand, 1) := by decide +kernel
theorem dX1_ofStory_26 : decode cX1_ofStory 26 = .ok (.invokevirtual 81, 3) := by decide +kernel
theorem dX1_ofStory_29 : decode cX1_ofStory 29 = .ok (.aload_n 0, 1) := by decide +kernel
theorem dX1_ofStory_30 : decode cX1_ofStory 30 = .ok (.getfield 12, 3) := by decide +kernel
theorem dX1_ofStory_33 : decode cX1_ofStory 33 = .ok (.iload_n 3, 1) := by decide +kernel
theorem dX1_ofStory_34 : decode cX1_ofStory 34 = .ok (.iload 4, 2) := by decide +kernel
theorem dX1_ofStory_36 : decode cX1_ofStory 36 = .ok (.invokevirtual 85, 3) := by decide +kernel
theorem dX1_ofStory_39 : decode cX1_ofStory 39 = .ok (.ifCond .ne 5, 3) := by decide +kernel
theorem dX1_ofStory_42 : decode cX1_ofStory 42 = .ok (.lconst 0, 1) := by decide +kernel
theorem dX1_ofStory_43 : decode cX1_ofStory 43 = .ok (.lreturn, 1) := by decide +kernel
theorem dX1_ofStory_44 : decode cX1_ofStory 44 = .ok (.aload_n 0, 1) := by decide +kernel
theorem dX1_ofStory_45 : decode cX1_ofStory 45 = .ok (.getfield 25, 3) := by decide +kernel
theorem dX1_ofStory_48 : decode cX1_ofStory 48 = .ok (.getfield 88, 3) := by decide +kernel
theorem dX1_ofStory_51 : decode cX1_ofStory 51 = .ok (.iload_n 2, 1) := by decide +kernel
theorem dX1_ofStory_52 : decode cX1_ofStory 52 = .ok (.iaload, 1) := by decide +kernel
theorem dX1_ofStory_53 : decode cX1_ofStory 53 = .ok (.i2l, 1) := by decide +kernel
theorem dX1_ofStory_54 : decode cX1_ofStory 54 = .ok (.lstore 6, 2) := by decide +kernel
theorem dX1_ofStory_56 : decode cX1_ofStory 56 = .ok (.iconst 0, 1) := by decide +kernel
theorem dX1_ofStory_57 : decode cX1_ofStory 57 = .ok (.istore 8, 2) := by decide +kernel
theorem dX1_ofStory_59 : decode cX1_ofStory 59 = .ok (.iload 8, 2) := by decide +kernel
theorem dX1_ofStory_61 : decode cX1_ofStory 61 = .ok (.aload 5, 2) := by decide +kernel
theorem dX1_ofStory_63 : decode cX1_ofStory 63 = .ok (.getfield 35, 3) := by decide +kernel
theorem dX1_ofStory_66 : decode cX1_ofStory 66 = .ok (.if_icmp .ge 91, 3) := by decide +kernel
theorem dX1_ofStory_69 : decode cX1_ofStory 69 = .ok (.iload 8, 2) := by decide +kernel
theorem dX1_ofStory_71 : decode cX1_ofStory 71 = .ok (.aload_n 0, 1) := by decide +kernel
theorem dX1_ofStory_72 : decode cX1_ofStory 72 = .ok (.getfield 12, 3) := by decide +kernel
theorem dX1_ofStory_75 : decode cX1_ofStory 75 = .ok (.getfield 91, 3) := by decide +kernel
theorem dX1_ofStory_78 : decode cX1_ofStory 78 = .ok (.if_icmp .ne 22, 3) := by decide +kernel
theorem dX1_ofStory_81 : decode cX1_ofStory 81 = .ok (.lload 6, 2) := by decide +kernel
theorem dX1_ofStory_83 : decode cX1_ofStory 83 = .ok (.aload_n 1, 1) := by decide +kernel
theorem dX1_ofStory_84 : decode cX1_ofStory 84 = .ok (.aload_n 0, 1) := by decide +kernel
theorem dX1_ofStory_85 : decode cX1_ofStory 85 = .ok (.getfield 25, 3) := by decide +kernel
theorem dX1_ofStory_88 : decode cX1_ofStory 88 = .ok (.iload 8, 2) := by decide +kernel
theorem dX1_ofStory_90 : decode cX1_ofStory 90 = .ok (.invokevirtual 61, 3) := by decide +kernel
theorem dX1_ofStory_93 : decode cX1_ofStory 93 = .ok (.i2l, 1) := by decide +kernel
theorem dX1_ofStory_94 : decode cX1_ofStory 94 = .ok (.lmul, 1) := by decide +kernel
theorem dX1_ofStory_95 : decode cX1_ofStory 95 = .ok (.lstore 6, 2) := by decide +kernel
theorem dX1_ofStory_97 : decode cX1_ofStory 97 = .ok (.goto 54, 3) := by decide +kernel
theorem dX1_ofStory_100 : decode cX1_ofStory 100 = .ok (.iload_n 3, 1) := by decide +kernel
theorem dX1_ofStory_101 : decode cX1_ofStory 101 = .ok (.iload 8, 2) := by decide +kernel
theorem dX1_ofStory_103 : decode cX1_ofStory 103 = .ok (.ishr, 1) := by decide +kernel
theorem dX1_ofStory_104 : decode cX1_ofStory 104 = .ok (.iconst 1, 1) := by decide +kernel
theorem dX1_ofStory_105 : decode cX1_ofStory 105 = .ok (.iand, 1) := by decide +kernel
theorem dX1_ofStory_106 : decode cX1_ofStory 106 = .ok (.ifCond .eq 37, 3) := by decide +kernel
theorem dX1_ofStory_109 : decode cX1_ofStory 109 = .ok (.aload_n 0, 1) := by decide +kernel
theorem dX1_ofStory_110 : decode cX1_ofStory 110 = .ok (.aload 5, 2) := by decide +kernel
theorem dX1_ofStory_112 : decode cX1_ofStory 112 = .ok (.iload 8, 2) := by decide +kernel
theorem dX1_ofStory_114 : decode cX1_ofStory 114 = .ok (.iload_n 2, 1) := by decide +kernel
theorem dX1_ofStory_115 : decode cX1_ofStory 115 = .ok (.invokevirtual 94, 3) := by decide +kernel
theorem dX1_ofStory_118 : decode cX1_ofStory 118 = .ok (.ifCond .eq 25, 3) := by decide +kernel
theorem dX1_ofStory_121 : decode cX1_ofStory 121 = .ok (.lload 6, 2) := by decide +kernel
theorem dX1_ofStory_123 : decode cX1_ofStory 123 = .ok (.bipush 20, 2) := by decide +kernel
theorem dX1_ofStory_125 : decode cX1_ofStory 125 = .ok (.aload_n 1, 1) := by decide +kernel
theorem dX1_ofStory_126 : decode cX1_ofStory 126 = .ok (.aload_n 0, 1) := by decide +kernel
theorem dX1_ofStory_127 : decode cX1_ofStory 127 = .ok (.getfield 25, 3) := by decide +kernel
theorem dX1_ofStory_130 : decode cX1_ofStory 130 = .ok (.iload 8, 2) := by decide +kernel
theorem dX1_ofStory_132 : decode cX1_ofStory 132 = .ok (.invokevirtual 61, 3) := by decide +kernel
theorem dX1_ofStory_135 : decode cX1_ofStory 135 = .ok (.isub, 1) := by decide +kernel
theorem dX1_ofStory_136 : decode cX1_ofStory 136 = .ok (.i2l, 1) := by decide +kernel
theorem dX1_ofStory_137 : decode cX1_ofStory 137 = .ok (.lmul, 1) := by decide +kernel
theorem dX1_ofStory_138 : decode cX1_ofStory 138 = .ok (.lstore 6, 2) := by decide +kernel
theorem dX1_ofStory_140 : decode cX1_ofStory 140 = .ok (.goto 11, 3) := by decide +kernel
theorem dX1_ofStory_143 : decode cX1_ofStory 143 = .ok (.lload 6, 2) := by decide +kernel
theorem dX1_ofStory_145 : decode cX1_ofStory 145 = .ok (.ldc2_w 65, 3) := by decide +kernel
theorem dX1_ofStory_148 : decode cX1_ofStory 148 = .ok (.lmul, 1) := by decide +kernel
theorem dX1_ofStory_149 : decode cX1_ofStory 149 = .ok (.lstore 6, 2) := by decide +kernel
theorem dX1_ofStory_151 : decode cX1_ofStory 151 = .ok (.iinc 8 1, 3) := by decide +kernel
theorem dX1_ofStory_154 : decode cX1_ofStory 154 = .ok (.goto (-95), 3) := by decide +kernel
theorem dX1_ofStory_157 : decode cX1_ofStory 157 = .ok (.lload 6, 2) := by decide +kernel
theorem dX1_ofStory_159 : decode cX1_ofStory 159 = .ok (.lreturn, 1) := by decide +kernel
abbrev q_X1_part (a : Int) (σ : tw_M) : Option tw_V → tw_M → Prop := fun z τ => ∃ r : Int, z = some (vL r) ∧ (-9223372036854775808 ≤ r ∧ r ≤ 9223372036854775807) ∧ σ = τ ∧ ((a = 0 ∧ r = σ 58 2) ∨ (¬ a = 0 ∧ r = σ 58 3))
set_option maxHeartbeats 4000000 in
set_option maxRecDepth 100000 in
theorem c_X1_part {G : tw_G} (hX : tw_isX G) (a : Int) (ha : -2147483648 ≤ a ∧ a ≤ 2147483647) (σ : tw_M) (hI : tw_I σ) : tw_C G yX1_part cX1_part 2 (some .long) 0 [vR 58, vI a] σ (q_X1_part a σ) := by
  refine tw_met [(0, vR 58), (1, vI a)] (by decide +kernel) rfl (Nat.le_of_ble_eq_true rfl) ?_
  refine j_iload_n (pc := 0) dX1_part_0 rfl rfl ?_
  refine j_ifR_ne (pc := 1) (tgt := 11) ⟨by omega, by omega⟩ dX1_part_1 rfl (fun h1 => ?_) (fun h1 => ?_)
  · refine j_aload_n (pc := 11) dX1_part_11 rfl rfl ?_
    refine j_getL (pc := 12) fl_X1_22 dX1_part_12 (a_58 hX) rfl ?_
    have f2 : (-9223372036854775808 : Int) ≤ σ 58 3 ∧ σ 58 3 ≤ 9223372036854775807 := hI 58 3
    exact j_lret (pc := 15) ⟨rfl, rfl⟩ dX1_part_15 rfl ⟨_, rfl, ⟨by omega, by omega⟩, rfl, by omega⟩
  · refine j_aload_n (pc := 4) dX1_part_4 rfl rfl ?_
    refine j_getL (pc := 5) fl_X1_18 dX1_part_5 (a_58 hX) rfl ?_
    have f3 : (-9223372036854775808 : Int) ≤ σ 58 2 ∧ σ 58 2 ≤ 9223372036854775807 := hI 58 2
    refine j_goto (pc := 8) (tgt := 15) dX1_part_8 rfl ?_
    exact j_lret (pc := 15) ⟨rfl, rfl⟩ dX1_part_15 rfl ⟨_, rfl, ⟨by omega, by omega⟩, rfl, by omega⟩
abbrev q_X1_fraction (a : Int) (b : Int) (σ : tw_M) : Option tw_V → tw_M → Prop := fun z τ => z = none ∧ tw_I τ ∧ tw_F (fun c j => (c = 58 ∧ (j = 2 ∨ j = 3))) σ τ ∧ (τ 58 2 = euA a (eu 1000 b a)) ∧ (τ 58 3 = euB b (eu 1000 b a))
set_option maxHeartbeats 4000000 in
set_option maxRecDepth 100000 in
theorem l_X1_fraction {G : tw_G} (hX : tw_isX G) (a : Int) (ha : -9223372036854775808 ≤ a ∧ a ≤ 9223372036854775807) (b : Int) (hb : -9223372036854775808 ≤ b ∧ b ≤ 9223372036854775807) (σ : tw_M) (hI : tw_I σ) : ∀ N_ : Nat, (∀ (x : Int) (hx : -9223372036854775808 ≤ x ∧ x ≤ 9223372036854775807) (y : Int) (hy : -9223372036854775808 ≤ y ∧ y ≤ 9223372036854775807) (i : Int) (hi : 0 ≤ i ∧ i ≤ 1000) (τ : tw_M) (hIτ : tw_I τ) (hFτ : tw_F (fun c j => (c = 58 ∧ (j = 2 ∨ j = 3))) σ τ) (i0 : eu (1000 - i).toNat x y = eu 1000 b a) (hm : (1000 - i).toNat < N_), tw_J G (tw_mt RX1 cX1_fraction 12 none 0) (tw_E G (q_X1_fraction a b σ)) 9 [(0, vR 58), (1, vL a), (3, vL b), (5, vL x), (7, vL y), (9, vI i)] [] τ) := by
  intro N_
  induction N_ with
  | zero => exact fun x hx y hy i hi τ hIτ hFτ i0 hm => absurd hm (Nat.not_lt_zero _)
  | succ N_ ih =>
    intro x hx y hy i hi τ hIτ hFτ i0 hm
    refine j_iload (pc := 9) dX1_fraction_9 rfl ?_
    refine j_sipush (pc := 11) dX1_fraction_11 rfl ?_
    refine j_icmpR_ge (pc := 14) (tgt := 45) ⟨by omega, by omega⟩ ⟨by omega, by omega⟩ dX1_fraction_14 rfl (fun h1 => ?_) (fun h1 => ?_)
    · have ex : x = eu 1000 b a := by
        rw [← i0]
        rcases (show y = 0 ∨ (1000 - i).toNat = 0 by omega) with q | q
        · rw [q]; exact eu_0.symm
        · rw [q]; rfl
      refine j_aload_n (pc := 45) dX1_fraction_45 rfl rfl ?_
      refine j_lload (pc := 46) dX1_fraction_46 rfl ?_
      refine j_lconst (pc := 48) (z := 0) dX1_fraction_48 rfl ?_
      refine j_lcmp (pc := 49) dX1_fraction_49 (fun z2 ez2 => ?_)
      have hz2 : (z2 = 1 ∧ 0 < x) ∨ (z2 = 0 ∧ x = 0) ∨ (z2 = -1 ∧ x < 0) := by rw [ez2]; exact tw_cmp_eq ⟨by omega, by omega⟩ ⟨by omega, by omega⟩
      refine j_ifR_ne (pc := 50) (tgt := 57) ⟨by omega, by omega⟩ dX1_fraction_50 rfl (fun h3 => ?_) (fun h3 => ?_)
      · refine j_lload_n (pc := 57) dX1_fraction_57 rfl rfl ?_
        refine j_lload (pc := 58) dX1_fraction_58 rfl ?_
        refine j_ldiv (pc := 60) dX1_fraction_60 (tw_nzL ⟨by omega, by omega⟩ (by omega)) (fun z4 ez4 => ?_)
        have hz4 : (-9223372036854775808 : Int) ≤ z4 ∧ z4 ≤ 9223372036854775807 := by rw [ez4]; exact ldivL_in _ _
        have b2 : z4 = euA a (eu 1000 b a) := by rw [← ex, ez4]; exact (if_neg (by omega)).symm
        refine j_putL (pc := 61) fl_X1_18 fp_X1_2 dX1_fraction_61 (a_58 hX) rfl (j_nm (fun σ5 (eσ5 : σ5 = tw_up τ 58 2 z4) => ?_))
        have hIσ5 : tw_I σ5 := tw_I_up hIτ eσ5 (show (-9223372036854775808 : Int) ≤ z4 ∧ z4 ≤ 9223372036854775807 from ⟨by omega, by omega⟩)
        have hFσ5 : tw_F (fun c j => (c = 58 ∧ (j = 2 ∨ j = 3))) σ σ5 := tw_F_up hFτ eσ5 (show (58 = 58 ∧ (2 = 2 ∨ 2 = 3)) from ⟨rfl, (Or.inl rfl)⟩)
        refine j_aload_n (pc := 64) dX1_fraction_64 rfl rfl ?_
        refine j_lload (pc := 65) dX1_fraction_65 rfl ?_
        refine j_lconst (pc := 67) (z := 0) dX1_fraction_67 rfl ?_
        refine j_lcmp (pc := 68) dX1_fraction_68 (fun z6 ez6 => ?_)
        have hz6 : (z6 = 1 ∧ 0 < x) ∨ (z6 = 0 ∧ x = 0) ∨ (z6 = -1 ∧ x < 0) := by rw [ez6]; exact tw_cmp_eq ⟨by omega, by omega⟩ ⟨by omega, by omega⟩
        refine j_ifR_ne (pc := 69) (tgt := 76) ⟨by omega, by omega⟩ dX1_fraction_69 rfl (fun h7 => ?_) (fun h7 => ?_)
        · refine j_lload_n (pc := 76) dX1_fraction_76 rfl rfl ?_
          refine j_lload (pc := 77) dX1_fraction_77 rfl ?_
          refine j_ldiv (pc := 79) dX1_fraction_79 (tw_nzL ⟨by omega, by omega⟩ (by omega)) (fun z8 ez8 => ?_)
          have hz8 : (-9223372036854775808 : Int) ≤ z8 ∧ z8 ≤ 9223372036854775807 := by rw [ez8]; exact ldivL_in _ _
          have b3 : z8 = euB b (eu 1000 b a) := by rw [← ex, ez8]; exact (if_neg (by omega)).symm
          refine j_putL (pc := 80) fl_X1_22 fp_X1_3 dX1_fraction_80 (a_58 hX) rfl (j_nm (fun σ9 (eσ9 : σ9 = tw_up σ5 58 3 z8) => ?_))
          have hIσ9 : tw_I σ9 := tw_I_up hIσ5 eσ9 (show (-9223372036854775808 : Int) ≤ z8 ∧ z8 ≤ 9223372036854775807 from ⟨by omega, by omega⟩)
          have hFσ9 : tw_F (fun c j => (c = 58 ∧ (j = 2 ∨ j = 3))) σ σ9 := tw_F_up hFσ5 eσ9 (show (58 = 58 ∧ (3 = 2 ∨ 3 = 3)) from ⟨rfl, (Or.inr rfl)⟩)
          have y10 : σ9 58 2 = z4 := ((tw_ne1 eσ9 (by (first | decide | omega)))).trans (tw_eq1 eσ5)
          have y11 : σ9 58 3 = z8 := (tw_eq1 eσ9)
          exact j_vret (pc := 83) ⟨rfl, rfl⟩ dX1_fraction_83 rfl ⟨rfl, hIσ9, hFσ9, ((((tw_ne1 eσ9 (by (first | decide | omega)))).trans (tw_eq1 eσ5)).trans b2), (((tw_eq1 eσ9)).trans b3)⟩
        · refine j_lconst (pc := 72) (z := 1) dX1_fraction_72 rfl ?_
          refine j_goto (pc := 73) (tgt := 80) dX1_fraction_73 rfl ?_
          have b3 : (1 : Int) = euB b (eu 1000 b a) := by rw [← ex]; exact (if_pos (by omega)).symm
          refine j_putL (pc := 80) fl_X1_22 fp_X1_3 dX1_fraction_80 (a_58 hX) rfl (j_nm (fun σ12 (eσ12 : σ12 = tw_up σ5 58 3 1) => ?_))
          have hIσ12 : tw_I σ12 := tw_I_up hIσ5 eσ12 (show (-9223372036854775808 : Int) ≤ 1 ∧ 1 ≤ 9223372036854775807 from by decide)
          have hFσ12 : tw_F (fun c j => (c = 58 ∧ (j = 2 ∨ j = 3))) σ σ12 := tw_F_up hFσ5 eσ12 (show (58 = 58 ∧ (3 = 2 ∨ 3 = 3)) from ⟨rfl, (Or.inr rfl)⟩)
          have y13 : σ12 58 2 = z4 := ((tw_ne1 eσ12 (by (first | decide | omega)))).trans (tw_eq1 eσ5)
          have y14 : σ12 58 3 = 1 := (tw_eq1 eσ12)
          exact j_vret (pc := 83) ⟨rfl, rfl⟩ dX1_fraction_83 rfl ⟨rfl, hIσ12, hFσ12, ((((tw_ne1 eσ12 (by (first | decide | omega)))).trans (tw_eq1 eσ5)).trans b2), (((tw_eq1 eσ12)).trans b3)⟩
      · refine j_lconst (pc := 53) (z := 0) dX1_fraction_53 rfl ?_
        refine j_goto (pc := 54) (tgt := 61) dX1_fraction_54 rfl ?_
        have b2 : (0 : Int) = euA a (eu 1000 b a) := by rw [← ex]; exact (if_pos (by omega)).symm
        refine j_putL (pc := 61) fl_X1_18 fp_X1_2 dX1_fraction_61 (a_58 hX) rfl (j_nm (fun σ15 (eσ15 : σ15 = tw_up τ 58 2 0) => ?_))
        have hIσ15 : tw_I σ15 := tw_I_up hIτ eσ15 (show (-9223372036854775808 : Int) ≤ 0 ∧ 0 ≤ 9223372036854775807 from by decide)
        have hFσ15 : tw_F (fun c j => (c = 58 ∧ (j = 2 ∨ j = 3))) σ σ15 := tw_F_up hFτ eσ15 (show (58 = 58 ∧ (2 = 2 ∨ 2 = 3)) from ⟨rfl, (Or.inl rfl)⟩)
        refine j_aload_n (pc := 64) dX1_fraction_64 rfl rfl ?_
        refine j_lload (pc := 65) dX1_fraction_65 rfl ?_
        refine j_lconst (pc := 67) (z := 0) dX1_fraction_67 rfl ?_
        refine j_lcmp (pc := 68) dX1_fraction_68 (fun z16 ez16 => ?_)
        have hz16 : (z16 = 1 ∧ 0 < x) ∨ (z16 = 0 ∧ x = 0) ∨ (z16 = -1 ∧ x < 0) := by rw [ez16]; exact tw_cmp_eq ⟨by omega, by omega⟩ ⟨by omega, by omega⟩
        refine j_ifR_ne (pc := 69) (tgt := 76) ⟨by omega, by omega⟩ dX1_fraction_69 rfl (fun h17 => ?_) (fun h17 => ?_)
        · refine j_lload_n (pc := 76) dX1_fraction_76 rfl rfl ?_
          refine j_lload (pc := 77) dX1_fraction_77 rfl ?_
          refine j_ldiv (pc := 79) dX1_fraction_79 (tw_nzL ⟨by omega, by omega⟩ (by omega)) (fun z18 ez18 => ?_)
          have hz18 : (-9223372036854775808 : Int) ≤ z18 ∧ z18 ≤ 9223372036854775807 := by rw [ez18]; exact ldivL_in _ _
          have b3 : z18 = euB b (eu 1000 b a) := by rw [← ex, ez18]; exact (if_neg (by omega)).symm
          refine j_putL (pc := 80) fl_X1_22 fp_X1_3 dX1_fraction_80 (a_58 hX) rfl (j_nm (fun σ19 (eσ19 : σ19 = tw_up σ15 58 3 z18) => ?_))
          have hIσ19 : tw_I σ19 := tw_I_up hIσ15 eσ19 (show (-9223372036854775808 : Int) ≤ z18 ∧ z18 ≤ 9223372036854775807 from ⟨by omega, by omega⟩)
          have hFσ19 : tw_F (fun c j => (c = 58 ∧ (j = 2 ∨ j = 3))) σ σ19 := tw_F_up hFσ15 eσ19 (show (58 = 58 ∧ (3 = 2 ∨ 3 = 3)) from ⟨rfl, (Or.inr rfl)⟩)
          have y20 : σ19 58 2 = 0 := ((tw_ne1 eσ19 (by (first | decide | omega)))).trans (tw_eq1 eσ15)
          have y21 : σ19 58 3 = z18 := (tw_eq1 eσ19)
          exact j_vret (pc := 83) ⟨rfl, rfl⟩ dX1_fraction_83 rfl ⟨rfl, hIσ19, hFσ19, ((((tw_ne1 eσ19 (by (first | decide | omega)))).trans (tw_eq1 eσ15)).trans b2), (((tw_eq1 eσ19)).trans b3)⟩
        · refine j_lconst (pc := 72) (z := 1) dX1_fraction_72 rfl ?_
          refine j_goto (pc := 73) (tgt := 80) dX1_fraction_73 rfl ?_
          have b3 : (1 : Int) = euB b (eu 1000 b a) := by rw [← ex]; exact (if_pos (by omega)).symm
          refine j_putL (pc := 80) fl_X1_22 fp_X1_3 dX1_fraction_80 (a_58 hX) rfl (j_nm (fun σ22 (eσ22 : σ22 = tw_up σ15 58 3 1) => ?_))
          have hIσ22 : tw_I σ22 := tw_I_up hIσ15 eσ22 (show (-9223372036854775808 : Int) ≤ 1 ∧ 1 ≤ 9223372036854775807 from by decide)
          have hFσ22 : tw_F (fun c j => (c = 58 ∧ (j = 2 ∨ j = 3))) σ σ22 := tw_F_up hFσ15 eσ22 (show (58 = 58 ∧ (3 = 2 ∨ 3 = 3)) from ⟨rfl, (Or.inr rfl)⟩)
          have y23 : σ22 58 2 = 0 := ((tw_ne1 eσ22 (by (first | decide | omega)))).trans (tw_eq1 eσ15)
          have y24 : σ22 58 3 = 1 := (tw_eq1 eσ22)
          exact j_vret (pc := 83) ⟨rfl, rfl⟩ dX1_fraction_83 rfl ⟨rfl, hIσ22, hFσ22, ((((tw_ne1 eσ22 (by (first | decide | omega)))).trans (tw_eq1 eσ15)).trans b2), (((tw_eq1 eσ22)).trans b3)⟩
    · refine j_lload (pc := 17) dX1_fraction_17 rfl ?_
      refine j_lconst (pc := 19) (z := 0) dX1_fraction_19 rfl ?_
      refine j_lcmp (pc := 20) dX1_fraction_20 (fun z25 ez25 => ?_)
      have hz25 : (z25 = 1 ∧ 0 < y) ∨ (z25 = 0 ∧ y = 0) ∨ (z25 = -1 ∧ y < 0) := by rw [ez25]; exact tw_cmp_eq ⟨by omega, by omega⟩ ⟨by omega, by omega⟩
      refine j_ifR_eq (pc := 21) (tgt := 45) ⟨by omega, by omega⟩ dX1_fraction_21 rfl (fun h26 => ?_) (fun h26 => ?_)
      · have ex : x = eu 1000 b a := by
          rw [← i0]
          rcases (show y = 0 ∨ (1000 - i).toNat = 0 by omega) with q | q
          · rw [q]; exact eu_0.symm
          · rw [q]; rfl
        refine j_aload_n (pc := 45) dX1_fraction_45 rfl rfl ?_
        refine j_lload (pc := 46) dX1_fraction_46 rfl ?_
        refine j_lconst (pc := 48) (z := 0) dX1_fraction_48 rfl ?_
        refine j_lcmp (pc := 49) dX1_fraction_49 (fun z27 ez27 => ?_)
        have hz27 : (z27 = 1 ∧ 0 < x) ∨ (z27 = 0 ∧ x = 0) ∨ (z27 = -1 ∧ x < 0) := by rw [ez27]; exact tw_cmp_eq ⟨by omega, by omega⟩ ⟨by omega, by omega⟩
        refine j_ifR_ne (pc := 50) (tgt := 57) ⟨by omega, by omega⟩ dX1_fraction_50 rfl (fun h28 => ?_) (fun h28 => ?_)
        · refine j_lload_n (pc := 57) dX1_fraction_57 rfl rfl ?_
          refine j_lload (pc := 58) dX1_fraction_58 rfl ?_
          refine j_ldiv (pc := 60) dX1_fraction_60 (tw_nzL ⟨by omega, by omega⟩ (by omega)) (fun z29 ez29 => ?_)
          have hz29 : (-9223372036854775808 : Int) ≤ z29 ∧ z29 ≤ 9223372036854775807 := by rw [ez29]; exact ldivL_in _ _
          have b2 : z29 = euA a (eu 1000 b a) := by rw [← ex, ez29]; exact (if_neg (by omega)).symm
          refine j_putL (pc := 61) fl_X1_18 fp_X1_2 dX1_fraction_61 (a_58 hX) rfl (j_nm (fun σ30 (eσ30 : σ30 = tw_up τ 58 2 z29) => ?_))
          have hIσ30 : tw_I σ30 := tw_I_up hIτ eσ30 (show (-9223372036854775808 : Int) ≤ z29 ∧ z29 ≤ 9223372036854775807 from ⟨by omega, by omega⟩)
          have hFσ30 : tw_F (fun c j => (c = 58 ∧ (j = 2 ∨ j = 3))) σ σ30 := tw_F_up hFτ eσ30 (show (58 = 58 ∧ (2 = 2 ∨ 2 = 3)) from ⟨rfl, (Or.inl rfl)⟩)
          refine j_aload_n (pc := 64) dX1_fraction_64 rfl rfl ?_
          refine j_lload (pc := 65) dX1_fraction_65 rfl ?_
          refine j_lconst (pc := 67) (z := 0) dX1_fraction_67 rfl ?_
          refine j_lcmp (pc := 68) dX1_fraction_68 (fun z31 ez31 => ?_)
          have hz31 : (z31 = 1 ∧ 0 < x) ∨ (z31 = 0 ∧ x = 0) ∨ (z31 = -1 ∧ x < 0) := by rw [ez31]; exact tw_cmp_eq ⟨by omega, by omega⟩ ⟨by omega, by omega⟩
          refine j_ifR_ne (pc := 69) (tgt := 76) ⟨by omega, by omega⟩ dX1_fraction_69 rfl (fun h32 => ?_) (fun h32 => ?_)
          · refine j_lload_n (pc := 76) dX1_fraction_76 rfl rfl ?_
            refine j_lload (pc := 77) dX1_fraction_77 rfl ?_
            refine j_ldiv (pc := 79) dX1_fraction_79 (tw_nzL ⟨by omega, by omega⟩ (by omega)) (fun z33 ez33 => ?_)
            have hz33 : (-9223372036854775808 : Int) ≤ z33 ∧ z33 ≤ 9223372036854775807 := by rw [ez33]; exact ldivL_in _ _
            have b3 : z33 = euB b (eu 1000 b a) := by rw [← ex, ez33]; exact (if_neg (by omega)).symm
            refine j_putL (pc := 80) fl_X1_22 fp_X1_3 dX1_fraction_80 (a_58 hX) rfl (j_nm (fun σ34 (eσ34 : σ34 = tw_up σ30 58 3 z33) => ?_))
            have hIσ34 : tw_I σ34 := tw_I_up hIσ30 eσ34 (show (-9223372036854775808 : Int) ≤ z33 ∧ z33 ≤ 9223372036854775807 from ⟨by omega, by omega⟩)
            have hFσ34 : tw_F (fun c j => (c = 58 ∧ (j = 2 ∨ j = 3))) σ σ34 := tw_F_up hFσ30 eσ34 (show (58 = 58 ∧ (3 = 2 ∨ 3 = 3)) from ⟨rfl, (Or.inr rfl)⟩)
            have y35 : σ34 58 2 = z29 := ((tw_ne1 eσ34 (by (first | decide | omega)))).trans (tw_eq1 eσ30)
            have y36 : σ34 58 3 = z33 := (tw_eq1 eσ34)
            exact j_vret (pc := 83) ⟨rfl, rfl⟩ dX1_fraction_83 rfl ⟨rfl, hIσ34, hFσ34, ((((tw_ne1 eσ34 (by (first | decide | omega)))).trans (tw_eq1 eσ30)).trans b2), (((tw_eq1 eσ34)).trans b3)⟩
          · refine j_lconst (pc := 72) (z := 1) dX1_fraction_72 rfl ?_
            refine j_goto (pc := 73) (tgt := 80) dX1_fraction_73 rfl ?_
            have b3 : (1 : Int) = euB b (eu 1000 b a) := by rw [← ex]; exact (if_pos (by omega)).symm
            refine j_putL (pc := 80) fl_X1_22 fp_X1_3 dX1_fraction_80 (a_58 hX) rfl (j_nm (fun σ37 (eσ37 : σ37 = tw_up σ30 58 3 1) => ?_))
            have hIσ37 : tw_I σ37 := tw_I_up hIσ30 eσ37 (show (-9223372036854775808 : Int) ≤ 1 ∧ 1 ≤ 9223372036854775807 from by decide)
            have hFσ37 : tw_F (fun c j => (c = 58 ∧ (j = 2 ∨ j = 3))) σ σ37 := tw_F_up hFσ30 eσ37 (show (58 = 58 ∧ (3 = 2 ∨ 3 = 3)) from ⟨rfl, (Or.inr rfl)⟩)
            have y38 : σ37 58 2 = z29 := ((tw_ne1 eσ37 (by (first | decide | omega)))).trans (tw_eq1 eσ30)
            have y39 : σ37 58 3 = 1 := (tw_eq1 eσ37)
            exact j_vret (pc := 83) ⟨rfl, rfl⟩ dX1_fraction_83 rfl ⟨rfl, hIσ37, hFσ37, ((((tw_ne1 eσ37 (by (first | decide | omega)))).trans (tw_eq1 eσ30)).trans b2), (((tw_eq1 eσ37)).trans b3)⟩
        · refine j_lconst (pc := 53) (z := 0) dX1_fraction_53 rfl ?_
          refine j_goto (pc := 54) (tgt := 61) dX1_fraction_54 rfl ?_
          have b2 : (0 : Int) = euA a (eu 1000 b a) := by rw [← ex]; exact (if_pos (by omega)).symm
          refine j_putL (pc := 61) fl_X1_18 fp_X1_2 dX1_fraction_61 (a_58 hX) rfl (j_nm (fun σ40 (eσ40 : σ40 = tw_up τ 58 2 0) => ?_))
          have hIσ40 : tw_I σ40 := tw_I_up hIτ eσ40 (show (-9223372036854775808 : Int) ≤ 0 ∧ 0 ≤ 9223372036854775807 from by decide)
          have hFσ40 : tw_F (fun c j => (c = 58 ∧ (j = 2 ∨ j = 3))) σ σ40 := tw_F_up hFτ eσ40 (show (58 = 58 ∧ (2 = 2 ∨ 2 = 3)) from ⟨rfl, (Or.inl rfl)⟩)
          refine j_aload_n (pc := 64) dX1_fraction_64 rfl rfl ?_
          refine j_lload (pc := 65) dX1_fraction_65 rfl ?_
          refine j_lconst (pc := 67) (z := 0) dX1_fraction_67 rfl ?_
          refine j_lcmp (pc := 68) dX1_fraction_68 (fun z41 ez41 => ?_)
          have hz41 : (z41 = 1 ∧ 0 < x) ∨ (z41 = 0 ∧ x = 0) ∨ (z41 = -1 ∧ x < 0) := by rw [ez41]; exact tw_cmp_eq ⟨by omega, by omega⟩ ⟨by omega, by omega⟩
          refine j_ifR_ne (pc := 69) (tgt := 76) ⟨by omega, by omega⟩ dX1_fraction_69 rfl (fun h42 => ?_) (fun h42 => ?_)
          · refine j_lload_n (pc := 76) dX1_fraction_76 rfl rfl ?_
            refine j_lload (pc := 77) dX1_fraction_77 rfl ?_
            refine j_ldiv (pc := 79) dX1_fraction_79 (tw_nzL ⟨by omega, by omega⟩ (by omega)) (fun z43 ez43 => ?_)
            have hz43 : (-9223372036854775808 : Int) ≤ z43 ∧ z43 ≤ 9223372036854775807 := by rw [ez43]; exact ldivL_in _ _
            have b3 : z43 = euB b (eu 1000 b a) := by rw [← ex, ez43]; exact (if_neg (by omega)).symm
            refine j_putL (pc := 80) fl_X1_22 fp_X1_3 dX1_fraction_80 (a_58 hX) rfl (j_nm (fun σ44 (eσ44 : σ44 = tw_up σ40 58 3 z43) => ?_))
            have hIσ44 : tw_I σ44 := tw_I_up hIσ40 eσ44 (show (-9223372036854775808 : Int) ≤ z43 ∧ z43 ≤ 9223372036854775807 from ⟨by omega, by omega⟩)
            have hFσ44 : tw_F (fun c j => (c = 58 ∧ (j = 2 ∨ j = 3))) σ σ44 := tw_F_up hFσ40 eσ44 (show (58 = 58 ∧ (3 = 2 ∨ 3 = 3)) from ⟨rfl, (Or.inr rfl)⟩)
            have y45 : σ44 58 2 = 0 := ((tw_ne1 eσ44 (by (first | decide | omega)))).trans (tw_eq1 eσ40)
            have y46 : σ44 58 3 = z43 := (tw_eq1 eσ44)
            exact j_vret (pc := 83) ⟨rfl, rfl⟩ dX1_fraction_83 rfl ⟨rfl, hIσ44, hFσ44, ((((tw_ne1 eσ44 (by (first | decide | omega)))).trans (tw_eq1 eσ40)).trans b2), (((tw_eq1 eσ44)).trans b3)⟩
          · refine j_lconst (pc := 72) (z := 1) dX1_fraction_72 rfl ?_
            refine j_goto (pc := 73) (tgt := 80) dX1_fraction_73 rfl ?_
            have b3 : (1 : Int) = euB b (eu 1000 b a) := by rw [← ex]; exact (if_pos (by omega)).symm
            refine j_putL (pc := 80) fl_X1_22 fp_X1_3 dX1_fraction_80 (a_58 hX) rfl (j_nm (fun σ47 (eσ47 : σ47 = tw_up σ40 58 3 1) => ?_))
            have hIσ47 : tw_I σ47 := tw_I_up hIσ40 eσ47 (show (-9223372036854775808 : Int) ≤ 1 ∧ 1 ≤ 9223372036854775807 from by decide)
            have hFσ47 : tw_F (fun c j => (c = 58 ∧ (j = 2 ∨ j = 3))) σ σ47 := tw_F_up hFσ40 eσ47 (show (58 = 58 ∧ (3 = 2 ∨ 3 = 3)) from ⟨rfl, (Or.inr rfl)⟩)
            have y48 : σ47 58 2 = 0 := ((tw_ne1 eσ47 (by (first | decide | omega)))).trans (tw_eq1 eσ40)
            have y49 : σ47 58 3 = 1 := (tw_eq1 eσ47)
            exact j_vret (pc := 83) ⟨rfl, rfl⟩ dX1_fraction_83 rfl ⟨rfl, hIσ47, hFσ47, ((((tw_ne1 eσ47 (by (first | decide | omega)))).trans (tw_eq1 eσ40)).trans b2), (((tw_eq1 eσ47)).trans b3)⟩
      · refine j_lload (pc := 24) dX1_fraction_24 rfl ?_
        refine j_lload (pc := 26) dX1_fraction_26 rfl ?_
        refine j_lrem (pc := 28) dX1_fraction_28 (tw_nzL ⟨by omega, by omega⟩ (by omega)) (fun z50 ez50 => ?_)
        have hz50 : (-9223372036854775808 : Int) ≤ z50 ∧ z50 ≤ 9223372036854775807 := by rw [ez50]; exact lremL_in _ _
        have gz50 : z50.natAbs < y.natAbs := by rw [ez50]; exact lrem_lt ⟨by omega, by omega⟩ ⟨by omega, by omega⟩ (by omega)
        have b1 := ez50
        refine j_lstore (pc := 29) (i := 10) (ls' := [(0, vR 58), (1, vL a), (3, vL b), (7, vL y), (9, vI i), (10, vL z50)]) [1, 2, 3, 5, 6, 0] dX1_fraction_29 (Nat.le_of_ble_eq_true rfl) rfl rfl ?_
        refine j_lload (pc := 31) dX1_fraction_31 rfl ?_
        refine j_lstore (pc := 33) (i := 5) (ls' := [(0, vR 58), (1, vL a), (3, vL b), (5, vL y), (9, vI i), (10, vL z50)]) [1, 2, 3, 0, 5, 6] dX1_fraction_33 (Nat.le_of_ble_eq_true rfl) rfl rfl ?_
        refine j_lload (pc := 35) dX1_fraction_35 rfl ?_
        refine j_lstore (pc := 37) (i := 7) (ls' := [(0, vR 58), (1, vL a), (3, vL b), (5, vL y), (7, vL z50), (9, vI i)]) [1, 2, 3, 4, 0, 5] dX1_fraction_37 (Nat.le_of_ble_eq_true rfl) rfl rfl ?_
        refine j_iinc (pc := 39) (i := 9) (n := 1) (ls' := [(0, vR 58), (1, vL a), (3, vL b), (5, vL y), (7, vL z50), (9, vI (i + 1))]) [1, 2, 3, 4, 5, 0] dX1_fraction_39 rfl (Nat.le_of_ble_eq_true rfl) rfl rfl ?_
        refine j_goto (pc := 42) (tgt := 9) dX1_fraction_42 rfl ?_
        refine j_ls (ls' := [(0, vR 58), (1, vL a), (3, vL b), (5, vL y), (7, vL z50), (9, vI (i + 1))]) [0, 1, 2, 3, 4, 5] rfl ?_
        exact ih y ⟨by omega, by omega⟩ z50 ⟨by omega, by omega⟩ (i + 1) ⟨by omega, by omega⟩ τ hIτ hFτ (show eu (1000 - (i + 1)).toNat y z50 = eu 1000 b a from (by rw [← i0, show (1000 - i).toNat = (1000 - (i + 1)).toNat + 1 from by omega, eu_s (x := x) (y := y) (by omega), b1])) (show (1000 - (i + 1)).toNat < N_ from by omega)
set_option maxHeartbeats 4000000 in
set_option maxRecDepth 100000 in
theorem c_X1_fraction {G : tw_G} (hX : tw_isX G) (a : Int) (ha : -9223372036854775808 ≤ a ∧ a ≤ 9223372036854775807) (b : Int) (hb : -9223372036854775808 ≤ b ∧ b ≤ 9223372036854775807) (σ : tw_M) (hI : tw_I σ) : tw_C G yX1_fraction cX1_fraction 12 none 0 [vR 58, vL a, vL b] σ (q_X1_fraction a b σ) := by
  refine tw_met [(0, vR 58), (1, vL a), (3, vL b)] (by decide +kernel) rfl (Nat.le_of_ble_eq_true rfl) ?_
  refine j_lload_n (pc := 0) dX1_fraction_0 rfl rfl ?_
  refine j_lstore (pc := 1) (i := 5) (ls' := [(0, vR 58), (1, vL a), (3, vL b), (5, vL b)]) [1, 2, 3, 0] dX1_fraction_1 (Nat.le_of_ble_eq_true rfl) rfl rfl ?_
  refine j_lload_n (pc := 3) dX1_fraction_3 rfl rfl ?_
  refine j_lstore (pc := 4) (i := 7) (ls' := [(0, vR 58), (1, vL a), (3, vL b), (5, vL b), (7, vL a)]) [1, 2, 3, 4, 0] dX1_fraction_4 (Nat.le_of_ble_eq_true rfl) rfl rfl ?_
  refine j_iconst (pc := 6) dX1_fraction_6 ?_
  refine j_istore (pc := 7) (i := 9) (ls' := [(0, vR 58), (1, vL a), (3, vL b), (5, vL b), (7, vL a), (9, vI 0)]) [1, 2, 3, 4, 5, 0] dX1_fraction_7 (Nat.le_of_ble_eq_true rfl) rfl rfl ?_
  refine j_ls (ls' := [(0, vR 58), (1, vL a), (3, vL b), (5, vL b), (7, vL a), (9, vI 0)]) [0, 1, 2, 3, 4, 5] rfl ?_
  exact (l_X1_fraction hX a ha b hb σ hI (((1000 - (0 : Int)).toNat) + 1)) b ⟨by omega, by omega⟩ a ⟨by omega, by omega⟩ 0 (by (first | decide | exact ⟨by omega, by omega⟩)) σ hI (tw_F_rf) (show eu (1000 - (0 : Int)).toNat b a = eu 1000 b a from (congrArg (fun k => eu k b a) (show (1000 - (0 : Int)).toNat = 1000 from by decide))) (Nat.lt_succ_self _)
abbrev q_X1_worth (a : Int) (b : Int) (σ : tw_M) : Option tw_V → tw_M → Prop := fun z τ => ∃ r : Int, z = some (vI r) ∧ (-2147483648 ≤ r ∧ r ≤ 2147483647) ∧ σ = τ ∧ True
set_option maxHeartbeats 4000000 in
set_option maxRecDepth 100000 in
theorem c_X1_worth {G : tw_G} (a : Int) (ha : -2147483648 ≤ a ∧ a ≤ 2147483647) (b : Int) (hb : -2147483648 ≤ b ∧ b ≤ 2147483647) (σ : tw_M) (hI : tw_I σ) : tw_C G yX1_worth cX1_worth 2 (some .int) 0 [vI a, vI b] σ (q_X1_worth a b σ) := by
  refine tw_met [(0, vI a), (1, vI b)] (by decide +kernel) rfl (Nat.le_of_ble_eq_true rfl) ?_
  refine j_iload_n (pc := 0) dX1_worth_0 rfl rfl ?_
  refine j_ifR_ne (pc := 1) (tgt := 6) ⟨by omega, by omega⟩ dX1_worth_1 rfl (fun h1 => ?_) (fun h1 => ?_)
  · refine j_iload_n (pc := 6) dX1_worth_6 rfl rfl ?_
    refine j_iload_n (pc := 7) dX1_worth_7 rfl rfl ?_
    refine j_icmpR_lt (pc := 8) (tgt := 15) ⟨by omega, by omega⟩ ⟨by omega, by omega⟩ dX1_worth_8 rfl (fun h2 => ?_) (fun h2 => ?_)
    · refine j_iconst (pc := 15) dX1_worth_15 ?_
      exact j_iret (pc := 16) ⟨rfl, rfl⟩ dX1_worth_16 rfl ⟨_, rfl, ⟨by omega, by omega⟩, rfl, trivial⟩
    · refine j_iconst (pc := 11) dX1_worth_11 ?_
      refine j_goto (pc := 12) (tgt := 16) dX1_worth_12 rfl ?_
      exact j_iret (pc := 16) ⟨rfl, rfl⟩ dX1_worth_16 rfl ⟨_, rfl, ⟨by omega, by omega⟩, rfl, trivial⟩
  · refine j_iload_n (pc := 4) dX1_worth_4 rfl rfl ?_
    exact j_iret (pc := 5) ⟨rfl, rfl⟩ dX1_worth_5 rfl ⟨_, rfl, ⟨by omega, by omega⟩, rfl, trivial⟩
abbrev q_X1_spread (u : Nat) (h : Int) (d : Int) (σ : tw_M) : Option tw_V → tw_M → Prop := fun z τ => z = none ∧ tw_I τ ∧ tw_F (fun c j => (c = 58 ∧ (j = 2 ∨ j = 3))) σ τ ∧ True
set_option maxHeartbeats 4000000 in
set_option maxRecDepth 100000 in
theorem l_X1_spread {G : tw_G} (hX : tw_isX G) (u : Nat) (hu : IsHand G u) (h : Int) (hh : 1 ≤ h ∧ h ≤ 40) (d : Int) (hd : 0 ≤ d ∧ d ≤ 40) (σ : tw_M) (hI : tw_I σ) : ∀ N_ : Nat, (∀ (a : Int) (ha : -9223372036854775808 ≤ a ∧ a ≤ 9223372036854775807) (b : Int) (hb : -9223372036854775808 ≤ b ∧ b ≤ 9223372036854775807) (c : Int) (hc : -9223372036854775808 ≤ c ∧ c ≤ 9223372036854775807) (k : Int) (hk : -1 ≤ k ∧ k ≤ 9) (τ : tw_M) (hIτ : tw_I τ) (hFτ : tw_F (fun c j => (c = 58 ∧ (j = 2 ∨ j = 3))) σ τ)  (hm : (k + 1).toNat < N_), tw_J G (tw_mt RX1 cX1_spread 14 none 1) (tw_E G (q_X1_spread u h d σ)) 24 [(0, vR 58), (1, vR u), (2, vI h), (3, vI d), (4, vR (u + 1)), (5, vL a), (7, vL b), (9, vL c), (11, vI k)] [] τ) := by
  intro N_
  induction N_ with
  | zero => exact fun a ha b hb c hc k hk τ hIτ hFτ hm => absurd hm (Nat.not_lt_zero _)
  | succ N_ ih =>
    intro a ha b hb c hc k hk τ hIτ hFτ hm
    refine j_iload (pc := 24) dX1_spread_24 rfl ?_
    refine j_ifR_lt (pc := 26) (tgt := 163) ⟨by omega, by omega⟩ dX1_spread_26 rfl (fun h1 => ?_) (fun h1 => ?_)
    · refine j_lload (pc := 163) dX1_spread_163 rfl ?_
      refine j_lload (pc := 165) dX1_spread_165 rfl ?_
      refine j_aload_n (pc := 167) dX1_spread_167 rfl rfl ?_
      refine j_getR (pc := 168) (r := 1) fl_X1_25 dX1_spread_168 (a_58 hX) rfl ?_
      refine j_iload_n (pc := 171) dX1_spread_171 rfl rfl ?_
      refine j_iconst (pc := 172) dX1_spread_172 ?_
      refine j_callV (pc := 173) (As := [vI h, vI 0]) (st := [vL b, vL a]) (c_X10_harmOf 1 (s_Wall_1 hX) h ⟨by omega, by omega⟩ 0 (by (first | decide | exact ⟨by omega, by omega⟩)) τ hIτ) mv_X1_67 rfl rfl rfl (a_1 hX) dX1_spread_173 ⟨Nat.le_of_ble_eq_true rfl, Nat.le_of_ble_eq_true rfl⟩ ⟨Nat.le_refl _, Nat.le_refl _⟩ rfl (Nat.le_of_ble_eq_true rfl) rfl (fun z2 σ3 hz2 => ?_)
      obtain ⟨r5, rfl, hr5, rfl, q4_0⟩ := hz2
      replace q4_0 : r5 = harS (wW 1 τ) h (0 : Int) := q4_0
      refine j_st (st' := [vI r5, vL b, vL a]) rfl ?_
      refine j_iload_n (pc := 176) dX1_spread_176 rfl rfl ?_
      refine j_callS (pc := 177) (As := [vI r5, vI d]) (st := [vL b, vL a]) (c_X1_worth r5 ⟨by omega, by omega⟩ d ⟨by omega, by omega⟩ τ hIτ) ms_X1_70 rfl dX1_spread_177 ⟨Nat.le_of_ble_eq_true rfl, Nat.le_of_ble_eq_true rfl⟩ ⟨Nat.le_refl _, Nat.le_refl _⟩ rfl (Nat.le_of_ble_eq_true rfl) rfl (fun z6 σ7 hz6 => ?_)
      obtain ⟨r9, rfl, hr9, rfl, -⟩ := hz6
      refine j_st (st' := [vI r9, vL b, vL a]) rfl ?_
      refine j_i2l (pc := 180) dX1_spread_180 ?_
      rw [w32_eq (a := r9) (by omega) (by omega)]
      refine j_lmul (pc := 181) dX1_spread_181 ?_
      refine j_topL (fun z10 ez10 hz10 => ?_)
      refine j_ladd (pc := 182) dX1_spread_182 ?_
      refine j_topL (fun z11 ez11 hz11 => ?_)
      refine j_lstore (pc := 183) (i := 5) (ls' := [(0, vR 58), (5, vL z11), (9, vL c)]) [1, 0, 7] dX1_spread_183 (Nat.le_of_ble_eq_true rfl) rfl rfl ?_
      refine j_aload_n (pc := 185) dX1_spread_185 rfl rfl ?_
      refine j_lload (pc := 186) dX1_spread_186 rfl ?_
      refine j_lload (pc := 188) dX1_spread_188 rfl ?_
      refine j_callV (pc := 190) (As := [vL z11, vL c]) (st := []) (c_X1_fraction hX z11 ⟨by omega, by omega⟩ c ⟨by omega, by omega⟩ τ hIτ) mv_X1_73 rfl rfl rfl (a_58 hX) dX1_spread_190 ⟨Nat.le_of_ble_eq_true rfl, Nat.le_of_ble_eq_true rfl⟩ ⟨Nat.le_refl _, Nat.le_refl _⟩ rfl (Nat.le_of_ble_eq_true rfl) rfl (fun z12 σ13 hz12 => ?_)
      obtain ⟨rfl, hIσ13, hGσ13, q14_0, q14_1⟩ := hz12
      replace q14_0 : σ13 58 2 = euA z11 (eu 1000 c z11) := q14_0
      replace q14_1 : σ13 58 3 = euB c (eu 1000 c z11) := q14_1
      have hFσ13 : tw_F (fun c j => (c = 58 ∧ (j = 2 ∨ j = 3))) σ σ13 := tw_F_tr hFτ hGσ13 (fun c j q => (show (c = 58 ∧ (j = 2 ∨ j = 3)) from by replace q : (c = 58 ∧ (j = 2 ∨ j = 3)) := q; exact q))
      refine j_st (st' := []) rfl ?_
      exact j_vret (pc := 193) ⟨rfl, rfl⟩ dX1_spread_193 rfl ⟨rfl, hIσ13, hFσ13, trivial⟩
    · refine j_aload (pc := 29) dX1_spread_29 rfl ?_
      refine j_getR (pc := 31) (r := u + 2) fl_X1_41 dX1_spread_31 hu.1.2.1 rfl ?_
      refine j_iload (pc := 34) dX1_spread_34 rfl ?_
      refine j_iald (pc := 36) dX1_spread_36 hu.1.2.2.1 (by omega) (by omega) (by decide) ?_
      have f16 : (0 : Int) ≤ τ (u + 2) (k.toNat) ∧ τ (u + 2) (k.toNat) ≤ 40 := tw_Ig hu.2.2.2.1 hIτ (k.toNat)
      refine j_iload_n (pc := 37) dX1_spread_37 rfl rfl ?_
      refine j_icmpR_le (pc := 38) (tgt := 44) ⟨by omega, by omega⟩ ⟨by omega, by omega⟩ dX1_spread_38 rfl (fun h17 => ?_) (fun h17 => ?_)
      · refine j_aload_n (pc := 44) dX1_spread_44 rfl rfl ?_
        refine j_getR (pc := 45) (r := 1) fl_X1_25 dX1_spread_45 (a_58 hX) rfl ?_
        refine j_iload_n (pc := 48) dX1_spread_48 rfl rfl ?_
        refine j_aload (pc := 49) dX1_spread_49 rfl ?_
        refine j_getR (pc := 51) (r := u + 2) fl_X1_41 dX1_spread_51 hu.1.2.1 rfl ?_
        refine j_iload (pc := 54) dX1_spread_54 rfl ?_
        refine j_iald (pc := 56) dX1_spread_56 hu.1.2.2.1 (by omega) (by omega) (by decide) ?_
        refine j_callV (pc := 57) (As := [vI h, vI (τ (u + 2) (k.toNat))]) (st := []) (c_X10_dropOf 1 (s_Wall_1 hX) h ⟨by omega, by omega⟩ (τ (u + 2) (k.toNat)) ⟨by omega, by omega⟩ τ hIτ) mv_X1_45 rfl rfl rfl (a_1 hX) dX1_spread_57 ⟨Nat.le_of_ble_eq_true rfl, Nat.le_of_ble_eq_true rfl⟩ ⟨Nat.le_refl _, Nat.le_refl _⟩ rfl (Nat.le_of_ble_eq_true rfl) rfl (fun z18 σ19 hz18 => ?_)
        obtain ⟨r21, rfl, hr21, rfl, q20_0⟩ := hz18
        replace q20_0 : r21 = dropS (wW 1 τ) h (τ (u + 2) (k.toNat)) := q20_0
        refine j_st (st' := [vI r21]) rfl ?_
        refine j_istore (pc := 60) (i := 12) (ls' := [(0, vR 58), (1, vR u), (2, vI h), (3, vI d), (4, vR (u + 1)), (5, vL a), (7, vL b), (9, vL c), (11, vI k), (12, vI r21)]) [1, 2, 3, 4, 5, 6, 7, 8, 9, 0] dX1_spread_60 (Nat.le_of_ble_eq_true rfl) rfl rfl ?_
        refine j_aload_n (pc := 62) dX1_spread_62 rfl rfl ?_
        refine j_getR (pc := 63) (r := 1) fl_X1_25 dX1_spread_63 (a_58 hX) rfl ?_
        refine j_aload (pc := 66) dX1_spread_66 rfl ?_
        refine j_getR (pc := 68) (r := u + 3) fl_X1_51 dX1_spread_68 hu.1.2.1 rfl ?_
        refine j_iload (pc := 71) dX1_spread_71 rfl ?_
        refine j_iald (pc := 73) dX1_spread_73 hu.1.2.2.2.1 (by omega) (by omega) (by decide) ?_
        have f22 : (0 : Int) ≤ τ (u + 3) (k.toNat) ∧ τ (u + 3) (k.toNat) ≤ 10 := tw_Ig hu.2.2.2.2.1 hIτ (k.toNat)
        refine j_aload_n (pc := 74) dX1_spread_74 rfl rfl ?_
        refine j_getR (pc := 75) (r := 1) fl_X1_25 dX1_spread_75 (a_58 hX) rfl ?_
        refine j_iload_n (pc := 78) dX1_spread_78 rfl rfl ?_
        refine j_iload (pc := 79) dX1_spread_79 rfl ?_
        refine j_callV (pc := 81) (As := [vI h, vI r21]) (st := [vI (τ (u + 3) (k.toNat)), vR 1]) (c_X10_pullOf 1 (s_Wall_1 hX) h ⟨by omega, by omega⟩ r21 ⟨by omega, by omega⟩ τ hIτ) mv_X1_54 rfl rfl rfl (a_1 hX) dX1_spread_81 ⟨Nat.le_of_ble_eq_true rfl, Nat.le_of_ble_eq_true rfl⟩ ⟨Nat.le_refl _, Nat.le_refl _⟩ rfl (Nat.le_of_ble_eq_true rfl) rfl (fun z23 σ24 hz23 => ?_)
        obtain ⟨r26, rfl, hr26, rfl, q25_0⟩ := hz23
        replace q25_0 : r26 = pullS h r21 := q25_0
        refine j_st (st' := [vI r26, vI (τ (u + 3) (k.toNat)), vR 1]) rfl ?_
        refine j_callV (pc := 84) (As := [vI (τ (u + 3) (k.toNat)), vI r26]) (st := []) (c_X10_holds 1 (s_Wall_1 hX) (τ (u + 3) (k.toNat)) ⟨by omega, by omega⟩ r26 ⟨by omega, by omega⟩ τ hIτ) mv_X1_57 rfl rfl rfl (a_1 hX) dX1_spread_84 ⟨Nat.le_of_ble_eq_true rfl, Nat.le_of_ble_eq_true rfl⟩ ⟨Nat.le_refl _, Nat.le_refl _⟩ rfl (Nat.le_of_ble_eq_true rfl) rfl (fun z27 σ28 hz27 => ?_)
        obtain ⟨r30, rfl, hr30, rfl, q29_0⟩ := hz27
        replace q29_0 : (r30 = 1 ∧ r26 ≤ (τ (u + 3) (k.toNat)) + τ 2 7) ∨ (r30 = 0 ∧ (τ (u + 3) (k.toNat)) + τ 2 7 < r26) := q29_0
        refine j_st (st' := [vI r30]) rfl ?_
        refine j_ifR_ne (pc := 87) (tgt := 93) ⟨by omega, by omega⟩ dX1_spread_87 rfl (fun h31 => ?_) (fun h31 => ?_)
        · refine j_aload_n (pc := 93) dX1_spread_93 rfl rfl ?_
          refine j_aload_n (pc := 94) dX1_spread_94 rfl rfl ?_
          refine j_getR (pc := 95) (r := 1) fl_X1_25 dX1_spread_95 (a_58 hX) rfl ?_
          refine j_iload (pc := 98) dX1_spread_98 rfl ?_
          refine j_callV (pc := 100) (As := [vR 1, vI k]) (st := []) (c_X3_chance u hu 1 (s_Wall_1 hX) k ⟨by omega, by omega⟩ τ hIτ) mv_X1_61 rfl rfl rfl hu.1.1 dX1_spread_100 ⟨Nat.le_of_ble_eq_true rfl, Nat.le_of_ble_eq_true rfl⟩ ⟨Nat.le_refl _, Nat.le_refl _⟩ rfl (Nat.le_of_ble_eq_true rfl) rfl (fun z32 σ33 hz32 => ?_)
          obtain ⟨r35, rfl, hr35, rfl, -⟩ := hz32
          refine j_st (st' := [vI r35]) rfl ?_
          refine j_istore (pc := 103) (i := 13) (ls' := [(0, vR 58), (1, vR u), (2, vI h), (3, vI d), (4, vR (u + 1)), (5, vL a), (7, vL b), (9, vL c), (11, vI k), (12, vI r21), (13, vI r35)]) [1, 2, 3, 4, 5, 6, 7, 8, 9, 10, 0] dX1_spread_103 (Nat.le_of_ble_eq_true rfl) rfl rfl ?_
          refine j_ldc2 (pc := 105) (z := 20) dX1_spread_105 (tw_inc tm_4 (i := 105) rfl rfl) ?_
          refine j_lload (pc := 108) dX1_spread_108 rfl ?_
          refine j_lmul (pc := 110) dX1_spread_110 ?_
          refine j_topL (fun z36 ez36 hz36 => ?_)
          refine j_lload (pc := 111) dX1_spread_111 rfl ?_
          refine j_iload (pc := 113) dX1_spread_113 rfl ?_
          refine j_i2l (pc := 115) dX1_spread_115 ?_
          rw [w32_eq (a := r35) (by omega) (by omega)]
          refine j_lmul (pc := 116) dX1_spread_116 ?_
          refine j_topL (fun z37 ez37 hz37 => ?_)
          refine j_aload_n (pc := 117) dX1_spread_117 rfl rfl ?_
          refine j_getR (pc := 118) (r := 1) fl_X1_25 dX1_spread_118 (a_58 hX) rfl ?_
          refine j_iload_n (pc := 121) dX1_spread_121 rfl rfl ?_
          refine j_iload_n (pc := 122) dX1_spread_122 rfl rfl ?_
          refine j_iload (pc := 123) dX1_spread_123 rfl ?_
          refine j_isub (pc := 125) dX1_spread_125 ?_
          refine j_top (fun z38 ez38 hz38 => ?_)
          refine j_callV (pc := 126) (As := [vI h, vI z38]) (st := [vL z37, vL z36]) (c_X10_harmOf 1 (s_Wall_1 hX) h ⟨by omega, by omega⟩ z38 ⟨by omega, by omega⟩ τ hIτ) mv_X1_67 rfl rfl rfl (a_1 hX) dX1_spread_126 ⟨Nat.le_of_ble_eq_true rfl, Nat.le_of_ble_eq_true rfl⟩ ⟨Nat.le_refl _, Nat.le_refl _⟩ rfl (Nat.le_of_ble_eq_true rfl) rfl (fun z39 σ40 hz39 => ?_)
          obtain ⟨r42, rfl, hr42, rfl, q41_0⟩ := hz39
          replace q41_0 : r42 = harS (wW 1 τ) h z38 := q41_0
          refine j_st (st' := [vI r42, vL z37, vL z36]) rfl ?_
          refine j_iload_n (pc := 129) dX1_spread_129 rfl rfl ?_
          refine j_callS (pc := 130) (As := [vI r42, vI d]) (st := [vL z37, vL z36]) (c_X1_worth r42 ⟨by omega, by omega⟩ d ⟨by omega, by omega⟩ τ hIτ) ms_X1_70 rfl dX1_spread_130 ⟨Nat.le_of_ble_eq_true rfl, Nat.le_of_ble_eq_true rfl⟩ ⟨Nat.le_refl _, Nat.le_refl _⟩ rfl (Nat.le_of_ble_eq_true rfl) rfl (fun z43 σ44 hz43 => ?_)
          obtain ⟨r46, rfl, hr46, rfl, -⟩ := hz43
          refine j_st (st' := [vI r46, vL z37, vL z36]) rfl ?_
          refine j_i2l (pc := 133) dX1_spread_133 ?_
          rw [w32_eq (a := r46) (by omega) (by omega)]
          refine j_lmul (pc := 134) dX1_spread_134 ?_
          refine j_topL (fun z47 ez47 hz47 => ?_)
          refine j_ladd (pc := 135) dX1_spread_135 ?_
          refine j_topL (fun z48 ez48 hz48 => ?_)
          refine j_lstore (pc := 136) (i := 5) (ls' := [(0, vR 58), (1, vR u), (2, vI h), (3, vI d), (4, vR (u + 1)), (5, vL z48), (7, vL b), (9, vL c), (11, vI k), (13, vI r35)]) [1, 2, 3, 4, 5, 0, 6, 7, 8, 10] dX1_spread_136 (Nat.le_of_ble_eq_true rfl) rfl rfl ?_
          refine j_lload (pc := 138) dX1_spread_138 rfl ?_
          refine j_bipush (pc := 140) dX1_spread_140 rfl ?_
          refine j_iload (pc := 142) dX1_spread_142 rfl ?_
          refine j_isub (pc := 144) dX1_spread_144 ?_
          refine j_top (fun z49 ez49 hz49 => ?_)
          refine j_i2l (pc := 145) dX1_spread_145 ?_
          rw [w32_eq (a := z49) (by omega) (by omega)]
          refine j_lmul (pc := 146) dX1_spread_146 ?_
          refine j_topL (fun z50 ez50 hz50 => ?_)
          refine j_lstore (pc := 147) (i := 7) (ls' := [(0, vR 58), (1, vR u), (2, vI h), (3, vI d), (4, vR (u + 1)), (5, vL z48), (7, vL z50), (9, vL c), (11, vI k)]) [1, 2, 3, 4, 5, 6, 0, 7, 8] dX1_spread_147 (Nat.le_of_ble_eq_true rfl) rfl rfl ?_
          refine j_lload (pc := 149) dX1_spread_149 rfl ?_
          refine j_ldc2 (pc := 151) (z := 20) dX1_spread_151 (tw_inc tm_4 (i := 105) rfl rfl) ?_
          refine j_lmul (pc := 154) dX1_spread_154 ?_
          refine j_topL (fun z51 ez51 hz51 => ?_)
          refine j_lstore (pc := 155) (i := 9) (ls' := [(0, vR 58), (1, vR u), (2, vI h), (3, vI d), (4, vR (u + 1)), (5, vL z48), (7, vL z50), (9, vL z51), (11, vI k)]) [1, 2, 3, 4, 5, 6, 7, 0, 8] dX1_spread_155 (Nat.le_of_ble_eq_true rfl) rfl rfl ?_
          refine j_iinc (pc := 157) (i := 11) (n := -1) (ls' := [(0, vR 58), (1, vR u), (2, vI h), (3, vI d), (4, vR (u + 1)), (5, vL z48), (7, vL z50), (9, vL z51), (11, vI (k + (-1)))]) [1, 2, 3, 4, 5, 6, 7, 8, 0] dX1_spread_157 rfl (Nat.le_of_ble_eq_true rfl) rfl rfl ?_
          refine j_goto (pc := 160) (tgt := 24) dX1_spread_160 rfl ?_
          refine j_ls (ls' := [(0, vR 58), (1, vR u), (2, vI h), (3, vI d), (4, vR (u + 1)), (5, vL z48), (7, vL z50), (9, vL z51), (11, vI (k + (-1)))]) [0, 1, 2, 3, 4, 5, 6, 7, 8] rfl ?_
          exact ih z48 ⟨by omega, by omega⟩ z50 ⟨by omega, by omega⟩ z51 ⟨by omega, by omega⟩ (k + (-1)) ⟨by omega, by omega⟩ τ hIτ hFτ (show ((k + (-1)) + 1).toNat < N_ from by omega)
        · refine j_goto (pc := 90) (tgt := 157) dX1_spread_90 rfl ?_
          refine j_iinc (pc := 157) (i := 11) (n := -1) (ls' := [(0, vR 58), (1, vR u), (2, vI h), (3, vI d), (4, vR (u + 1)), (5, vL a), (7, vL b), (9, vL c), (11, vI (k + (-1)))]) [1, 2, 3, 4, 5, 6, 7, 8, 0] dX1_spread_157 rfl (Nat.le_of_ble_eq_true rfl) rfl rfl ?_
          refine j_goto (pc := 160) (tgt := 24) dX1_spread_160 rfl ?_
          refine j_ls (ls' := [(0, vR 58), (1, vR u), (2, vI h), (3, vI d), (4, vR (u + 1)), (5, vL a), (7, vL b), (9, vL c), (11, vI (k + (-1)))]) [0, 1, 2, 3, 4, 5, 6, 7, 8] rfl ?_
          exact ih a ⟨by omega, by omega⟩ b ⟨by omega, by omega⟩ c ⟨by omega, by omega⟩ (k + (-1)) ⟨by omega, by omega⟩ τ hIτ hFτ (show ((k + (-1)) + 1).toNat < N_ from by omega)
      · refine j_goto (pc := 41) (tgt := 157) dX1_spread_41 rfl ?_
        refine j_iinc (pc := 157) (i := 11) (n := -1) (ls' := [(0, vR 58), (1, vR u), (2, vI h), (3, vI d), (4, vR (u + 1)), (5, vL a), (7, vL b), (9, vL c), (11, vI (k + (-1)))]) [1, 2, 3, 4, 5, 6, 7, 8, 0] dX1_spread_157 rfl (Nat.le_of_ble_eq_true rfl) rfl rfl ?_
        refine j_goto (pc := 160) (tgt := 24) dX1_spread_160 rfl ?_
        refine j_ls (ls' := [(0, vR 58), (1, vR u), (2, vI h), (3, vI d), (4, vR (u + 1)), (5, vL a), (7, vL b), (9, vL c), (11, vI (k + (-1)))]) [0, 1, 2, 3, 4, 5, 6, 7, 8] rfl ?_
        exact ih a ⟨by omega, by omega⟩ b ⟨by omega, by omega⟩ c ⟨by omega, by omega⟩ (k + (-1)) ⟨by omega, by omega⟩ τ hIτ hFτ (show ((k + (-1)) + 1).toNat < N_ from by omega)
set_option maxHeartbeats 4000000 in
set_option maxRecDepth 100000 in
theorem c_X1_spread {G : tw_G} (hX : tw_isX G) (u : Nat) (hu : IsHand G u) (h : Int) (hh : 1 ≤ h ∧ h ≤ 40) (d : Int) (hd : 0 ≤ d ∧ d ≤ 40) (σ : tw_M) (hI : tw_I σ) : tw_C G yX1_spread cX1_spread 14 none 1 [vR 58, vR u, vI h, vI d] σ (q_X1_spread u h d σ) := by
  refine tw_met [(0, vR 58), (1, vR u), (2, vI h), (3, vI d)] (by decide +kernel) rfl (Nat.le_of_ble_eq_true rfl) ?_
  refine j_aload_n (pc := 0) dX1_spread_0 rfl rfl ?_
  refine j_getR (pc := 1) (r := u + 1) fl_X1_29 dX1_spread_1 hu.1.1 rfl ?_
  refine j_astore (pc := 4) (i := 4) (ls' := [(0, vR 58), (1, vR u), (2, vI h), (3, vI d), (4, vR (u + 1))]) [1, 2, 3, 4, 0] dX1_spread_4 (Nat.le_of_ble_eq_true rfl) rfl rfl ?_
  refine j_lconst (pc := 6) (z := 0) dX1_spread_6 rfl ?_
  refine j_lstore (pc := 7) (i := 5) (ls' := [(0, vR 58), (1, vR u), (2, vI h), (3, vI d), (4, vR (u + 1)), (5, vL 0)]) [1, 2, 3, 4, 5, 0] dX1_spread_7 (Nat.le_of_ble_eq_true rfl) rfl rfl ?_
  refine j_lconst (pc := 9) (z := 1) dX1_spread_9 rfl ?_
  refine j_lstore (pc := 10) (i := 7) (ls' := [(0, vR 58), (1, vR u), (2, vI h), (3, vI d), (4, vR (u + 1)), (5, vL 0), (7, vL 1)]) [1, 2, 3, 4, 5, 6, 0] dX1_spread_10 (Nat.le_of_ble_eq_true rfl) rfl rfl ?_
  refine j_lconst (pc := 12) (z := 1) dX1_spread_12 rfl ?_
  refine j_lstore (pc := 13) (i := 9) (ls' := [(0, vR 58), (1, vR u), (2, vI h), (3, vI d), (4, vR (u + 1)), (5, vL 0), (7, vL 1), (9, vL 1)]) [1, 2, 3, 4, 5, 6, 7, 0] dX1_spread_13 (Nat.le_of_ble_eq_true rfl) rfl rfl ?_
  refine j_aload (pc := 15) dX1_spread_15 rfl ?_
  refine j_getI (pc := 17) fl_X1_35 dX1_spread_17 hu.1.2.1 rfl ?_
  have f52 : (0 : Int) ≤ σ (u + 1) 0 ∧ σ (u + 1) 0 ≤ 10 := tw_Ig hu.2.2.1 hI 0
  refine j_iconst (pc := 20) dX1_spread_20 ?_
  refine j_isub (pc := 21) dX1_spread_21 ?_
  refine j_istore (pc := 22) (i := 11) (ls' := [(0, vR 58), (1, vR u), (2, vI h), (3, vI d), (4, vR (u + 1)), (5, vL 0), (7, vL 1), (9, vL 1), (11, vI ((σ (u + 1) 0) - 1))]) [1, 2, 3, 4, 5, 6, 7, 8, 0] dX1_spread_22 (Nat.le_of_ble_eq_true rfl) rfl rfl ?_
  refine j_ls (ls' := [(0, vR 58), (1, vR u), (2, vI h), (3, vI d), (4, vR (u + 1)), (5, vL 0), (7, vL 1), (9, vL 1), (11, vI ((σ (u + 1) 0) - 1))]) [0, 1, 2, 3, 4, 5, 6, 7, 8] rfl ?_
  exact (l_X1_spread hX u hu h hh d hd σ hI (((((σ (u + 1) 0) - 1) + 1).toNat) + 1)) 0 (by (first | decide | exact ⟨by omega, by omega⟩)) 1 (by (first | decide | exact ⟨by omega, by omega⟩)) 1 (by (first | decide | exact ⟨by omega, by omega⟩)) ((σ (u + 1) 0) - 1) ⟨by omega, by omega⟩ σ hI (tw_F_rf) (Nat.lt_succ_self _)
abbrev q_X1_couldHold (o : Nat) (k : Int) (h : Int) (σ : tw_M) : Option tw_V → tw_M → Prop := fun z τ => ∃ r : Int, z = some (vI r) ∧ (0 ≤ r ∧ r ≤ 1) ∧ σ = τ ∧ True
set_option maxHeartbeats 4000000 in
set_option maxRecDepth 100000 in
theorem c_X1_couldHold {G : tw_G} (hX : tw_isX G) (o : Nat) (ho : IsRow G o) (k : Int) (hk : 0 ≤ k ∧ k ≤ 9) (h : Int) (hh : 1 ≤ h ∧ h ≤ 40) (σ : tw_M) (hI : tw_I σ) : tw_C G yX1_couldHold cX1_couldHold 4 (some .boolean) 1 [vR 58, vR o, vI k, vI h] σ (q_X1_couldHold o k h σ) := by
  refine tw_met [(0, vR 58), (1, vR o), (2, vI k), (3, vI h)] (by decide +kernel) rfl (Nat.le_of_ble_eq_true rfl) ?_
  refine j_aload_n (pc := 0) dX1_couldHold_0 rfl rfl ?_
  refine j_getR (pc := 1) (r := 1) fl_X1_25 dX1_couldHold_1 (a_58 hX) rfl ?_
  refine j_aload_n (pc := 4) dX1_couldHold_4 rfl rfl ?_
  refine j_getR (pc := 5) (r := o + 2) fl_X1_51 dX1_couldHold_5 ho.1.1 rfl ?_
  refine j_iload_n (pc := 8) dX1_couldHold_8 rfl rfl ?_
  refine j_iald (pc := 9) dX1_couldHold_9 ho.1.2.2.1 (by omega) (by omega) (by decide) ?_
  have f1 : (0 : Int) ≤ σ (o + 2) (k.toNat) ∧ σ (o + 2) (k.toNat) ≤ 10 := tw_Ig ho.2.2.2.1 hI (k.toNat)
  refine j_aload_n (pc := 10) dX1_couldHold_10 rfl rfl ?_
  refine j_getR (pc := 11) (r := 1) fl_X1_25 dX1_couldHold_11 (a_58 hX) rfl ?_
  refine j_iload_n (pc := 14) dX1_couldHold_14 rfl rfl ?_
  refine j_aload_n (pc := 15) dX1_couldHold_15 rfl rfl ?_
  refine j_getR (pc := 16) (r := 1) fl_X1_25 dX1_couldHold_16 (a_58 hX) rfl ?_
  refine j_iload_n (pc := 19) dX1_couldHold_19 rfl rfl ?_
  refine j_aload_n (pc := 20) dX1_couldHold_20 rfl rfl ?_
  refine j_getR (pc := 21) (r := o + 1) fl_X1_41 dX1_couldHold_21 ho.1.1 rfl ?_
  refine j_iload_n (pc := 24) dX1_couldHold_24 rfl rfl ?_
  refine j_iald (pc := 25) dX1_couldHold_25 ho.1.2.1 (by omega) (by omega) (by decide) ?_
  have f2 : (0 : Int) ≤ σ (o + 1) (k.toNat) ∧ σ (o + 1) (k.toNat) ≤ 40 := tw_Ig ho.2.2.1 hI (k.toNat)
  refine j_callV (pc := 26) (As := [vI h, vI (σ (o + 1) (k.toNat))]) (st := [vI h, vR 1, vI (σ (o + 2) (k.toNat)), vR 1]) (c_X10_dropOf 1 (s_Wall_1 hX) h ⟨by omega, by omega⟩ (σ (o + 1) (k.toNat)) ⟨by omega, by omega⟩ σ hI) mv_X1_45 rfl rfl rfl (a_1 hX) dX1_couldHold_26 ⟨Nat.le_of_ble_eq_true rfl, Nat.le_of_ble_eq_true rfl⟩ ⟨Nat.le_refl _, Nat.le_refl _⟩ rfl (Nat.le_of_ble_eq_true rfl) rfl (fun z3 σ4 hz3 => ?_)
  obtain ⟨r6, rfl, hr6, rfl, q5_0⟩ := hz3
  replace q5_0 : r6 = dropS (wW 1 σ) h (σ (o + 1) (k.toNat)) := q5_0
  refine j_st (st' := [vI r6, vI h, vR 1, vI (σ (o + 2) (k.toNat)), vR 1]) rfl ?_
  refine j_callV (pc := 29) (As := [vI h, vI r6]) (st := [vI (σ (o + 2) (k.toNat)), vR 1]) (c_X10_pullOf 1 (s_Wall_1 hX) h ⟨by omega, by omega⟩ r6 ⟨by omega, by omega⟩ σ hI) mv_X1_54 rfl rfl rfl (a_1 hX) dX1_couldHold_29 ⟨Nat.le_of_ble_eq_true rfl, Nat.le_of_ble_eq_true rfl⟩ ⟨Nat.le_refl _, Nat.le_refl _⟩ rfl (Nat.le_of_ble_eq_true rfl) rfl (fun z7 σ8 hz7 => ?_)
  obtain ⟨r10, rfl, hr10, rfl, q9_0⟩ := hz7
  replace q9_0 : r10 = pullS h r6 := q9_0
  refine j_st (st' := [vI r10, vI (σ (o + 2) (k.toNat)), vR 1]) rfl ?_
  refine j_callV (pc := 32) (As := [vI (σ (o + 2) (k.toNat)), vI r10]) (st := []) (c_X10_holds 1 (s_Wall_1 hX) (σ (o + 2) (k.toNat)) ⟨by omega, by omega⟩ r10 ⟨by omega, by omega⟩ σ hI) mv_X1_57 rfl rfl rfl (a_1 hX) dX1_couldHold_32 ⟨Nat.le_of_ble_eq_true rfl, Nat.le_of_ble_eq_true rfl⟩ ⟨Nat.le_refl _, Nat.le_refl _⟩ rfl (Nat.le_of_ble_eq_true rfl) rfl (fun z11 σ12 hz11 => ?_)
  obtain ⟨r14, rfl, hr14, rfl, q13_0⟩ := hz11
  replace q13_0 : (r14 = 1 ∧ r10 ≤ (σ (o + 2) (k.toNat)) + σ 2 7) ∨ (r14 = 0 ∧ (σ (o + 2) (k.toNat)) + σ 2 7 < r10) := q13_0
  refine j_st (st' := [vI r14]) rfl ?_
  exact j_zret (pc := 35) ⟨rfl, rfl⟩ dX1_couldHold_35 rfl (nar_bool (by omega) (by omega)) ⟨_, rfl, ⟨by omega, by omega⟩, rfl, trivial⟩
abbrev q_X1_ofStory (u : Nat) (h : Int) (p : Int) (q : Int) (σ : tw_M) : Option tw_V → tw_M → Prop := fun z τ => ∃ r : Int, z = some (vL r) ∧ (-9223372036854775808 ≤ r ∧ r ≤ 9223372036854775807) ∧ tw_I τ ∧ tw_F (fun c j => c = 59) σ τ ∧ True
set_option maxHeartbeats 4000000 in
set_option maxRecDepth 100000 in
theorem l_X1_ofStory {G : tw_G} (hX : tw_isX G) (u : Nat) (hu : IsHand G u) (h : Int) (hh : 1 ≤ h ∧ h ≤ 40) (p : Int) (hp : -2147483648 ≤ p ∧ p ≤ 2147483647) (q : Int) (hq : -2147483648 ≤ q ∧ q ≤ 2147483647) (σ : tw_M) (hI : tw_I σ) (hq0 : u + 8 ≤ 59 ∨ 59 < u) : ∀ N_ : Nat, (∀ (l : Int) (hl : -9223372036854775808 ≤ l ∧ l ≤ 9223372036854775807) (k : Int) (hk : 0 ≤ k ∧ k ≤ 10) (τ : tw_M) (hIτ : tw_I τ) (hFτ : tw_F (fun c j => c = 59) σ τ)  (hm : (10 - k).toNat < N_), tw_J G (tw_mt RX1 cX1_ofStory 9 (some .long) 2) (tw_E G (q_X1_ofStory u h p q σ)) 59 [(0, vR 58), (1, vR u), (2, vI h), (3, vI p), (5, vR (u + 1)), (6, vL l), (8, vI k)] [] τ) := by
  intro N_
  induction N_ with
  | zero => exact fun l hl k hk τ hIτ hFτ hm => absurd hm (Nat.not_lt_zero _)
  | succ N_ ih =>
    intro l hl k hk τ hIτ hFτ hm
    refine j_iload (pc := 59) dX1_ofStory_59 rfl ?_
    refine j_aload (pc := 61) dX1_ofStory_61 rfl ?_
    refine j_getI (pc := 63) fl_X1_35 dX1_ofStory_63 hu.1.2.1 rfl ?_
    have f1 : (0 : Int) ≤ τ (u + 1) 0 ∧ τ (u + 1) 0 ≤ 10 := tw_Ig hu.2.2.1 hIτ 0
    refine j_icmpR_ge (pc := 66) (tgt := 157) ⟨by omega, by omega⟩ ⟨by omega, by omega⟩ dX1_ofStory_66 rfl (fun h2 => ?_) (fun h2 => ?_)
    · refine j_lload (pc := 157) dX1_ofStory_157 rfl ?_
      exact j_lret (pc := 159) ⟨rfl, rfl⟩ dX1_ofStory_159 rfl ⟨_, rfl, ⟨by omega, by omega⟩, hIτ, hFτ, trivial⟩
    · refine j_iload (pc := 69) dX1_ofStory_69 rfl ?_
      refine j_aload_n (pc := 71) dX1_ofStory_71 rfl rfl ?_
      refine j_getR (pc := 72) (r := 59) fl_X1_12 dX1_ofStory_72 (a_58 hX) rfl ?_
      refine j_getI (pc := 75) fl_X1_91 dX1_ofStory_75 (a_59 hX) rfl ?_
      have f3 : (-2147483648 : Int) ≤ τ 59 1 ∧ τ 59 1 ≤ 2147483647 := hIτ 59 1
      refine j_icmpR_ne (pc := 78) (tgt := 100) ⟨by omega, by omega⟩ ⟨by omega, by omega⟩ dX1_ofStory_78 rfl (fun h4 => ?_) (fun h4 => ?_)
      · refine j_iload_n (pc := 100) dX1_ofStory_100 rfl rfl ?_
        refine j_iload (pc := 101) dX1_ofStory_101 rfl ?_
        refine j_ishr (pc := 103) dX1_ofStory_103 (fun z5 ez5 => ?_)
        have hz5 : (-2147483648 : Int) ≤ z5 ∧ z5 ≤ 2147483647 := by rw [ez5]; exact shr_in _ _
        refine j_iconst (pc := 104) dX1_ofStory_104 ?_
        refine j_iand (pc := 105) dX1_ofStory_105 (fun z6 ez6 => ?_)
        have hz6 : (-2147483648 : Int) ≤ z6 ∧ z6 ≤ 2147483647 := by rw [ez6]; exact and_in _ _
        refine j_ifR_eq (pc := 106) (tgt := 143) ⟨by omega, by omega⟩ dX1_ofStory_106 rfl (fun h7 => ?_) (fun h7 => ?_)
        · refine j_lload (pc := 143) dX1_ofStory_143 rfl ?_
          refine j_ldc2 (pc := 145) (z := 20) dX1_ofStory_145 (tw_inc tm_4 (i := 105) rfl rfl) ?_
          refine j_lmul (pc := 148) dX1_ofStory_148 ?_
          refine j_topL (fun z8 ez8 hz8 => ?_)
          refine j_lstore (pc := 149) (i := 6) (ls' := [(0, vR 58), (1, vR u), (2, vI h), (3, vI p), (5, vR (u + 1)), (6, vL z8), (8, vI k)]) [1, 2, 3, 4, 5, 0, 6] dX1_ofStory_149 (Nat.le_of_ble_eq_true rfl) rfl rfl ?_
          refine j_iinc (pc := 151) (i := 8) (n := 1) (ls' := [(0, vR 58), (1, vR u), (2, vI h), (3, vI p), (5, vR (u + 1)), (6, vL z8), (8, vI (k + 1))]) [1, 2, 3, 4, 5, 6, 0] dX1_ofStory_151 rfl (Nat.le_of_ble_eq_true rfl) rfl rfl ?_
          refine j_goto (pc := 154) (tgt := 59) dX1_ofStory_154 rfl ?_
          refine j_ls (ls' := [(0, vR 58), (1, vR u), (2, vI h), (3, vI p), (5, vR (u + 1)), (6, vL z8), (8, vI (k + 1))]) [0, 1, 2, 3, 4, 5, 6] rfl ?_
          exact ih z8 ⟨by omega, by omega⟩ (k + 1) ⟨by omega, by omega⟩ τ hIτ hFτ (show (10 - (k + 1)).toNat < N_ from by omega)
        · refine j_aload_n (pc := 109) dX1_ofStory_109 rfl rfl ?_
          refine j_aload (pc := 110) dX1_ofStory_110 rfl ?_
          refine j_iload (pc := 112) dX1_ofStory_112 rfl ?_
          refine j_iload_n (pc := 114) dX1_ofStory_114 rfl rfl ?_
          refine j_callV (pc := 115) (As := [vR (u + 1), vI k, vI h]) (st := []) (c_X1_couldHold hX (u + 1) (hand_row hu) k ⟨by omega, by omega⟩ h ⟨by omega, by omega⟩ τ hIτ) mv_X1_94 rfl rfl rfl (a_58 hX) dX1_ofStory_115 ⟨Nat.le_of_ble_eq_true rfl, Nat.le_of_ble_eq_true rfl⟩ ⟨Nat.le_refl _, Nat.le_refl _⟩ rfl (Nat.le_of_ble_eq_true rfl) rfl (fun z9 σ10 hz9 => ?_)
          obtain ⟨r12, rfl, hr12, rfl, -⟩ := hz9
          refine j_st (st' := [vI r12]) rfl ?_
          refine j_ifR_eq (pc := 118) (tgt := 143) ⟨by omega, by omega⟩ dX1_ofStory_118 rfl (fun h13 => ?_) (fun h13 => ?_)
          · refine j_lload (pc := 143) dX1_ofStory_143 rfl ?_
            refine j_ldc2 (pc := 145) (z := 20) dX1_ofStory_145 (tw_inc tm_4 (i := 105) rfl rfl) ?_
            refine j_lmul (pc := 148) dX1_ofStory_148 ?_
            refine j_topL (fun z14 ez14 hz14 => ?_)
            refine j_lstore (pc := 149) (i := 6) (ls' := [(0, vR 58), (1, vR u), (2, vI h), (3, vI p), (5, vR (u + 1)), (6, vL z14), (8, vI k)]) [1, 2, 3, 4, 5, 0, 6] dX1_ofStory_149 (Nat.le_of_ble_eq_true rfl) rfl rfl ?_
            refine j_iinc (pc := 151) (i := 8) (n := 1) (ls' := [(0, vR 58), (1, vR u), (2, vI h), (3, vI p), (5, vR (u + 1)), (6, vL z14), (8, vI (k + 1))]) [1, 2, 3, 4, 5, 6, 0] dX1_ofStory_151 rfl (Nat.le_of_ble_eq_true rfl) rfl rfl ?_
            refine j_goto (pc := 154) (tgt := 59) dX1_ofStory_154 rfl ?_
            refine j_ls (ls' := [(0, vR 58), (1, vR u), (2, vI h), (3, vI p), (5, vR (u + 1)), (6, vL z14), (8, vI (k + 1))]) [0, 1, 2, 3, 4, 5, 6] rfl ?_
            exact ih z14 ⟨by omega, by omega⟩ (k + 1) ⟨by omega, by omega⟩ τ hIτ hFτ (show (10 - (k + 1)).toNat < N_ from by omega)
          · refine j_lload (pc := 121) dX1_ofStory_121 rfl ?_
            refine j_bipush (pc := 123) dX1_ofStory_123 rfl ?_
            refine j_aload_n (pc := 125) dX1_ofStory_125 rfl rfl ?_
            refine j_aload_n (pc := 126) dX1_ofStory_126 rfl rfl ?_
            refine j_getR (pc := 127) (r := 1) fl_X1_25 dX1_ofStory_127 (a_58 hX) rfl ?_
            refine j_iload (pc := 130) dX1_ofStory_130 rfl ?_
            refine j_callV (pc := 132) (As := [vR 1, vI k]) (st := [vI 20, vL l]) (c_X3_chance u hu 1 (s_Wall_1 hX) k ⟨by omega, by omega⟩ τ hIτ) mv_X1_61 rfl rfl rfl hu.1.1 dX1_ofStory_132 ⟨Nat.le_of_ble_eq_true rfl, Nat.le_of_ble_eq_true rfl⟩ ⟨Nat.le_refl _, Nat.le_refl _⟩ rfl (Nat.le_of_ble_eq_true rfl) rfl (fun z15 σ16 hz15 => ?_)
            obtain ⟨r18, rfl, hr18, rfl, -⟩ := hz15
            refine j_st (st' := [vI r18, vI 20, vL l]) rfl ?_
            refine j_isub (pc := 135) dX1_ofStory_135 ?_
            refine j_top (fun z19 ez19 hz19 => ?_)
            refine j_i2l (pc := 136) dX1_ofStory_136 ?_
            rw [w32_eq (a := z19) (by omega) (by omega)]
            refine j_lmul (pc := 137) dX1_ofStory_137 ?_
            refine j_topL (fun z20 ez20 hz20 => ?_)
            refine j_lstore (pc := 138) (i := 6) (ls' := [(0, vR 58), (1, vR u), (2, vI h), (3, vI p), (5, vR (u + 1)), (6, vL z20), (8, vI k)]) [1, 2, 3, 4, 5, 0, 6] dX1_ofStory_138 (Nat.le_of_ble_eq_true rfl) rfl rfl ?_
            refine j_goto (pc := 140) (tgt := 151) dX1_ofStory_140 rfl ?_
            refine j_iinc (pc := 151) (i := 8) (n := 1) (ls' := [(0, vR 58), (1, vR u), (2, vI h), (3, vI p), (5, vR (u + 1)), (6, vL z20), (8, vI (k + 1))]) [1, 2, 3, 4, 5, 6, 0] dX1_ofStory_151 rfl (Nat.le_of_ble_eq_true rfl) rfl rfl ?_
            refine j_goto (pc := 154) (tgt := 59) dX1_ofStory_154 rfl ?_
            refine j_ls (ls' := [(0, vR 58), (1, vR u), (2, vI h), (3, vI p), (5, vR (u + 1)), (6, vL z20), (8, vI (k + 1))]) [0, 1, 2, 3, 4, 5, 6] rfl ?_
            exact ih z20 ⟨by omega, by omega⟩ (k + 1) ⟨by omega, by omega⟩ τ hIτ hFτ (show (10 - (k + 1)).toNat < N_ from by omega)
      · refine j_lload (pc := 81) dX1_ofStory_81 rfl ?_
        refine j_aload_n (pc := 83) dX1_ofStory_83 rfl rfl ?_
        refine j_aload_n (pc := 84) dX1_ofStory_84 rfl rfl ?_
        refine j_getR (pc := 85) (r := 1) fl_X1_25 dX1_ofStory_85 (a_58 hX) rfl ?_
        refine j_iload (pc := 88) dX1_ofStory_88 rfl ?_
        refine j_callV (pc := 90) (As := [vR 1, vI k]) (st := [vL l]) (c_X3_chance u hu 1 (s_Wall_1 hX) k ⟨by omega, by omega⟩ τ hIτ) mv_X1_61 rfl rfl rfl hu.1.1 dX1_ofStory_90 ⟨Nat.le_of_ble_eq_true rfl, Nat.le_of_ble_eq_true rfl⟩ ⟨Nat.le_refl _, Nat.le_refl _⟩ rfl (Nat.le_of_ble_eq_true rfl) rfl (fun z21 σ22 hz21 => ?_)
        obtain ⟨r24, rfl, hr24, rfl, -⟩ := hz21
        refine j_st (st' := [vI r24, vL l]) rfl ?_
        refine j_i2l (pc := 93) dX1_ofStory_93 ?_
        rw [w32_eq (a := r24) (by omega) (by omega)]
        refine j_lmul (pc := 94) dX1_ofStory_94 ?_
        refine j_topL (fun z25 ez25 hz25 => ?_)
        refine j_lstore (pc := 95) (i := 6) (ls' := [(0, vR 58), (1, vR u), (2, vI h), (3, vI p), (5, vR (u + 1)), (6, vL z25), (8, vI k)]) [1, 2, 3, 4, 5, 0, 6] dX1_ofStory_95 (Nat.le_of_ble_eq_true rfl) rfl rfl ?_
        refine j_goto (pc := 97) (tgt := 151) dX1_ofStory_97 rfl ?_
        refine j_iinc (pc := 151) (i := 8) (n := 1) (ls' := [(0, vR 58), (1, vR u), (2, vI h), (3, vI p), (5, vR (u + 1)), (6, vL z25), (8, vI (k + 1))]) [1, 2, 3, 4, 5, 6, 0] dX1_ofStory_151 rfl (Nat.le_of_ble_eq_true rfl) rfl rfl ?_
        refine j_goto (pc := 154) (tgt := 59) dX1_ofStory_154 rfl ?_
        refine j_ls (ls' := [(0, vR 58), (1, vR u), (2, vI h), (3, vI p), (5, vR (u + 1)), (6, vL z25), (8, vI (k + 1))]) [0, 1, 2, 3, 4, 5, 6] rfl ?_
        exact ih z25 ⟨by omega, by omega⟩ (k + 1) ⟨by omega, by omega⟩ τ hIτ hFτ (show (10 - (k + 1)).toNat < N_ from by omega)
set_option maxHeartbeats 4000000 in
set_option maxRecDepth 100000 in
theorem c_X1_ofStory {G : tw_G} (hX : tw_isX G) (u : Nat) (hu : IsHand G u) (h : Int) (hh : 1 ≤ h ∧ h ≤ 40) (p : Int) (hp : -2147483648 ≤ p ∧ p ≤ 2147483647) (q : Int) (hq : -2147483648 ≤ q ∧ q ≤ 2147483647) (σ : tw_M) (hI : tw_I σ) (hq0 : u + 8 ≤ 59 ∨ 59 < u) : tw_C G yX1_ofStory cX1_ofStory 9 (some .long) 2 [vR 58, vR u, vI h, vI p, vI q] σ (q_X1_ofStory u h p q σ) := by
  refine tw_met [(0, vR 58), (1, vR u), (2, vI h), (3, vI p), (4, vI q)] (by decide +kernel) rfl (Nat.le_of_ble_eq_true rfl) ?_
  refine j_aload_n (pc := 0) dX1_ofStory_0 rfl rfl ?_
  refine j_getR (pc := 1) (r := u + 1) fl_X1_29 dX1_ofStory_1 hu.1.1 rfl ?_
  refine j_astore (pc := 4) (i := 5) (ls' := [(0, vR 58), (1, vR u), (2, vI h), (3, vI p), (4, vI q), (5, vR (u + 1))]) [1, 2, 3, 4, 5, 0] dX1_ofStory_4 (Nat.le_of_ble_eq_true rfl) rfl rfl ?_
  refine j_aload_n (pc := 6) dX1_ofStory_6 rfl rfl ?_
  refine j_getR (pc := 7) (r := 59) fl_X1_12 dX1_ofStory_7 (a_58 hX) rfl ?_
  refine j_aload_n (pc := 10) dX1_ofStory_10 rfl rfl ?_
  refine j_getR (pc := 11) (r := 1) fl_X1_25 dX1_ofStory_11 (a_58 hX) rfl ?_
  refine j_aload (pc := 14) dX1_ofStory_14 rfl ?_
  refine j_iload_n (pc := 16) dX1_ofStory_16 rfl rfl ?_
  refine j_aload (pc := 17) dX1_ofStory_17 rfl ?_
  refine j_callV (pc := 19) (As := []) (st := [vI h, vR (u + 1), vR 1, vR 59]) (c_X7_all (u + 1) (hand_row hu) σ hI) mv_X1_77 rfl rfl rfl hu.1.2.1 dX1_ofStory_19 ⟨Nat.le_of_ble_eq_true rfl, Nat.le_of_ble_eq_true rfl⟩ ⟨Nat.le_refl _, Nat.le_refl _⟩ rfl (Nat.le_of_ble_eq_true rfl) rfl (fun z26 σ27 hz26 => ?_)
  obtain ⟨r29, rfl, hr29, rfl, q28_0⟩ := hz26
  replace q28_0 : r29 = pt (σ (u + 1) 0) - 1 := q28_0
  refine j_st (st' := [vI r29, vI h, vR (u + 1), vR 1, vR 59]) rfl ?_
  refine j_iload_n (pc := 22) dX1_ofStory_22 rfl rfl ?_
  refine j_iconst (pc := 23) dX1_ofStory_23 ?_
  refine j_ixor (pc := 24) dX1_ofStory_24 (fun z30 ez30 => ?_)
  have hz30 : (-2147483648 : Int) ≤ z30 ∧ z30 ≤ 2147483647 := by rw [ez30]; exact xor_in _ _
  refine j_iand (pc := 25) dX1_ofStory_25 (fun z31 ez31 => ?_)
  have hz31 : (-2147483648 : Int) ≤ z31 ∧ z31 ≤ 2147483647 := by rw [ez31]; exact and_in _ _
  refine j_callV (pc := 26) (As := [vR 1, vR (u + 1), vI h, vI z31]) (st := []) (c_X2_from 59 (s_Fall_59 hX) 1 (s_Wall_1 hX) (u + 1) (hand_row hu) h ⟨by omega, by omega⟩ z31 ⟨by omega, by omega⟩ σ hI (by omega) (by omega)) mv_X1_81 rfl rfl rfl (a_59 hX) dX1_ofStory_26 ⟨Nat.le_of_ble_eq_true rfl, Nat.le_of_ble_eq_true rfl⟩ ⟨Nat.le_refl _, Nat.le_refl _⟩ rfl (Nat.le_of_ble_eq_true rfl) rfl (fun z32 σ33 hz32 => ?_)
  obtain ⟨rfl, hIσ33, hGσ33, q34_0, q34_1, q34_2, q34_3⟩ := hz32
  replace q34_0 : ∀ gg qq : Nat → Int, RG (u + 1) gg qq σ → (σ33 59 0, σ33 59 1, σ33 59 2, σ33 59 3) = fallG (wW 1 σ) gg h z31 h.toNat 0 := q34_0
  replace q34_1 : σ33 59 4 = strS (wW 1 σ) h (σ33 59 0) := q34_1
  replace q34_2 : σ33 59 5 = harS (wW 1 σ) h (σ33 59 0) := q34_2
  replace q34_3 : -40 ≤ σ33 59 5 ∧ σ33 59 5 ≤ 40 := q34_3
  have hFσ33 : tw_F (fun c j => c = 59) σ σ33 := tw_F_tr (tw_F_rf) hGσ33 (fun c j q => (show c = 59 from by replace q : c = 59 := q; exact q))
  refine j_st (st' := []) rfl ?_
  refine j_aload_n (pc := 29) dX1_ofStory_29 rfl rfl ?_
  refine j_getR (pc := 30) (r := 59) fl_X1_12 dX1_ofStory_30 (a_58 hX) rfl ?_
  refine j_iload_n (pc := 33) dX1_ofStory_33 rfl rfl ?_
  refine j_iload (pc := 34) dX1_ofStory_34 rfl ?_
  refine j_callV (pc := 36) (As := [vI p, vI q]) (st := []) (c_X2_isSo 59 (s_Fall_59 hX) p ⟨by omega, by omega⟩ q ⟨by omega, by omega⟩ σ33 hIσ33) mv_X1_85 rfl rfl rfl (a_59 hX) dX1_ofStory_36 ⟨Nat.le_of_ble_eq_true rfl, Nat.le_of_ble_eq_true rfl⟩ ⟨Nat.le_refl _, Nat.le_refl _⟩ rfl (Nat.le_of_ble_eq_true rfl) rfl (fun z36 σ37 hz36 => ?_)
  obtain ⟨r39, rfl, hr39, rfl, -⟩ := hz36
  refine j_st (st' := [vI r39]) rfl ?_
  refine j_ifR_ne (pc := 39) (tgt := 44) ⟨by omega, by omega⟩ dX1_ofStory_39 rfl (fun h40 => ?_) (fun h40 => ?_)
  · refine j_aload_n (pc := 44) dX1_ofStory_44 rfl rfl ?_
    refine j_getR (pc := 45) (r := 1) fl_X1_25 dX1_ofStory_45 (a_58 hX) rfl ?_
    refine j_getR (pc := 48) (r := 4) fl_X1_88 dX1_ofStory_48 (a_1 hX) rfl ?_
    refine j_iload_n (pc := 51) dX1_ofStory_51 rfl rfl ?_
    refine j_iald (pc := 52) dX1_ofStory_52 (a_4 hX) (by omega) (by omega) (by decide) ?_
    refine j_topV (show σ33 4 (h.toNat) = σ 4 (h.toNat) from (hGσ33 4 (h.toNat) (show ¬ (4 = 59) from by decide))) ?_
    have f41 : (0 : Int) ≤ σ 4 (h.toNat) ∧ σ 4 (h.toNat) ≤ 9 := hI 4 (h.toNat)
    refine j_i2l (pc := 53) dX1_ofStory_53 ?_
    rw [w32_eq (a := σ 4 (h.toNat)) (by omega) (by omega)]
    refine j_lstore (pc := 54) (i := 6) (ls' := [(0, vR 58), (1, vR u), (2, vI h), (3, vI p), (5, vR (u + 1)), (6, vL (σ 4 (h.toNat)))]) [1, 2, 3, 4, 6, 0] dX1_ofStory_54 (Nat.le_of_ble_eq_true rfl) rfl rfl ?_
    refine j_iconst (pc := 56) dX1_ofStory_56 ?_
    refine j_istore (pc := 57) (i := 8) (ls' := [(0, vR 58), (1, vR u), (2, vI h), (3, vI p), (5, vR (u + 1)), (6, vL (σ 4 (h.toNat))), (8, vI 0)]) [1, 2, 3, 4, 5, 6, 0] dX1_ofStory_57 (Nat.le_of_ble_eq_true rfl) rfl rfl ?_
    refine j_ls (ls' := [(0, vR 58), (1, vR u), (2, vI h), (3, vI p), (5, vR (u + 1)), (6, vL (σ 4 (h.toNat))), (8, vI 0)]) [0, 1, 2, 3, 4, 5, 6] rfl ?_
    exact (l_X1_ofStory hX u hu h hh p hp q hq σ hI hq0 (((10 - (0 : Int)).toNat) + 1)) (σ 4 (h.toNat)) ⟨by omega, by omega⟩ 0 (by (first | decide | exact ⟨by omega, by omega⟩)) σ33 hIσ33 hFσ33 (Nat.lt_succ_self _)
  · refine j_lconst (pc := 42) (z := 0) dX1_ofStory_42 rfl ?_
    exact j_lret (pc := 43) ⟨rfl, rfl⟩ dX1_ofStory_43 rfl ⟨_, rfl, ⟨by omega, by omega⟩, hIσ33, hFσ33, trivial⟩
