/-! 30.model -/
theorem dX12_pitches_0 : decode cX12_pitches 0 = .ok (.iload_n 1, 1) := by decide +kernel
theorem dX12_pitches_1 : decode cX12_pitches 1 = .ok (.ifCond .eq 19, 3) := by decide +kernel
theorem dX12_pitches_4 : decode cX12_pitches 4 = .ok (.iload_n 1, 1) := by decide +kernel
theorem dX12_pitches_5 : decode cX12_pitches 5 = .ok (.i2l, 1) := by decide +kernel
theorem dX12_pitches_6 : decode cX12_pitches 6 = .ok (.ldc2_w 187, 3) := by decide +kernel
theorem dX12_pitches_9 : decode cX12_pitches 9 = .ok (.ldc2_w 329, 3) := by decide +kernel
theorem dX12_pitches_12 : decode cX12_pitches 12 = .ok (.invokestatic 82, 3) := by decide +kernel
theorem dX12_pitches_15 : decode cX12_pitches 15 = .ok (.ifCond .ne 5, 3) := by decide +kernel
theorem dX12_pitches_18 : decode cX12_pitches 18 = .ok (.iconst (-1), 1) := by decide +kernel
theorem dX12_pitches_19 : decode cX12_pitches 19 = .ok (.ireturn, 1) := by decide +kernel
theorem dX12_pitches_20 : decode cX12_pitches 20 = .ok (.aload_n 0, 1) := by decide +kernel
theorem dX12_pitches_21 : decode cX12_pitches 21 = .ok (.invokevirtual 331, 3) := by decide +kernel
theorem dX12_pitches_24 : decode cX12_pitches 24 = .ok (.aload_n 0, 1) := by decide +kernel
theorem dX12_pitches_25 : decode cX12_pitches 25 = .ok (.getfield 326, 3) := by decide +kernel
theorem dX12_pitches_28 : decode cX12_pitches 28 = .ok (.bipush (-4), 2) := by decide +kernel
theorem dX12_pitches_30 : decode cX12_pitches 30 = .ok (.if_icmp .ne 6, 3) := by decide +kernel
theorem dX12_pitches_33 : decode cX12_pitches 33 = .ok (.bipush (-4), 2) := by decide +kernel
theorem dX12_pitches_35 : decode cX12_pitches 35 = .ok (.ireturn, 1) := by decide +kernel
theorem dX12_pitches_36 : decode cX12_pitches 36 = .ok (.iload_n 1, 1) := by decide +kernel
theorem dX12_pitches_37 : decode cX12_pitches 37 = .ok (.ifCond .ne 10, 3) := by decide +kernel
theorem dX12_pitches_40 : decode cX12_pitches 40 = .ok (.aload_n 0, 1) := by decide +kernel
theorem dX12_pitches_41 : decode cX12_pitches 41 = .ok (.getfield 326, 3) := by decide +kernel
theorem dX12_pitches_44 : decode cX12_pitches 44 = .ok (.goto 27, 3) := by decide +kernel
theorem dX12_pitches_47 : decode cX12_pitches 47 = .ok (.iload_n 1, 1) := by decide +kernel
theorem dX12_pitches_48 : decode cX12_pitches 48 = .ok (.bipush 10, 2) := by decide +kernel
theorem dX12_pitches_50 : decode cX12_pitches 50 = .ok (.isub, 1) := by decide +kernel
theorem dX12_pitches_51 : decode cX12_pitches 51 = .ok (.aload_n 0, 1) := by decide +kernel
theorem dX12_pitches_52 : decode cX12_pitches 52 = .ok (.getfield 326, 3) := by decide +kernel
theorem dX12_pitches_55 : decode cX12_pitches 55 = .ok (.if_icmp .ge 15, 3) := by decide +kernel
theorem dX12_pitches_58 : decode cX12_pitches 58 = .ok (.aload_n 0, 1) := by decide +kernel
theorem dX12_pitches_59 : decode cX12_pitches 59 = .ok (.getfield 44, 3) := by decide +kernel
theorem dX12_pitches_62 : decode cX12_pitches 62 = .ok (.iload_n 1, 1) := by decide +kernel
theorem dX12_pitches_63 : decode cX12_pitches 63 = .ok (.bipush 10, 2) := by decide +kernel
theorem dX12_pitches_65 : decode cX12_pitches 65 = .ok (.isub, 1) := by decide +kernel
theorem dX12_pitches_66 : decode cX12_pitches 66 = .ok (.iaload, 1) := by decide +kernel
theorem dX12_pitches_67 : decode cX12_pitches 67 = .ok (.goto 4, 3) := by decide +kernel
theorem dX12_pitches_70 : decode cX12_pitches 70 = .ok (.iconst (-1), 1) := by decide +kernel
theorem dX12_pitches_71 : decode cX12_pitches 71 = .ok (.ireturn, 1) := by decide +kernel
theorem dX12_costOf_0 : decode cX12_costOf 0 = .ok (.iconst 0, 1) := by decide +kernel
theorem dX12_costOf_1 : decode cX12_costOf 1 = .ok (.istore_n 3, 1) := by decide +kernel
theorem dX12_costOf_2 : decode cX12_costOf 2 = .ok (.iload_n 1, 1) := by decide +kernel
theorem dX12_costOf_3 : decode cX12_costOf 3 = .ok (.ifCond .ne 7, 3) := by decide +kernel
theorem dX12_costOf_6 : decode cX12_costOf 6 = .ok (.iconst 1, 1) := by decide +kernel
theorem dX12_costOf_7 : decode cX12_costOf 7 = .ok (.goto 13, 3) := by decide +kernel
theorem dX12_costOf_10 : decode cX12_costOf 10 = .ok (.aload_n 0, 1) := by decide +kernel
theorem dX12_costOf_11 : decode cX12_costOf 11 = .ok (.getfield 44, 3) := by decide +kernel
theorem dX12_costOf_14 : decode cX12_costOf 14 = .ok (.iload_n 1, 1) := by decide +kernel
theorem dX12_costOf_15 : decode cX12_costOf 15 = .ok (.iconst 1, 1) := by decide +kernel
theorem dX12_costOf_16 : decode cX12_costOf 16 = .ok (.isub, 1) := by decide +kernel
theorem dX12_costOf_17 : decode cX12_costOf 17 = .ok (.iaload, 1) := by decide +kernel
theorem dX12_costOf_18 : decode cX12_costOf 18 = .ok (.iconst 1, 1) := by decide +kernel
theorem dX12_costOf_19 : decode cX12_costOf 19 = .ok (.iadd, 1) := by decide +kernel
theorem dX12_costOf_20 : decode cX12_costOf 20 = .ok (.istore 4, 2) := by decide +kernel
theorem dX12_costOf_22 : decode cX12_costOf 22 = .ok (.iload 4, 2) := by decide +kernel
theorem dX12_costOf_24 : decode cX12_costOf 24 = .ok (.aload_n 0, 1) := by decide +kernel
theorem dX12_costOf_25 : decode cX12_costOf 25 = .ok (.getfield 44, 3) := by decide +kernel
theorem dX12_costOf_28 : decode cX12_costOf 28 = .ok (.iload_n 1, 1) := by decide +kernel
theorem dX12_costOf_29 : decode cX12_costOf 29 = .ok (.iaload, 1) := by decide +kernel
theorem dX12_costOf_30 : decode cX12_costOf 30 = .ok (.if_icmp .gt 19, 3) := by decide +kernel
theorem dX12_costOf_33 : decode cX12_costOf 33 = .ok (.iload_n 3, 1) := by decide +kernel
theorem dX12_costOf_34 : decode cX12_costOf 34 = .ok (.aload_n 0, 1) := by decide +kernel
theorem dX12_costOf_35 : decode cX12_costOf 35 = .ok (.iload 4, 2) := by decide +kernel
theorem dX12_costOf_37 : decode cX12_costOf 37 = .ok (.iconst 0, 1) := by decide +kernel
theorem dX12_costOf_38 : decode cX12_costOf 38 = .ok (.invokevirtual 184, 3) := by decide +kernel
theorem dX12_costOf_41 : decode cX12_costOf 41 = .ok (.iadd, 1) := by decide +kernel
theorem dX12_costOf_42 : decode cX12_costOf 42 = .ok (.istore_n 3, 1) := by decide +kernel
theorem dX12_costOf_43 : decode cX12_costOf 43 = .ok (.iinc 4 1, 3) := by decide +kernel
theorem dX12_costOf_46 : decode cX12_costOf 46 = .ok (.goto (-24), 3) := by decide +kernel
theorem dX12_costOf_49 : decode cX12_costOf 49 = .ok (.iload_n 3, 1) := by decide +kernel
theorem dX12_costOf_50 : decode cX12_costOf 50 = .ok (.iload_n 2, 1) := by decide +kernel
theorem dX12_costOf_51 : decode cX12_costOf 51 = .ok (.iadd, 1) := by decide +kernel
theorem dX12_costOf_52 : decode cX12_costOf 52 = .ok (.iconst 1, 1) := by decide +kernel
theorem dX12_costOf_53 : decode cX12_costOf 53 = .ok (.isub, 1) := by decide +kernel
theorem dX12_costOf_54 : decode cX12_costOf 54 = .ok (.iload_n 2, 1) := by decide +kernel
theorem dX12_costOf_55 : decode cX12_costOf 55 = .ok (.idiv, 1) := by decide +kernel
theorem dX12_costOf_56 : decode cX12_costOf 56 = .ok (.ireturn, 1) := by decide +kernel
theorem dX12_turnsCost_0 : decode cX12_turnsCost 0 = .ok (.iconst 0, 1) := by decide +kernel
theorem dX12_turnsCost_1 : decode cX12_turnsCost 1 = .ok (.istore 4, 2) := by decide +kernel
theorem dX12_turnsCost_3 : decode cX12_turnsCost 3 = .ok (.iconst 0, 1) := by decide +kernel
theorem dX12_turnsCost_4 : decode cX12_turnsCost 4 = .ok (.istore 5, 2) := by decide +kernel
theorem dX12_turnsCost_6 : decode cX12_turnsCost 6 = .ok (.iload 5, 2) := by decide +kernel
theorem dX12_turnsCost_8 : decode cX12_turnsCost 8 = .ok (.aload_n 0, 1) := by decide +kernel
theorem dX12_turnsCost_9 : decode cX12_turnsCost 9 = .ok (.getfield 326, 3) := by decide +kernel
theorem dX12_turnsCost_12 : decode cX12_turnsCost 12 = .ok (.if_icmp .ge 34, 3) := by decide +kernel
theorem dX12_turnsCost_15 : decode cX12_turnsCost 15 = .ok (.iload 4, 2) := by decide +kernel
theorem dX12_turnsCost_17 : decode cX12_turnsCost 17 = .ok (.aload_n 0, 1) := by decide +kernel
theorem dX12_turnsCost_18 : decode cX12_turnsCost 18 = .ok (.iload 5, 2) := by decide +kernel
theorem dX12_turnsCost_20 : decode cX12_turnsCost 20 = .ok (.iload 5, 2) := by decide +kernel
theorem dX12_turnsCost_22 : decode cX12_turnsCost 22 = .ok (.iload_n 3, 1) := by decide +kernel
theorem dX12_turnsCost_23 : decode cX12_turnsCost 23 = .ok (.iadd, 1) := by decide +kernel
theorem dX12_turnsCost_24 : decode cX12_turnsCost 24 = .ok (.iconst 2, 1) := by decide +kernel
theorem dX12_turnsCost_25 : decode cX12_turnsCost 25 = .ok (.irem, 1) := by decide +kernel
theorem dX12_turnsCost_26 : decode cX12_turnsCost 26 = .ok (.ifCond .ne 7, 3) := by decide +kernel
theorem dX12_turnsCost_29 : decode cX12_turnsCost 29 = .ok (.iload_n 1, 1) := by decide +kernel
theorem dX12_turnsCost_30 : decode cX12_turnsCost 30 = .ok (.goto 4, 3) := by decide +kernel
theorem dX12_turnsCost_33 : decode cX12_turnsCost 33 = .ok (.iload_n 2, 1) := by decide +kernel
theorem dX12_turnsCost_34 : decode cX12_turnsCost 34 = .ok (.invokevirtual 334, 3) := by decide +kernel
theorem dX12_turnsCost_37 : decode cX12_turnsCost 37 = .ok (.iadd, 1) := by decide +kernel
theorem dX12_turnsCost_38 : decode cX12_turnsCost 38 = .ok (.istore 4, 2) := by decide +kernel
theorem dX12_turnsCost_40 : decode cX12_turnsCost 40 = .ok (.iinc 5 1, 3) := by decide +kernel
theorem dX12_turnsCost_43 : decode cX12_turnsCost 43 = .ok (.goto (-37), 3) := by decide +kernel
theorem dX12_turnsCost_46 : decode cX12_turnsCost 46 = .ok (.iload 4, 2) := by decide +kernel
theorem dX12_turnsCost_48 : decode cX12_turnsCost 48 = .ok (.ireturn, 1) := by decide +kernel
theorem dX12_leads_0 : decode cX12_leads 0 = .ok (.iload_n 1, 1) := by decide +kernel
theorem dX12_leads_1 : decode cX12_leads 1 = .ok (.i2l, 1) := by decide +kernel
theorem dX12_leads_2 : decode cX12_leads 2 = .ok (.lconst 1, 1) := by decide +kernel
theorem dX12_leads_3 : decode cX12_leads 3 = .ok (.ldc2_w 337, 3) := by decide +kernel
theorem dX12_leads_6 : decode cX12_leads 6 = .ok (.invokestatic 82, 3) := by decide +kernel
theorem dX12_leads_9 : decode cX12_leads 9 = .ok (.ifCond .eq 35, 3) := by decide +kernel
theorem dX12_leads_12 : decode cX12_leads 12 = .ok (.iload_n 2, 1) := by decide +kernel
theorem dX12_leads_13 : decode cX12_leads 13 = .ok (.i2l, 1) := by decide +kernel
theorem dX12_leads_14 : decode cX12_leads 14 = .ok (.lconst 1, 1) := by decide +kernel
theorem dX12_leads_15 : decode cX12_leads 15 = .ok (.ldc2_w 337, 3) := by decide +kernel
theorem dX12_leads_18 : decode cX12_leads 18 = .ok (.invokestatic 82, 3) := by decide +kernel
theorem dX12_leads_21 : decode cX12_leads 21 = .ok (.ifCond .eq 23, 3) := by decide +kernel
theorem dX12_leads_24 : decode cX12_leads 24 = .ok (.iload 4, 2) := by decide +kernel
theorem dX12_leads_26 : decode cX12_leads 26 = .ok (.ifCond .eq 20, 3) := by decide +kernel
theorem dX12_leads_29 : decode cX12_leads 29 = .ok (.iload 4, 2) := by decide +kernel
theorem dX12_leads_31 : decode cX12_leads 31 = .ok (.i2l, 1) := by decide +kernel
theorem dX12_leads_32 : decode cX12_leads 32 = .ok (.ldc2_w 187, 3) := by decide +kernel
theorem dX12_leads_35 : decode cX12_leads 35 = .ok (.ldc2_w 329, 3) := by decide +kernel
theorem dX12_leads_38 : decode cX12_leads 38 = .ok (.invokestatic 82, 3) := by decide +kernel
theorem dX12_leads_41 : decode cX12_leads 41 = .ok (.ifCond .ne 5, 3) := by decide +kernel
theorem dX12_leads_44 : decode cX12_leads 44 = .ok (.iconst (-1), 1) := by decide +kernel
theorem dX12_leads_45 : decode cX12_leads 45 = .ok (.ireturn, 1) := by decide +kernel
theorem dX12_leads_46 : decode cX12_leads 46 = .ok (.aload_n 0, 1) := by decide +kernel
theorem dX12_leads_47 : decode cX12_leads 47 = .ok (.invokevirtual 331, 3) := by decide +kernel
theorem dX12_leads_50 : decode cX12_leads 50 = .ok (.aload_n 0, 1) := by decide +kernel
theorem dX12_leads_51 : decode cX12_leads 51 = .ok (.getfield 326, 3) := by decide +kernel
theorem dX12_leads_54 : decode cX12_leads 54 = .ok (.bipush (-4), 2) := by decide +kernel
theorem dX12_leads_56 : decode cX12_leads 56 = .ok (.if_icmp .ne 6, 3) := by decide +kernel
theorem dX12_leads_59 : decode cX12_leads 59 = .ok (.bipush (-4), 2) := by decide +kernel
theorem dX12_leads_61 : decode cX12_leads 61 = .ok (.ireturn, 1) := by decide +kernel
theorem dX12_leads_62 : decode cX12_leads 62 = .ok (.iload 4, 2) := by decide +kernel
theorem dX12_leads_64 : decode cX12_leads 64 = .ok (.ifCond .eq 17, 3) := by decide +kernel
theorem dX12_leads_67 : decode cX12_leads 67 = .ok (.iload 4, 2) := by decide +kernel
theorem dX12_leads_69 : decode cX12_leads 69 = .ok (.bipush 10, 2) := by decide +kernel
theorem dX12_leads_71 : decode cX12_leads 71 = .ok (.isub, 1) := by decide +kernel
theorem dX12_leads_72 : decode cX12_leads 72 = .ok (.aload_n 0, 1) := by decide +kernel
theorem dX12_leads_73 : decode cX12_leads 73 = .ok (.getfield 326, 3) := by decide +kernel
theorem dX12_leads_76 : decode cX12_leads 76 = .ok (.if_icmp .lt 5, 3) := by decide +kernel
theorem dX12_leads_79 : decode cX12_leads 79 = .ok (.iconst (-1), 1) := by decide +kernel
theorem dX12_leads_80 : decode cX12_leads 80 = .ok (.ireturn, 1) := by decide +kernel
theorem dX12_leads_81 : decode cX12_leads 81 = .ok (.iload_n 3, 1) := by decide +kernel
theorem dX12_leads_82 : decode cX12_leads 82 = .ok (.ifCond .eq 54, 3) := by decide +kernel
theorem dX12_leads_85 : decode cX12_leads 85 = .ok (.aload_n 0, 1) := by decide +kernel
theorem dX12_leads_86 : decode cX12_leads 86 = .ok (.iload_n 1, 1) := by decide +kernel
theorem dX12_leads_87 : decode cX12_leads 87 = .ok (.iload_n 2, 1) := by decide +kernel
theorem dX12_leads_88 : decode cX12_leads 88 = .ok (.iconst 1, 1) := by decide +kernel
theorem dX12_leads_89 : decode cX12_leads 89 = .ok (.invokevirtual 339, 3) := by decide +kernel
theorem dX12_leads_92 : decode cX12_leads 92 = .ok (.aload_n 0, 1) := by decide +kernel
theorem dX12_leads_93 : decode cX12_leads 93 = .ok (.iload_n 1, 1) := by decide +kernel
theorem dX12_leads_94 : decode cX12_leads 94 = .ok (.iload_n 2, 1) := by decide +kernel
theorem dX12_leads_95 : decode cX12_leads 95 = .ok (.iconst 0, 1) := by decide +kernel
theorem dX12_leads_96 : decode cX12_leads 96 = .ok (.invokevirtual 339, 3) := by decide +kernel
theorem dX12_leads_99 : decode cX12_leads 99 = .ok (.if_icmp .ge 7, 3) := by decide +kernel
theorem dX12_leads_102 : decode cX12_leads 102 = .ok (.iconst 1, 1) := by decide +kernel
theorem dX12_leads_103 : decode cX12_leads 103 = .ok (.goto 4, 3) := by decide +kernel
theorem dX12_leads_106 : decode cX12_leads 106 = .ok (.iconst 0, 1) := by decide +kernel
theorem dX12_leads_107 : decode cX12_leads 107 = .ok (.istore 5, 2) := by decide +kernel
theorem dX12_leads_109 : decode cX12_leads 109 = .ok (.iload 4, 2) := by decide +kernel
theorem dX12_leads_111 : decode cX12_leads 111 = .ok (.ifCond .ne 14, 3) := by decide +kernel
theorem dX12_leads_114 : decode cX12_leads 114 = .ok (.aload_n 0, 1) := by decide +kernel
theorem dX12_leads_115 : decode cX12_leads 115 = .ok (.iload_n 1, 1) := by decide +kernel
theorem dX12_leads_116 : decode cX12_leads 116 = .ok (.iload_n 2, 1) := by decide +kernel
theorem dX12_leads_117 : decode cX12_leads 117 = .ok (.iload 5, 2) := by decide +kernel
theorem dX12_leads_119 : decode cX12_leads 119 = .ok (.invokevirtual 339, 3) := by decide +kernel
theorem dX12_leads_122 : decode cX12_leads 122 = .ok (.goto 13, 3) := by decide +kernel
theorem dX12_leads_125 : decode cX12_leads 125 = .ok (.iload 4, 2) := by decide +kernel
theorem dX12_leads_127 : decode cX12_leads 127 = .ok (.bipush 10, 2) := by decide +kernel
theorem dX12_leads_129 : decode cX12_leads 129 = .ok (.isub, 1) := by decide +kernel
theorem dX12_leads_130 : decode cX12_leads 130 = .ok (.iload 5, 2) := by decide +kernel
theorem dX12_leads_132 : decode cX12_leads 132 = .ok (.iadd, 1) := by decide +kernel
theorem dX12_leads_133 : decode cX12_leads 133 = .ok (.iconst 2, 1) := by decide +kernel
theorem dX12_leads_134 : decode cX12_leads 134 = .ok (.irem, 1) := by decide +kernel
theorem dX12_leads_135 : decode cX12_leads 135 = .ok (.ireturn, 1) := by decide +kernel
theorem dX12_leads_136 : decode cX12_leads 136 = .ok (.iconst 0, 1) := by decide +kernel
theorem dX12_leads_137 : decode cX12_leads 137 = .ok (.istore 5, 2) := by decide +kernel
theorem dX12_leads_139 : decode cX12_leads 139 = .ok (.iconst 0, 1) := by decide +kernel
theorem dX12_leads_140 : decode cX12_leads 140 = .ok (.istore 6, 2) := by decide +kernel
theorem dX12_leads_142 : decode cX12_leads 142 = .ok (.iload 6, 2) := by decide +kernel
theorem dX12_leads_144 : decode cX12_leads 144 = .ok (.aload_n 0, 1) := by decide +kernel
theorem dX12_leads_145 : decode cX12_leads 145 = .ok (.getfield 326, 3) := by decide +kernel
theorem dX12_leads_148 : decode cX12_leads 148 = .ok (.if_icmp .ge 46, 3) := by decide +kernel
theorem dX12_leads_151 : decode cX12_leads 151 = .ok (.aload_n 0, 1) := by decide +kernel
theorem dX12_leads_152 : decode cX12_leads 152 = .ok (.iload 6, 2) := by decide +kernel
theorem dX12_leads_154 : decode cX12_leads 154 = .ok (.iload_n 1, 1) := by decide +kernel
theorem dX12_leads_155 : decode cX12_leads 155 = .ok (.invokevirtual 334, 3) := by decide +kernel
theorem dX12_leads_158 : decode cX12_leads 158 = .ok (.istore 7, 2) := by decide +kernel
theorem dX12_leads_160 : decode cX12_leads 160 = .ok (.aload_n 0, 1) := by decide +kernel
theorem dX12_leads_161 : decode cX12_leads 161 = .ok (.iload 6, 2) := by decide +kernel
theorem dX12_leads_163 : decode cX12_leads 163 = .ok (.iload_n 2, 1) := by decide +kernel
theorem dX12_leads_164 : decode cX12_leads 164 = .ok (.invokevirtual 334, 3) := by decide +kernel
theorem dX12_leads_167 : decode cX12_leads 167 = .ok (.istore 8, 2) := by decide +kernel
theorem dX12_leads_169 : decode cX12_leads 169 = .ok (.iload 5, 2) := by decide +kernel
theorem dX12_leads_171 : decode cX12_leads 171 = .ok (.iload 8, 2) := by decide +kernel
theorem dX12_leads_173 : decode cX12_leads 173 = .ok (.iload 7, 2) := by decide +kernel
theorem dX12_leads_175 : decode cX12_leads 175 = .ok (.if_icmp .ge 8, 3) := by decide +kernel
theorem dX12_leads_178 : decode cX12_leads 178 = .ok (.iload 8, 2) := by decide +kernel
theorem dX12_leads_180 : decode cX12_leads 180 = .ok (.goto 5, 3) := by decide +kernel
theorem dX12_leads_183 : decode cX12_leads 183 = .ok (.iload 7, 2) := by decide +kernel
theorem dX12_leads_185 : decode cX12_leads 185 = .ok (.iadd, 1) := by decide +kernel
theorem dX12_leads_186 : decode cX12_leads 186 = .ok (.istore 5, 2) := by decide +kernel
theorem dX12_leads_188 : decode cX12_leads 188 = .ok (.iinc 6 1, 3) := by decide +kernel
theorem dX12_leads_191 : decode cX12_leads 191 = .ok (.goto (-49), 3) := by decide +kernel
theorem dX12_leads_194 : decode cX12_leads 194 = .ok (.iload 4, 2) := by decide +kernel
theorem dX12_leads_196 : decode cX12_leads 196 = .ok (.ifCond .ne 8, 3) := by decide +kernel
theorem dX12_leads_199 : decode cX12_leads 199 = .ok (.iload 5, 2) := by decide +kernel
theorem dX12_leads_201 : decode cX12_leads 201 = .ok (.goto 34, 3) := by decide +kernel
theorem dX12_leads_204 : decode cX12_leads 204 = .ok (.aload_n 0, 1) := by decide +kernel
theorem dX12_leads_205 : decode cX12_leads 205 = .ok (.iload 4, 2) := by decide +kernel
theorem dX12_leads_207 : decode cX12_leads 207 = .ok (.bipush 10, 2) := by decide +kernel
theorem dX12_leads_209 : decode cX12_leads 209 = .ok (.isub, 1) := by decide +kernel
theorem dX12_leads_210 : decode cX12_leads 210 = .ok (.iload_n 2, 1) := by decide +kernel
theorem dX12_leads_211 : decode cX12_leads 211 = .ok (.invokevirtual 334, 3) := by decide +kernel
theorem dX12_leads_214 : decode cX12_leads 214 = .ok (.aload_n 0, 1) := by decide +kernel
theorem dX12_leads_215 : decode cX12_leads 215 = .ok (.iload 4, 2) := by decide +kernel
theorem dX12_leads_217 : decode cX12_leads 217 = .ok (.bipush 10, 2) := by decide +kernel
theorem dX12_leads_219 : decode cX12_leads 219 = .ok (.isub, 1) := by decide +kernel
theorem dX12_leads_220 : decode cX12_leads 220 = .ok (.iload_n 1, 1) := by decide +kernel
theorem dX12_leads_221 : decode cX12_leads 221 = .ok (.invokevirtual 334, 3) := by decide +kernel
theorem dX12_leads_224 : decode cX12_leads 224 = .ok (.if_icmp .ge 7, 3) := by decide +kernel
theorem dX12_leads_227 : decode cX12_leads 227 = .ok (.iconst 1, 1) := by decide +kernel
theorem dX12_leads_228 : decode cX12_leads 228 = .ok (.goto 4, 3) := by decide +kernel
theorem dX12_leads_231 : decode cX12_leads 231 = .ok (.iconst 0, 1) := by decide +kernel
theorem dX12_leads_232 : decode cX12_leads 232 = .ok (.invokestatic 168, 3) := by decide +kernel
theorem dX12_leads_235 : decode cX12_leads 235 = .ok (.ireturn, 1) := by decide +kernel
theorem dX12_down_0 : decode cX12_down 0 = .ok (.iload_n 1, 1) := by decide +kernel
theorem dX12_down_1 : decode cX12_down 1 = .ok (.i2l, 1) := by decide +kernel
theorem dX12_down_2 : decode cX12_down 2 = .ok (.lconst 0, 1) := by decide +kernel
theorem dX12_down_3 : decode cX12_down 3 = .ok (.aload_n 0, 1) := by decide +kernel
theorem dX12_down_4 : decode cX12_down 4 = .ok (.getfield 17, 3) := by decide +kernel
theorem dX12_down_7 : decode cX12_down 7 = .ok (.iconst 0, 1) := by decide +kernel
theorem dX12_down_8 : decode cX12_down 8 = .ok (.iaload, 1) := by decide +kernel
theorem dX12_down_9 : decode cX12_down 9 = .ok (.i2l, 1) := by decide +kernel
theorem dX12_down_10 : decode cX12_down 10 = .ok (.invokestatic 82, 3) := by decide +kernel
theorem dX12_down_13 : decode cX12_down 13 = .ok (.ifCond .ne 5, 3) := by decide +kernel
theorem dX12_down_16 : decode cX12_down 16 = .ok (.iconst (-1), 1) := by decide +kernel
theorem dX12_down_17 : decode cX12_down 17 = .ok (.ireturn, 1) := by decide +kernel
theorem dX12_down_18 : decode cX12_down 18 = .ok (.iconst 0, 1) := by decide +kernel
theorem dX12_down_19 : decode cX12_down 19 = .ok (.istore_n 2, 1) := by decide +kernel
theorem dX12_down_20 : decode cX12_down 20 = .ok (.iload_n 2, 1) := by decide +kernel
theorem dX12_down_21 : decode cX12_down 21 = .ok (.iload_n 1, 1) := by decide +kernel
theorem dX12_down_22 : decode cX12_down 22 = .ok (.if_icmp .gt 157, 3) := by decide +kernel
theorem dX12_down_25 : decode cX12_down 25 = .ok (.aload_n 0, 1) := by decide +kernel
theorem dX12_down_26 : decode cX12_down 26 = .ok (.getfield 47, 3) := by decide +kernel
theorem dX12_down_29 : decode cX12_down 29 = .ok (.iload_n 2, 1) := by decide +kernel
theorem dX12_down_30 : decode cX12_down 30 = .ok (.iload_n 2, 1) := by decide +kernel
theorem dX12_down_31 : decode cX12_down 31 = .ok (.ifCond .ne 7, 3) := by decide +kernel
theorem dX12_down_34 : decode cX12_down 34 = .ok (.iconst 0, 1) := by decide +kernel
theorem dX12_down_35 : decode cX12_down 35 = .ok (.goto 5, 3) := by decide +kernel
theorem dX12_down_38 : decode cX12_down 38 = .ok (.bipush (-4), 2) := by decide +kernel
theorem dX12_down_40 : decode cX12_down 40 = .ok (.iastore, 1) := by decide +kernel
theorem dX12_down_41 : decode cX12_down 41 = .ok (.iconst 0, 1) := by decide +kernel
theorem dX12_down_42 : decode cX12_down 42 = .ok (.istore_n 3, 1) := by decide +kernel
theorem dX12_down_43 : decode cX12_down 43 = .ok (.iload_n 3, 1) := by decide +kernel
theorem dX12_down_44 : decode cX12_down 44 = .ok (.iload_n 2, 1) := by decide +kernel
theorem dX12_down_45 : decode cX12_down 45 = .ok (.if_icmp .ge 128, 3) := by decide +kernel
theorem dX12_down_48 : decode cX12_down 48 = .ok (.iload_n 3, 1) := by decide +kernel
theorem dX12_down_49 : decode cX12_down 49 = .ok (.ifCond .eq 11, 3) := by decide +kernel
theorem dX12_down_52 : decode cX12_down 52 = .ok (.aload_n 0, 1) := by decide +kernel
theorem dX12_down_53 : decode cX12_down 53 = .ok (.iload_n 3, 1) := by decide +kernel
theorem dX12_down_54 : decode cX12_down 54 = .ok (.invokevirtual 323, 3) := by decide +kernel
theorem dX12_down_57 : decode cX12_down 57 = .ok (.ifCond .eq 32, 3) := by decide +kernel
theorem dX12_down_60 : decode cX12_down 60 = .ok (.aload_n 0, 1) := by decide +kernel
theorem dX12_down_61 : decode cX12_down 61 = .ok (.getfield 47, 3) := by decide +kernel
theorem dX12_down_64 : decode cX12_down 64 = .ok (.iload_n 3, 1) := by decide +kernel
theorem dX12_down_65 : decode cX12_down 65 = .ok (.iaload, 1) := by decide +kernel
theorem dX12_down_66 : decode cX12_down 66 = .ok (.bipush (-4), 2) := by decide +kernel
theorem dX12_down_68 : decode cX12_down 68 = .ok (.if_icmp .eq 21, 3) := by decide +kernel
theorem dX12_down_71 : decode cX12_down 71 = .ok (.iload_n 2, 1) := by decide +kernel
theorem dX12_down_72 : decode cX12_down 72 = .ok (.iload_n 3, 1) := by decide +kernel
theorem dX12_down_73 : decode cX12_down 73 = .ok (.isub, 1) := by decide +kernel
theorem dX12_down_74 : decode cX12_down 74 = .ok (.aload_n 0, 1) := by decide +kernel
theorem dX12_down_75 : decode cX12_down 75 = .ok (.getfield 17, 3) := by decide +kernel
theorem dX12_down_78 : decode cX12_down 78 = .ok (.iconst 3, 1) := by decide +kernel
theorem dX12_down_79 : decode cX12_down 79 = .ok (.iaload, 1) := by decide +kernel
theorem dX12_down_80 : decode cX12_down 80 = .ok (.iconst 2, 1) := by decide +kernel
theorem dX12_down_81 : decode cX12_down 81 = .ok (.idiv, 1) := by decide +kernel
theorem dX12_down_82 : decode cX12_down 82 = .ok (.if_icmp .gt 7, 3) := by decide +kernel
theorem dX12_down_85 : decode cX12_down 85 = .ok (.iconst 1, 1) := by decide +kernel
theorem dX12_down_86 : decode cX12_down 86 = .ok (.goto 4, 3) := by decide +kernel
theorem dX12_down_89 : decode cX12_down 89 = .ok (.iconst 0, 1) := by decide +kernel
theorem dX12_down_90 : decode cX12_down 90 = .ok (.istore 4, 2) := by decide +kernel
theorem dX12_down_92 : decode cX12_down 92 = .ok (.iload 4, 2) := by decide +kernel
theorem dX12_down_94 : decode cX12_down 94 = .ok (.ifCond .eq 26, 3) := by decide +kernel
theorem dX12_down_97 : decode cX12_down 97 = .ok (.aload_n 0, 1) := by decide +kernel
theorem dX12_down_98 : decode cX12_down 98 = .ok (.getfield 47, 3) := by decide +kernel
theorem dX12_down_101 : decode cX12_down 101 = .ok (.iload_n 3, 1) := by decide +kernel
theorem dX12_down_102 : decode cX12_down 102 = .ok (.iaload, 1) := by decide +kernel
theorem dX12_down_103 : decode cX12_down 103 = .ok (.aload_n 0, 1) := by decide +kernel
theorem dX12_down_104 : decode cX12_down 104 = .ok (.iload_n 2, 1) := by decide +kernel
theorem dX12_down_105 : decode cX12_down 105 = .ok (.invokevirtual 323, 3) := by decide +kernel
theorem dX12_down_108 : decode cX12_down 108 = .ok (.ifCond .eq 7, 3) := by decide +kernel
theorem dX12_down_111 : decode cX12_down 111 = .ok (.iconst 1, 1) := by decide +kernel
theorem dX12_down_112 : decode cX12_down 112 = .ok (.goto 4, 3) := by decide +kernel
theorem dX12_down_115 : decode cX12_down 115 = .ok (.iconst 2, 1) := by decide +kernel
theorem dX12_down_116 : decode cX12_down 116 = .ok (.iadd, 1) := by decide +kernel
theorem dX12_down_117 : decode cX12_down 117 = .ok (.goto 4, 3) := by decide +kernel
theorem dX12_down_120 : decode cX12_down 120 = .ok (.iconst 0, 1) := by decide +kernel
theorem dX12_down_121 : decode cX12_down 121 = .ok (.istore 5, 2) := by decide +kernel
theorem dX12_down_123 : decode cX12_down 123 = .ok (.aload_n 0, 1) := by decide +kernel
theorem dX12_down_124 : decode cX12_down 124 = .ok (.getfield 47, 3) := by decide +kernel
theorem dX12_down_127 : decode cX12_down 127 = .ok (.iload_n 2, 1) := by decide +kernel
theorem dX12_down_128 : decode cX12_down 128 = .ok (.iload 4, 2) := by decide +kernel
theorem dX12_down_130 : decode cX12_down 130 = .ok (.ifCond .eq 30, 3) := by decide +kernel
theorem dX12_down_133 : decode cX12_down 133 = .ok (.aload_n 0, 1) := by decide +kernel
theorem dX12_down_134 : decode cX12_down 134 = .ok (.getfield 47, 3) := by decide +kernel
theorem dX12_down_137 : decode cX12_down 137 = .ok (.iload_n 2, 1) := by decide +kernel
theorem dX12_down_138 : decode cX12_down 138 = .ok (.iaload, 1) := by decide +kernel
theorem dX12_down_139 : decode cX12_down 139 = .ok (.bipush (-4), 2) := by decide +kernel
theorem dX12_down_141 : decode cX12_down 141 = .ok (.if_icmp .eq 14, 3) := by decide +kernel
theorem dX12_down_144 : decode cX12_down 144 = .ok (.iload 5, 2) := by decide +kernel
theorem dX12_down_146 : decode cX12_down 146 = .ok (.aload_n 0, 1) := by decide +kernel
theorem dX12_down_147 : decode cX12_down 147 = .ok (.getfield 47, 3) := by decide +kernel
theorem dX12_down_150 : decode cX12_down 150 = .ok (.iload_n 2, 1) := by decide +kernel
theorem dX12_down_151 : decode cX12_down 151 = .ok (.iaload, 1) := by decide +kernel
theorem dX12_down_152 : decode cX12_down 152 = .ok (.if_icmp .ge 8, 3) := by decide +kernel
theorem dX12_down_155 : decode cX12_down 155 = .ok (.iload 5, 2) := by decide +kernel
theorem dX12_down_157 : decode cX12_down 157 = .ok (.goto 9, 3) := by decide +kernel
theorem dX12_down_160 : decode cX12_down 160 = .ok (.aload_n 0, 1) := by decide +kernel
theorem dX12_down_161 : decode cX12_down 161 = .ok (.getfield 47, 3) := by decide +kernel
theorem dX12_down_164 : decode cX12_down 164 = .ok (.iload_n 2, 1) := by decide +kernel
theorem dX12_down_165 : decode cX12_down 165 = .ok (.iaload, 1) := by decide +kernel
theorem dX12_down_166 : decode cX12_down 166 = .ok (.iastore, 1) := by decide +kernel
theorem dX12_down_167 : decode cX12_down 167 = .ok (.iinc 3 1, 3) := by decide +kernel
theorem dX12_down_170 : decode cX12_down 170 = .ok (.goto (-127), 3) := by decide +kernel
theorem dX12_down_173 : decode cX12_down 173 = .ok (.iinc 2 1, 3) := by decide +kernel
theorem dX12_down_176 : decode cX12_down 176 = .ok (.goto (-156), 3) := by decide +kernel
theorem dX12_down_179 : decode cX12_down 179 = .ok (.aload_n 0, 1) := by decide +kernel
theorem dX12_down_180 : decode cX12_down 180 = .ok (.getfield 47, 3) := by decide +kernel
theorem dX12_down_183 : decode cX12_down 183 = .ok (.iload_n 1, 1) := by decide +kernel
theorem dX12_down_184 : decode cX12_down 184 = .ok (.iaload, 1) := by decide +kernel
theorem dX12_down_185 : decode cX12_down 185 = .ok (.ireturn, 1) := by decide +kernel
theorem dX12_triesAll_0 : decode cX12_triesAll 0 = .ok (.aload_n 0, 1) := by decide +kernel
theorem dX12_triesAll_1 : decode cX12_triesAll 1 = .ok (.getfield 7, 3) := by decide +kernel
theorem dX12_triesAll_4 : decode cX12_triesAll 4 = .ok (.bipush 93, 2) := by decide +kernel
theorem dX12_triesAll_6 : decode cX12_triesAll 6 = .ok (.iaload, 1) := by decide +kernel
theorem dX12_triesAll_7 : decode cX12_triesAll 7 = .ok (.aload_n 0, 1) := by decide +kernel
theorem dX12_triesAll_8 : decode cX12_triesAll 8 = .ok (.getfield 7, 3) := by decide +kernel
theorem dX12_triesAll_11 : decode cX12_triesAll 11 = .ok (.bipush 95, 2) := by decide +kernel
theorem dX12_triesAll_13 : decode cX12_triesAll 13 = .ok (.iaload, 1) := by decide +kernel
theorem dX12_triesAll_14 : decode cX12_triesAll 14 = .ok (.iadd, 1) := by decide +kernel
theorem dX12_triesAll_15 : decode cX12_triesAll 15 = .ok (.ireturn, 1) := by decide +kernel
theorem dX12_tried_0 : decode cX12_tried 0 = .ok (.iload_n 1, 1) := by decide +kernel
theorem dX12_tried_1 : decode cX12_tried 1 = .ok (.i2l, 1) := by decide +kernel
theorem dX12_tried_2 : decode cX12_tried 2 = .ok (.lconst 0, 1) := by decide +kernel
theorem dX12_tried_3 : decode cX12_tried 3 = .ok (.lconst 1, 1) := by decide +kernel
theorem dX12_tried_4 : decode cX12_tried 4 = .ok (.invokestatic 82, 3) := by decide +kernel
theorem dX12_tried_7 : decode cX12_tried 7 = .ok (.ifCond .ne 5, 3) := by decide +kernel
theorem dX12_tried_10 : decode cX12_tried 10 = .ok (.iconst (-1), 1) := by decide +kernel
theorem dX12_tried_11 : decode cX12_tried 11 = .ok (.ireturn, 1) := by decide +kernel
theorem dX12_tried_12 : decode cX12_tried 12 = .ok (.aload_n 0, 1) := by decide +kernel
theorem dX12_tried_13 : decode cX12_tried 13 = .ok (.invokevirtual 343, 3) := by decide +kernel
theorem dX12_tried_16 : decode cX12_tried 16 = .ok (.sipush 999, 3) := by decide +kernel
theorem dX12_tried_19 : decode cX12_tried 19 = .ok (.if_icmp .ne 6, 3) := by decide +kernel
theorem dX12_tried_22 : decode cX12_tried 22 = .ok (.bipush (-3), 2) := by decide +kernel
theorem dX12_tried_24 : decode cX12_tried 24 = .ok (.ireturn, 1) := by decide +kernel
theorem dX12_tried_25 : decode cX12_tried 25 = .ok (.aload_n 0, 1) := by decide +kernel
theorem dX12_tried_26 : decode cX12_tried 26 = .ok (.getfield 7, 3) := by decide +kernel
theorem dX12_tried_29 : decode cX12_tried 29 = .ok (.bipush 93, 2) := by decide +kernel
theorem dX12_tried_31 : decode cX12_tried 31 = .ok (.iconst 2, 1) := by decide +kernel
theorem dX12_tried_32 : decode cX12_tried 32 = .ok (.iload_n 1, 1) := by decide +kernel
theorem dX12_tried_33 : decode cX12_tried 33 = .ok (.imul, 1) := by decide +kernel
theorem dX12_tried_34 : decode cX12_tried 34 = .ok (.iadd, 1) := by decide +kernel
theorem dX12_tried_35 : decode cX12_tried 35 = .ok (.dup2, 1) := by decide +kernel
theorem dX12_tried_36 : decode cX12_tried 36 = .ok (.iaload, 1) := by decide +kernel
theorem dX12_tried_37 : decode cX12_tried 37 = .ok (.iconst 1, 1) := by decide +kernel
theorem dX12_tried_38 : decode cX12_tried 38 = .ok (.iadd, 1) := by decide +kernel
theorem dX12_tried_39 : decode cX12_tried 39 = .ok (.iastore, 1) := by decide +kernel
theorem dX12_tried_40 : decode cX12_tried 40 = .ok (.aload_n 0, 1) := by decide +kernel
theorem dX12_tried_41 : decode cX12_tried 41 = .ok (.getfield 7, 3) := by decide +kernel
theorem dX12_tried_44 : decode cX12_tried 44 = .ok (.bipush 93, 2) := by decide +kernel
theorem dX12_tried_46 : decode cX12_tried 46 = .ok (.iconst 2, 1) := by decide +kernel
theorem dX12_tried_47 : decode cX12_tried 47 = .ok (.iload_n 1, 1) := by decide +kernel
theorem dX12_tried_48 : decode cX12_tried 48 = .ok (.imul, 1) := by decide +kernel
theorem dX12_tried_49 : decode cX12_tried 49 = .ok (.iadd, 1) := by decide +kernel
theorem dX12_tried_50 : decode cX12_tried 50 = .ok (.iconst 1, 1) := by decide +kernel
theorem dX12_tried_51 : decode cX12_tried 51 = .ok (.iadd, 1) := by decide +kernel
theorem dX12_tried_52 : decode cX12_tried 52 = .ok (.dup2, 1) := by decide +kernel
theorem dX12_tried_53 : decode cX12_tried 53 = .ok (.iaload, 1) := by decide +kernel
theorem dX12_tried_54 : decode cX12_tried 54 = .ok (.iload_n 2, 1) := by decide +kernel
theorem dX12_tried_55 : decode cX12_tried 55 = .ok (.invokestatic 168, 3) := by decide +kernel
theorem dX12_tried_58 : decode cX12_tried 58 = .ok (.iadd, 1) := by decide +kernel
theorem dX12_tried_59 : decode cX12_tried 59 = .ok (.iastore, 1) := by decide +kernel
theorem dX12_tried_60 : decode cX12_tried 60 = .ok (.aload_n 0, 1) := by decide +kernel
theorem dX12_tried_61 : decode cX12_tried 61 = .ok (.getfield 7, 3) := by decide +kernel
theorem dX12_tried_64 : decode cX12_tried 64 = .ok (.bipush 93, 2) := by decide +kernel
theorem dX12_tried_66 : decode cX12_tried 66 = .ok (.iconst 2, 1) := by decide +kernel
theorem dX12_tried_67 : decode cX12_tried 67 = .ok (.iload_n 1, 1) := by decide +kernel
theorem dX12_tried_68 : decode cX12_tried 68 = .ok (.imul, 1) := by decide +kernel
theorem dX12_tried_69 : decode cX12_tried 69 = .ok (.iadd, 1) := by decide +kernel
theorem dX12_tried_70 : decode cX12_tried 70 = .ok (.iaload, 1) := by decide +kernel
theorem dX12_tried_71 : decode cX12_tried 71 = .ok (.ireturn, 1) := by decide +kernel
theorem dX12_eye_0 : decode cX12_eye 0 = .ok (.iload_n 1, 1) := by decide +kernel
theorem dX12_eye_1 : decode cX12_eye 1 = .ok (.i2l, 1) := by decide +kernel
theorem dX12_eye_2 : decode cX12_eye 2 = .ok (.lconst 0, 1) := by decide +kernel
theorem dX12_eye_3 : decode cX12_eye 3 = .ok (.lconst 1, 1) := by decide +kernel
theorem dX12_eye_4 : decode cX12_eye 4 = .ok (.invokestatic 82, 3) := by decide +kernel
theorem dX12_eye_7 : decode cX12_eye 7 = .ok (.ifCond .eq 13, 3) := by decide +kernel
theorem dX12_eye_10 : decode cX12_eye 10 = .ok (.iload_n 2, 1) := by decide +kernel
theorem dX12_eye_11 : decode cX12_eye 11 = .ok (.i2l, 1) := by decide +kernel
theorem dX12_eye_12 : decode cX12_eye 12 = .ok (.lconst 0, 1) := by decide +kernel
theorem dX12_eye_13 : decode cX12_eye 13 = .ok (.lconst 1, 1) := by decide +kernel
theorem dX12_eye_14 : decode cX12_eye 14 = .ok (.invokestatic 82, 3) := by decide +kernel
theorem dX12_eye_17 : decode cX12_eye 17 = .ok (.ifCond .ne 5, 3) := by decide +kernel
theorem dX12_eye_20 : decode cX12_eye 20 = .ok (.iconst (-1), 1) := by decide +kernel
theorem dX12_eye_21 : decode cX12_eye 21 = .ok (.ireturn, 1) := by decide +kernel
theorem dX12_eye_22 : decode cX12_eye 22 = .ok (.aload_n 0, 1) := by decide +kernel
theorem dX12_eye_23 : decode cX12_eye 23 = .ok (.getfield 7, 3) := by decide +kernel
theorem dX12_eye_26 : decode cX12_eye 26 = .ok (.bipush 93, 2) := by decide +kernel
theorem dX12_eye_28 : decode cX12_eye 28 = .ok (.iconst 2, 1) := by decide +kernel
theorem dX12_eye_29 : decode cX12_eye 29 = .ok (.iload_n 1, 1) := by decide +kernel
theorem dX12_eye_30 : decode cX12_eye 30 = .ok (.imul, 1) := by decide +kernel
theorem dX12_eye_31 : decode cX12_eye 31 = .ok (.iadd, 1) := by decide +kernel
theorem dX12_eye_32 : decode cX12_eye 32 = .ok (.iaload, 1) := by decide +kernel
theorem dX12_eye_33 : decode cX12_eye 33 = .ok (.istore_n 3, 1) := by decide +kernel
theorem dX12_eye_34 : decode cX12_eye 34 = .ok (.iload_n 3, 1) := by decide +kernel
theorem dX12_eye_35 : decode cX12_eye 35 = .ok (.ifCond .ne 8, 3) := by decide +kernel
theorem dX12_eye_38 : decode cX12_eye 38 = .ok (.bipush (-4), 2) := by decide +kernel
theorem dX12_eye_40 : decode cX12_eye 40 = .ok (.goto 24, 3) := by decide +kernel
theorem dX12_eye_43 : decode cX12_eye 43 = .ok (.aload_n 0, 1) := by decide +kernel
theorem dX12_eye_44 : decode cX12_eye 44 = .ok (.getfield 7, 3) := by decide +kernel
theorem dX12_eye_47 : decode cX12_eye 47 = .ok (.bipush 93, 2) := by decide +kernel
theorem dX12_eye_49 : decode cX12_eye 49 = .ok (.iconst 2, 1) := by decide +kernel
theorem dX12_eye_50 : decode cX12_eye 50 = .ok (.iload_n 1, 1) := by decide +kernel
theorem dX12_eye_51 : decode cX12_eye 51 = .ok (.imul, 1) := by decide +kernel
theorem dX12_eye_52 : decode cX12_eye 52 = .ok (.iadd, 1) := by decide +kernel
theorem dX12_eye_53 : decode cX12_eye 53 = .ok (.iconst 1, 1) := by decide +kernel
theorem dX12_eye_54 : decode cX12_eye 54 = .ok (.iadd, 1) := by decide +kernel
theorem dX12_eye_55 : decode cX12_eye 55 = .ok (.iaload, 1) := by decide +kernel
theorem dX12_eye_56 : decode cX12_eye 56 = .ok (.i2l, 1) := by decide +kernel
theorem dX12_eye_57 : decode cX12_eye 57 = .ok (.iload_n 3, 1) := by decide +kernel
theorem dX12_eye_58 : decode cX12_eye 58 = .ok (.i2l, 1) := by decide +kernel
theorem dX12_eye_59 : decode cX12_eye 59 = .ok (.iload_n 2, 1) := by decide +kernel
theorem dX12_eye_60 : decode cX12_eye 60 = .ok (.invokestatic 267, 3) := by decide +kernel
theorem dX12_eye_63 : decode cX12_eye 63 = .ok (.l2i, 1) := by decide +kernel
theorem dX12_eye_64 : decode cX12_eye 64 = .ok (.ireturn, 1) := by decide +kernel
theorem dX12_learn_0 : decode cX12_learn 0 = .ok (.iconst 0, 1) := by decide +kernel
theorem dX12_learn_1 : decode cX12_learn 1 = .ok (.istore_n 1, 1) := by decide +kernel
theorem dX12_learn_2 : decode cX12_learn 2 = .ok (.iconst 0, 1) := by decide +kernel
theorem dX12_learn_3 : decode cX12_learn 3 = .ok (.istore_n 2, 1) := by decide +kernel
theorem dX12_learn_4 : decode cX12_learn 4 = .ok (.iload_n 2, 1) := by decide +kernel
theorem dX12_learn_5 : decode cX12_learn 5 = .ok (.iconst 2, 1) := by decide +kernel
theorem dX12_learn_6 : decode cX12_learn 6 = .ok (.if_icmp .ge 83, 3) := by decide +kernel
theorem dX12_learn_9 : decode cX12_learn 9 = .ok (.aload_n 0, 1) := by decide +kernel
theorem dX12_learn_10 : decode cX12_learn 10 = .ok (.getfield 7, 3) := by decide +kernel
theorem dX12_learn_13 : decode cX12_learn 13 = .ok (.bipush 93, 2) := by decide +kernel
theorem dX12_learn_15 : decode cX12_learn 15 = .ok (.iconst 2, 1) := by decide +kernel
theorem dX12_learn_16 : decode cX12_learn 16 = .ok (.iload_n 2, 1) := by decide +kernel
theorem dX12_learn_17 : decode cX12_learn 17 = .ok (.imul, 1) := by decide +kernel
theorem dX12_learn_18 : decode cX12_learn 18 = .ok (.iadd, 1) := by decide +kernel
theorem dX12_learn_19 : decode cX12_learn 19 = .ok (.iaload, 1) := by decide +kernel
theorem dX12_learn_20 : decode cX12_learn 20 = .ok (.istore_n 3, 1) := by decide +kernel
theorem dX12_learn_21 : decode cX12_learn 21 = .ok (.iload_n 3, 1) := by decide +kernel
theorem dX12_learn_22 : decode cX12_learn 22 = .ok (.ifCond .le 61, 3) := by decide +kernel
theorem dX12_learn_25 : decode cX12_learn 25 = .ok (.bipush 40, 2) := by decide +kernel
theorem dX12_learn_27 : decode cX12_learn 27 = .ok (.aload_n 0, 1) := by decide +kernel
theorem dX12_learn_28 : decode cX12_learn 28 = .ok (.getfield 7, 3) := by decide +kernel
theorem dX12_learn_31 : decode cX12_learn 31 = .ok (.bipush 93, 2) := by decide +kernel
theorem dX12_learn_33 : decode cX12_learn 33 = .ok (.iconst 2, 1) := by decide +kernel
theorem dX12_learn_34 : decode cX12_learn 34 = .ok (.iload_n 2, 1) := by decide +kernel
theorem dX12_learn_35 : decode cX12_learn 35 = .ok (.imul, 1) := by decide +kernel
theorem dX12_learn_36 : decode cX12_learn 36 = .ok (.iadd, 1) := by decide +kernel
theorem dX12_learn_37 : decode cX12_learn 37 = .ok (.iconst 1, 1) := by decide +kernel
theorem dX12_learn_38 : decode cX12_learn 38 = .ok (.iadd, 1) := by decide +kernel
theorem dX12_learn_39 : decode cX12_learn 39 = .ok (.iaload, 1) := by decide +kernel
theorem dX12_learn_40 : decode cX12_learn 40 = .ok (.imul, 1) := by decide +kernel
theorem dX12_learn_41 : decode cX12_learn 41 = .ok (.iload_n 3, 1) := by decide +kernel
theorem dX12_learn_42 : decode cX12_learn 42 = .ok (.iadd, 1) := by decide +kernel
theorem dX12_learn_43 : decode cX12_learn 43 = .ok (.iconst 2, 1) := by decide +kernel
theorem dX12_learn_44 : decode cX12_learn 44 = .ok (.iload_n 3, 1) := by decide +kernel
theorem dX12_learn_45 : decode cX12_learn 45 = .ok (.imul, 1) := by decide +kernel
theorem dX12_learn_46 : decode cX12_learn 46 = .ok (.idiv, 1) := by decide +kernel
theorem dX12_learn_47 : decode cX12_learn 47 = .ok (.istore 4, 2) := by decide +kernel
theorem dX12_learn_49 : decode cX12_learn 49 = .ok (.iload_n 1, 1) := by decide +kernel
theorem dX12_learn_50 : decode cX12_learn 50 = .ok (.iload 4, 2) := by decide +kernel
theorem dX12_learn_52 : decode cX12_learn 52 = .ok (.aload_n 0, 1) := by decide +kernel
theorem dX12_learn_53 : decode cX12_learn 53 = .ok (.getfield 17, 3) := by decide +kernel
theorem dX12_learn_56 : decode cX12_learn 56 = .ok (.iconst 5, 1) := by decide +kernel
theorem dX12_learn_57 : decode cX12_learn 57 = .ok (.iload_n 2, 1) := by decide +kernel
theorem dX12_learn_58 : decode cX12_learn 58 = .ok (.iadd, 1) := by decide +kernel
theorem dX12_learn_59 : decode cX12_learn 59 = .ok (.iaload, 1) := by decide +kernel
theorem dX12_learn_60 : decode cX12_learn 60 = .ok (.if_icmp .eq 7, 3) := by decide +kernel
theorem dX12_learn_63 : decode cX12_learn 63 = .ok (.iconst 1, 1) := by decide +kernel
theorem dX12_learn_64 : decode cX12_learn 64 = .ok (.goto 4, 3) := by decide +kernel
theorem dX12_learn_67 : decode cX12_learn 67 = .ok (.iconst 0, 1) := by decide +kernel
theorem dX12_learn_68 : decode cX12_learn 68 = .ok (.invokestatic 168, 3) := by decide +kernel
theorem dX12_learn_71 : decode cX12_learn 71 = .ok (.iadd, 1) := by decide +kernel
theorem dX12_learn_72 : decode cX12_learn 72 = .ok (.istore_n 1, 1) := by decide +kernel
theorem dX12_learn_73 : decode cX12_learn 73 = .ok (.aload_n 0, 1) := by decide +kernel
theorem dX12_learn_74 : decode cX12_learn 74 = .ok (.getfield 17, 3) := by decide +kernel
theorem dX12_learn_77 : decode cX12_learn 77 = .ok (.iconst 5, 1) := by decide +kernel
theorem dX12_learn_78 : decode cX12_learn 78 = .ok (.iload_n 2, 1) := by decide +kernel
theorem dX12_learn_79 : decode cX12_learn 79 = .ok (.iadd, 1) := by decide +kernel
theorem dX12_learn_80 : decode cX12_learn 80 = .ok (.iload 4, 2) := by decide +kernel
theorem dX12_learn_82 : decode cX12_learn 82 = .ok (.iastore, 1) := by decide +kernel
theorem dX12_learn_83 : decode cX12_learn 83 = .ok (.iinc 2 1, 3) := by decide +kernel
theorem dX12_learn_86 : decode cX12_learn 86 = .ok (.goto (-82), 3) := by decide +kernel
theorem dX12_learn_89 : decode cX12_learn 89 = .ok (.iload_n 1, 1) := by decide +kernel
theorem dX12_learn_90 : decode cX12_learn 90 = .ok (.ireturn, 1) := by decide +kernel
theorem dX12_isStory_0 : decode cX12_isStory 0 = .ok (.aload_n 0, 1) := by decide +kernel
theorem dX12_isStory_1 : decode cX12_isStory 1 = .ok (.iload_n 1, 1) := by decide +kernel
theorem dX12_isStory_2 : decode cX12_isStory 2 = .ok (.invokevirtual 242, 3) := by decide +kernel
theorem dX12_isStory_5 : decode cX12_isStory 5 = .ok (.ifCond .eq 23, 3) := by decide +kernel
theorem dX12_isStory_8 : decode cX12_isStory 8 = .ok (.iload_n 2, 1) := by decide +kernel
theorem dX12_isStory_9 : decode cX12_isStory 9 = .ok (.i2l, 1) := by decide +kernel
theorem dX12_isStory_10 : decode cX12_isStory 10 = .ok (.lconst 0, 1) := by decide +kernel
theorem dX12_isStory_11 : decode cX12_isStory 11 = .ok (.aload_n 0, 1) := by decide +kernel
theorem dX12_isStory_12 : decode cX12_isStory 12 = .ok (.getfield 17, 3) := by decide +kernel
theorem dX12_isStory_15 : decode cX12_isStory 15 = .ok (.iconst 0, 1) := by decide +kernel
theorem dX12_isStory_16 : decode cX12_isStory 16 = .ok (.iaload, 1) := by decide +kernel
theorem dX12_isStory_17 : decode cX12_isStory 17 = .ok (.i2l, 1) := by decide +kernel
theorem dX12_isStory_18 : decode cX12_isStory 18 = .ok (.invokestatic 82, 3) := by decide +kernel
theorem dX12_isStory_21 : decode cX12_isStory 21 = .ok (.ifCond .eq 7, 3) := by decide +kernel
theorem dX12_isStory_24 : decode cX12_isStory 24 = .ok (.iconst 1, 1) := by decide +kernel
theorem dX12_isStory_25 : decode cX12_isStory 25 = .ok (.goto 4, 3) := by decide +kernel
theorem dX12_isStory_28 : decode cX12_isStory 28 = .ok (.iconst 0, 1) := by decide +kernel
theorem dX12_isStory_29 : decode cX12_isStory 29 = .ok (.ireturn, 1) := by decide +kernel
theorem dX12_story_0 : decode cX12_story 0 = .ok (.aload_n 0, 1) := by decide +kernel
theorem dX12_story_1 : decode cX12_story 1 = .ok (.iload_n 1, 1) := by decide +kernel
theorem dX12_story_2 : decode cX12_story 2 = .ok (.iload_n 2, 1) := by decide +kernel
theorem dX12_story_3 : decode cX12_story 3 = .ok (.invokevirtual 346, 3) := by decide +kernel
theorem dX12_story_6 : decode cX12_story 6 = .ok (.ifCond .ne 7, 3) := by decide +kernel
theorem dX12_story_9 : decode cX12_story 9 = .ok (.ldc2_w 257, 3) := by decide +kernel
theorem dX12_story_12 : decode cX12_story 12 = .ok (.lreturn, 1) := by decide +kernel
theorem dX12_story_13 : decode cX12_story 13 = .ok (.lconst 0, 1) := by decide +kernel
theorem dX12_story_14 : decode cX12_story 14 = .ok (.lstore_n 3, 1) := by decide +kernel
theorem dX12_story_15 : decode cX12_story 15 = .ok (.iconst 1, 1) := by decide +kernel
theorem dX12_story_16 : decode cX12_story 16 = .ok (.aload_n 0, 1) := by decide +kernel
theorem dX12_story_17 : decode cX12_story 17 = .ok (.iconst 0, 1) := by decide +kernel
theorem dX12_story_18 : decode cX12_story 18 = .ok (.invokevirtual 192, 3) := by decide +kernel
theorem dX12_story_21 : decode cX12_story 21 = .ok (.ishl, 1) := by decide +kernel
theorem dX12_story_22 : decode cX12_story 22 = .ok (.iconst 1, 1) := by decide +kernel
theorem dX12_story_23 : decode cX12_story 23 = .ok (.isub, 1) := by decide +kernel
theorem dX12_story_24 : decode cX12_story 24 = .ok (.iload_n 1, 1) := by decide +kernel
theorem dX12_story_25 : decode cX12_story 25 = .ok (.iconst (-1), 1) := by decide +kernel
theorem dX12_story_26 : decode cX12_story 26 = .ok (.ixor, 1) := by decide +kernel
theorem dX12_story_27 : decode cX12_story 27 = .ok (.iand, 1) := by decide +kernel
theorem dX12_story_28 : decode cX12_story 28 = .ok (.istore 5, 2) := by decide +kernel
theorem dX12_story_30 : decode cX12_story 30 = .ok (.iconst 1, 1) := by decide +kernel
theorem dX12_story_31 : decode cX12_story 31 = .ok (.istore 6, 2) := by decide +kernel
theorem dX12_story_33 : decode cX12_story 33 = .ok (.iload 6, 2) := by decide +kernel
theorem dX12_story_35 : decode cX12_story 35 = .ok (.aload_n 0, 1) := by decide +kernel
theorem dX12_story_36 : decode cX12_story 36 = .ok (.getfield 17, 3) := by decide +kernel
theorem dX12_story_39 : decode cX12_story 39 = .ok (.iconst 0, 1) := by decide +kernel
theorem dX12_story_40 : decode cX12_story 40 = .ok (.iaload, 1) := by decide +kernel
theorem dX12_story_41 : decode cX12_story 41 = .ok (.if_icmp .gt 45, 3) := by decide +kernel
theorem dX12_story_44 : decode cX12_story 44 = .ok (.aload_n 0, 1) := by decide +kernel
theorem dX12_story_45 : decode cX12_story 45 = .ok (.iconst 0, 1) := by decide +kernel
theorem dX12_story_46 : decode cX12_story 46 = .ok (.iload 6, 2) := by decide +kernel
theorem dX12_story_48 : decode cX12_story 48 = .ok (.iload 5, 2) := by decide +kernel
theorem dX12_story_50 : decode cX12_story 50 = .ok (.invokevirtual 245, 3) := by decide +kernel
theorem dX12_story_53 : decode cX12_story 53 = .ok (.lload_n 3, 1) := by decide +kernel
theorem dX12_story_54 : decode cX12_story 54 = .ok (.aload_n 0, 1) := by decide +kernel
theorem dX12_story_55 : decode cX12_story 55 = .ok (.getfield 232, 3) := by decide +kernel
theorem dX12_story_58 : decode cX12_story 58 = .ok (.iload_n 1, 1) := by decide +kernel
theorem dX12_story_59 : decode cX12_story 59 = .ok (.if_icmp .ne 18, 3) := by decide +kernel
theorem dX12_story_62 : decode cX12_story 62 = .ok (.aload_n 0, 1) := by decide +kernel
theorem dX12_story_63 : decode cX12_story 63 = .ok (.invokevirtual 249, 3) := by decide +kernel
theorem dX12_story_66 : decode cX12_story 66 = .ok (.iload_n 2, 1) := by decide +kernel
theorem dX12_story_67 : decode cX12_story 67 = .ok (.if_icmp .ne 10, 3) := by decide +kernel
theorem dX12_story_70 : decode cX12_story 70 = .ok (.lconst 1, 1) := by decide +kernel
theorem dX12_story_71 : decode cX12_story 71 = .ok (.iload 6, 2) := by decide +kernel
theorem dX12_story_73 : decode cX12_story 73 = .ok (.lshl, 1) := by decide +kernel
theorem dX12_story_74 : decode cX12_story 74 = .ok (.goto 4, 3) := by decide +kernel
theorem dX12_story_77 : decode cX12_story 77 = .ok (.lconst 0, 1) := by decide +kernel
theorem dX12_story_78 : decode cX12_story 78 = .ok (.lor, 1) := by decide +kernel
theorem dX12_story_79 : decode cX12_story 79 = .ok (.lstore_n 3, 1) := by decide +kernel
theorem dX12_story_80 : decode cX12_story 80 = .ok (.iinc 6 1, 3) := by decide +kernel
theorem dX12_story_83 : decode cX12_story 83 = .ok (.goto (-50), 3) := by decide +kernel
theorem dX12_story_86 : decode cX12_story 86 = .ok (.lload_n 3, 1) := by decide +kernel
theorem dX12_story_87 : decode cX12_story 87 = .ok (.lreturn, 1) := by decide +kernel
theorem dX12_weightOf_0 : decode cX12_weightOf 0 = .ok (.lconst 0, 1) := by decide +kernel
theorem dX12_weightOf_1 : decode cX12_weightOf 1 = .ok (.lstore 4, 2) := by decide +kernel
theorem dX12_weightOf_3 : decode cX12_weightOf 3 = .ok (.iconst 0, 1) := by decide +kernel
theorem dX12_weightOf_4 : decode cX12_weightOf 4 = .ok (.istore 6, 2) := by decide +kernel
theorem dX12_weightOf_6 : decode cX12_weightOf 6 = .ok (.iload 6, 2) := by decide +kernel
theorem dX12_weightOf_8 : decode cX12_weightOf 8 = .ok (.iconst 1, 1) := by decide +kernel
theorem dX12_weightOf_9 : decode cX12_weightOf 9 = .ok (.aload_n 0, 1) := by decide +kernel
theorem dX12_weightOf_10 : decode cX12_weightOf 10 = .ok (.iconst 0, 1) := by decide +kernel
theorem dX12_weightOf_11 : decode cX12_weightOf 11 = .ok (.invokevirtual 192, 3) := by decide +kernel
theorem dX12_weightOf_14 : decode cX12_weightOf 14 = .ok (.ishl, 1) := by decide +kernel
theorem dX12_weightOf_15 : decode cX12_weightOf 15 = .ok (.if_icmp .ge 48, 3) := by decide +kernel
theorem dX12_weightOf_18 : decode cX12_weightOf 18 = .ok (.aload_n 0, 1) := by decide +kernel
theorem dX12_weightOf_19 : decode cX12_weightOf 19 = .ok (.iconst 0, 1) := by decide +kernel
theorem dX12_weightOf_20 : decode cX12_weightOf 20 = .ok (.iload_n 3, 1) := by decide +kernel
theorem dX12_weightOf_21 : decode cX12_weightOf 21 = .ok (.iload 6, 2) := by decide +kernel
theorem dX12_weightOf_23 : decode cX12_weightOf 23 = .ok (.invokevirtual 245, 3) := by decide +kernel
theorem dX12_weightOf_26 : decode cX12_weightOf 26 = .ok (.lload 4, 2) := by decide +kernel
theorem dX12_weightOf_28 : decode cX12_weightOf 28 = .ok (.aload_n 0, 1) := by decide +kernel
theorem dX12_weightOf_29 : decode cX12_weightOf 29 = .ok (.getfield 232, 3) := by decide +kernel
theorem dX12_weightOf_32 : decode cX12_weightOf 32 = .ok (.iload_n 1, 1) := by decide +kernel
theorem dX12_weightOf_33 : decode cX12_weightOf 33 = .ok (.if_icmp .ne 20, 3) := by decide +kernel
theorem dX12_weightOf_36 : decode cX12_weightOf 36 = .ok (.aload_n 0, 1) := by decide +kernel
theorem dX12_weightOf_37 : decode cX12_weightOf 37 = .ok (.invokevirtual 249, 3) := by decide +kernel
theorem dX12_weightOf_40 : decode cX12_weightOf 40 = .ok (.iload_n 2, 1) := by decide +kernel
theorem dX12_weightOf_41 : decode cX12_weightOf 41 = .ok (.if_icmp .ne 12, 3) := by decide +kernel
theorem dX12_weightOf_44 : decode cX12_weightOf 44 = .ok (.aload_n 0, 1) := by decide +kernel
theorem dX12_weightOf_45 : decode cX12_weightOf 45 = .ok (.iload 6, 2) := by decide +kernel
theorem dX12_weightOf_47 : decode cX12_weightOf 47 = .ok (.invokevirtual 259, 3) := by decide +kernel
theorem dX12_weightOf_50 : decode cX12_weightOf 50 = .ok (.goto 4, 3) := by decide +kernel
theorem dX12_weightOf_53 : decode cX12_weightOf 53 = .ok (.lconst 0, 1) := by decide +kernel
theorem dX12_weightOf_54 : decode cX12_weightOf 54 = .ok (.ladd, 1) := by decide +kernel
theorem dX12_weightOf_55 : decode cX12_weightOf 55 = .ok (.lstore 4, 2) := by decide +kernel
theorem dX12_weightOf_57 : decode cX12_weightOf 57 = .ok (.iinc 6 1, 3) := by decide +kernel
theorem dX12_weightOf_60 : decode cX12_weightOf 60 = .ok (.goto (-54), 3) := by decide +kernel
theorem dX12_weightOf_63 : decode cX12_weightOf 63 = .ok (.lload 4, 2) := by decide +kernel
theorem dX12_weightOf_65 : decode cX12_weightOf 65 = .ok (.aload_n 0, 1) := by decide +kernel
theorem dX12_weightOf_66 : decode cX12_weightOf 66 = .ok (.iload_n 3, 1) := by decide +kernel
theorem dX12_weightOf_67 : decode cX12_weightOf 67 = .ok (.iconst 0, 1) := by decide +kernel
theorem dX12_weightOf_68 : decode cX12_weightOf 68 = .ok (.invokevirtual 184, 3) := by decide +kernel
theorem dX12_weightOf_71 : decode cX12_weightOf 71 = .ok (.i2l, 1) := by decide +kernel
theorem dX12_weightOf_72 : decode cX12_weightOf 72 = .ok (.lmul, 1) := by decide +kernel
theorem dX12_weightOf_73 : decode cX12_weightOf 73 = .ok (.lreturn, 1) := by decide +kernel
theorem dX12_odds_0 : decode cX12_odds 0 = .ok (.aload_n 0, 1) := by decide +kernel
theorem dX12_odds_1 : decode cX12_odds 1 = .ok (.iload_n 1, 1) := by decide +kernel
theorem dX12_odds_2 : decode cX12_odds 2 = .ok (.iload_n 2, 1) := by decide +kernel
theorem dX12_odds_3 : decode cX12_odds 3 = .ok (.invokevirtual 346, 3) := by decide +kernel
theorem dX12_odds_6 : decode cX12_odds 6 = .ok (.ifCond .eq 22, 3) := by decide +kernel
theorem dX12_odds_9 : decode cX12_odds 9 = .ok (.aload_n 0, 1) := by decide +kernel
theorem dX12_odds_10 : decode cX12_odds 10 = .ok (.iload_n 3, 1) := by decide +kernel
theorem dX12_odds_11 : decode cX12_odds 11 = .ok (.invokevirtual 175, 3) := by decide +kernel
theorem dX12_odds_14 : decode cX12_odds 14 = .ok (.ifCond .eq 14, 3) := by decide +kernel
theorem dX12_odds_17 : decode cX12_odds 17 = .ok (.iload 4, 2) := by decide +kernel
theorem dX12_odds_19 : decode cX12_odds 19 = .ok (.i2l, 1) := by decide +kernel
theorem dX12_odds_20 : decode cX12_odds 20 = .ok (.lconst 0, 1) := by decide +kernel
theorem dX12_odds_21 : decode cX12_odds 21 = .ok (.lconst 1, 1) := by decide +kernel
theorem dX12_odds_22 : decode cX12_odds 22 = .ok (.invokestatic 82, 3) := by decide +kernel
theorem dX12_odds_25 : decode cX12_odds 25 = .ok (.ifCond .ne 7, 3) := by decide +kernel
theorem dX12_odds_28 : decode cX12_odds 28 = .ok (.ldc2_w 257, 3) := by decide +kernel
theorem dX12_odds_31 : decode cX12_odds 31 = .ok (.lreturn, 1) := by decide +kernel
theorem dX12_odds_32 : decode cX12_odds 32 = .ok (.lconst 0, 1) := by decide +kernel
theorem dX12_odds_33 : decode cX12_odds 33 = .ok (.lstore 5, 2) := by decide +kernel
theorem dX12_odds_35 : decode cX12_odds 35 = .ok (.lconst 0, 1) := by decide +kernel
theorem dX12_odds_36 : decode cX12_odds 36 = .ok (.lstore 7, 2) := by decide +kernel
theorem dX12_odds_38 : decode cX12_odds 38 = .ok (.iconst 1, 1) := by decide +kernel
theorem dX12_odds_39 : decode cX12_odds 39 = .ok (.istore 9, 2) := by decide +kernel
theorem dX12_odds_41 : decode cX12_odds 41 = .ok (.iload 9, 2) := by decide +kernel
theorem dX12_odds_43 : decode cX12_odds 43 = .ok (.aload_n 0, 1) := by decide +kernel
theorem dX12_odds_44 : decode cX12_odds 44 = .ok (.getfield 17, 3) := by decide +kernel
theorem dX12_odds_47 : decode cX12_odds 47 = .ok (.iconst 0, 1) := by decide +kernel
theorem dX12_odds_48 : decode cX12_odds 48 = .ok (.iaload, 1) := by decide +kernel
theorem dX12_odds_49 : decode cX12_odds 49 = .ok (.if_icmp .gt 41, 3) := by decide +kernel
theorem dX12_odds_52 : decode cX12_odds 52 = .ok (.aload_n 0, 1) := by decide +kernel
theorem dX12_odds_53 : decode cX12_odds 53 = .ok (.iload_n 1, 1) := by decide +kernel
theorem dX12_odds_54 : decode cX12_odds 54 = .ok (.iload_n 2, 1) := by decide +kernel
theorem dX12_odds_55 : decode cX12_odds 55 = .ok (.iload 9, 2) := by decide +kernel
theorem dX12_odds_57 : decode cX12_odds 57 = .ok (.invokevirtual 350, 3) := by decide +kernel
theorem dX12_odds_60 : decode cX12_odds 60 = .ok (.lstore 10, 2) := by decide +kernel
theorem dX12_odds_62 : decode cX12_odds 62 = .ok (.lload 5, 2) := by decide +kernel
theorem dX12_odds_64 : decode cX12_odds 64 = .ok (.lload 10, 2) := by decide +kernel
theorem dX12_odds_66 : decode cX12_odds 66 = .ok (.ladd, 1) := by decide +kernel
theorem dX12_odds_67 : decode cX12_odds 67 = .ok (.lstore 5, 2) := by decide +kernel
theorem dX12_odds_69 : decode cX12_odds 69 = .ok (.iload 9, 2) := by decide +kernel
theorem dX12_odds_71 : decode cX12_odds 71 = .ok (.iload_n 3, 1) := by decide +kernel
theorem dX12_odds_72 : decode cX12_odds 72 = .ok (.if_icmp .ne 8, 3) := by decide +kernel
theorem dX12_odds_75 : decode cX12_odds 75 = .ok (.lload 10, 2) := by decide +kernel
theorem dX12_odds_77 : decode cX12_odds 77 = .ok (.goto 5, 3) := by decide +kernel
theorem dX12_odds_80 : decode cX12_odds 80 = .ok (.lload 7, 2) := by decide +kernel
theorem dX12_odds_82 : decode cX12_odds 82 = .ok (.lstore 7, 2) := by decide +kernel
theorem dX12_odds_84 : decode cX12_odds 84 = .ok (.iinc 9 1, 3) := by decide +kernel
theorem dX12_odds_87 : decode cX12_odds 87 = .ok (.goto (-46), 3) := by decide +kernel
theorem dX12_odds_90 : decode cX12_odds 90 = .ok (.lload 5, 2) := by decide +kernel
theorem dX12_odds_92 : decode cX12_odds 92 = .ok (.lconst 0, 1) := by decide +kernel
theorem dX12_odds_93 : decode cX12_odds 93 = .ok (.lcmp, 1) := by decide +kernel
theorem dX12_odds_94 : decode cX12_odds 94 = .ok (.ifCond .ne 9, 3) := by decide +kernel
theorem dX12_odds_97 : decode cX12_odds 97 = .ok (.ldc2_w 354, 3) := by decide +kernel
theorem dX12_odds_100 : decode cX12_odds 100 = .ok (.goto 12, 3) := by decide +kernel
theorem dX12_odds_103 : decode cX12_odds 103 = .ok (.lload 7, 2) := by decide +kernel
theorem dX12_odds_105 : decode cX12_odds 105 = .ok (.lload 5, 2) := by decide +kernel
theorem dX12_odds_107 : decode cX12_odds 107 = .ok (.iload 4, 2) := by decide +kernel
theorem dX12_odds_109 : decode cX12_odds 109 = .ok (.invokestatic 267, 3) := by decide +kernel
theorem dX12_odds_112 : decode cX12_odds 112 = .ok (.lreturn, 1) := by decide +kernel
theorem dX12_isClear_0 : decode cX12_isClear 0 = .ok (.aload_n 0, 1) := by decide +kernel
theorem dX12_isClear_1 : decode cX12_isClear 1 = .ok (.iload_n 1, 1) := by decide +kernel
theorem dX12_isClear_2 : decode cX12_isClear 2 = .ok (.aload_n 0, 1) := by decide +kernel
theorem dX12_isClear_3 : decode cX12_isClear 3 = .ok (.iload_n 1, 1) := by decide +kernel
theorem dX12_isClear_4 : decode cX12_isClear 4 = .ok (.iload_n 2, 1) := by decide +kernel
theorem dX12_isClear_5 : decode cX12_isClear 5 = .ok (.invokevirtual 235, 3) := by decide +kernel
theorem dX12_isClear_8 : decode cX12_isClear 8 = .ok (.isub, 1) := by decide +kernel
theorem dX12_isClear_9 : decode cX12_isClear 9 = .ok (.putfield 220, 3) := by decide +kernel
theorem dX12_isClear_12 : decode cX12_isClear 12 = .ok (.aload_n 0, 1) := by decide +kernel
theorem dX12_isClear_13 : decode cX12_isClear 13 = .ok (.iload_n 1, 1) := by decide +kernel
theorem dX12_isClear_14 : decode cX12_isClear 14 = .ok (.invokevirtual 238, 3) := by decide +kernel
theorem dX12_isClear_17 : decode cX12_isClear 17 = .ok (.aload_n 0, 1) := by decide +kernel
theorem dX12_isClear_18 : decode cX12_isClear 18 = .ok (.getfield 223, 3) := by decide +kernel
theorem dX12_isClear_21 : decode cX12_isClear 21 = .ok (.bipush (-4), 2) := by decide +kernel
theorem dX12_isClear_23 : decode cX12_isClear 23 = .ok (.if_icmp .ne 7, 3) := by decide +kernel
theorem dX12_isClear_26 : decode cX12_isClear 26 = .ok (.iconst 1, 1) := by decide +kernel
theorem dX12_isClear_27 : decode cX12_isClear 27 = .ok (.goto 4, 3) := by decide +kernel
theorem dX12_isClear_30 : decode cX12_isClear 30 = .ok (.iconst 0, 1) := by decide +kernel
theorem dX12_isClear_31 : decode cX12_isClear 31 = .ok (.ireturn, 1) := by decide +kernel
theorem dX12_areClear_0 : decode cX12_areClear 0 = .ok (.iconst 1, 1) := by decide +kernel
theorem dX12_areClear_1 : decode cX12_areClear 1 = .ok (.istore 4, 2) := by decide +kernel
theorem dX12_areClear_3 : decode cX12_areClear 3 = .ok (.iload_n 1, 1) := by decide +kernel
theorem dX12_areClear_4 : decode cX12_areClear 4 = .ok (.istore 5, 2) := by decide +kernel
theorem dX12_areClear_6 : decode cX12_areClear 6 = .ok (.iload 5, 2) := by decide +kernel
theorem dX12_areClear_8 : decode cX12_areClear 8 = .ok (.iload_n 2, 1) := by decide +kernel
theorem dX12_areClear_9 : decode cX12_areClear 9 = .ok (.if_icmp .gt 31, 3) := by decide +kernel
theorem dX12_areClear_12 : decode cX12_areClear 12 = .ok (.iload 4, 2) := by decide +kernel
theorem dX12_areClear_14 : decode cX12_areClear 14 = .ok (.ifCond .eq 17, 3) := by decide +kernel
theorem dX12_areClear_17 : decode cX12_areClear 17 = .ok (.aload_n 0, 1) := by decide +kernel
theorem dX12_areClear_18 : decode cX12_areClear 18 = .ok (.iload 5, 2) := by decide +kernel
theorem dX12_areClear_20 : decode cX12_areClear 20 = .ok (.iload_n 3, 1) := by decide +kernel
theorem dX12_areClear_21 : decode cX12_areClear 21 = .ok (.invokevirtual 356, 3) := by decide +kernel
theorem dX12_areClear_24 : decode cX12_areClear 24 = .ok (.ifCond .eq 7, 3) := by decide +kernel
theorem dX12_areClear_27 : decode cX12_areClear 27 = .ok (.iconst 1, 1) := by decide +kernel
theorem dX12_areClear_28 : decode cX12_areClear 28 = .ok (.goto 4, 3) := by decide +kernel
theorem dX12_areClear_31 : decode cX12_areClear 31 = .ok (.iconst 0, 1) := by decide +kernel
theorem dX12_areClear_32 : decode cX12_areClear 32 = .ok (.istore 4, 2) := by decide +kernel
theorem dX12_areClear_34 : decode cX12_areClear 34 = .ok (.iinc 5 1, 3) := by decide +kernel
theorem dX12_areClear_37 : decode cX12_areClear 37 = .ok (.goto (-31), 3) := by decide +kernel
theorem dX12_areClear_40 : decode cX12_areClear 40 = .ok (.iload 4, 2) := by decide +kernel
theorem dX12_areClear_42 : decode cX12_areClear 42 = .ok (.ireturn, 1) := by decide +kernel
theorem dX12_findMore_0 : decode cX12_findMore 0 = .ok (.aload_n 0, 1) := by decide +kernel
theorem dX12_findMore_1 : decode cX12_findMore 1 = .ok (.getfield 17, 3) := by decide +kernel
theorem dX12_findMore_4 : decode cX12_findMore 4 = .ok (.iconst 0, 1) := by decide +kernel
theorem dX12_findMore_5 : decode cX12_findMore 5 = .ok (.iaload, 1) := by decide +kernel
theorem dX12_findMore_6 : decode cX12_findMore 6 = .ok (.istore_n 1, 1) := by decide +kernel
theorem dX12_findMore_7 : decode cX12_findMore 7 = .ok (.iload_n 1, 1) := by decide +kernel
theorem dX12_findMore_8 : decode cX12_findMore 8 = .ok (.istore_n 2, 1) := by decide +kernel
theorem dX12_findMore_9 : decode cX12_findMore 9 = .ok (.iload_n 2, 1) := by decide +kernel
theorem dX12_findMore_10 : decode cX12_findMore 10 = .ok (.ifCond .le 145, 3) := by decide +kernel
theorem dX12_findMore_13 : decode cX12_findMore 13 = .ok (.aload_n 0, 1) := by decide +kernel
theorem dX12_findMore_14 : decode cX12_findMore 14 = .ok (.getfield 50, 3) := by decide +kernel
theorem dX12_findMore_17 : decode cX12_findMore 17 = .ok (.iload_n 2, 1) := by decide +kernel
theorem dX12_findMore_18 : decode cX12_findMore 18 = .ok (.aload_n 0, 1) := by decide +kernel
theorem dX12_findMore_19 : decode cX12_findMore 19 = .ok (.iload_n 2, 1) := by decide +kernel
theorem dX12_findMore_20 : decode cX12_findMore 20 = .ok (.iconst 1, 1) := by decide +kernel
theorem dX12_findMore_21 : decode cX12_findMore 21 = .ok (.iadd, 1) := by decide +kernel
theorem dX12_findMore_22 : decode cX12_findMore 22 = .ok (.iload_n 1, 1) := by decide +kernel
theorem dX12_findMore_23 : decode cX12_findMore 23 = .ok (.iload_n 2, 1) := by decide +kernel
theorem dX12_findMore_24 : decode cX12_findMore 24 = .ok (.invokevirtual 359, 3) := by decide +kernel
theorem dX12_findMore_27 : decode cX12_findMore 27 = .ok (.ifCond .eq 7, 3) := by decide +kernel
theorem dX12_findMore_30 : decode cX12_findMore 30 = .ok (.iconst 0, 1) := by decide +kernel
theorem dX12_findMore_31 : decode cX12_findMore 31 = .ok (.goto 5, 3) := by decide +kernel
theorem dX12_findMore_34 : decode cX12_findMore 34 = .ok (.bipush (-4), 2) := by decide +kernel
theorem dX12_findMore_36 : decode cX12_findMore 36 = .ok (.iastore, 1) := by decide +kernel
theorem dX12_findMore_37 : decode cX12_findMore 37 = .ok (.iload_n 2, 1) := by decide +kernel
theorem dX12_findMore_38 : decode cX12_findMore 38 = .ok (.iconst 1, 1) := by decide +kernel
theorem dX12_findMore_39 : decode cX12_findMore 39 = .ok (.iadd, 1) := by decide +kernel
theorem dX12_findMore_40 : decode cX12_findMore 40 = .ok (.istore_n 3, 1) := by decide +kernel
theorem dX12_findMore_41 : decode cX12_findMore 41 = .ok (.iload_n 3, 1) := by decide +kernel
theorem dX12_findMore_42 : decode cX12_findMore 42 = .ok (.iload_n 1, 1) := by decide +kernel
theorem dX12_findMore_43 : decode cX12_findMore 43 = .ok (.if_icmp .gt 106, 3) := by decide +kernel
theorem dX12_findMore_46 : decode cX12_findMore 46 = .ok (.aload_n 0, 1) := by decide +kernel
theorem dX12_findMore_47 : decode cX12_findMore 47 = .ok (.getfield 50, 3) := by decide +kernel
theorem dX12_findMore_50 : decode cX12_findMore 50 = .ok (.iload_n 3, 1) := by decide +kernel
theorem dX12_findMore_51 : decode cX12_findMore 51 = .ok (.iaload, 1) := by decide +kernel
theorem dX12_findMore_52 : decode cX12_findMore 52 = .ok (.bipush (-4), 2) := by decide +kernel
theorem dX12_findMore_54 : decode cX12_findMore 54 = .ok (.if_icmp .eq 30, 3) := by decide +kernel
theorem dX12_findMore_57 : decode cX12_findMore 57 = .ok (.aload_n 0, 1) := by decide +kernel
theorem dX12_findMore_58 : decode cX12_findMore 58 = .ok (.iload_n 2, 1) := by decide +kernel
theorem dX12_findMore_59 : decode cX12_findMore 59 = .ok (.iconst 1, 1) := by decide +kernel
theorem dX12_findMore_60 : decode cX12_findMore 60 = .ok (.iadd, 1) := by decide +kernel
theorem dX12_findMore_61 : decode cX12_findMore 61 = .ok (.iload_n 3, 1) := by decide +kernel
theorem dX12_findMore_62 : decode cX12_findMore 62 = .ok (.iconst 1, 1) := by decide +kernel
theorem dX12_findMore_63 : decode cX12_findMore 63 = .ok (.isub, 1) := by decide +kernel
theorem dX12_findMore_64 : decode cX12_findMore 64 = .ok (.iload_n 2, 1) := by decide +kernel
theorem dX12_findMore_65 : decode cX12_findMore 65 = .ok (.invokevirtual 359, 3) := by decide +kernel
theorem dX12_findMore_68 : decode cX12_findMore 68 = .ok (.ifCond .eq 16, 3) := by decide +kernel
theorem dX12_findMore_71 : decode cX12_findMore 71 = .ok (.aload_n 0, 1) := by decide +kernel
theorem dX12_findMore_72 : decode cX12_findMore 72 = .ok (.iload_n 3, 1) := by decide +kernel
theorem dX12_findMore_73 : decode cX12_findMore 73 = .ok (.iload_n 3, 1) := by decide +kernel
theorem dX12_findMore_74 : decode cX12_findMore 74 = .ok (.invokevirtual 356, 3) := by decide +kernel
theorem dX12_findMore_77 : decode cX12_findMore 77 = .ok (.ifCond .eq 7, 3) := by decide +kernel
theorem dX12_findMore_80 : decode cX12_findMore 80 = .ok (.iconst 1, 1) := by decide +kernel
theorem dX12_findMore_81 : decode cX12_findMore 81 = .ok (.goto 4, 3) := by decide +kernel
theorem dX12_findMore_84 : decode cX12_findMore 84 = .ok (.iconst 0, 1) := by decide +kernel
theorem dX12_findMore_85 : decode cX12_findMore 85 = .ok (.istore 4, 2) := by decide +kernel
theorem dX12_findMore_87 : decode cX12_findMore 87 = .ok (.aload_n 0, 1) := by decide +kernel
theorem dX12_findMore_88 : decode cX12_findMore 88 = .ok (.getfield 50, 3) := by decide +kernel
theorem dX12_findMore_91 : decode cX12_findMore 91 = .ok (.iload_n 2, 1) := by decide +kernel
theorem dX12_findMore_92 : decode cX12_findMore 92 = .ok (.iload 4, 2) := by decide +kernel
theorem dX12_findMore_94 : decode cX12_findMore 94 = .ok (.ifCond .eq 42, 3) := by decide +kernel
theorem dX12_findMore_97 : decode cX12_findMore 97 = .ok (.aload_n 0, 1) := by decide +kernel
theorem dX12_findMore_98 : decode cX12_findMore 98 = .ok (.getfield 50, 3) := by decide +kernel
theorem dX12_findMore_101 : decode cX12_findMore 101 = .ok (.iload_n 2, 1) := by decide +kernel
theorem dX12_findMore_102 : decode cX12_findMore 102 = .ok (.iaload, 1) := by decide +kernel
theorem dX12_findMore_103 : decode cX12_findMore 103 = .ok (.bipush (-4), 2) := by decide +kernel
theorem dX12_findMore_105 : decode cX12_findMore 105 = .ok (.if_icmp .eq 20, 3) := by decide +kernel
theorem dX12_findMore_108 : decode cX12_findMore 108 = .ok (.aload_n 0, 1) := by decide +kernel
theorem dX12_findMore_109 : decode cX12_findMore 109 = .ok (.getfield 50, 3) := by decide +kernel
theorem dX12_findMore_112 : decode cX12_findMore 112 = .ok (.iload_n 3, 1) := by decide +kernel
theorem dX12_findMore_113 : decode cX12_findMore 113 = .ok (.iaload, 1) := by decide +kernel
theorem dX12_findMore_114 : decode cX12_findMore 114 = .ok (.iconst 1, 1) := by decide +kernel
theorem dX12_findMore_115 : decode cX12_findMore 115 = .ok (.iadd, 1) := by decide +kernel
theorem dX12_findMore_116 : decode cX12_findMore 116 = .ok (.aload_n 0, 1) := by decide +kernel
theorem dX12_findMore_117 : decode cX12_findMore 117 = .ok (.getfield 50, 3) := by decide +kernel
theorem dX12_findMore_120 : decode cX12_findMore 120 = .ok (.iload_n 2, 1) := by decide +kernel
theorem dX12_findMore_121 : decode cX12_findMore 121 = .ok (.iaload, 1) := by decide +kernel
theorem dX12_findMore_122 : decode cX12_findMore 122 = .ok (.if_icmp .ge 14, 3) := by decide +kernel
theorem dX12_findMore_125 : decode cX12_findMore 125 = .ok (.aload_n 0, 1) := by decide +kernel
theorem dX12_findMore_126 : decode cX12_findMore 126 = .ok (.getfield 50, 3) := by decide +kernel
theorem dX12_findMore_129 : decode cX12_findMore 129 = .ok (.iload_n 3, 1) := by decide +kernel
theorem dX12_findMore_130 : decode cX12_findMore 130 = .ok (.iaload, 1) := by decide +kernel
theorem dX12_findMore_131 : decode cX12_findMore 131 = .ok (.iconst 1, 1) := by decide +kernel
theorem dX12_findMore_132 : decode cX12_findMore 132 = .ok (.iadd, 1) := by decide +kernel
theorem dX12_findMore_133 : decode cX12_findMore 133 = .ok (.goto 9, 3) := by decide +kernel
theorem dX12_findMore_136 : decode cX12_findMore 136 = .ok (.aload_n 0, 1) := by decide +kernel
theorem dX12_findMore_137 : decode cX12_findMore 137 = .ok (.getfield 50, 3) := by decide +kernel
theorem dX12_findMore_140 : decode cX12_findMore 140 = .ok (.iload_n 2, 1) := by decide +kernel
theorem dX12_findMore_141 : decode cX12_findMore 141 = .ok (.iaload, 1) := by decide +kernel
theorem dX12_findMore_142 : decode cX12_findMore 142 = .ok (.iastore, 1) := by decide +kernel
theorem dX12_findMore_143 : decode cX12_findMore 143 = .ok (.iinc 3 1, 3) := by decide +kernel
theorem dX12_findMore_146 : decode cX12_findMore 146 = .ok (.goto (-105), 3) := by decide +kernel
theorem dX12_findMore_149 : decode cX12_findMore 149 = .ok (.iinc 2 (-1), 3) := by decide +kernel
theorem dX12_findMore_152 : decode cX12_findMore 152 = .ok (.goto (-143), 3) := by decide +kernel
theorem dX12_findMore_155 : decode cX12_findMore 155 = .ok (.return_, 1) := by decide +kernel
theorem dX12_canBegin_0 : decode cX12_canBegin 0 = .ok (.iload_n 1, 1) := by decide +kernel
theorem dX12_canBegin_1 : decode cX12_canBegin 1 = .ok (.aload_n 0, 1) := by decide +kernel
theorem dX12_canBegin_2 : decode cX12_canBegin 2 = .ok (.getfield 17, 3) := by decide +kernel
theorem dX12_canBegin_5 : decode cX12_canBegin 5 = .ok (.bipush 8, 2) := by decide +kernel
theorem dX12_canBegin_7 : decode cX12_canBegin 7 = .ok (.iaload, 1) := by decide +kernel
theorem dX12_canBegin_8 : decode cX12_canBegin 8 = .ok (.iconst 1, 1) := by decide +kernel
theorem dX12_canBegin_9 : decode cX12_canBegin 9 = .ok (.iadd, 1) := by decide +kernel
theorem dX12_canBegin_10 : decode cX12_canBegin 10 = .ok (.if_icmp .gt 38, 3) := by decide +kernel
theorem dX12_canBegin_13 : decode cX12_canBegin 13 = .ok (.aload_n 0, 1) := by decide +kernel
theorem dX12_canBegin_14 : decode cX12_canBegin 14 = .ok (.getfield 50, 3) := by decide +kernel
theorem dX12_canBegin_17 : decode cX12_canBegin 17 = .ok (.iload_n 1, 1) := by decide +kernel
theorem dX12_canBegin_18 : decode cX12_canBegin 18 = .ok (.iaload, 1) := by decide +kernel
theorem dX12_canBegin_19 : decode cX12_canBegin 19 = .ok (.bipush (-4), 2) := by decide +kernel
theorem dX12_canBegin_21 : decode cX12_canBegin 21 = .ok (.if_icmp .eq 27, 3) := by decide +kernel
theorem dX12_canBegin_24 : decode cX12_canBegin 24 = .ok (.iload_n 1, 1) := by decide +kernel
theorem dX12_canBegin_25 : decode cX12_canBegin 25 = .ok (.aload_n 0, 1) := by decide +kernel
theorem dX12_canBegin_26 : decode cX12_canBegin 26 = .ok (.getfield 17, 3) := by decide +kernel
theorem dX12_canBegin_29 : decode cX12_canBegin 29 = .ok (.bipush 8, 2) := by decide +kernel
theorem dX12_canBegin_31 : decode cX12_canBegin 31 = .ok (.iaload, 1) := by decide +kernel
theorem dX12_canBegin_32 : decode cX12_canBegin 32 = .ok (.if_icmp .le 12, 3) := by decide +kernel
theorem dX12_canBegin_35 : decode cX12_canBegin 35 = .ok (.aload_n 0, 1) := by decide +kernel
theorem dX12_canBegin_36 : decode cX12_canBegin 36 = .ok (.iload_n 1, 1) := by decide +kernel
theorem dX12_canBegin_37 : decode cX12_canBegin 37 = .ok (.iload_n 1, 1) := by decide +kernel
theorem dX12_canBegin_38 : decode cX12_canBegin 38 = .ok (.invokevirtual 356, 3) := by decide +kernel
theorem dX12_canBegin_41 : decode cX12_canBegin 41 = .ok (.ifCond .eq 7, 3) := by decide +kernel
theorem dX12_canBegin_44 : decode cX12_canBegin 44 = .ok (.iconst 1, 1) := by decide +kernel
theorem dX12_canBegin_45 : decode cX12_canBegin 45 = .ok (.goto 4, 3) := by decide +kernel
theorem dX12_canBegin_48 : decode cX12_canBegin 48 = .ok (.iconst 0, 1) := by decide +kernel
theorem dX12_canBegin_49 : decode cX12_canBegin 49 = .ok (.ireturn, 1) := by decide +kernel
theorem dX12_findBolts_0 : decode cX12_findBolts 0 = .ok (.aload_n 0, 1) := by decide +kernel
theorem dX12_findBolts_1 : decode cX12_findBolts 1 = .ok (.getfield 17, 3) := by decide +kernel
theorem dX12_findBolts_4 : decode cX12_findBolts 4 = .ok (.iconst 0, 1) := by decide +kernel
theorem dX12_findBolts_5 : decode cX12_findBolts 5 = .ok (.iaload, 1) := by decide +kernel
theorem dX12_findBolts_6 : decode cX12_findBolts 6 = .ok (.istore_n 1, 1) := by decide +kernel
theorem dX12_findBolts_7 : decode cX12_findBolts 7 = .ok (.aload_n 0, 1) := by decide +kernel
theorem dX12_findBolts_8 : decode cX12_findBolts 8 = .ok (.iload_n 1, 1) := by decide +kernel
theorem dX12_findBolts_9 : decode cX12_findBolts 9 = .ok (.aload_n 0, 1) := by decide +kernel
theorem dX12_findBolts_10 : decode cX12_findBolts 10 = .ok (.getfield 17, 3) := by decide +kernel
theorem dX12_findBolts_13 : decode cX12_findBolts 13 = .ok (.bipush 8, 2) := by decide +kernel
theorem dX12_findBolts_15 : decode cX12_findBolts 15 = .ok (.iaload, 1) := by decide +kernel
theorem dX12_findBolts_16 : decode cX12_findBolts 16 = .ok (.if_icmp .gt 7, 3) := by decide +kernel
theorem dX12_findBolts_19 : decode cX12_findBolts 19 = .ok (.iconst 0, 1) := by decide +kernel
theorem dX12_findBolts_20 : decode cX12_findBolts 20 = .ok (.goto 5, 3) := by decide +kernel
theorem dX12_findBolts_23 : decode cX12_findBolts 23 = .ok (.bipush (-4), 2) := by decide +kernel
theorem dX12_findBolts_25 : decode cX12_findBolts 25 = .ok (.putfield 363, 3) := by decide +kernel
theorem dX12_findBolts_28 : decode cX12_findBolts 28 = .ok (.aload_n 0, 1) := by decide +kernel
theorem dX12_findBolts_29 : decode cX12_findBolts 29 = .ok (.getfield 363, 3) := by decide +kernel
theorem dX12_findBolts_32 : decode cX12_findBolts 32 = .ok (.ifCond .ne 4, 3) := by decide +kernel
theorem dX12_findBolts_35 : decode cX12_findBolts 35 = .ok (.return_, 1) := by decide +kernel
theorem dX12_findBolts_36 : decode cX12_findBolts 36 = .ok (.aload_n 0, 1) := by decide +kernel
theorem dX12_findBolts_37 : decode cX12_findBolts 37 = .ok (.invokevirtual 366, 3) := by decide +kernel
theorem dX12_findBolts_40 : decode cX12_findBolts 40 = .ok (.iconst 0, 1) := by decide +kernel
theorem dX12_findBolts_41 : decode cX12_findBolts 41 = .ok (.istore_n 2, 1) := by decide +kernel
theorem dX12_findBolts_42 : decode cX12_findBolts 42 = .ok (.iload_n 1, 1) := by decide +kernel
theorem dX12_findBolts_43 : decode cX12_findBolts 43 = .ok (.istore_n 3, 1) := by decide +kernel
theorem dX12_findBolts_44 : decode cX12_findBolts 44 = .ok (.iload_n 3, 1) := by decide +kernel
theorem dX12_findBolts_45 : decode cX12_findBolts 45 = .ok (.ifCond .le 83, 3) := by decide +kernel
theorem dX12_findBolts_48 : decode cX12_findBolts 48 = .ok (.aload_n 0, 1) := by decide +kernel
theorem dX12_findBolts_49 : decode cX12_findBolts 49 = .ok (.iload_n 3, 1) := by decide +kernel
theorem dX12_findBolts_50 : decode cX12_findBolts 50 = .ok (.invokevirtual 369, 3) := by decide +kernel
theorem dX12_findBolts_53 : decode cX12_findBolts 53 = .ok (.ifCond .eq 31, 3) := by decide +kernel
theorem dX12_findBolts_56 : decode cX12_findBolts 56 = .ok (.aload_n 0, 1) := by decide +kernel
theorem dX12_findBolts_57 : decode cX12_findBolts 57 = .ok (.getfield 363, 3) := by decide +kernel
theorem dX12_findBolts_60 : decode cX12_findBolts 60 = .ok (.bipush (-4), 2) := by decide +kernel
theorem dX12_findBolts_62 : decode cX12_findBolts 62 = .ok (.if_icmp .eq 18, 3) := by decide +kernel
theorem dX12_findBolts_65 : decode cX12_findBolts 65 = .ok (.aload_n 0, 1) := by decide +kernel
theorem dX12_findBolts_66 : decode cX12_findBolts 66 = .ok (.getfield 50, 3) := by decide +kernel
theorem dX12_findBolts_69 : decode cX12_findBolts 69 = .ok (.iload_n 3, 1) := by decide +kernel
theorem dX12_findBolts_70 : decode cX12_findBolts 70 = .ok (.iaload, 1) := by decide +kernel
theorem dX12_findBolts_71 : decode cX12_findBolts 71 = .ok (.iconst 1, 1) := by decide +kernel
theorem dX12_findBolts_72 : decode cX12_findBolts 72 = .ok (.iadd, 1) := by decide +kernel
theorem dX12_findBolts_73 : decode cX12_findBolts 73 = .ok (.aload_n 0, 1) := by decide +kernel
theorem dX12_findBolts_74 : decode cX12_findBolts 74 = .ok (.getfield 363, 3) := by decide +kernel
theorem dX12_findBolts_77 : decode cX12_findBolts 77 = .ok (.if_icmp .gt 7, 3) := by decide +kernel
theorem dX12_findBolts_80 : decode cX12_findBolts 80 = .ok (.iconst 1, 1) := by decide +kernel
theorem dX12_findBolts_81 : decode cX12_findBolts 81 = .ok (.goto 4, 3) := by decide +kernel
theorem dX12_findBolts_84 : decode cX12_findBolts 84 = .ok (.iconst 0, 1) := by decide +kernel
theorem dX12_findBolts_85 : decode cX12_findBolts 85 = .ok (.istore 4, 2) := by decide +kernel
theorem dX12_findBolts_87 : decode cX12_findBolts 87 = .ok (.aload_n 0, 1) := by decide +kernel
theorem dX12_findBolts_88 : decode cX12_findBolts 88 = .ok (.iload 4, 2) := by decide +kernel
theorem dX12_findBolts_90 : decode cX12_findBolts 90 = .ok (.ifCond .eq 14, 3) := by decide +kernel
theorem dX12_findBolts_93 : decode cX12_findBolts 93 = .ok (.aload_n 0, 1) := by decide +kernel
theorem dX12_findBolts_94 : decode cX12_findBolts 94 = .ok (.getfield 50, 3) := by decide +kernel
theorem dX12_findBolts_97 : decode cX12_findBolts 97 = .ok (.iload_n 3, 1) := by decide +kernel
theorem dX12_findBolts_98 : decode cX12_findBolts 98 = .ok (.iaload, 1) := by decide +kernel
theorem dX12_findBolts_99 : decode cX12_findBolts 99 = .ok (.iconst 1, 1) := by decide +kernel
theorem dX12_findBolts_100 : decode cX12_findBolts 100 = .ok (.iadd, 1) := by decide +kernel
theorem dX12_findBolts_101 : decode cX12_findBolts 101 = .ok (.goto 7, 3) := by decide +kernel
theorem dX12_findBolts_104 : decode cX12_findBolts 104 = .ok (.aload_n 0, 1) := by decide +kernel
theorem dX12_findBolts_105 : decode cX12_findBolts 105 = .ok (.getfield 363, 3) := by decide +kernel
theorem dX12_findBolts_108 : decode cX12_findBolts 108 = .ok (.putfield 363, 3) := by decide +kernel
theorem dX12_findBolts_111 : decode cX12_findBolts 111 = .ok (.iload 4, 2) := by decide +kernel
theorem dX12_findBolts_113 : decode cX12_findBolts 113 = .ok (.ifCond .eq 7, 3) := by decide +kernel
theorem dX12_findBolts_116 : decode cX12_findBolts 116 = .ok (.iload_n 3, 1) := by decide +kernel
theorem dX12_findBolts_117 : decode cX12_findBolts 117 = .ok (.goto 4, 3) := by decide +kernel
theorem dX12_findBolts_120 : decode cX12_findBolts 120 = .ok (.iload_n 2, 1) := by decide +kernel
theorem dX12_findBolts_121 : decode cX12_findBolts 121 = .ok (.istore_n 2, 1) := by decide +kernel
theorem dX12_findBolts_122 : decode cX12_findBolts 122 = .ok (.iinc 3 (-1), 3) := by decide +kernel
theorem dX12_findBolts_125 : decode cX12_findBolts 125 = .ok (.goto (-81), 3) := by decide +kernel
theorem dX12_findBolts_128 : decode cX12_findBolts 128 = .ok (.iload_n 2, 1) := by decide +kernel
theorem dX12_findBolts_129 : decode cX12_findBolts 129 = .ok (.istore_n 3, 1) := by decide +kernel
theorem dX12_findBolts_130 : decode cX12_findBolts 130 = .ok (.iconst 0, 1) := by decide +kernel
theorem dX12_findBolts_131 : decode cX12_findBolts 131 = .ok (.istore 4, 2) := by decide +kernel
theorem dX12_findBolts_133 : decode cX12_findBolts 133 = .ok (.iload 4, 2) := by decide +kernel
theorem dX12_findBolts_135 : decode cX12_findBolts 135 = .ok (.aload_n 0, 1) := by decide +kernel
theorem dX12_findBolts_136 : decode cX12_findBolts 136 = .ok (.getfield 363, 3) := by decide +kernel
theorem dX12_findBolts_139 : decode cX12_findBolts 139 = .ok (.if_icmp .ge 98, 3) := by decide +kernel
theorem dX12_findBolts_142 : decode cX12_findBolts 142 = .ok (.aload_n 0, 1) := by decide +kernel
theorem dX12_findBolts_143 : decode cX12_findBolts 143 = .ok (.getfield 53, 3) := by decide +kernel
theorem dX12_findBolts_146 : decode cX12_findBolts 146 = .ok (.iload 4, 2) := by decide +kernel
theorem dX12_findBolts_148 : decode cX12_findBolts 148 = .ok (.iload_n 3, 1) := by decide +kernel
theorem dX12_findBolts_149 : decode cX12_findBolts 149 = .ok (.iastore, 1) := by decide +kernel
theorem dX12_findBolts_150 : decode cX12_findBolts 150 = .ok (.iload_n 3, 1) := by decide +kernel
theorem dX12_findBolts_151 : decode cX12_findBolts 151 = .ok (.iconst 1, 1) := by decide +kernel
theorem dX12_findBolts_152 : decode cX12_findBolts 152 = .ok (.iadd, 1) := by decide +kernel
theorem dX12_findBolts_153 : decode cX12_findBolts 153 = .ok (.istore 5, 2) := by decide +kernel
theorem dX12_findBolts_155 : decode cX12_findBolts 155 = .ok (.iload 4, 2) := by decide +kernel
theorem dX12_findBolts_157 : decode cX12_findBolts 157 = .ok (.iconst 1, 1) := by decide +kernel
theorem dX12_findBolts_158 : decode cX12_findBolts 158 = .ok (.iadd, 1) := by decide +kernel
theorem dX12_findBolts_159 : decode cX12_findBolts 159 = .ok (.aload_n 0, 1) := by decide +kernel
theorem dX12_findBolts_160 : decode cX12_findBolts 160 = .ok (.getfield 363, 3) := by decide +kernel
theorem dX12_findBolts_163 : decode cX12_findBolts 163 = .ok (.if_icmp .ge 65, 3) := by decide +kernel
theorem dX12_findBolts_166 : decode cX12_findBolts 166 = .ok (.aload_n 0, 1) := by decide +kernel
theorem dX12_findBolts_167 : decode cX12_findBolts 167 = .ok (.getfield 50, 3) := by decide +kernel
theorem dX12_findBolts_170 : decode cX12_findBolts 170 = .ok (.iload 5, 2) := by decide +kernel
theorem dX12_findBolts_172 : decode cX12_findBolts 172 = .ok (.iaload, 1) := by decide +kernel
theorem dX12_findBolts_173 : decode cX12_findBolts 173 = .ok (.bipush (-4), 2) := by decide +kernel
theorem dX12_findBolts_175 : decode cX12_findBolts 175 = .ok (.if_icmp .eq 47, 3) := by decide +kernel
theorem dX12_findBolts_178 : decode cX12_findBolts 178 = .ok (.aload_n 0, 1) := by decide +kernel
theorem dX12_findBolts_179 : decode cX12_findBolts 179 = .ok (.getfield 50, 3) := by decide +kernel
theorem dX12_findBolts_182 : decode cX12_findBolts 182 = .ok (.iload 5, 2) := by decide +kernel
theorem dX12_findBolts_184 : decode cX12_findBolts 184 = .ok (.iaload, 1) := by decide +kernel
theorem dX12_findBolts_185 : decode cX12_findBolts 185 = .ok (.iconst 1, 1) := by decide +kernel
theorem dX12_findBolts_186 : decode cX12_findBolts 186 = .ok (.iadd, 1) := by decide +kernel
theorem dX12_findBolts_187 : decode cX12_findBolts 187 = .ok (.aload_n 0, 1) := by decide +kernel
theorem dX12_findBolts_188 : decode cX12_findBolts 188 = .ok (.getfield 50, 3) := by decide +kernel
theorem dX12_findBolts_191 : decode cX12_findBolts 191 = .ok (.iload_n 3, 1) := by decide +kernel
theorem dX12_findBolts_192 : decode cX12_findBolts 192 = .ok (.iaload, 1) := by decide +kernel
theorem dX12_findBolts_193 : decode cX12_findBolts 193 = .ok (.if_icmp .ne 29, 3) := by decide +kernel
theorem dX12_findBolts_196 : decode cX12_findBolts 196 = .ok (.aload_n 0, 1) := by decide +kernel
theorem dX12_findBolts_197 : decode cX12_findBolts 197 = .ok (.iload_n 3, 1) := by decide +kernel
theorem dX12_findBolts_198 : decode cX12_findBolts 198 = .ok (.iconst 1, 1) := by decide +kernel
theorem dX12_findBolts_199 : decode cX12_findBolts 199 = .ok (.iadd, 1) := by decide +kernel
theorem dX12_findBolts_200 : decode cX12_findBolts 200 = .ok (.iload 5, 2) := by decide +kernel
theorem dX12_findBolts_202 : decode cX12_findBolts 202 = .ok (.iconst 1, 1) := by decide +kernel
theorem dX12_findBolts_203 : decode cX12_findBolts 203 = .ok (.isub, 1) := by decide +kernel
theorem dX12_findBolts_204 : decode cX12_findBolts 204 = .ok (.iload_n 3, 1) := by decide +kernel
theorem dX12_findBolts_205 : decode cX12_findBolts 205 = .ok (.invokevirtual 359, 3) := by decide +kernel
theorem dX12_findBolts_208 : decode cX12_findBolts 208 = .ok (.ifCond .eq 14, 3) := by decide +kernel
theorem dX12_findBolts_211 : decode cX12_findBolts 211 = .ok (.aload_n 0, 1) := by decide +kernel
theorem dX12_findBolts_212 : decode cX12_findBolts 212 = .ok (.iload 5, 2) := by decide +kernel
theorem dX12_findBolts_214 : decode cX12_findBolts 214 = .ok (.iload 5, 2) := by decide +kernel
theorem dX12_findBolts_216 : decode cX12_findBolts 216 = .ok (.invokevirtual 356, 3) := by decide +kernel
theorem dX12_findBolts_219 : decode cX12_findBolts 219 = .ok (.ifCond .ne 9, 3) := by decide +kernel
theorem dX12_findBolts_222 : decode cX12_findBolts 222 = .ok (.iinc 5 1, 3) := by decide +kernel
theorem dX12_findBolts_225 : decode cX12_findBolts 225 = .ok (.goto (-70), 3) := by decide +kernel
theorem dX12_findBolts_228 : decode cX12_findBolts 228 = .ok (.iload 5, 2) := by decide +kernel
theorem dX12_findBolts_230 : decode cX12_findBolts 230 = .ok (.istore_n 3, 1) := by decide +kernel
theorem dX12_findBolts_231 : decode cX12_findBolts 231 = .ok (.iinc 4 1, 3) := by decide +kernel
theorem dX12_findBolts_234 : decode cX12_findBolts 234 = .ok (.goto (-101), 3) := by decide +kernel
theorem dX12_findBolts_237 : decode cX12_findBolts 237 = .ok (.return_, 1) := by decide +kernel
theorem dX12_bolts_0 : decode cX12_bolts 0 = .ok (.iload_n 1, 1) := by decide +kernel
theorem dX12_bolts_1 : decode cX12_bolts 1 = .ok (.ifCond .eq 19, 3) := by decide +kernel
theorem dX12_bolts_4 : decode cX12_bolts 4 = .ok (.iload_n 1, 1) := by decide +kernel
theorem dX12_bolts_5 : decode cX12_bolts 5 = .ok (.i2l, 1) := by decide +kernel
theorem dX12_bolts_6 : decode cX12_bolts 6 = .ok (.ldc2_w 187, 3) := by decide +kernel
theorem dX12_bolts_9 : decode cX12_bolts 9 = .ok (.ldc2_w 329, 3) := by decide +kernel
theorem dX12_bolts_12 : decode cX12_bolts 12 = .ok (.invokestatic 82, 3) := by decide +kernel
theorem dX12_bolts_15 : decode cX12_bolts 15 = .ok (.ifCond .ne 5, 3) := by decide +kernel
theorem dX12_bolts_18 : decode cX12_bolts 18 = .ok (.iconst (-1), 1) := by decide +kernel
theorem dX12_bolts_19 : decode cX12_bolts 19 = .ok (.ireturn, 1) := by decide +kernel
theorem dX12_bolts_20 : decode cX12_bolts 20 = .ok (.aload_n 0, 1) := by decide +kernel
theorem dX12_bolts_21 : decode cX12_bolts 21 = .ok (.invokevirtual 372, 3) := by decide +kernel
theorem dX12_bolts_24 : decode cX12_bolts 24 = .ok (.aload_n 0, 1) := by decide +kernel
theorem dX12_bolts_25 : decode cX12_bolts 25 = .ok (.getfield 363, 3) := by decide +kernel
theorem dX12_bolts_28 : decode cX12_bolts 28 = .ok (.bipush (-4), 2) := by decide +kernel
theorem dX12_bolts_30 : decode cX12_bolts 30 = .ok (.if_icmp .ne 6, 3) := by decide +kernel
theorem dX12_bolts_33 : decode cX12_bolts 33 = .ok (.bipush (-4), 2) := by decide +kernel
theorem dX12_bolts_35 : decode cX12_bolts 35 = .ok (.ireturn, 1) := by decide +kernel
theorem dX12_bolts_36 : decode cX12_bolts 36 = .ok (.iload_n 1, 1) := by decide +kernel
theorem dX12_bolts_37 : decode cX12_bolts 37 = .ok (.ifCond .ne 10, 3) := by decide +kernel
theorem dX12_bolts_40 : decode cX12_bolts 40 = .ok (.aload_n 0, 1) := by decide +kernel
theorem dX12_bolts_41 : decode cX12_bolts 41 = .ok (.getfield 363, 3) := by decide +kernel
theorem dX12_bolts_44 : decode cX12_bolts 44 = .ok (.goto 27, 3) := by decide +kernel
theorem dX12_bolts_47 : decode cX12_bolts 47 = .ok (.iload_n 1, 1) := by decide +kernel
theorem dX12_bolts_48 : decode cX12_bolts 48 = .ok (.bipush 10, 2) := by decide +kernel
theorem dX12_bolts_50 : decode cX12_bolts 50 = .ok (.isub, 1) := by decide +kernel
theorem dX12_bolts_51 : decode cX12_bolts 51 = .ok (.aload_n 0, 1) := by decide +kernel
theorem dX12_bolts_52 : decode cX12_bolts 52 = .ok (.getfield 363, 3) := by decide +kernel
theorem dX12_bolts_55 : decode cX12_bolts 55 = .ok (.if_icmp .ge 15, 3) := by decide +kernel
theorem dX12_bolts_58 : decode cX12_bolts 58 = .ok (.aload_n 0, 1) := by decide +kernel
theorem dX12_bolts_59 : decode cX12_bolts 59 = .ok (.getfield 53, 3) := by decide +kernel
theorem dX12_bolts_62 : decode cX12_bolts 62 = .ok (.iload_n 1, 1) := by decide +kernel
theorem dX12_bolts_63 : decode cX12_bolts 63 = .ok (.bipush 10, 2) := by decide +kernel
theorem dX12_bolts_65 : decode cX12_bolts 65 = .ok (.isub, 1) := by decide +kernel
theorem dX12_bolts_66 : decode cX12_bolts 66 = .ok (.iaload, 1) := by decide +kernel
theorem dX12_bolts_67 : decode cX12_bolts 67 = .ok (.goto 4, 3) := by decide +kernel
theorem dX12_bolts_70 : decode cX12_bolts 70 = .ok (.iconst (-1), 1) := by decide +kernel
theorem dX12_bolts_71 : decode cX12_bolts 71 = .ok (.ireturn, 1) := by decide +kernel
abbrev q_X12_pitches (w : Int) (σ : tw_M) : Option tw_V → tw_M → Prop := fun z τ => ∃ r : Int, z = some (vI r) ∧ (-2147483648 ≤ r ∧ r ≤ 2147483647) ∧ tw_I τ ∧ tw_F (fun c j => (c = 88 ∧ (j = 30)) ∨ (99 ≤ c ∧ c < 101)) σ τ ∧ True
set_option maxHeartbeats 4000000 in
set_option maxRecDepth 100000 in
theorem c_X12_pitches {G : tw_G} (hM : tw_isM G) (w : Int) (hw : -2147483648 ≤ w ∧ w ≤ 2147483647) (σ : tw_M) (hI : tw_I σ) : tw_C G yX12_pitches cX12_pitches 2 (some .int) 3 [vR 88, vI w] σ (q_X12_pitches w σ) := by
  refine tw_met [(0, vR 88), (1, vI w)] (by decide +kernel) rfl (Nat.le_of_ble_eq_true rfl) ?_
  refine j_iload_n (pc := 0) dX12_pitches_0 rfl rfl ?_
  refine j_ifR_eq (pc := 1) (tgt := 20) ⟨by omega, by omega⟩ dX12_pitches_1 rfl (fun h1 => ?_) (fun h1 => ?_)
  · refine j_aload_n (pc := 20) dX12_pitches_20 rfl rfl ?_
    refine j_callV (pc := 21) (As := []) (st := []) (c_X12_findPitches hM σ hI) mv_X12_331 rfl rfl rfl (a_88 hM) dX12_pitches_21 ⟨Nat.le_of_ble_eq_true rfl, Nat.le_of_ble_eq_true rfl⟩ ⟨Nat.le_refl _, Nat.le_refl _⟩ rfl (Nat.le_of_ble_eq_true rfl) rfl (fun z2 σ3 hz2 => ?_)
    obtain ⟨rfl, hIσ3, hGσ3, -⟩ := hz2
    have hFσ3 : tw_F (fun c j => (c = 88 ∧ (j = 30)) ∨ (99 ≤ c ∧ c < 101)) σ σ3 := tw_F_tr (tw_F_rf) hGσ3 (fun c j q => (show (c = 88 ∧ (j = 30)) ∨ (99 ≤ c ∧ c < 101) from by replace q : (c = 88 ∧ (j = 30)) ∨ (99 ≤ c ∧ c < 101) := q; exact q))
    refine j_st (st' := []) rfl ?_
    refine j_aload_n (pc := 24) dX12_pitches_24 rfl rfl ?_
    refine j_getI (pc := 25) fl_X12_326 dX12_pitches_25 (a_88 hM) rfl ?_
    have f6 : (-4 : Int) ≤ σ3 88 30 ∧ σ3 88 30 ≤ 40 := hIσ3 88 30
    refine j_bipush (pc := 28) dX12_pitches_28 rfl ?_
    refine j_icmpR_ne (pc := 30) (tgt := 36) ⟨by omega, by omega⟩ ⟨by omega, by omega⟩ dX12_pitches_30 rfl (fun h7 => ?_) (fun h7 => ?_)
    · refine j_iload_n (pc := 36) dX12_pitches_36 rfl rfl ?_
      refine j_ifR_ne (pc := 37) (tgt := 47) ⟨by omega, by omega⟩ dX12_pitches_37 rfl (fun h8 => by exfalso; omega) (fun h8 => ?_)
      refine j_aload_n (pc := 40) dX12_pitches_40 rfl rfl ?_
      refine j_getI (pc := 41) fl_X12_326 dX12_pitches_41 (a_88 hM) rfl ?_
      refine j_goto (pc := 44) (tgt := 71) dX12_pitches_44 rfl ?_
      exact j_iret (pc := 71) ⟨rfl, rfl⟩ dX12_pitches_71 rfl ⟨_, rfl, ⟨by omega, by omega⟩, hIσ3, hFσ3, trivial⟩
    · refine j_bipush (pc := 33) dX12_pitches_33 rfl ?_
      exact j_iret (pc := 35) ⟨rfl, rfl⟩ dX12_pitches_35 rfl ⟨_, rfl, ⟨by omega, by omega⟩, hIσ3, hFσ3, trivial⟩
  · refine j_iload_n (pc := 4) dX12_pitches_4 rfl rfl ?_
    refine j_i2l (pc := 5) dX12_pitches_5 ?_
    rw [w32_eq (a := w) (by omega) (by omega)]
    refine j_ldc2 (pc := 6) (z := 10) dX12_pitches_6 (tw_inc tm_6 (i := 239) rfl rfl) ?_
    refine j_ldc2 (pc := 9) (z := 49) dX12_pitches_9 (tw_inc tm_7 (i := 182) rfl rfl) ?_
    refine j_callS (pc := 12) (As := [vL w, vL 10, vL 49]) (st := []) (c_X12_in w ⟨by omega, by omega⟩ 10 (by (first | decide | exact ⟨by omega, by omega⟩)) 49 (by (first | decide | exact ⟨by omega, by omega⟩)) σ hI) ms_X12_82 rfl dX12_pitches_12 ⟨Nat.le_of_ble_eq_true rfl, Nat.le_of_ble_eq_true rfl⟩ ⟨Nat.le_refl _, Nat.le_refl _⟩ rfl (Nat.le_of_ble_eq_true rfl) rfl (fun z9 σ10 hz9 => ?_)
    obtain ⟨r12, rfl, hr12, rfl, q11_0⟩ := hz9
    replace q11_0 : (r12 = 1 ∧ (10 : Int) ≤ w ∧ w ≤ (49 : Int)) ∨ (r12 = 0 ∧ ¬ ((10 : Int) ≤ w ∧ w ≤ (49 : Int))) := q11_0
    refine j_st (st' := [vI r12]) rfl ?_
    refine j_ifR_ne (pc := 15) (tgt := 20) ⟨by omega, by omega⟩ dX12_pitches_15 rfl (fun h13 => ?_) (fun h13 => ?_)
    · refine j_aload_n (pc := 20) dX12_pitches_20 rfl rfl ?_
      refine j_callV (pc := 21) (As := []) (st := []) (c_X12_findPitches hM σ hI) mv_X12_331 rfl rfl rfl (a_88 hM) dX12_pitches_21 ⟨Nat.le_of_ble_eq_true rfl, Nat.le_of_ble_eq_true rfl⟩ ⟨Nat.le_refl _, Nat.le_refl _⟩ rfl (Nat.le_of_ble_eq_true rfl) rfl (fun z14 σ15 hz14 => ?_)
      obtain ⟨rfl, hIσ15, hGσ15, -⟩ := hz14
      have hFσ15 : tw_F (fun c j => (c = 88 ∧ (j = 30)) ∨ (99 ≤ c ∧ c < 101)) σ σ15 := tw_F_tr (tw_F_rf) hGσ15 (fun c j q => (show (c = 88 ∧ (j = 30)) ∨ (99 ≤ c ∧ c < 101) from by replace q : (c = 88 ∧ (j = 30)) ∨ (99 ≤ c ∧ c < 101) := q; exact q))
      refine j_st (st' := []) rfl ?_
      refine j_aload_n (pc := 24) dX12_pitches_24 rfl rfl ?_
      refine j_getI (pc := 25) fl_X12_326 dX12_pitches_25 (a_88 hM) rfl ?_
      have f18 : (-4 : Int) ≤ σ15 88 30 ∧ σ15 88 30 ≤ 40 := hIσ15 88 30
      refine j_bipush (pc := 28) dX12_pitches_28 rfl ?_
      refine j_icmpR_ne (pc := 30) (tgt := 36) ⟨by omega, by omega⟩ ⟨by omega, by omega⟩ dX12_pitches_30 rfl (fun h19 => ?_) (fun h19 => ?_)
      · refine j_iload_n (pc := 36) dX12_pitches_36 rfl rfl ?_
        refine j_ifR_ne (pc := 37) (tgt := 47) ⟨by omega, by omega⟩ dX12_pitches_37 rfl (fun h20 => ?_) (fun h20 => ?_)
        · refine j_iload_n (pc := 47) dX12_pitches_47 rfl rfl ?_
          refine j_bipush (pc := 48) dX12_pitches_48 rfl ?_
          refine j_isub (pc := 50) dX12_pitches_50 ?_
          refine j_top (fun z21 ez21 hz21 => ?_)
          have gz21 : w - 10 < -2147483648 ∨ 2147483647 < w - 10 ∨ z21 = w - 10 := by rw [ez21]; exact w32_or _
          refine j_aload_n (pc := 51) dX12_pitches_51 rfl rfl ?_
          refine j_getI (pc := 52) fl_X12_326 dX12_pitches_52 (a_88 hM) rfl ?_
          refine j_icmpR_ge (pc := 55) (tgt := 70) ⟨by omega, by omega⟩ ⟨by omega, by omega⟩ dX12_pitches_55 rfl (fun h22 => ?_) (fun h22 => ?_)
          · refine j_iconst (pc := 70) dX12_pitches_70 ?_
            exact j_iret (pc := 71) ⟨rfl, rfl⟩ dX12_pitches_71 rfl ⟨_, rfl, ⟨by omega, by omega⟩, hIσ15, hFσ15, trivial⟩
          · refine j_aload_n (pc := 58) dX12_pitches_58 rfl rfl ?_
            refine j_getR (pc := 59) (r := 100) fl_X12_44 dX12_pitches_59 (a_88 hM) rfl ?_
            refine j_iload_n (pc := 62) dX12_pitches_62 rfl rfl ?_
            refine j_bipush (pc := 63) dX12_pitches_63 rfl ?_
            refine j_isub (pc := 65) dX12_pitches_65 ?_
            refine j_top (fun z23 ez23 hz23 => ?_)
            have gz23 : w - 10 < -2147483648 ∨ 2147483647 < w - 10 ∨ z23 = w - 10 := by rw [ez23]; exact w32_or _
            refine j_iald (pc := 66) dX12_pitches_66 (a_100 hM) (by omega) (by omega) (by decide) ?_
            have f24 : (0 : Int) ≤ σ15 100 (z23.toNat) ∧ σ15 100 (z23.toNat) ≤ 40 := hIσ15 100 (z23.toNat)
            refine j_goto (pc := 67) (tgt := 71) dX12_pitches_67 rfl ?_
            exact j_iret (pc := 71) ⟨rfl, rfl⟩ dX12_pitches_71 rfl ⟨_, rfl, ⟨by omega, by omega⟩, hIσ15, hFσ15, trivial⟩
        · refine j_aload_n (pc := 40) dX12_pitches_40 rfl rfl ?_
          refine j_getI (pc := 41) fl_X12_326 dX12_pitches_41 (a_88 hM) rfl ?_
          refine j_goto (pc := 44) (tgt := 71) dX12_pitches_44 rfl ?_
          exact j_iret (pc := 71) ⟨rfl, rfl⟩ dX12_pitches_71 rfl ⟨_, rfl, ⟨by omega, by omega⟩, hIσ15, hFσ15, trivial⟩
      · refine j_bipush (pc := 33) dX12_pitches_33 rfl ?_
        exact j_iret (pc := 35) ⟨rfl, rfl⟩ dX12_pitches_35 rfl ⟨_, rfl, ⟨by omega, by omega⟩, hIσ15, hFσ15, trivial⟩
    · refine j_iconst (pc := 18) dX12_pitches_18 ?_
      exact j_iret (pc := 19) ⟨rfl, rfl⟩ dX12_pitches_19 rfl ⟨_, rfl, ⟨by omega, by omega⟩, hI, (tw_F_rf), trivial⟩
abbrev q_X12_costOf (i : Int) (g : Int) (σ : tw_M) : Option tw_V → tw_M → Prop := fun z τ => ∃ r : Int, z = some (vI r) ∧ (-2147483648 ≤ r ∧ r ≤ 2147483647) ∧ σ = τ ∧ True
set_option maxHeartbeats 4000000 in
set_option maxRecDepth 100000 in
theorem l_X12_costOf {G : tw_G} (hM : tw_isM G) (i : Int) (hi : 0 ≤ i ∧ i ≤ 39) (g : Int) (hg : 1 ≤ g ∧ g ≤ 9) (σ : tw_M) (hI : tw_I σ) : ∀ N_ : Nat, (∀ (s : Int) (hs : -2147483648 ≤ s ∧ s ≤ 2147483647) (h : Int) (hh : 1 ≤ h ∧ h ≤ 41)  (hm : (41 - h).toNat < N_), tw_J G (tw_mt RX12 cX12_costOf 5 (some .int) 1) (tw_E G (q_X12_costOf i g σ)) 22 [(0, vR 88), (1, vI i), (2, vI g), (3, vI s), (4, vI h)] [] σ) := by
  intro N_
  induction N_ with
  | zero => exact fun s hs h hh hm => absurd hm (Nat.not_lt_zero _)
  | succ N_ ih =>
    intro s hs h hh hm
    refine j_iload (pc := 22) dX12_costOf_22 rfl ?_
    refine j_aload_n (pc := 24) dX12_costOf_24 rfl rfl ?_
    refine j_getR (pc := 25) (r := 100) fl_X12_44 dX12_costOf_25 (a_88 hM) rfl ?_
    refine j_iload_n (pc := 28) dX12_costOf_28 rfl rfl ?_
    refine j_iald (pc := 29) dX12_costOf_29 (a_100 hM) (by omega) (by omega) (by decide) ?_
    have f1 : (0 : Int) ≤ σ 100 (i.toNat) ∧ σ 100 (i.toNat) ≤ 40 := hI 100 (i.toNat)
    refine j_icmpR_gt (pc := 30) (tgt := 49) ⟨by omega, by omega⟩ ⟨by omega, by omega⟩ dX12_costOf_30 rfl (fun h2 => ?_) (fun h2 => ?_)
    · refine j_iload_n (pc := 49) dX12_costOf_49 rfl rfl ?_
      refine j_iload_n (pc := 50) dX12_costOf_50 rfl rfl ?_
      refine j_iadd (pc := 51) dX12_costOf_51 ?_
      refine j_top (fun z3 ez3 hz3 => ?_)
      refine j_iconst (pc := 52) dX12_costOf_52 ?_
      refine j_isub (pc := 53) dX12_costOf_53 ?_
      refine j_top (fun z4 ez4 hz4 => ?_)
      refine j_iload_n (pc := 54) dX12_costOf_54 rfl rfl ?_
      refine j_idiv (pc := 55) dX12_costOf_55 (tw_nz ⟨by omega, by omega⟩ (by omega)) (fun z5 ez5 => ?_)
      have hz5 : (-2147483648 : Int) ≤ z5 ∧ z5 ≤ 2147483647 := by rw [ez5]; exact div_in _ _
      exact j_iret (pc := 56) ⟨rfl, rfl⟩ dX12_costOf_56 rfl ⟨_, rfl, ⟨by omega, by omega⟩, rfl, trivial⟩
    · refine j_iload_n (pc := 33) dX12_costOf_33 rfl rfl ?_
      refine j_aload_n (pc := 34) dX12_costOf_34 rfl rfl ?_
      refine j_iload (pc := 35) dX12_costOf_35 rfl ?_
      refine j_iconst (pc := 37) dX12_costOf_37 ?_
      refine j_callV (pc := 38) (As := [vI h, vI 0]) (st := [vI s]) (c_X12_of hM h ⟨by omega, by omega⟩ 0 (by (first | decide | exact ⟨by omega, by omega⟩)) σ hI) mv_X12_184 rfl rfl rfl (a_88 hM) dX12_costOf_38 ⟨Nat.le_of_ble_eq_true rfl, Nat.le_of_ble_eq_true rfl⟩ ⟨Nat.le_refl _, Nat.le_refl _⟩ rfl (Nat.le_of_ble_eq_true rfl) rfl (fun z6 σ7 hz6 => ?_)
      obtain ⟨r9, rfl, hr9, rfl, q8_0⟩ := hz6
      replace q8_0 : r9 = σ 92 (5 * h + (0 : Int)).toNat := q8_0
      refine j_st (st' := [vI r9, vI s]) rfl ?_
      refine j_iadd (pc := 41) dX12_costOf_41 ?_
      refine j_top (fun z10 ez10 hz10 => ?_)
      refine j_istore_n (pc := 42) (i := 3) (ls' := [(0, vR 88), (1, vI i), (2, vI g), (3, vI z10), (4, vI h)]) [1, 2, 3, 0, 4] dX12_costOf_42 rfl (Nat.le_of_ble_eq_true rfl) rfl rfl ?_
      refine j_iinc (pc := 43) (i := 4) (n := 1) (ls' := [(0, vR 88), (1, vI i), (2, vI g), (3, vI z10), (4, vI (h + 1))]) [1, 2, 3, 4, 0] dX12_costOf_43 rfl (Nat.le_of_ble_eq_true rfl) rfl rfl ?_
      refine j_goto (pc := 46) (tgt := 22) dX12_costOf_46 rfl ?_
      refine j_ls (ls' := [(0, vR 88), (1, vI i), (2, vI g), (3, vI z10), (4, vI (h + 1))]) [0, 1, 2, 3, 4] rfl ?_
      exact ih z10 ⟨by omega, by omega⟩ (h + 1) ⟨by omega, by omega⟩ (show (41 - (h + 1)).toNat < N_ from by omega)
set_option maxHeartbeats 4000000 in
set_option maxRecDepth 100000 in
theorem c_X12_costOf {G : tw_G} (hM : tw_isM G) (i : Int) (hi : 0 ≤ i ∧ i ≤ 39) (g : Int) (hg : 1 ≤ g ∧ g ≤ 9) (σ : tw_M) (hI : tw_I σ) : tw_C G yX12_costOf cX12_costOf 5 (some .int) 1 [vR 88, vI i, vI g] σ (q_X12_costOf i g σ) := by
  refine tw_met [(0, vR 88), (1, vI i), (2, vI g)] (by decide +kernel) rfl (Nat.le_of_ble_eq_true rfl) ?_
  refine j_iconst (pc := 0) dX12_costOf_0 ?_
  refine j_istore_n (pc := 1) (i := 3) (ls' := [(0, vR 88), (1, vI i), (2, vI g), (3, vI 0)]) [1, 2, 3, 0] dX12_costOf_1 rfl (Nat.le_of_ble_eq_true rfl) rfl rfl ?_
  refine j_iload_n (pc := 2) dX12_costOf_2 rfl rfl ?_
  refine j_ifR_ne (pc := 3) (tgt := 10) ⟨by omega, by omega⟩ dX12_costOf_3 rfl (fun h11 => ?_) (fun h11 => ?_)
  · refine j_aload_n (pc := 10) dX12_costOf_10 rfl rfl ?_
    refine j_getR (pc := 11) (r := 100) fl_X12_44 dX12_costOf_11 (a_88 hM) rfl ?_
    refine j_iload_n (pc := 14) dX12_costOf_14 rfl rfl ?_
    refine j_iconst (pc := 15) dX12_costOf_15 ?_
    refine j_isub (pc := 16) dX12_costOf_16 ?_
    refine j_iald (pc := 17) dX12_costOf_17 (a_100 hM) (by omega) (by omega) (by decide) ?_
    have f12 : (0 : Int) ≤ σ 100 ((i - 1).toNat) ∧ σ 100 ((i - 1).toNat) ≤ 40 := hI 100 ((i - 1).toNat)
    refine j_iconst (pc := 18) dX12_costOf_18 ?_
    refine j_iadd (pc := 19) dX12_costOf_19 ?_
    refine j_istore (pc := 20) (i := 4) (ls' := [(0, vR 88), (1, vI i), (2, vI g), (3, vI 0), (4, vI ((σ 100 ((i - 1).toNat)) + 1))]) [1, 2, 3, 4, 0] dX12_costOf_20 (Nat.le_of_ble_eq_true rfl) rfl rfl ?_
    refine j_ls (ls' := [(0, vR 88), (1, vI i), (2, vI g), (3, vI 0), (4, vI ((σ 100 ((i - 1).toNat)) + 1))]) [0, 1, 2, 3, 4] rfl ?_
    exact (l_X12_costOf hM i hi g hg σ hI (((41 - ((σ 100 ((i - 1).toNat)) + 1)).toNat) + 1)) 0 (by (first | decide | exact ⟨by omega, by omega⟩)) ((σ 100 ((i - 1).toNat)) + 1) ⟨by omega, by omega⟩ (Nat.lt_succ_self _)
  · refine j_iconst (pc := 6) dX12_costOf_6 ?_
    refine j_goto (pc := 7) (tgt := 20) dX12_costOf_7 rfl ?_
    refine j_istore (pc := 20) (i := 4) (ls' := [(0, vR 88), (1, vI i), (2, vI g), (3, vI 0), (4, vI 1)]) [1, 2, 3, 4, 0] dX12_costOf_20 (Nat.le_of_ble_eq_true rfl) rfl rfl ?_
    refine j_ls (ls' := [(0, vR 88), (1, vI i), (2, vI g), (3, vI 0), (4, vI 1)]) [0, 1, 2, 3, 4] rfl ?_
    exact (l_X12_costOf hM i hi g hg σ hI (((41 - (1 : Int)).toNat) + 1)) 0 (by (first | decide | exact ⟨by omega, by omega⟩)) 1 (by (first | decide | exact ⟨by omega, by omega⟩)) (Nat.lt_succ_self _)
abbrev q_X12_turnsCost (a : Int) (b : Int) (o : Int) (σ : tw_M) : Option tw_V → tw_M → Prop := fun z τ => ∃ r : Int, z = some (vI r) ∧ (-2147483648 ≤ r ∧ r ≤ 2147483647) ∧ σ = τ ∧ True
set_option maxHeartbeats 4000000 in
set_option maxRecDepth 100000 in
theorem l_X12_turnsCost {G : tw_G} (hM : tw_isM G) (a : Int) (ha : 1 ≤ a ∧ a ≤ 9) (b : Int) (hb : 1 ≤ b ∧ b ≤ 9) (o : Int) (ho : 0 ≤ o ∧ o ≤ 1) (σ : tw_M) (hI : tw_I σ) : ∀ N_ : Nat, (∀ (s : Int) (hs : -2147483648 ≤ s ∧ s ≤ 2147483647) (i : Int) (hi : 0 ≤ i ∧ i ≤ 40)  (hm : (40 - i).toNat < N_), tw_J G (tw_mt RX12 cX12_turnsCost 6 (some .int) 2) (tw_E G (q_X12_turnsCost a b o σ)) 6 [(0, vR 88), (1, vI a), (2, vI b), (3, vI o), (4, vI s), (5, vI i)] [] σ) := by
  intro N_
  induction N_ with
  | zero => exact fun s hs i hi hm => absurd hm (Nat.not_lt_zero _)
  | succ N_ ih =>
    intro s hs i hi hm
    refine j_iload (pc := 6) dX12_turnsCost_6 rfl ?_
    refine j_aload_n (pc := 8) dX12_turnsCost_8 rfl rfl ?_
    refine j_getI (pc := 9) fl_X12_326 dX12_turnsCost_9 (a_88 hM) rfl ?_
    have f1 : (-4 : Int) ≤ σ 88 30 ∧ σ 88 30 ≤ 40 := hI 88 30
    refine j_icmpR_ge (pc := 12) (tgt := 46) ⟨by omega, by omega⟩ ⟨by omega, by omega⟩ dX12_turnsCost_12 rfl (fun h2 => ?_) (fun h2 => ?_)
    · refine j_iload (pc := 46) dX12_turnsCost_46 rfl ?_
      exact j_iret (pc := 48) ⟨rfl, rfl⟩ dX12_turnsCost_48 rfl ⟨_, rfl, ⟨by omega, by omega⟩, rfl, trivial⟩
    · refine j_iload (pc := 15) dX12_turnsCost_15 rfl ?_
      refine j_aload_n (pc := 17) dX12_turnsCost_17 rfl rfl ?_
      refine j_iload (pc := 18) dX12_turnsCost_18 rfl ?_
      refine j_iload (pc := 20) dX12_turnsCost_20 rfl ?_
      refine j_iload_n (pc := 22) dX12_turnsCost_22 rfl rfl ?_
      refine j_iadd (pc := 23) dX12_turnsCost_23 ?_
      refine j_iconst (pc := 24) dX12_turnsCost_24 ?_
      refine j_irem (pc := 25) dX12_turnsCost_25 (tw_nz ⟨by omega, by omega⟩ (by omega)) (fun z3 ez3 => ?_)
      have hz3 : (-2147483648 : Int) ≤ z3 ∧ z3 ≤ 2147483647 := by rw [ez3]; exact rem_in _ _
      refine j_ifR_ne (pc := 26) (tgt := 33) ⟨by omega, by omega⟩ dX12_turnsCost_26 rfl (fun h4 => ?_) (fun h4 => ?_)
      · refine j_iload_n (pc := 33) dX12_turnsCost_33 rfl rfl ?_
        refine j_callV (pc := 34) (As := [vI i, vI b]) (st := [vI s]) (c_X12_costOf hM i ⟨by omega, by omega⟩ b ⟨by omega, by omega⟩ σ hI) mv_X12_334 rfl rfl rfl (a_88 hM) dX12_turnsCost_34 ⟨Nat.le_of_ble_eq_true rfl, Nat.le_of_ble_eq_true rfl⟩ ⟨Nat.le_refl _, Nat.le_refl _⟩ rfl (Nat.le_of_ble_eq_true rfl) rfl (fun z5 σ6 hz5 => ?_)
        obtain ⟨r8, rfl, hr8, rfl, -⟩ := hz5
        refine j_st (st' := [vI r8, vI s]) rfl ?_
        refine j_iadd (pc := 37) dX12_turnsCost_37 ?_
        refine j_top (fun z9 ez9 hz9 => ?_)
        refine j_istore (pc := 38) (i := 4) (ls' := [(0, vR 88), (1, vI a), (2, vI b), (3, vI o), (4, vI z9), (5, vI i)]) [1, 2, 3, 4, 0, 5] dX12_turnsCost_38 (Nat.le_of_ble_eq_true rfl) rfl rfl ?_
        refine j_iinc (pc := 40) (i := 5) (n := 1) (ls' := [(0, vR 88), (1, vI a), (2, vI b), (3, vI o), (4, vI z9), (5, vI (i + 1))]) [1, 2, 3, 4, 5, 0] dX12_turnsCost_40 rfl (Nat.le_of_ble_eq_true rfl) rfl rfl ?_
        refine j_goto (pc := 43) (tgt := 6) dX12_turnsCost_43 rfl ?_
        refine j_ls (ls' := [(0, vR 88), (1, vI a), (2, vI b), (3, vI o), (4, vI z9), (5, vI (i + 1))]) [0, 1, 2, 3, 4, 5] rfl ?_
        exact ih z9 ⟨by omega, by omega⟩ (i + 1) ⟨by omega, by omega⟩ (show (40 - (i + 1)).toNat < N_ from by omega)
      · refine j_iload_n (pc := 29) dX12_turnsCost_29 rfl rfl ?_
        refine j_goto (pc := 30) (tgt := 34) dX12_turnsCost_30 rfl ?_
        refine j_callV (pc := 34) (As := [vI i, vI a]) (st := [vI s]) (c_X12_costOf hM i ⟨by omega, by omega⟩ a ⟨by omega, by omega⟩ σ hI) mv_X12_334 rfl rfl rfl (a_88 hM) dX12_turnsCost_34 ⟨Nat.le_of_ble_eq_true rfl, Nat.le_of_ble_eq_true rfl⟩ ⟨Nat.le_refl _, Nat.le_refl _⟩ rfl (Nat.le_of_ble_eq_true rfl) rfl (fun z10 σ11 hz10 => ?_)
        obtain ⟨r13, rfl, hr13, rfl, -⟩ := hz10
        refine j_st (st' := [vI r13, vI s]) rfl ?_
        refine j_iadd (pc := 37) dX12_turnsCost_37 ?_
        refine j_top (fun z14 ez14 hz14 => ?_)
        refine j_istore (pc := 38) (i := 4) (ls' := [(0, vR 88), (1, vI a), (2, vI b), (3, vI o), (4, vI z14), (5, vI i)]) [1, 2, 3, 4, 0, 5] dX12_turnsCost_38 (Nat.le_of_ble_eq_true rfl) rfl rfl ?_
        refine j_iinc (pc := 40) (i := 5) (n := 1) (ls' := [(0, vR 88), (1, vI a), (2, vI b), (3, vI o), (4, vI z14), (5, vI (i + 1))]) [1, 2, 3, 4, 5, 0] dX12_turnsCost_40 rfl (Nat.le_of_ble_eq_true rfl) rfl rfl ?_
        refine j_goto (pc := 43) (tgt := 6) dX12_turnsCost_43 rfl ?_
        refine j_ls (ls' := [(0, vR 88), (1, vI a), (2, vI b), (3, vI o), (4, vI z14), (5, vI (i + 1))]) [0, 1, 2, 3, 4, 5] rfl ?_
        exact ih z14 ⟨by omega, by omega⟩ (i + 1) ⟨by omega, by omega⟩ (show (40 - (i + 1)).toNat < N_ from by omega)
set_option maxHeartbeats 4000000 in
set_option maxRecDepth 100000 in
theorem c_X12_turnsCost {G : tw_G} (hM : tw_isM G) (a : Int) (ha : 1 ≤ a ∧ a ≤ 9) (b : Int) (hb : 1 ≤ b ∧ b ≤ 9) (o : Int) (ho : 0 ≤ o ∧ o ≤ 1) (σ : tw_M) (hI : tw_I σ) : tw_C G yX12_turnsCost cX12_turnsCost 6 (some .int) 2 [vR 88, vI a, vI b, vI o] σ (q_X12_turnsCost a b o σ) := by
  refine tw_met [(0, vR 88), (1, vI a), (2, vI b), (3, vI o)] (by decide +kernel) rfl (Nat.le_of_ble_eq_true rfl) ?_
  refine j_iconst (pc := 0) dX12_turnsCost_0 ?_
  refine j_istore (pc := 1) (i := 4) (ls' := [(0, vR 88), (1, vI a), (2, vI b), (3, vI o), (4, vI 0)]) [1, 2, 3, 4, 0] dX12_turnsCost_1 (Nat.le_of_ble_eq_true rfl) rfl rfl ?_
  refine j_iconst (pc := 3) dX12_turnsCost_3 ?_
  refine j_istore (pc := 4) (i := 5) (ls' := [(0, vR 88), (1, vI a), (2, vI b), (3, vI o), (4, vI 0), (5, vI 0)]) [1, 2, 3, 4, 5, 0] dX12_turnsCost_4 (Nat.le_of_ble_eq_true rfl) rfl rfl ?_
  refine j_ls (ls' := [(0, vR 88), (1, vI a), (2, vI b), (3, vI o), (4, vI 0), (5, vI 0)]) [0, 1, 2, 3, 4, 5] rfl ?_
  exact (l_X12_turnsCost hM a ha b hb o ho σ hI (((40 - (0 : Int)).toNat) + 1)) 0 (by (first | decide | exact ⟨by omega, by omega⟩)) 0 (by (first | decide | exact ⟨by omega, by omega⟩)) (Nat.lt_succ_self _)
abbrev q_X12_leads (a : Int) (b : Int) (t : Int) (w : Int) (σ : tw_M) : Option tw_V → tw_M → Prop := fun z τ => ∃ r : Int, z = some (vI r) ∧ (-2147483648 ≤ r ∧ r ≤ 2147483647) ∧ tw_I τ ∧ tw_F (fun c j => (c = 88 ∧ (j = 30)) ∨ (99 ≤ c ∧ c < 101)) σ τ ∧ True
set_option maxHeartbeats 4000000 in
set_option maxRecDepth 100000 in
theorem l_X12_leads {G : tw_G} (hM : tw_isM G) (a : Int) (ha : -2147483648 ≤ a ∧ a ≤ 2147483647) (b : Int) (hb : -2147483648 ≤ b ∧ b ≤ 2147483647) (t : Int) (ht : 0 ≤ t ∧ t ≤ 1) (w : Int) (hw : -2147483648 ≤ w ∧ w ≤ 2147483647) (σ : tw_M) (hI : tw_I σ) : ∀ N_ : Nat, (∀ (s : Int) (hs : -2147483648 ≤ s ∧ s ≤ 2147483647) (i : Int) (hi : 0 ≤ i ∧ i ≤ 40) (τ : tw_M) (hIτ : tw_I τ) (hFτ : tw_F (fun c j => (c = 88 ∧ (j = 30)) ∨ (99 ≤ c ∧ c < 101)) σ τ) (i0 : 1 ≤ a ∧ a ≤ 9) (i1 : 1 ≤ b ∧ b ≤ 9) (i2 : w = 0 ∨ (10 ≤ w ∧ w ≤ 49)) (hm : (40 - i).toNat < N_), tw_J G (tw_mt RX12 cX12_leads 9 (some .int) 3) (tw_E G (q_X12_leads a b t w σ)) 142 [(0, vR 88), (1, vI a), (2, vI b), (4, vI w), (5, vI s), (6, vI i)] [] τ) := by
  intro N_
  induction N_ with
  | zero => exact fun s hs i hi τ hIτ hFτ i0 i1 i2 hm => absurd hm (Nat.not_lt_zero _)
  | succ N_ ih =>
    intro s hs i hi τ hIτ hFτ i0 i1 i2 hm
    refine j_iload (pc := 142) dX12_leads_142 rfl ?_
    refine j_aload_n (pc := 144) dX12_leads_144 rfl rfl ?_
    refine j_getI (pc := 145) fl_X12_326 dX12_leads_145 (a_88 hM) rfl ?_
    have f1 : (-4 : Int) ≤ τ 88 30 ∧ τ 88 30 ≤ 40 := hIτ 88 30
    refine j_icmpR_ge (pc := 148) (tgt := 194) ⟨by omega, by omega⟩ ⟨by omega, by omega⟩ dX12_leads_148 rfl (fun h2 => ?_) (fun h2 => ?_)
    · refine j_iload (pc := 194) dX12_leads_194 rfl ?_
      refine j_ifR_ne (pc := 196) (tgt := 204) ⟨by omega, by omega⟩ dX12_leads_196 rfl (fun h3 => ?_) (fun h3 => ?_)
      · refine j_aload_n (pc := 204) dX12_leads_204 rfl rfl ?_
        refine j_iload (pc := 205) dX12_leads_205 rfl ?_
        refine j_bipush (pc := 207) dX12_leads_207 rfl ?_
        refine j_isub (pc := 209) dX12_leads_209 ?_
        refine j_top (fun z4 ez4 hz4 => ?_)
        have gz4 : w - 10 < -2147483648 ∨ 2147483647 < w - 10 ∨ z4 = w - 10 := by rw [ez4]; exact w32_or _
        refine j_iload_n (pc := 210) dX12_leads_210 rfl rfl ?_
        refine j_callV (pc := 211) (As := [vI z4, vI b]) (st := []) (c_X12_costOf hM z4 ⟨by omega, by omega⟩ b ⟨by omega, by omega⟩ τ hIτ) mv_X12_334 rfl rfl rfl (a_88 hM) dX12_leads_211 ⟨Nat.le_of_ble_eq_true rfl, Nat.le_of_ble_eq_true rfl⟩ ⟨Nat.le_refl _, Nat.le_refl _⟩ rfl (Nat.le_of_ble_eq_true rfl) rfl (fun z5 σ6 hz5 => ?_)
        obtain ⟨r8, rfl, hr8, rfl, -⟩ := hz5
        refine j_st (st' := [vI r8]) rfl ?_
        refine j_aload_n (pc := 214) dX12_leads_214 rfl rfl ?_
        refine j_iload (pc := 215) dX12_leads_215 rfl ?_
        refine j_bipush (pc := 217) dX12_leads_217 rfl ?_
        refine j_isub (pc := 219) dX12_leads_219 ?_
        refine j_top (fun z9 ez9 hz9 => ?_)
        have gz9 : w - 10 < -2147483648 ∨ 2147483647 < w - 10 ∨ z9 = w - 10 := by rw [ez9]; exact w32_or _
        refine j_iload_n (pc := 220) dX12_leads_220 rfl rfl ?_
        refine j_callV (pc := 221) (As := [vI z9, vI a]) (st := [vI r8]) (c_X12_costOf hM z9 ⟨by omega, by omega⟩ a ⟨by omega, by omega⟩ τ hIτ) mv_X12_334 rfl rfl rfl (a_88 hM) dX12_leads_221 ⟨Nat.le_of_ble_eq_true rfl, Nat.le_of_ble_eq_true rfl⟩ ⟨Nat.le_refl _, Nat.le_refl _⟩ rfl (Nat.le_of_ble_eq_true rfl) rfl (fun z10 σ11 hz10 => ?_)
        obtain ⟨r13, rfl, hr13, rfl, -⟩ := hz10
        refine j_st (st' := [vI r13, vI r8]) rfl ?_
        refine j_icmpR_ge (pc := 224) (tgt := 231) ⟨by omega, by omega⟩ ⟨by omega, by omega⟩ dX12_leads_224 rfl (fun h14 => ?_) (fun h14 => ?_)
        · refine j_iconst (pc := 231) dX12_leads_231 ?_
          refine j_callS (pc := 232) (As := [vI 0]) (st := []) (c_X12_flag 0 (by (first | decide | exact ⟨by omega, by omega⟩)) τ hIτ) ms_X12_168 rfl dX12_leads_232 ⟨Nat.le_of_ble_eq_true rfl, Nat.le_of_ble_eq_true rfl⟩ ⟨Nat.le_refl _, Nat.le_refl _⟩ rfl (Nat.le_of_ble_eq_true rfl) rfl (fun z15 σ16 hz15 => ?_)
          obtain ⟨r18, rfl, hr18, rfl, q17_0⟩ := hz15
          replace q17_0 : r18 = (0 : Int) := q17_0
          refine j_st (st' := [vI r18]) rfl ?_
          exact j_iret (pc := 235) ⟨rfl, rfl⟩ dX12_leads_235 rfl ⟨_, rfl, ⟨by omega, by omega⟩, hIτ, hFτ, trivial⟩
        · refine j_iconst (pc := 227) dX12_leads_227 ?_
          refine j_goto (pc := 228) (tgt := 232) dX12_leads_228 rfl ?_
          refine j_callS (pc := 232) (As := [vI 1]) (st := []) (c_X12_flag 1 (by (first | decide | exact ⟨by omega, by omega⟩)) τ hIτ) ms_X12_168 rfl dX12_leads_232 ⟨Nat.le_of_ble_eq_true rfl, Nat.le_of_ble_eq_true rfl⟩ ⟨Nat.le_refl _, Nat.le_refl _⟩ rfl (Nat.le_of_ble_eq_true rfl) rfl (fun z19 σ20 hz19 => ?_)
          obtain ⟨r22, rfl, hr22, rfl, q21_0⟩ := hz19
          replace q21_0 : r22 = (1 : Int) := q21_0
          refine j_st (st' := [vI r22]) rfl ?_
          exact j_iret (pc := 235) ⟨rfl, rfl⟩ dX12_leads_235 rfl ⟨_, rfl, ⟨by omega, by omega⟩, hIτ, hFτ, trivial⟩
      · refine j_iload (pc := 199) dX12_leads_199 rfl ?_
        refine j_goto (pc := 201) (tgt := 235) dX12_leads_201 rfl ?_
        exact j_iret (pc := 235) ⟨rfl, rfl⟩ dX12_leads_235 rfl ⟨_, rfl, ⟨by omega, by omega⟩, hIτ, hFτ, trivial⟩
    · refine j_aload_n (pc := 151) dX12_leads_151 rfl rfl ?_
      refine j_iload (pc := 152) dX12_leads_152 rfl ?_
      refine j_iload_n (pc := 154) dX12_leads_154 rfl rfl ?_
      refine j_callV (pc := 155) (As := [vI i, vI a]) (st := []) (c_X12_costOf hM i ⟨by omega, by omega⟩ a ⟨by omega, by omega⟩ τ hIτ) mv_X12_334 rfl rfl rfl (a_88 hM) dX12_leads_155 ⟨Nat.le_of_ble_eq_true rfl, Nat.le_of_ble_eq_true rfl⟩ ⟨Nat.le_refl _, Nat.le_refl _⟩ rfl (Nat.le_of_ble_eq_true rfl) rfl (fun z23 σ24 hz23 => ?_)
      obtain ⟨r26, rfl, hr26, rfl, -⟩ := hz23
      refine j_st (st' := [vI r26]) rfl ?_
      refine j_istore (pc := 158) (i := 7) (ls' := [(0, vR 88), (1, vI a), (2, vI b), (4, vI w), (5, vI s), (6, vI i), (7, vI r26)]) [1, 2, 3, 4, 5, 6, 0] dX12_leads_158 (Nat.le_of_ble_eq_true rfl) rfl rfl ?_
      refine j_aload_n (pc := 160) dX12_leads_160 rfl rfl ?_
      refine j_iload (pc := 161) dX12_leads_161 rfl ?_
      refine j_iload_n (pc := 163) dX12_leads_163 rfl rfl ?_
      refine j_callV (pc := 164) (As := [vI i, vI b]) (st := []) (c_X12_costOf hM i ⟨by omega, by omega⟩ b ⟨by omega, by omega⟩ τ hIτ) mv_X12_334 rfl rfl rfl (a_88 hM) dX12_leads_164 ⟨Nat.le_of_ble_eq_true rfl, Nat.le_of_ble_eq_true rfl⟩ ⟨Nat.le_refl _, Nat.le_refl _⟩ rfl (Nat.le_of_ble_eq_true rfl) rfl (fun z27 σ28 hz27 => ?_)
      obtain ⟨r30, rfl, hr30, rfl, -⟩ := hz27
      refine j_st (st' := [vI r30]) rfl ?_
      refine j_istore (pc := 167) (i := 8) (ls' := [(0, vR 88), (1, vI a), (2, vI b), (4, vI w), (5, vI s), (6, vI i), (7, vI r26), (8, vI r30)]) [1, 2, 3, 4, 5, 6, 7, 0] dX12_leads_167 (Nat.le_of_ble_eq_true rfl) rfl rfl ?_
      refine j_iload (pc := 169) dX12_leads_169 rfl ?_
      refine j_iload (pc := 171) dX12_leads_171 rfl ?_
      refine j_iload (pc := 173) dX12_leads_173 rfl ?_
      refine j_icmpR_ge (pc := 175) (tgt := 183) ⟨by omega, by omega⟩ ⟨by omega, by omega⟩ dX12_leads_175 rfl (fun h31 => ?_) (fun h31 => ?_)
      · refine j_iload (pc := 183) dX12_leads_183 rfl ?_
        refine j_iadd (pc := 185) dX12_leads_185 ?_
        refine j_top (fun z32 ez32 hz32 => ?_)
        refine j_istore (pc := 186) (i := 5) (ls' := [(0, vR 88), (1, vI a), (2, vI b), (4, vI w), (5, vI z32), (6, vI i)]) [1, 2, 3, 4, 0, 5] dX12_leads_186 (Nat.le_of_ble_eq_true rfl) rfl rfl ?_
        refine j_iinc (pc := 188) (i := 6) (n := 1) (ls' := [(0, vR 88), (1, vI a), (2, vI b), (4, vI w), (5, vI z32), (6, vI (i + 1))]) [1, 2, 3, 4, 5, 0] dX12_leads_188 rfl (Nat.le_of_ble_eq_true rfl) rfl rfl ?_
        refine j_goto (pc := 191) (tgt := 142) dX12_leads_191 rfl ?_
        refine j_ls (ls' := [(0, vR 88), (1, vI a), (2, vI b), (4, vI w), (5, vI z32), (6, vI (i + 1))]) [0, 1, 2, 3, 4, 5] rfl ?_
        exact ih z32 ⟨by omega, by omega⟩ (i + 1) ⟨by omega, by omega⟩ τ hIτ hFτ (show 1 ≤ a ∧ a ≤ 9 from by omega) (show 1 ≤ b ∧ b ≤ 9 from by omega) (show w = 0 ∨ (10 ≤ w ∧ w ≤ 49) from by omega) (show (40 - (i + 1)).toNat < N_ from by omega)
      · refine j_iload (pc := 178) dX12_leads_178 rfl ?_
        refine j_goto (pc := 180) (tgt := 185) dX12_leads_180 rfl ?_
        refine j_iadd (pc := 185) dX12_leads_185 ?_
        refine j_top (fun z33 ez33 hz33 => ?_)
        refine j_istore (pc := 186) (i := 5) (ls' := [(0, vR 88), (1, vI a), (2, vI b), (4, vI w), (5, vI z33), (6, vI i)]) [1, 2, 3, 4, 0, 5] dX12_leads_186 (Nat.le_of_ble_eq_true rfl) rfl rfl ?_
        refine j_iinc (pc := 188) (i := 6) (n := 1) (ls' := [(0, vR 88), (1, vI a), (2, vI b), (4, vI w), (5, vI z33), (6, vI (i + 1))]) [1, 2, 3, 4, 5, 0] dX12_leads_188 rfl (Nat.le_of_ble_eq_true rfl) rfl rfl ?_
        refine j_goto (pc := 191) (tgt := 142) dX12_leads_191 rfl ?_
        refine j_ls (ls' := [(0, vR 88), (1, vI a), (2, vI b), (4, vI w), (5, vI z33), (6, vI (i + 1))]) [0, 1, 2, 3, 4, 5] rfl ?_
        exact ih z33 ⟨by omega, by omega⟩ (i + 1) ⟨by omega, by omega⟩ τ hIτ hFτ (show 1 ≤ a ∧ a ≤ 9 from by omega) (show 1 ≤ b ∧ b ≤ 9 from by omega) (show w = 0 ∨ (10 ≤ w ∧ w ≤ 49) from by omega) (show (40 - (i + 1)).toNat < N_ from by omega)
set_option maxHeartbeats 4000000 in
set_option maxRecDepth 100000 in
theorem c_X12_leads {G : tw_G} (hM : tw_isM G) (a : Int) (ha : -2147483648 ≤ a ∧ a ≤ 2147483647) (b : Int) (hb : -2147483648 ≤ b ∧ b ≤ 2147483647) (t : Int) (ht : 0 ≤ t ∧ t ≤ 1) (w : Int) (hw : -2147483648 ≤ w ∧ w ≤ 2147483647) (σ : tw_M) (hI : tw_I σ) : tw_C G yX12_leads cX12_leads 9 (some .int) 3 [vR 88, vI a, vI b, vI t, vI w] σ (q_X12_leads a b t w σ) := by
  refine tw_met [(0, vR 88), (1, vI a), (2, vI b), (3, vI t), (4, vI w)] (by decide +kernel) rfl (Nat.le_of_ble_eq_true rfl) ?_
  refine j_iload_n (pc := 0) dX12_leads_0 rfl rfl ?_
  refine j_i2l (pc := 1) dX12_leads_1 ?_
  rw [w32_eq (a := a) (by omega) (by omega)]
  refine j_lconst (pc := 2) (z := 1) dX12_leads_2 rfl ?_
  refine j_ldc2 (pc := 3) (z := 9) dX12_leads_3 (tw_inc tm_7 (i := 195) rfl rfl) ?_
  refine j_callS (pc := 6) (As := [vL a, vL 1, vL 9]) (st := []) (c_X12_in a ⟨by omega, by omega⟩ 1 (by (first | decide | exact ⟨by omega, by omega⟩)) 9 (by (first | decide | exact ⟨by omega, by omega⟩)) σ hI) ms_X12_82 rfl dX12_leads_6 ⟨Nat.le_of_ble_eq_true rfl, Nat.le_of_ble_eq_true rfl⟩ ⟨Nat.le_refl _, Nat.le_refl _⟩ rfl (Nat.le_of_ble_eq_true rfl) rfl (fun z34 σ35 hz34 => ?_)
  obtain ⟨r37, rfl, hr37, rfl, q36_0⟩ := hz34
  replace q36_0 : (r37 = 1 ∧ (1 : Int) ≤ a ∧ a ≤ (9 : Int)) ∨ (r37 = 0 ∧ ¬ ((1 : Int) ≤ a ∧ a ≤ (9 : Int))) := q36_0
  refine j_st (st' := [vI r37]) rfl ?_
  refine j_ifR_eq (pc := 9) (tgt := 44) ⟨by omega, by omega⟩ dX12_leads_9 rfl (fun h38 => ?_) (fun h38 => ?_)
  · refine j_iconst (pc := 44) dX12_leads_44 ?_
    exact j_iret (pc := 45) ⟨rfl, rfl⟩ dX12_leads_45 rfl ⟨_, rfl, ⟨by omega, by omega⟩, hI, (tw_F_rf), trivial⟩
  · refine j_iload_n (pc := 12) dX12_leads_12 rfl rfl ?_
    refine j_i2l (pc := 13) dX12_leads_13 ?_
    rw [w32_eq (a := b) (by omega) (by omega)]
    refine j_lconst (pc := 14) (z := 1) dX12_leads_14 rfl ?_
    refine j_ldc2 (pc := 15) (z := 9) dX12_leads_15 (tw_inc tm_7 (i := 195) rfl rfl) ?_
    refine j_callS (pc := 18) (As := [vL b, vL 1, vL 9]) (st := []) (c_X12_in b ⟨by omega, by omega⟩ 1 (by (first | decide | exact ⟨by omega, by omega⟩)) 9 (by (first | decide | exact ⟨by omega, by omega⟩)) σ hI) ms_X12_82 rfl dX12_leads_18 ⟨Nat.le_of_ble_eq_true rfl, Nat.le_of_ble_eq_true rfl⟩ ⟨Nat.le_refl _, Nat.le_refl _⟩ rfl (Nat.le_of_ble_eq_true rfl) rfl (fun z39 σ40 hz39 => ?_)
    obtain ⟨r42, rfl, hr42, rfl, q41_0⟩ := hz39
    replace q41_0 : (r42 = 1 ∧ (1 : Int) ≤ b ∧ b ≤ (9 : Int)) ∨ (r42 = 0 ∧ ¬ ((1 : Int) ≤ b ∧ b ≤ (9 : Int))) := q41_0
    refine j_st (st' := [vI r42]) rfl ?_
    refine j_ifR_eq (pc := 21) (tgt := 44) ⟨by omega, by omega⟩ dX12_leads_21 rfl (fun h43 => ?_) (fun h43 => ?_)
    · refine j_iconst (pc := 44) dX12_leads_44 ?_
      exact j_iret (pc := 45) ⟨rfl, rfl⟩ dX12_leads_45 rfl ⟨_, rfl, ⟨by omega, by omega⟩, hI, (tw_F_rf), trivial⟩
    · refine j_iload (pc := 24) dX12_leads_24 rfl ?_
      refine j_ifR_eq (pc := 26) (tgt := 46) ⟨by omega, by omega⟩ dX12_leads_26 rfl (fun h44 => ?_) (fun h44 => ?_)
      · refine j_aload_n (pc := 46) dX12_leads_46 rfl rfl ?_
        refine j_callV (pc := 47) (As := []) (st := []) (c_X12_findPitches hM σ hI) mv_X12_331 rfl rfl rfl (a_88 hM) dX12_leads_47 ⟨Nat.le_of_ble_eq_true rfl, Nat.le_of_ble_eq_true rfl⟩ ⟨Nat.le_refl _, Nat.le_refl _⟩ rfl (Nat.le_of_ble_eq_true rfl) rfl (fun z45 σ46 hz45 => ?_)
        obtain ⟨rfl, hIσ46, hGσ46, -⟩ := hz45
        have hFσ46 : tw_F (fun c j => (c = 88 ∧ (j = 30)) ∨ (99 ≤ c ∧ c < 101)) σ σ46 := tw_F_tr (tw_F_rf) hGσ46 (fun c j q => (show (c = 88 ∧ (j = 30)) ∨ (99 ≤ c ∧ c < 101) from by replace q : (c = 88 ∧ (j = 30)) ∨ (99 ≤ c ∧ c < 101) := q; exact q))
        refine j_st (st' := []) rfl ?_
        refine j_aload_n (pc := 50) dX12_leads_50 rfl rfl ?_
        refine j_getI (pc := 51) fl_X12_326 dX12_leads_51 (a_88 hM) rfl ?_
        have f49 : (-4 : Int) ≤ σ46 88 30 ∧ σ46 88 30 ≤ 40 := hIσ46 88 30
        refine j_bipush (pc := 54) dX12_leads_54 rfl ?_
        refine j_icmpR_ne (pc := 56) (tgt := 62) ⟨by omega, by omega⟩ ⟨by omega, by omega⟩ dX12_leads_56 rfl (fun h50 => ?_) (fun h50 => ?_)
        · refine j_iload (pc := 62) dX12_leads_62 rfl ?_
          refine j_ifR_eq (pc := 64) (tgt := 81) ⟨by omega, by omega⟩ dX12_leads_64 rfl (fun h51 => ?_) (fun h51 => by exfalso; omega)
          refine j_iload_n (pc := 81) dX12_leads_81 rfl rfl ?_
          refine j_ifR_eq (pc := 82) (tgt := 136) ⟨by omega, by omega⟩ dX12_leads_82 rfl (fun h52 => ?_) (fun h52 => ?_)
          · refine j_iconst (pc := 136) dX12_leads_136 ?_
            refine j_istore (pc := 137) (i := 5) (ls' := [(0, vR 88), (1, vI a), (2, vI b), (4, vI w), (5, vI 0)]) [1, 2, 3, 5, 0] dX12_leads_137 (Nat.le_of_ble_eq_true rfl) rfl rfl ?_
            refine j_iconst (pc := 139) dX12_leads_139 ?_
            refine j_istore (pc := 140) (i := 6) (ls' := [(0, vR 88), (1, vI a), (2, vI b), (4, vI w), (5, vI 0), (6, vI 0)]) [1, 2, 3, 4, 5, 0] dX12_leads_140 (Nat.le_of_ble_eq_true rfl) rfl rfl ?_
            refine j_ls (ls' := [(0, vR 88), (1, vI a), (2, vI b), (4, vI w), (5, vI 0), (6, vI 0)]) [0, 1, 2, 3, 4, 5] rfl ?_
            exact (l_X12_leads hM a ha b hb t ht w hw σ hI (((40 - (0 : Int)).toNat) + 1)) 0 (by (first | decide | exact ⟨by omega, by omega⟩)) 0 (by (first | decide | exact ⟨by omega, by omega⟩)) σ46 hIσ46 hFσ46 (show 1 ≤ a ∧ a ≤ 9 from by omega) (show 1 ≤ b ∧ b ≤ 9 from by omega) (show w = 0 ∨ (10 ≤ w ∧ w ≤ 49) from by omega) (Nat.lt_succ_self _)
          · refine j_aload_n (pc := 85) dX12_leads_85 rfl rfl ?_
            refine j_iload_n (pc := 86) dX12_leads_86 rfl rfl ?_
            refine j_iload_n (pc := 87) dX12_leads_87 rfl rfl ?_
            refine j_iconst (pc := 88) dX12_leads_88 ?_
            refine j_callV (pc := 89) (As := [vI a, vI b, vI 1]) (st := []) (c_X12_turnsCost hM a ⟨by omega, by omega⟩ b ⟨by omega, by omega⟩ 1 (by (first | decide | exact ⟨by omega, by omega⟩)) σ46 hIσ46) mv_X12_339 rfl rfl rfl (a_88 hM) dX12_leads_89 ⟨Nat.le_of_ble_eq_true rfl, Nat.le_of_ble_eq_true rfl⟩ ⟨Nat.le_refl _, Nat.le_refl _⟩ rfl (Nat.le_of_ble_eq_true rfl) rfl (fun z53 σ54 hz53 => ?_)
            obtain ⟨r56, rfl, hr56, rfl, -⟩ := hz53
            refine j_st (st' := [vI r56]) rfl ?_
            refine j_aload_n (pc := 92) dX12_leads_92 rfl rfl ?_
            refine j_iload_n (pc := 93) dX12_leads_93 rfl rfl ?_
            refine j_iload_n (pc := 94) dX12_leads_94 rfl rfl ?_
            refine j_iconst (pc := 95) dX12_leads_95 ?_
            refine j_callV (pc := 96) (As := [vI a, vI b, vI 0]) (st := [vI r56]) (c_X12_turnsCost hM a ⟨by omega, by omega⟩ b ⟨by omega, by omega⟩ 0 (by (first | decide | exact ⟨by omega, by omega⟩)) σ46 hIσ46) mv_X12_339 rfl rfl rfl (a_88 hM) dX12_leads_96 ⟨Nat.le_of_ble_eq_true rfl, Nat.le_of_ble_eq_true rfl⟩ ⟨Nat.le_refl _, Nat.le_refl _⟩ rfl (Nat.le_of_ble_eq_true rfl) rfl (fun z57 σ58 hz57 => ?_)
            obtain ⟨r60, rfl, hr60, rfl, -⟩ := hz57
            refine j_st (st' := [vI r60, vI r56]) rfl ?_
            refine j_icmpR_ge (pc := 99) (tgt := 106) ⟨by omega, by omega⟩ ⟨by omega, by omega⟩ dX12_leads_99 rfl (fun h61 => ?_) (fun h61 => ?_)
            · refine j_iconst (pc := 106) dX12_leads_106 ?_
              refine j_istore (pc := 107) (i := 5) (ls' := [(0, vR 88), (1, vI a), (2, vI b), (4, vI w), (5, vI 0)]) [1, 2, 3, 5, 0] dX12_leads_107 (Nat.le_of_ble_eq_true rfl) rfl rfl ?_
              refine j_iload (pc := 109) dX12_leads_109 rfl ?_
              refine j_ifR_ne (pc := 111) (tgt := 125) ⟨by omega, by omega⟩ dX12_leads_111 rfl (fun h62 => by exfalso; omega) (fun h62 => ?_)
              refine j_aload_n (pc := 114) dX12_leads_114 rfl rfl ?_
              refine j_iload_n (pc := 115) dX12_leads_115 rfl rfl ?_
              refine j_iload_n (pc := 116) dX12_leads_116 rfl rfl ?_
              refine j_iload (pc := 117) dX12_leads_117 rfl ?_
              refine j_callV (pc := 119) (As := [vI a, vI b, vI 0]) (st := []) (c_X12_turnsCost hM a ⟨by omega, by omega⟩ b ⟨by omega, by omega⟩ 0 (by (first | decide | exact ⟨by omega, by omega⟩)) σ46 hIσ46) mv_X12_339 rfl rfl rfl (a_88 hM) dX12_leads_119 ⟨Nat.le_of_ble_eq_true rfl, Nat.le_of_ble_eq_true rfl⟩ ⟨Nat.le_refl _, Nat.le_refl _⟩ rfl (Nat.le_of_ble_eq_true rfl) rfl (fun z63 σ64 hz63 => ?_)
              obtain ⟨r66, rfl, hr66, rfl, -⟩ := hz63
              refine j_st (st' := [vI r66]) rfl ?_
              refine j_goto (pc := 122) (tgt := 135) dX12_leads_122 rfl ?_
              exact j_iret (pc := 135) ⟨rfl, rfl⟩ dX12_leads_135 rfl ⟨_, rfl, ⟨by omega, by omega⟩, hIσ46, hFσ46, trivial⟩
            · refine j_iconst (pc := 102) dX12_leads_102 ?_
              refine j_goto (pc := 103) (tgt := 107) dX12_leads_103 rfl ?_
              refine j_istore (pc := 107) (i := 5) (ls' := [(0, vR 88), (1, vI a), (2, vI b), (4, vI w), (5, vI 1)]) [1, 2, 3, 5, 0] dX12_leads_107 (Nat.le_of_ble_eq_true rfl) rfl rfl ?_
              refine j_iload (pc := 109) dX12_leads_109 rfl ?_
              refine j_ifR_ne (pc := 111) (tgt := 125) ⟨by omega, by omega⟩ dX12_leads_111 rfl (fun h67 => by exfalso; omega) (fun h67 => ?_)
              refine j_aload_n (pc := 114) dX12_leads_114 rfl rfl ?_
              refine j_iload_n (pc := 115) dX12_leads_115 rfl rfl ?_
              refine j_iload_n (pc := 116) dX12_leads_116 rfl rfl ?_
              refine j_iload (pc := 117) dX12_leads_117 rfl ?_
              refine j_callV (pc := 119) (As := [vI a, vI b, vI 1]) (st := []) (c_X12_turnsCost hM a ⟨by omega, by omega⟩ b ⟨by omega, by omega⟩ 1 (by (first | decide | exact ⟨by omega, by omega⟩)) σ46 hIσ46) mv_X12_339 rfl rfl rfl (a_88 hM) dX12_leads_119 ⟨Nat.le_of_ble_eq_true rfl, Nat.le_of_ble_eq_true rfl⟩ ⟨Nat.le_refl _, Nat.le_refl _⟩ rfl (Nat.le_of_ble_eq_true rfl) rfl (fun z68 σ69 hz68 => ?_)
              obtain ⟨r71, rfl, hr71, rfl, -⟩ := hz68
              refine j_st (st' := [vI r71]) rfl ?_
              refine j_goto (pc := 122) (tgt := 135) dX12_leads_122 rfl ?_
              exact j_iret (pc := 135) ⟨rfl, rfl⟩ dX12_leads_135 rfl ⟨_, rfl, ⟨by omega, by omega⟩, hIσ46, hFσ46, trivial⟩
        · refine j_bipush (pc := 59) dX12_leads_59 rfl ?_
          exact j_iret (pc := 61) ⟨rfl, rfl⟩ dX12_leads_61 rfl ⟨_, rfl, ⟨by omega, by omega⟩, hIσ46, hFσ46, trivial⟩
      · refine j_iload (pc := 29) dX12_leads_29 rfl ?_
        refine j_i2l (pc := 31) dX12_leads_31 ?_
        rw [w32_eq (a := w) (by omega) (by omega)]
        refine j_ldc2 (pc := 32) (z := 10) dX12_leads_32 (tw_inc tm_6 (i := 239) rfl rfl) ?_
        refine j_ldc2 (pc := 35) (z := 49) dX12_leads_35 (tw_inc tm_7 (i := 182) rfl rfl) ?_
        refine j_callS (pc := 38) (As := [vL w, vL 10, vL 49]) (st := []) (c_X12_in w ⟨by omega, by omega⟩ 10 (by (first | decide | exact ⟨by omega, by omega⟩)) 49 (by (first | decide | exact ⟨by omega, by omega⟩)) σ hI) ms_X12_82 rfl dX12_leads_38 ⟨Nat.le_of_ble_eq_true rfl, Nat.le_of_ble_eq_true rfl⟩ ⟨Nat.le_refl _, Nat.le_refl _⟩ rfl (Nat.le_of_ble_eq_true rfl) rfl (fun z72 σ73 hz72 => ?_)
        obtain ⟨r75, rfl, hr75, rfl, q74_0⟩ := hz72
        replace q74_0 : (r75 = 1 ∧ (10 : Int) ≤ w ∧ w ≤ (49 : Int)) ∨ (r75 = 0 ∧ ¬ ((10 : Int) ≤ w ∧ w ≤ (49 : Int))) := q74_0
        refine j_st (st' := [vI r75]) rfl ?_
        refine j_ifR_ne (pc := 41) (tgt := 46) ⟨by omega, by omega⟩ dX12_leads_41 rfl (fun h76 => ?_) (fun h76 => ?_)
        · refine j_aload_n (pc := 46) dX12_leads_46 rfl rfl ?_
          refine j_callV (pc := 47) (As := []) (st := []) (c_X12_findPitches hM σ hI) mv_X12_331 rfl rfl rfl (a_88 hM) dX12_leads_47 ⟨Nat.le_of_ble_eq_true rfl, Nat.le_of_ble_eq_true rfl⟩ ⟨Nat.le_refl _, Nat.le_refl _⟩ rfl (Nat.le_of_ble_eq_true rfl) rfl (fun z77 σ78 hz77 => ?_)
          obtain ⟨rfl, hIσ78, hGσ78, -⟩ := hz77
          have hFσ78 : tw_F (fun c j => (c = 88 ∧ (j = 30)) ∨ (99 ≤ c ∧ c < 101)) σ σ78 := tw_F_tr (tw_F_rf) hGσ78 (fun c j q => (show (c = 88 ∧ (j = 30)) ∨ (99 ≤ c ∧ c < 101) from by replace q : (c = 88 ∧ (j = 30)) ∨ (99 ≤ c ∧ c < 101) := q; exact q))
          refine j_st (st' := []) rfl ?_
          refine j_aload_n (pc := 50) dX12_leads_50 rfl rfl ?_
          refine j_getI (pc := 51) fl_X12_326 dX12_leads_51 (a_88 hM) rfl ?_
          have f81 : (-4 : Int) ≤ σ78 88 30 ∧ σ78 88 30 ≤ 40 := hIσ78 88 30
          refine j_bipush (pc := 54) dX12_leads_54 rfl ?_
          refine j_icmpR_ne (pc := 56) (tgt := 62) ⟨by omega, by omega⟩ ⟨by omega, by omega⟩ dX12_leads_56 rfl (fun h82 => ?_) (fun h82 => ?_)
          · refine j_iload (pc := 62) dX12_leads_62 rfl ?_
            refine j_ifR_eq (pc := 64) (tgt := 81) ⟨by omega, by omega⟩ dX12_leads_64 rfl (fun h83 => ?_) (fun h83 => ?_)
            · refine j_iload_n (pc := 81) dX12_leads_81 rfl rfl ?_
              refine j_ifR_eq (pc := 82) (tgt := 136) ⟨by omega, by omega⟩ dX12_leads_82 rfl (fun h84 => ?_) (fun h84 => ?_)
              · refine j_iconst (pc := 136) dX12_leads_136 ?_
                refine j_istore (pc := 137) (i := 5) (ls' := [(0, vR 88), (1, vI a), (2, vI b), (4, vI w), (5, vI 0)]) [1, 2, 3, 5, 0] dX12_leads_137 (Nat.le_of_ble_eq_true rfl) rfl rfl ?_
                refine j_iconst (pc := 139) dX12_leads_139 ?_
                refine j_istore (pc := 140) (i := 6) (ls' := [(0, vR 88), (1, vI a), (2, vI b), (4, vI w), (5, vI 0), (6, vI 0)]) [1, 2, 3, 4, 5, 0] dX12_leads_140 (Nat.le_of_ble_eq_true rfl) rfl rfl ?_
                refine j_ls (ls' := [(0, vR 88), (1, vI a), (2, vI b), (4, vI w), (5, vI 0), (6, vI 0)]) [0, 1, 2, 3, 4, 5] rfl ?_
                exact (l_X12_leads hM a ha b hb t ht w hw σ hI (((40 - (0 : Int)).toNat) + 1)) 0 (by (first | decide | exact ⟨by omega, by omega⟩)) 0 (by (first | decide | exact ⟨by omega, by omega⟩)) σ78 hIσ78 hFσ78 (show 1 ≤ a ∧ a ≤ 9 from by omega) (show 1 ≤ b ∧ b ≤ 9 from by omega) (show w = 0 ∨ (10 ≤ w ∧ w ≤ 49) from by omega) (Nat.lt_succ_self _)
              · refine j_aload_n (pc := 85) dX12_leads_85 rfl rfl ?_
                refine j_iload_n (pc := 86) dX12_leads_86 rfl rfl ?_
                refine j_iload_n (pc := 87) dX12_leads_87 rfl rfl ?_
                refine j_iconst (pc := 88) dX12_leads_88 ?_
                refine j_callV (pc := 89) (As := [vI a, vI b, vI 1]) (st := []) (c_X12_turnsCost hM a ⟨by omega, by omega⟩ b ⟨by omega, by omega⟩ 1 (by (first | decide | exact ⟨by omega, by omega⟩)) σ78 hIσ78) mv_X12_339 rfl rfl rfl (a_88 hM) dX12_leads_89 ⟨Nat.le_of_ble_eq_true rfl, Nat.le_of_ble_eq_true rfl⟩ ⟨Nat.le_refl _, Nat.le_refl _⟩ rfl (Nat.le_of_ble_eq_true rfl) rfl (fun z85 σ86 hz85 => ?_)
                obtain ⟨r88, rfl, hr88, rfl, -⟩ := hz85
                refine j_st (st' := [vI r88]) rfl ?_
                refine j_aload_n (pc := 92) dX12_leads_92 rfl rfl ?_
                refine j_iload_n (pc := 93) dX12_leads_93 rfl rfl ?_
                refine j_iload_n (pc := 94) dX12_leads_94 rfl rfl ?_
                refine j_iconst (pc := 95) dX12_leads_95 ?_
                refine j_callV (pc := 96) (As := [vI a, vI b, vI 0]) (st := [vI r88]) (c_X12_turnsCost hM a ⟨by omega, by omega⟩ b ⟨by omega, by omega⟩ 0 (by (first | decide | exact ⟨by omega, by omega⟩)) σ78 hIσ78) mv_X12_339 rfl rfl rfl (a_88 hM) dX12_leads_96 ⟨Nat.le_of_ble_eq_true rfl, Nat.le_of_ble_eq_true rfl⟩ ⟨Nat.le_refl _, Nat.le_refl _⟩ rfl (Nat.le_of_ble_eq_true rfl) rfl (fun z89 σ90 hz89 => ?_)
                obtain ⟨r92, rfl, hr92, rfl, -⟩ := hz89
                refine j_st (st' := [vI r92, vI r88]) rfl ?_
                refine j_icmpR_ge (pc := 99) (tgt := 106) ⟨by omega, by omega⟩ ⟨by omega, by omega⟩ dX12_leads_99 rfl (fun h93 => ?_) (fun h93 => ?_)
                · refine j_iconst (pc := 106) dX12_leads_106 ?_
                  refine j_istore (pc := 107) (i := 5) (ls' := [(0, vR 88), (1, vI a), (2, vI b), (4, vI w), (5, vI 0)]) [1, 2, 3, 5, 0] dX12_leads_107 (Nat.le_of_ble_eq_true rfl) rfl rfl ?_
                  refine j_iload (pc := 109) dX12_leads_109 rfl ?_
                  refine j_ifR_ne (pc := 111) (tgt := 125) ⟨by omega, by omega⟩ dX12_leads_111 rfl (fun h94 => by exfalso; omega) (fun h94 => ?_)
                  refine j_aload_n (pc := 114) dX12_leads_114 rfl rfl ?_
                  refine j_iload_n (pc := 115) dX12_leads_115 rfl rfl ?_
                  refine j_iload_n (pc := 116) dX12_leads_116 rfl rfl ?_
                  refine j_iload (pc := 117) dX12_leads_117 rfl ?_
                  refine j_callV (pc := 119) (As := [vI a, vI b, vI 0]) (st := []) (c_X12_turnsCost hM a ⟨by omega, by omega⟩ b ⟨by omega, by omega⟩ 0 (by (first | decide | exact ⟨by omega, by omega⟩)) σ78 hIσ78) mv_X12_339 rfl rfl rfl (a_88 hM) dX12_leads_119 ⟨Nat.le_of_ble_eq_true rfl, Nat.le_of_ble_eq_true rfl⟩ ⟨Nat.le_refl _, Nat.le_refl _⟩ rfl (Nat.le_of_ble_eq_true rfl) rfl (fun z95 σ96 hz95 => ?_)
                  obtain ⟨r98, rfl, hr98, rfl, -⟩ := hz95
                  refine j_st (st' := [vI r98]) rfl ?_
                  refine j_goto (pc := 122) (tgt := 135) dX12_leads_122 rfl ?_
                  exact j_iret (pc := 135) ⟨rfl, rfl⟩ dX12_leads_135 rfl ⟨_, rfl, ⟨by omega, by omega⟩, hIσ78, hFσ78, trivial⟩
                · refine j_iconst (pc := 102) dX12_leads_102 ?_
                  refine j_goto (pc := 103) (tgt := 107) dX12_leads_103 rfl ?_
                  refine j_istore (pc := 107) (i := 5) (ls' := [(0, vR 88), (1, vI a), (2, vI b), (4, vI w), (5, vI 1)]) [1, 2, 3, 5, 0] dX12_leads_107 (Nat.le_of_ble_eq_true rfl) rfl rfl ?_
                  refine j_iload (pc := 109) dX12_leads_109 rfl ?_
                  refine j_ifR_ne (pc := 111) (tgt := 125) ⟨by omega, by omega⟩ dX12_leads_111 rfl (fun h99 => by exfalso; omega) (fun h99 => ?_)
                  refine j_aload_n (pc := 114) dX12_leads_114 rfl rfl ?_
                  refine j_iload_n (pc := 115) dX12_leads_115 rfl rfl ?_
                  refine j_iload_n (pc := 116) dX12_leads_116 rfl rfl ?_
                  refine j_iload (pc := 117) dX12_leads_117 rfl ?_
                  refine j_callV (pc := 119) (As := [vI a, vI b, vI 1]) (st := []) (c_X12_turnsCost hM a ⟨by omega, by omega⟩ b ⟨by omega, by omega⟩ 1 (by (first | decide | exact ⟨by omega, by omega⟩)) σ78 hIσ78) mv_X12_339 rfl rfl rfl (a_88 hM) dX12_leads_119 ⟨Nat.le_of_ble_eq_true rfl, Nat.le_of_ble_eq_true rfl⟩ ⟨Nat.le_refl _, Nat.le_refl _⟩ rfl (Nat.le_of_ble_eq_true rfl) rfl (fun z100 σ101 hz100 => ?_)
                  obtain ⟨r103, rfl, hr103, rfl, -⟩ := hz100
                  refine j_st (st' := [vI r103]) rfl ?_
                  refine j_goto (pc := 122) (tgt := 135) dX12_leads_122 rfl ?_
                  exact j_iret (pc := 135) ⟨rfl, rfl⟩ dX12_leads_135 rfl ⟨_, rfl, ⟨by omega, by omega⟩, hIσ78, hFσ78, trivial⟩
            · refine j_iload (pc := 67) dX12_leads_67 rfl ?_
              refine j_bipush (pc := 69) dX12_leads_69 rfl ?_
              refine j_isub (pc := 71) dX12_leads_71 ?_
              refine j_top (fun z104 ez104 hz104 => ?_)
              have gz104 : w - 10 < -2147483648 ∨ 2147483647 < w - 10 ∨ z104 = w - 10 := by rw [ez104]; exact w32_or _
              refine j_aload_n (pc := 72) dX12_leads_72 rfl rfl ?_
              refine j_getI (pc := 73) fl_X12_326 dX12_leads_73 (a_88 hM) rfl ?_
              refine j_icmpR_lt (pc := 76) (tgt := 81) ⟨by omega, by omega⟩ ⟨by omega, by omega⟩ dX12_leads_76 rfl (fun h105 => ?_) (fun h105 => ?_)
              · refine j_iload_n (pc := 81) dX12_leads_81 rfl rfl ?_
                refine j_ifR_eq (pc := 82) (tgt := 136) ⟨by omega, by omega⟩ dX12_leads_82 rfl (fun h106 => ?_) (fun h106 => ?_)
                · refine j_iconst (pc := 136) dX12_leads_136 ?_
                  refine j_istore (pc := 137) (i := 5) (ls' := [(0, vR 88), (1, vI a), (2, vI b), (4, vI w), (5, vI 0)]) [1, 2, 3, 5, 0] dX12_leads_137 (Nat.le_of_ble_eq_true rfl) rfl rfl ?_
                  refine j_iconst (pc := 139) dX12_leads_139 ?_
                  refine j_istore (pc := 140) (i := 6) (ls' := [(0, vR 88), (1, vI a), (2, vI b), (4, vI w), (5, vI 0), (6, vI 0)]) [1, 2, 3, 4, 5, 0] dX12_leads_140 (Nat.le_of_ble_eq_true rfl) rfl rfl ?_
                  refine j_ls (ls' := [(0, vR 88), (1, vI a), (2, vI b), (4, vI w), (5, vI 0), (6, vI 0)]) [0, 1, 2, 3, 4, 5] rfl ?_
                  exact (l_X12_leads hM a ha b hb t ht w hw σ hI (((40 - (0 : Int)).toNat) + 1)) 0 (by (first | decide | exact ⟨by omega, by omega⟩)) 0 (by (first | decide | exact ⟨by omega, by omega⟩)) σ78 hIσ78 hFσ78 (show 1 ≤ a ∧ a ≤ 9 from by omega) (show 1 ≤ b ∧ b ≤ 9 from by omega) (show w = 0 ∨ (10 ≤ w ∧ w ≤ 49) from by omega) (Nat.lt_succ_self _)
                · refine j_aload_n (pc := 85) dX12_leads_85 rfl rfl ?_
                  refine j_iload_n (pc := 86) dX12_leads_86 rfl rfl ?_
                  refine j_iload_n (pc := 87) dX12_leads_87 rfl rfl ?_
                  refine j_iconst (pc := 88) dX12_leads_88 ?_
                  refine j_callV (pc := 89) (As := [vI a, vI b, vI 1]) (st := []) (c_X12_turnsCost hM a ⟨by omega, by omega⟩ b ⟨by omega, by omega⟩ 1 (by (first | decide | exact ⟨by omega, by omega⟩)) σ78 hIσ78) mv_X12_339 rfl rfl rfl (a_88 hM) dX12_leads_89 ⟨Nat.le_of_ble_eq_true rfl, Nat.le_of_ble_eq_true rfl⟩ ⟨Nat.le_refl _, Nat.le_refl _⟩ rfl (Nat.le_of_ble_eq_true rfl) rfl (fun z107 σ108 hz107 => ?_)
                  obtain ⟨r110, rfl, hr110, rfl, -⟩ := hz107
                  refine j_st (st' := [vI r110]) rfl ?_
                  refine j_aload_n (pc := 92) dX12_leads_92 rfl rfl ?_
                  refine j_iload_n (pc := 93) dX12_leads_93 rfl rfl ?_
                  refine j_iload_n (pc := 94) dX12_leads_94 rfl rfl ?_
                  refine j_iconst (pc := 95) dX12_leads_95 ?_
                  refine j_callV (pc := 96) (As := [vI a, vI b, vI 0]) (st := [vI r110]) (c_X12_turnsCost hM a ⟨by omega, by omega⟩ b ⟨by omega, by omega⟩ 0 (by (first | decide | exact ⟨by omega, by omega⟩)) σ78 hIσ78) mv_X12_339 rfl rfl rfl (a_88 hM) dX12_leads_96 ⟨Nat.le_of_ble_eq_true rfl, Nat.le_of_ble_eq_true rfl⟩ ⟨Nat.le_refl _, Nat.le_refl _⟩ rfl (Nat.le_of_ble_eq_true rfl) rfl (fun z111 σ112 hz111 => ?_)
                  obtain ⟨r114, rfl, hr114, rfl, -⟩ := hz111
                  refine j_st (st' := [vI r114, vI r110]) rfl ?_
                  refine j_icmpR_ge (pc := 99) (tgt := 106) ⟨by omega, by omega⟩ ⟨by omega, by omega⟩ dX12_leads_99 rfl (fun h115 => ?_) (fun h115 => ?_)
                  · refine j_iconst (pc := 106) dX12_leads_106 ?_
                    refine j_istore (pc := 107) (i := 5) (ls' := [(0, vR 88), (1, vI a), (2, vI b), (4, vI w), (5, vI 0)]) [1, 2, 3, 5, 0] dX12_leads_107 (Nat.le_of_ble_eq_true rfl) rfl rfl ?_
                    refine j_iload (pc := 109) dX12_leads_109 rfl ?_
                    refine j_ifR_ne (pc := 111) (tgt := 125) ⟨by omega, by omega⟩ dX12_leads_111 rfl (fun h116 => ?_) (fun h116 => ?_)
                    · refine j_iload (pc := 125) dX12_leads_125 rfl ?_
                      refine j_bipush (pc := 127) dX12_leads_127 rfl ?_
                      refine j_isub (pc := 129) dX12_leads_129 ?_
                      refine j_top (fun z117 ez117 hz117 => ?_)
                      have gz117 : w - 10 < -2147483648 ∨ 2147483647 < w - 10 ∨ z117 = w - 10 := by rw [ez117]; exact w32_or _
                      refine j_iload (pc := 130) dX12_leads_130 rfl ?_
                      refine j_iadd (pc := 132) dX12_leads_132 ?_
                      refine j_iconst (pc := 133) dX12_leads_133 ?_
                      refine j_irem (pc := 134) dX12_leads_134 (tw_nz ⟨by omega, by omega⟩ (by omega)) (fun z118 ez118 => ?_)
                      have hz118 : (-2147483648 : Int) ≤ z118 ∧ z118 ≤ 2147483647 := by rw [ez118]; exact rem_in _ _
                      exact j_iret (pc := 135) ⟨rfl, rfl⟩ dX12_leads_135 rfl ⟨_, rfl, ⟨by omega, by omega⟩, hIσ78, hFσ78, trivial⟩
                    · refine j_aload_n (pc := 114) dX12_leads_114 rfl rfl ?_
                      refine j_iload_n (pc := 115) dX12_leads_115 rfl rfl ?_
                      refine j_iload_n (pc := 116) dX12_leads_116 rfl rfl ?_
                      refine j_iload (pc := 117) dX12_leads_117 rfl ?_
                      refine j_callV (pc := 119) (As := [vI a, vI b, vI 0]) (st := []) (c_X12_turnsCost hM a ⟨by omega, by omega⟩ b ⟨by omega, by omega⟩ 0 (by (first | decide | exact ⟨by omega, by omega⟩)) σ78 hIσ78) mv_X12_339 rfl rfl rfl (a_88 hM) dX12_leads_119 ⟨Nat.le_of_ble_eq_true rfl, Nat.le_of_ble_eq_true rfl⟩ ⟨Nat.le_refl _, Nat.le_refl _⟩ rfl (Nat.le_of_ble_eq_true rfl) rfl (fun z119 σ120 hz119 => ?_)
                      obtain ⟨r122, rfl, hr122, rfl, -⟩ := hz119
                      refine j_st (st' := [vI r122]) rfl ?_
                      refine j_goto (pc := 122) (tgt := 135) dX12_leads_122 rfl ?_
                      exact j_iret (pc := 135) ⟨rfl, rfl⟩ dX12_leads_135 rfl ⟨_, rfl, ⟨by omega, by omega⟩, hIσ78, hFσ78, trivial⟩
                  · refine j_iconst (pc := 102) dX12_leads_102 ?_
                    refine j_goto (pc := 103) (tgt := 107) dX12_leads_103 rfl ?_
                    refine j_istore (pc := 107) (i := 5) (ls' := [(0, vR 88), (1, vI a), (2, vI b), (4, vI w), (5, vI 1)]) [1, 2, 3, 5, 0] dX12_leads_107 (Nat.le_of_ble_eq_true rfl) rfl rfl ?_
                    refine j_iload (pc := 109) dX12_leads_109 rfl ?_
                    refine j_ifR_ne (pc := 111) (tgt := 125) ⟨by omega, by omega⟩ dX12_leads_111 rfl (fun h123 => ?_) (fun h123 => ?_)
                    · refine j_iload (pc := 125) dX12_leads_125 rfl ?_
                      refine j_bipush (pc := 127) dX12_leads_127 rfl ?_
                      refine j_isub (pc := 129) dX12_leads_129 ?_
                      refine j_top (fun z124 ez124 hz124 => ?_)
                      have gz124 : w - 10 < -2147483648 ∨ 2147483647 < w - 10 ∨ z124 = w - 10 := by rw [ez124]; exact w32_or _
                      refine j_iload (pc := 130) dX12_leads_130 rfl ?_
                      refine j_iadd (pc := 132) dX12_leads_132 ?_
                      refine j_top (fun z125 ez125 hz125 => ?_)
                      refine j_iconst (pc := 133) dX12_leads_133 ?_
                      refine j_irem (pc := 134) dX12_leads_134 (tw_nz ⟨by omega, by omega⟩ (by omega)) (fun z126 ez126 => ?_)
                      have hz126 : (-2147483648 : Int) ≤ z126 ∧ z126 ≤ 2147483647 := by rw [ez126]; exact rem_in _ _
                      exact j_iret (pc := 135) ⟨rfl, rfl⟩ dX12_leads_135 rfl ⟨_, rfl, ⟨by omega, by omega⟩, hIσ78, hFσ78, trivial⟩
                    · refine j_aload_n (pc := 114) dX12_leads_114 rfl rfl ?_
                      refine j_iload_n (pc := 115) dX12_leads_115 rfl rfl ?_
                      refine j_iload_n (pc := 116) dX12_leads_116 rfl rfl ?_
                      refine j_iload (pc := 117) dX12_leads_117 rfl ?_
                      refine j_callV (pc := 119) (As := [vI a, vI b, vI 1]) (st := []) (c_X12_turnsCost hM a ⟨by omega, by omega⟩ b ⟨by omega, by omega⟩ 1 (by (first | decide | exact ⟨by omega, by omega⟩)) σ78 hIσ78) mv_X12_339 rfl rfl rfl (a_88 hM) dX12_leads_119 ⟨Nat.le_of_ble_eq_true rfl, Nat.le_of_ble_eq_true rfl⟩ ⟨Nat.le_refl _, Nat.le_refl _⟩ rfl (Nat.le_of_ble_eq_true rfl) rfl (fun z127 σ128 hz127 => ?_)
                      obtain ⟨r130, rfl, hr130, rfl, -⟩ := hz127
                      refine j_st (st' := [vI r130]) rfl ?_
                      refine j_goto (pc := 122) (tgt := 135) dX12_leads_122 rfl ?_
                      exact j_iret (pc := 135) ⟨rfl, rfl⟩ dX12_leads_135 rfl ⟨_, rfl, ⟨by omega, by omega⟩, hIσ78, hFσ78, trivial⟩
              · refine j_iconst (pc := 79) dX12_leads_79 ?_
                exact j_iret (pc := 80) ⟨rfl, rfl⟩ dX12_leads_80 rfl ⟨_, rfl, ⟨by omega, by omega⟩, hIσ78, hFσ78, trivial⟩
          · refine j_bipush (pc := 59) dX12_leads_59 rfl ?_
            exact j_iret (pc := 61) ⟨rfl, rfl⟩ dX12_leads_61 rfl ⟨_, rfl, ⟨by omega, by omega⟩, hIσ78, hFσ78, trivial⟩
        · refine j_iconst (pc := 44) dX12_leads_44 ?_
          exact j_iret (pc := 45) ⟨rfl, rfl⟩ dX12_leads_45 rfl ⟨_, rfl, ⟨by omega, by omega⟩, hI, (tw_F_rf), trivial⟩
abbrev q_X12_down (d : Int) (σ : tw_M) : Option tw_V → tw_M → Prop := fun z τ => ∃ r : Int, z = some (vI r) ∧ (-2147483648 ≤ r ∧ r ≤ 2147483647) ∧ tw_I τ ∧ tw_F (fun c j => c = 101) σ τ ∧ True
set_option maxHeartbeats 4000000 in
set_option maxRecDepth 100000 in
theorem l_X12_down {G : tw_G} (hM : tw_isM G) (d : Int) (hd : -2147483648 ≤ d ∧ d ≤ 2147483647) (σ : tw_M) (hI : tw_I σ) : ∀ N_ : Nat, (∀ (h : Int) (hh : 0 ≤ h ∧ h ≤ 41) (τ : tw_M) (hIτ : tw_I τ) (hFτ : tw_F (fun c j => c = 101) σ τ) (i0 : 0 ≤ d ∧ d ≤ 40) (hm : (100 * (41 - h) + 50).toNat < N_), tw_J G (tw_mt RX12 cX12_down 6 (some .int) 2) (tw_E G (q_X12_down d σ)) 20 [(0, vR 88), (1, vI d), (2, vI h)] [] τ) ∧ (∀ (h : Int) (hh : 0 ≤ h ∧ h ≤ 40) (f : Int) (hf : 0 ≤ f ∧ f ≤ 40) (τ : tw_M) (hIτ : tw_I τ) (hFτ : tw_F (fun c j => c = 101) σ τ) (i0 : 0 ≤ d ∧ d ≤ 40) (i1 : f ≤ h) (hm : (100 * (41 - h) + 40 - f).toNat < N_), tw_J G (tw_mt RX12 cX12_down 6 (some .int) 2) (tw_E G (q_X12_down d σ)) 43 [(0, vR 88), (1, vI d), (2, vI h), (3, vI f)] [] τ) := by
  intro N_
  induction N_ with
  | zero => exact ⟨fun h hh τ hIτ hFτ i0 hm => absurd hm (Nat.not_lt_zero _), fun h hh f hf τ hIτ hFτ i0 i1 hm => absurd hm (Nat.not_lt_zero _)⟩
  | succ N_ ih =>
    refine ⟨?_, ?_⟩
    · intro h hh τ hIτ hFτ i0 hm
      refine j_iload_n (pc := 20) dX12_down_20 rfl rfl ?_
      refine j_iload_n (pc := 21) dX12_down_21 rfl rfl ?_
      refine j_icmpR_gt (pc := 22) (tgt := 179) ⟨by omega, by omega⟩ ⟨by omega, by omega⟩ dX12_down_22 rfl (fun h1 => ?_) (fun h1 => ?_)
      · refine j_aload_n (pc := 179) dX12_down_179 rfl rfl ?_
        refine j_getR (pc := 180) (r := 101) fl_X12_47 dX12_down_180 (a_88 hM) rfl ?_
        refine j_iload_n (pc := 183) dX12_down_183 rfl rfl ?_
        refine j_iald (pc := 184) dX12_down_184 (a_101 hM) (by omega) (by omega) (by decide) ?_
        have f2 : (-2147483648 : Int) ≤ τ 101 (d.toNat) ∧ τ 101 (d.toNat) ≤ 2147483647 := hIτ 101 (d.toNat)
        exact j_iret (pc := 185) ⟨rfl, rfl⟩ dX12_down_185 rfl ⟨_, rfl, ⟨by omega, by omega⟩, hIτ, hFτ, trivial⟩
      · refine j_aload_n (pc := 25) dX12_down_25 rfl rfl ?_
        refine j_getR (pc := 26) (r := 101) fl_X12_47 dX12_down_26 (a_88 hM) rfl ?_
        refine j_iload_n (pc := 29) dX12_down_29 rfl rfl ?_
        refine j_iload_n (pc := 30) dX12_down_30 rfl rfl ?_
        refine j_ifR_ne (pc := 31) (tgt := 38) ⟨by omega, by omega⟩ dX12_down_31 rfl (fun h3 => ?_) (fun h3 => ?_)
        · refine j_bipush (pc := 38) dX12_down_38 rfl ?_
          refine j_iast (pc := 40) dX12_down_40 (a_101 hM) (by omega) (by omega) (by decide) (j_nm (fun σ4 (eσ4 : σ4 = tw_up τ 101 (h.toNat) (-4)) => ?_))
          have hIσ4 : tw_I σ4 := tw_I_up hIτ eσ4 (show (-2147483648 : Int) ≤ -4 ∧ -4 ≤ 2147483647 from by decide)
          have hFσ4 : tw_F (fun c j => c = 101) σ σ4 := tw_F_up hFτ eσ4 (show 101 = 101 from rfl)
          refine j_iconst (pc := 41) dX12_down_41 ?_
          refine j_istore_n (pc := 42) (i := 3) (ls' := [(0, vR 88), (1, vI d), (2, vI h), (3, vI 0)]) [1, 2, 3, 0] dX12_down_42 rfl (Nat.le_of_ble_eq_true rfl) rfl rfl ?_
          refine j_ls (ls' := [(0, vR 88), (1, vI d), (2, vI h), (3, vI 0)]) [0, 1, 2, 3] rfl ?_
          exact ih.2 h ⟨by omega, by omega⟩ 0 (by (first | decide | exact ⟨by omega, by omega⟩)) σ4 hIσ4 hFσ4 (show 0 ≤ d ∧ d ≤ 40 from by omega) (show (0 : Int) ≤ h from by omega) (show (100 * (41 - h) + 40 - (0 : Int)).toNat < N_ from by omega)
        · refine j_iconst (pc := 34) dX12_down_34 ?_
          refine j_goto (pc := 35) (tgt := 40) dX12_down_35 rfl ?_
          refine j_iast (pc := 40) dX12_down_40 (a_101 hM) (by omega) (by omega) (by decide) (j_nm (fun σ5 (eσ5 : σ5 = tw_up τ 101 (h.toNat) 0) => ?_))
          have hIσ5 : tw_I σ5 := tw_I_up hIτ eσ5 (show (-2147483648 : Int) ≤ 0 ∧ 0 ≤ 2147483647 from by decide)
          have hFσ5 : tw_F (fun c j => c = 101) σ σ5 := tw_F_up hFτ eσ5 (show 101 = 101 from rfl)
          refine j_iconst (pc := 41) dX12_down_41 ?_
          refine j_istore_n (pc := 42) (i := 3) (ls' := [(0, vR 88), (1, vI d), (2, vI h), (3, vI 0)]) [1, 2, 3, 0] dX12_down_42 rfl (Nat.le_of_ble_eq_true rfl) rfl rfl ?_
          refine j_ls (ls' := [(0, vR 88), (1, vI d), (2, vI h), (3, vI 0)]) [0, 1, 2, 3] rfl ?_
          exact ih.2 h ⟨by omega, by omega⟩ 0 (by (first | decide | exact ⟨by omega, by omega⟩)) σ5 hIσ5 hFσ5 (show 0 ≤ d ∧ d ≤ 40 from by omega) (show (0 : Int) ≤ h from by omega) (show (100 * (41 - h) + 40 - (0 : Int)).toNat < N_ from by omega)
    · intro h hh f hf τ hIτ hFτ i0 i1 hm
      refine j_iload_n (pc := 43) dX12_down_43 rfl rfl ?_
      refine j_iload_n (pc := 44) dX12_down_44 rfl rfl ?_
      refine j_icmpR_ge (pc := 45) (tgt := 173) ⟨by omega, by omega⟩ ⟨by omega, by omega⟩ dX12_down_45 rfl (fun h6 => ?_) (fun h6 => ?_)
      · refine j_iinc (pc := 173) (i := 2) (n := 1) (ls' := [(0, vR 88), (1, vI d), (2, vI (h + 1))]) [1, 2, 0] dX12_down_173 rfl (Nat.le_of_ble_eq_true rfl) rfl rfl ?_
        refine j_goto (pc := 176) (tgt := 20) dX12_down_176 rfl ?_
        refine j_ls (ls' := [(0, vR 88), (1, vI d), (2, vI (h + 1))]) [0, 1, 2] rfl ?_
        exact ih.1 (h + 1) ⟨by omega, by omega⟩ τ hIτ hFτ (show 0 ≤ d ∧ d ≤ 40 from by omega) (show (100 * (41 - (h + 1)) + 50).toNat < N_ from by omega)
      · refine j_iload_n (pc := 48) dX12_down_48 rfl rfl ?_
        refine j_ifR_eq (pc := 49) (tgt := 60) ⟨by omega, by omega⟩ dX12_down_49 rfl (fun h7 => ?_) (fun h7 => ?_)
        · refine j_aload_n (pc := 60) dX12_down_60 rfl rfl ?_
          refine j_getR (pc := 61) (r := 101) fl_X12_47 dX12_down_61 (a_88 hM) rfl ?_
          refine j_iload_n (pc := 64) dX12_down_64 rfl rfl ?_
          refine j_iald (pc := 65) dX12_down_65 (a_101 hM) (by omega) (by omega) (by decide) ?_
          have f8 : (-2147483648 : Int) ≤ τ 101 (f.toNat) ∧ τ 101 (f.toNat) ≤ 2147483647 := hIτ 101 (f.toNat)
          refine j_bipush (pc := 66) dX12_down_66 rfl ?_
          refine j_icmpR_eq (pc := 68) (tgt := 89) ⟨by omega, by omega⟩ ⟨by omega, by omega⟩ dX12_down_68 rfl (fun h9 => ?_) (fun h9 => ?_)
          · refine j_iconst (pc := 89) dX12_down_89 ?_
            refine j_istore (pc := 90) (i := 4) (ls' := [(0, vR 88), (1, vI d), (2, vI h), (3, vI f), (4, vI 0)]) [1, 2, 3, 4, 0] dX12_down_90 (Nat.le_of_ble_eq_true rfl) rfl rfl ?_
            refine j_iload (pc := 92) dX12_down_92 rfl ?_
            refine j_ifR_eq (pc := 94) (tgt := 120) ⟨by omega, by omega⟩ dX12_down_94 rfl (fun h10 => ?_) (fun h10 => by exfalso; omega)
            refine j_iconst (pc := 120) dX12_down_120 ?_
            refine j_istore (pc := 121) (i := 5) (ls' := [(0, vR 88), (1, vI d), (2, vI h), (3, vI f), (4, vI 0), (5, vI 0)]) [1, 2, 3, 4, 5, 0] dX12_down_121 (Nat.le_of_ble_eq_true rfl) rfl rfl ?_
            refine j_aload_n (pc := 123) dX12_down_123 rfl rfl ?_
            refine j_getR (pc := 124) (r := 101) fl_X12_47 dX12_down_124 (a_88 hM) rfl ?_
            refine j_iload_n (pc := 127) dX12_down_127 rfl rfl ?_
            refine j_iload (pc := 128) dX12_down_128 rfl ?_
            refine j_ifR_eq (pc := 130) (tgt := 160) ⟨by omega, by omega⟩ dX12_down_130 rfl (fun h11 => ?_) (fun h11 => by exfalso; omega)
            refine j_aload_n (pc := 160) dX12_down_160 rfl rfl ?_
            refine j_getR (pc := 161) (r := 101) fl_X12_47 dX12_down_161 (a_88 hM) rfl ?_
            refine j_iload_n (pc := 164) dX12_down_164 rfl rfl ?_
            refine j_iald (pc := 165) dX12_down_165 (a_101 hM) (by omega) (by omega) (by decide) ?_
            have f12 : (-2147483648 : Int) ≤ τ 101 (h.toNat) ∧ τ 101 (h.toNat) ≤ 2147483647 := hIτ 101 (h.toNat)
            refine j_iast (pc := 166) dX12_down_166 (a_101 hM) (by omega) (by omega) (by decide) (j_nm (fun σ13 (eσ13 : σ13 = tw_up τ 101 (h.toNat) (τ 101 (h.toNat))) => ?_))
            have hIσ13 : tw_I σ13 := tw_I_up hIτ eσ13 (show (-2147483648 : Int) ≤ τ 101 (h.toNat) ∧ τ 101 (h.toNat) ≤ 2147483647 from ⟨by omega, by omega⟩)
            have hFσ13 : tw_F (fun c j => c = 101) σ σ13 := tw_F_up hFτ eσ13 (show 101 = 101 from rfl)
            refine j_iinc (pc := 167) (i := 3) (n := 1) (ls' := [(0, vR 88), (1, vI d), (2, vI h), (3, vI (f + 1))]) [1, 2, 3, 0] dX12_down_167 rfl (Nat.le_of_ble_eq_true rfl) rfl rfl ?_
            refine j_goto (pc := 170) (tgt := 43) dX12_down_170 rfl ?_
            refine j_ls (ls' := [(0, vR 88), (1, vI d), (2, vI h), (3, vI (f + 1))]) [0, 1, 2, 3] rfl ?_
            exact ih.2 h ⟨by omega, by omega⟩ (f + 1) ⟨by omega, by omega⟩ σ13 hIσ13 hFσ13 (show 0 ≤ d ∧ d ≤ 40 from by omega) (show (f + 1) ≤ h from by omega) (show (100 * (41 - h) + 40 - (f + 1)).toNat < N_ from by omega)
          · refine j_iload_n (pc := 71) dX12_down_71 rfl rfl ?_
            refine j_iload_n (pc := 72) dX12_down_72 rfl rfl ?_
            refine j_isub (pc := 73) dX12_down_73 ?_
            refine j_aload_n (pc := 74) dX12_down_74 rfl rfl ?_
            refine j_getR (pc := 75) (r := 91) fl_X12_17 dX12_down_75 (a_88 hM) rfl ?_
            refine j_iconst (pc := 78) dX12_down_78 ?_
            refine j_iald (pc := 79) dX12_down_79 (a_91 hM) (by omega) (by omega) (by decide) ?_
            refine j_topV (show τ 91 (Int.toNat 3) = τ 91 3 from rfl) ?_
            have f14 : (1 : Int) ≤ τ 91 3 ∧ τ 91 3 ≤ 60 := hIτ 91 3
            refine j_iconst (pc := 80) dX12_down_80 ?_
            refine j_idiv (pc := 81) dX12_down_81 (tw_nz ⟨by omega, by omega⟩ (by omega)) (fun z15 ez15 => ?_)
            have hz15 : (-2147483648 : Int) ≤ z15 ∧ z15 ≤ 2147483647 := by rw [ez15]; exact div_in _ _
            have gz15 : z15 = (τ 91 3) / 2 := by rw [ez15]; exact div_pos_eq (by omega) (by omega) (by omega) (by omega)
            refine j_icmpR_gt (pc := 82) (tgt := 89) ⟨by omega, by omega⟩ ⟨by omega, by omega⟩ dX12_down_82 rfl (fun h16 => ?_) (fun h16 => ?_)
            · refine j_iconst (pc := 89) dX12_down_89 ?_
              refine j_istore (pc := 90) (i := 4) (ls' := [(0, vR 88), (1, vI d), (2, vI h), (3, vI f), (4, vI 0)]) [1, 2, 3, 4, 0] dX12_down_90 (Nat.le_of_ble_eq_true rfl) rfl rfl ?_
              refine j_iload (pc := 92) dX12_down_92 rfl ?_
              refine j_ifR_eq (pc := 94) (tgt := 120) ⟨by omega, by omega⟩ dX12_down_94 rfl (fun h17 => ?_) (fun h17 => by exfalso; omega)
              refine j_iconst (pc := 120) dX12_down_120 ?_
              refine j_istore (pc := 121) (i := 5) (ls' := [(0, vR 88), (1, vI d), (2, vI h), (3, vI f), (4, vI 0), (5, vI 0)]) [1, 2, 3, 4, 5, 0] dX12_down_121 (Nat.le_of_ble_eq_true rfl) rfl rfl ?_
              refine j_aload_n (pc := 123) dX12_down_123 rfl rfl ?_
              refine j_getR (pc := 124) (r := 101) fl_X12_47 dX12_down_124 (a_88 hM) rfl ?_
              refine j_iload_n (pc := 127) dX12_down_127 rfl rfl ?_
              refine j_iload (pc := 128) dX12_down_128 rfl ?_
              refine j_ifR_eq (pc := 130) (tgt := 160) ⟨by omega, by omega⟩ dX12_down_130 rfl (fun h18 => ?_) (fun h18 => by exfalso; omega)
              refine j_aload_n (pc := 160) dX12_down_160 rfl rfl ?_
              refine j_getR (pc := 161) (r := 101) fl_X12_47 dX12_down_161 (a_88 hM) rfl ?_
              refine j_iload_n (pc := 164) dX12_down_164 rfl rfl ?_
              refine j_iald (pc := 165) dX12_down_165 (a_101 hM) (by omega) (by omega) (by decide) ?_
              have f19 : (-2147483648 : Int) ≤ τ 101 (h.toNat) ∧ τ 101 (h.toNat) ≤ 2147483647 := hIτ 101 (h.toNat)
              refine j_iast (pc := 166) dX12_down_166 (a_101 hM) (by omega) (by omega) (by decide) (j_nm (fun σ20 (eσ20 : σ20 = tw_up τ 101 (h.toNat) (τ 101 (h.toNat))) => ?_))
              have hIσ20 : tw_I σ20 := tw_I_up hIτ eσ20 (show (-2147483648 : Int) ≤ τ 101 (h.toNat) ∧ τ 101 (h.toNat) ≤ 2147483647 from ⟨by omega, by omega⟩)
              have hFσ20 : tw_F (fun c j => c = 101) σ σ20 := tw_F_up hFτ eσ20 (show 101 = 101 from rfl)
              refine j_iinc (pc := 167) (i := 3) (n := 1) (ls' := [(0, vR 88), (1, vI d), (2, vI h), (3, vI (f + 1))]) [1, 2, 3, 0] dX12_down_167 rfl (Nat.le_of_ble_eq_true rfl) rfl rfl ?_
              refine j_goto (pc := 170) (tgt := 43) dX12_down_170 rfl ?_
              refine j_ls (ls' := [(0, vR 88), (1, vI d), (2, vI h), (3, vI (f + 1))]) [0, 1, 2, 3] rfl ?_
              exact ih.2 h ⟨by omega, by omega⟩ (f + 1) ⟨by omega, by omega⟩ σ20 hIσ20 hFσ20 (show 0 ≤ d ∧ d ≤ 40 from by omega) (show (f + 1) ≤ h from by omega) (show (100 * (41 - h) + 40 - (f + 1)).toNat < N_ from by omega)
            · refine j_iconst (pc := 85) dX12_down_85 ?_
              refine j_goto (pc := 86) (tgt := 90) dX12_down_86 rfl ?_
              refine j_istore (pc := 90) (i := 4) (ls' := [(0, vR 88), (1, vI d), (2, vI h), (3, vI f), (4, vI 1)]) [1, 2, 3, 4, 0] dX12_down_90 (Nat.le_of_ble_eq_true rfl) rfl rfl ?_
              refine j_iload (pc := 92) dX12_down_92 rfl ?_
              refine j_ifR_eq (pc := 94) (tgt := 120) ⟨by omega, by omega⟩ dX12_down_94 rfl (fun h21 => by exfalso; omega) (fun h21 => ?_)
              refine j_aload_n (pc := 97) dX12_down_97 rfl rfl ?_
              refine j_getR (pc := 98) (r := 101) fl_X12_47 dX12_down_98 (a_88 hM) rfl ?_
              refine j_iload_n (pc := 101) dX12_down_101 rfl rfl ?_
              refine j_iald (pc := 102) dX12_down_102 (a_101 hM) (by omega) (by omega) (by decide) ?_
              refine j_aload_n (pc := 103) dX12_down_103 rfl rfl ?_
              refine j_iload_n (pc := 104) dX12_down_104 rfl rfl ?_
              refine j_callV (pc := 105) (As := [vI h]) (st := [vI (τ 101 (f.toNat))]) (c_X12_isStance hM h ⟨by omega, by omega⟩ τ hIτ) mv_X12_323 rfl rfl rfl (a_88 hM) dX12_down_105 ⟨Nat.le_of_ble_eq_true rfl, Nat.le_of_ble_eq_true rfl⟩ ⟨Nat.le_refl _, Nat.le_refl _⟩ rfl (Nat.le_of_ble_eq_true rfl) rfl (fun z22 σ23 hz22 => ?_)
              obtain ⟨r25, rfl, hr25, rfl, q24_0⟩ := hz22
              replace q24_0 : (r25 = 1 ∧ mSt τ h) ∨ (r25 = 0 ∧ ¬ mSt τ h) := q24_0
              refine j_st (st' := [vI r25, vI (τ 101 (f.toNat))]) rfl ?_
              refine j_ifR_eq (pc := 108) (tgt := 115) ⟨by omega, by omega⟩ dX12_down_108 rfl (fun h26 => ?_) (fun h26 => ?_)
              · refine j_iconst (pc := 115) dX12_down_115 ?_
                refine j_iadd (pc := 116) dX12_down_116 ?_
                refine j_top (fun z27 ez27 hz27 => ?_)
                refine j_goto (pc := 117) (tgt := 121) dX12_down_117 rfl ?_
                refine j_istore (pc := 121) (i := 5) (ls' := [(0, vR 88), (1, vI d), (2, vI h), (3, vI f), (4, vI 1), (5, vI z27)]) [1, 2, 3, 4, 5, 0] dX12_down_121 (Nat.le_of_ble_eq_true rfl) rfl rfl ?_
                refine j_aload_n (pc := 123) dX12_down_123 rfl rfl ?_
                refine j_getR (pc := 124) (r := 101) fl_X12_47 dX12_down_124 (a_88 hM) rfl ?_
                refine j_iload_n (pc := 127) dX12_down_127 rfl rfl ?_
                refine j_iload (pc := 128) dX12_down_128 rfl ?_
                refine j_ifR_eq (pc := 130) (tgt := 160) ⟨by omega, by omega⟩ dX12_down_130 rfl (fun h28 => by exfalso; omega) (fun h28 => ?_)
                refine j_aload_n (pc := 133) dX12_down_133 rfl rfl ?_
                refine j_getR (pc := 134) (r := 101) fl_X12_47 dX12_down_134 (a_88 hM) rfl ?_
                refine j_iload_n (pc := 137) dX12_down_137 rfl rfl ?_
                refine j_iald (pc := 138) dX12_down_138 (a_101 hM) (by omega) (by omega) (by decide) ?_
                have f29 : (-2147483648 : Int) ≤ τ 101 (h.toNat) ∧ τ 101 (h.toNat) ≤ 2147483647 := hIτ 101 (h.toNat)
                refine j_bipush (pc := 139) dX12_down_139 rfl ?_
                refine j_icmpR_eq (pc := 141) (tgt := 155) ⟨by omega, by omega⟩ ⟨by omega, by omega⟩ dX12_down_141 rfl (fun h30 => ?_) (fun h30 => ?_)
                · refine j_iload (pc := 155) dX12_down_155 rfl ?_
                  refine j_goto (pc := 157) (tgt := 166) dX12_down_157 rfl ?_
                  refine j_iast (pc := 166) dX12_down_166 (a_101 hM) (by omega) (by omega) (by decide) (j_nm (fun σ31 (eσ31 : σ31 = tw_up τ 101 (h.toNat) z27) => ?_))
                  have hIσ31 : tw_I σ31 := tw_I_up hIτ eσ31 (show (-2147483648 : Int) ≤ z27 ∧ z27 ≤ 2147483647 from ⟨by omega, by omega⟩)
                  have hFσ31 : tw_F (fun c j => c = 101) σ σ31 := tw_F_up hFτ eσ31 (show 101 = 101 from rfl)
                  refine j_iinc (pc := 167) (i := 3) (n := 1) (ls' := [(0, vR 88), (1, vI d), (2, vI h), (3, vI (f + 1))]) [1, 2, 3, 0] dX12_down_167 rfl (Nat.le_of_ble_eq_true rfl) rfl rfl ?_
                  refine j_goto (pc := 170) (tgt := 43) dX12_down_170 rfl ?_
                  refine j_ls (ls' := [(0, vR 88), (1, vI d), (2, vI h), (3, vI (f + 1))]) [0, 1, 2, 3] rfl ?_
                  exact ih.2 h ⟨by omega, by omega⟩ (f + 1) ⟨by omega, by omega⟩ σ31 hIσ31 hFσ31 (show 0 ≤ d ∧ d ≤ 40 from by omega) (show (f + 1) ≤ h from by omega) (show (100 * (41 - h) + 40 - (f + 1)).toNat < N_ from by omega)
                · refine j_iload (pc := 144) dX12_down_144 rfl ?_
                  refine j_aload_n (pc := 146) dX12_down_146 rfl rfl ?_
                  refine j_getR (pc := 147) (r := 101) fl_X12_47 dX12_down_147 (a_88 hM) rfl ?_
                  refine j_iload_n (pc := 150) dX12_down_150 rfl rfl ?_
                  refine j_iald (pc := 151) dX12_down_151 (a_101 hM) (by omega) (by omega) (by decide) ?_
                  refine j_icmpR_ge (pc := 152) (tgt := 160) ⟨by omega, by omega⟩ ⟨by omega, by omega⟩ dX12_down_152 rfl (fun h32 => ?_) (fun h32 => ?_)
                  · refine j_aload_n (pc := 160) dX12_down_160 rfl rfl ?_
                    refine j_getR (pc := 161) (r := 101) fl_X12_47 dX12_down_161 (a_88 hM) rfl ?_
                    refine j_iload_n (pc := 164) dX12_down_164 rfl rfl ?_
                    refine j_iald (pc := 165) dX12_down_165 (a_101 hM) (by omega) (by omega) (by decide) ?_
                    refine j_iast (pc := 166) dX12_down_166 (a_101 hM) (by omega) (by omega) (by decide) (j_nm (fun σ33 (eσ33 : σ33 = tw_up τ 101 (h.toNat) (τ 101 (h.toNat))) => ?_))
                    have hIσ33 : tw_I σ33 := tw_I_up hIτ eσ33 (show (-2147483648 : Int) ≤ τ 101 (h.toNat) ∧ τ 101 (h.toNat) ≤ 2147483647 from ⟨by omega, by omega⟩)
                    have hFσ33 : tw_F (fun c j => c = 101) σ σ33 := tw_F_up hFτ eσ33 (show 101 = 101 from rfl)
                    refine j_iinc (pc := 167) (i := 3) (n := 1) (ls' := [(0, vR 88), (1, vI d), (2, vI h), (3, vI (f + 1))]) [1, 2, 3, 0] dX12_down_167 rfl (Nat.le_of_ble_eq_true rfl) rfl rfl ?_
                    refine j_goto (pc := 170) (tgt := 43) dX12_down_170 rfl ?_
                    refine j_ls (ls' := [(0, vR 88), (1, vI d), (2, vI h), (3, vI (f + 1))]) [0, 1, 2, 3] rfl ?_
                    exact ih.2 h ⟨by omega, by omega⟩ (f + 1) ⟨by omega, by omega⟩ σ33 hIσ33 hFσ33 (show 0 ≤ d ∧ d ≤ 40 from by omega) (show (f + 1) ≤ h from by omega) (show (100 * (41 - h) + 40 - (f + 1)).toNat < N_ from by omega)
                  · refine j_iload (pc := 155) dX12_down_155 rfl ?_
                    refine j_goto (pc := 157) (tgt := 166) dX12_down_157 rfl ?_
                    refine j_iast (pc := 166) dX12_down_166 (a_101 hM) (by omega) (by omega) (by decide) (j_nm (fun σ34 (eσ34 : σ34 = tw_up τ 101 (h.toNat) z27) => ?_))
                    have hIσ34 : tw_I σ34 := tw_I_up hIτ eσ34 (show (-2147483648 : Int) ≤ z27 ∧ z27 ≤ 2147483647 from ⟨by omega, by omega⟩)
                    have hFσ34 : tw_F (fun c j => c = 101) σ σ34 := tw_F_up hFτ eσ34 (show 101 = 101 from rfl)
                    refine j_iinc (pc := 167) (i := 3) (n := 1) (ls' := [(0, vR 88), (1, vI d), (2, vI h), (3, vI (f + 1))]) [1, 2, 3, 0] dX12_down_167 rfl (Nat.le_of_ble_eq_true rfl) rfl rfl ?_
                    refine j_goto (pc := 170) (tgt := 43) dX12_down_170 rfl ?_
                    refine j_ls (ls' := [(0, vR 88), (1, vI d), (2, vI h), (3, vI (f + 1))]) [0, 1, 2, 3] rfl ?_
                    exact ih.2 h ⟨by omega, by omega⟩ (f + 1) ⟨by omega, by omega⟩ σ34 hIσ34 hFσ34 (show 0 ≤ d ∧ d ≤ 40 from by omega) (show (f + 1) ≤ h from by omega) (show (100 * (41 - h) + 40 - (f + 1)).toNat < N_ from by omega)
              · refine j_iconst (pc := 111) dX12_down_111 ?_
                refine j_goto (pc := 112) (tgt := 116) dX12_down_112 rfl ?_
                refine j_iadd (pc := 116) dX12_down_116 ?_
                refine j_top (fun z35 ez35 hz35 => ?_)
                refine j_goto (pc := 117) (tgt := 121) dX12_down_117 rfl ?_
                refine j_istore (pc := 121) (i := 5) (ls' := [(0, vR 88), (1, vI d), (2, vI h), (3, vI f), (4, vI 1), (5, vI z35)]) [1, 2, 3, 4, 5, 0] dX12_down_121 (Nat.le_of_ble_eq_true rfl) rfl rfl ?_
                refine j_aload_n (pc := 123) dX12_down_123 rfl rfl ?_
                refine j_getR (pc := 124) (r := 101) fl_X12_47 dX12_down_124 (a_88 hM) rfl ?_
                refine j_iload_n (pc := 127) dX12_down_127 rfl rfl ?_
                refine j_iload (pc := 128) dX12_down_128 rfl ?_
                refine j_ifR_eq (pc := 130) (tgt := 160) ⟨by omega, by omega⟩ dX12_down_130 rfl (fun h36 => by exfalso; omega) (fun h36 => ?_)
                refine j_aload_n (pc := 133) dX12_down_133 rfl rfl ?_
                refine j_getR (pc := 134) (r := 101) fl_X12_47 dX12_down_134 (a_88 hM) rfl ?_
                refine j_iload_n (pc := 137) dX12_down_137 rfl rfl ?_
                refine j_iald (pc := 138) dX12_down_138 (a_101 hM) (by omega) (by omega) (by decide) ?_
                have f37 : (-2147483648 : Int) ≤ τ 101 (h.toNat) ∧ τ 101 (h.toNat) ≤ 2147483647 := hIτ 101 (h.toNat)
                refine j_bipush (pc := 139) dX12_down_139 rfl ?_
                refine j_icmpR_eq (pc := 141) (tgt := 155) ⟨by omega, by omega⟩ ⟨by omega, by omega⟩ dX12_down_141 rfl (fun h38 => ?_) (fun h38 => ?_)
                · refine j_iload (pc := 155) dX12_down_155 rfl ?_
                  refine j_goto (pc := 157) (tgt := 166) dX12_down_157 rfl ?_
                  refine j_iast (pc := 166) dX12_down_166 (a_101 hM) (by omega) (by omega) (by decide) (j_nm (fun σ39 (eσ39 : σ39 = tw_up τ 101 (h.toNat) z35) => ?_))
                  have hIσ39 : tw_I σ39 := tw_I_up hIτ eσ39 (show (-2147483648 : Int) ≤ z35 ∧ z35 ≤ 2147483647 from ⟨by omega, by omega⟩)
                  have hFσ39 : tw_F (fun c j => c = 101) σ σ39 := tw_F_up hFτ eσ39 (show 101 = 101 from rfl)
                  refine j_iinc (pc := 167) (i := 3) (n := 1) (ls' := [(0, vR 88), (1, vI d), (2, vI h), (3, vI (f + 1))]) [1, 2, 3, 0] dX12_down_167 rfl (Nat.le_of_ble_eq_true rfl) rfl rfl ?_
                  refine j_goto (pc := 170) (tgt := 43) dX12_down_170 rfl ?_
                  refine j_ls (ls' := [(0, vR 88), (1, vI d), (2, vI h), (3, vI (f + 1))]) [0, 1, 2, 3] rfl ?_
                  exact ih.2 h ⟨by omega, by omega⟩ (f + 1) ⟨by omega, by omega⟩ σ39 hIσ39 hFσ39 (show 0 ≤ d ∧ d ≤ 40 from by omega) (show (f + 1) ≤ h from by omega) (show (100 * (41 - h) + 40 - (f + 1)).toNat < N_ from by omega)
                · refine j_iload (pc := 144) dX12_down_144 rfl ?_
                  refine j_aload_n (pc := 146) dX12_down_146 rfl rfl ?_
                  refine j_getR (pc := 147) (r := 101) fl_X12_47 dX12_down_147 (a_88 hM) rfl ?_
                  refine j_iload_n (pc := 150) dX12_down_150 rfl rfl ?_
                  refine j_iald (pc := 151) dX12_down_151 (a_101 hM) (by omega) (by omega) (by decide) ?_
                  refine j_icmpR_ge (pc := 152) (tgt := 160) ⟨by omega, by omega⟩ ⟨by omega, by omega⟩ dX12_down_152 rfl (fun h40 => ?_) (fun h40 => ?_)
                  · refine j_aload_n (pc := 160) dX12_down_160 rfl rfl ?_
                    refine j_getR (pc := 161) (r := 101) fl_X12_47 dX12_down_161 (a_88 hM) rfl ?_
                    refine j_iload_n (pc := 164) dX12_down_164 rfl rfl ?_
                    refine j_iald (pc := 165) dX12_down_165 (a_101 hM) (by omega) (by omega) (by decide) ?_
                    refine j_iast (pc := 166) dX12_down_166 (a_101 hM) (by omega) (by omega) (by decide) (j_nm (fun σ41 (eσ41 : σ41 = tw_up τ 101 (h.toNat) (τ 101 (h.toNat))) => ?_))
                    have hIσ41 : tw_I σ41 := tw_I_up hIτ eσ41 (show (-2147483648 : Int) ≤ τ 101 (h.toNat) ∧ τ 101 (h.toNat) ≤ 2147483647 from ⟨by omega, by omega⟩)
                    have hFσ41 : tw_F (fun c j => c = 101) σ σ41 := tw_F_up hFτ eσ41 (show 101 = 101 from rfl)
                    refine j_iinc (pc := 167) (i := 3) (n := 1) (ls' := [(0, vR 88), (1, vI d), (2, vI h), (3, vI (f + 1))]) [1, 2, 3, 0] dX12_down_167 rfl (Nat.le_of_ble_eq_true rfl) rfl rfl ?_
                    refine j_goto (pc := 170) (tgt := 43) dX12_down_170 rfl ?_
                    refine j_ls (ls' := [(0, vR 88), (1, vI d), (2, vI h), (3, vI (f + 1))]) [0, 1, 2, 3] rfl ?_
                    exact ih.2 h ⟨by omega, by omega⟩ (f + 1) ⟨by omega, by omega⟩ σ41 hIσ41 hFσ41 (show 0 ≤ d ∧ d ≤ 40 from by omega) (show (f + 1) ≤ h from by omega) (show (100 * (41 - h) + 40 - (f + 1)).toNat < N_ from by omega)
                  · refine j_iload (pc := 155) dX12_down_155 rfl ?_
                    refine j_goto (pc := 157) (tgt := 166) dX12_down_157 rfl ?_
                    refine j_iast (pc := 166) dX12_down_166 (a_101 hM) (by omega) (by omega) (by decide) (j_nm (fun σ42 (eσ42 : σ42 = tw_up τ 101 (h.toNat) z35) => ?_))
                    have hIσ42 : tw_I σ42 := tw_I_up hIτ eσ42 (show (-2147483648 : Int) ≤ z35 ∧ z35 ≤ 2147483647 from ⟨by omega, by omega⟩)
                    have hFσ42 : tw_F (fun c j => c = 101) σ σ42 := tw_F_up hFτ eσ42 (show 101 = 101 from rfl)
                    refine j_iinc (pc := 167) (i := 3) (n := 1) (ls' := [(0, vR 88), (1, vI d), (2, vI h), (3, vI (f + 1))]) [1, 2, 3, 0] dX12_down_167 rfl (Nat.le_of_ble_eq_true rfl) rfl rfl ?_
                    refine j_goto (pc := 170) (tgt := 43) dX12_down_170 rfl ?_
                    refine j_ls (ls' := [(0, vR 88), (1, vI d), (2, vI h), (3, vI (f + 1))]) [0, 1, 2, 3] rfl ?_
                    exact ih.2 h ⟨by omega, by omega⟩ (f + 1) ⟨by omega, by omega⟩ σ42 hIσ42 hFσ42 (show 0 ≤ d ∧ d ≤ 40 from by omega) (show (f + 1) ≤ h from by omega) (show (100 * (41 - h) + 40 - (f + 1)).toNat < N_ from by omega)
        · refine j_aload_n (pc := 52) dX12_down_52 rfl rfl ?_
          refine j_iload_n (pc := 53) dX12_down_53 rfl rfl ?_
          refine j_callV (pc := 54) (As := [vI f]) (st := []) (c_X12_isStance hM f ⟨by omega, by omega⟩ τ hIτ) mv_X12_323 rfl rfl rfl (a_88 hM) dX12_down_54 ⟨Nat.le_of_ble_eq_true rfl, Nat.le_of_ble_eq_true rfl⟩ ⟨Nat.le_refl _, Nat.le_refl _⟩ rfl (Nat.le_of_ble_eq_true rfl) rfl (fun z43 σ44 hz43 => ?_)
          obtain ⟨r46, rfl, hr46, rfl, q45_0⟩ := hz43
          replace q45_0 : (r46 = 1 ∧ mSt τ f) ∨ (r46 = 0 ∧ ¬ mSt τ f) := q45_0
          refine j_st (st' := [vI r46]) rfl ?_
          refine j_ifR_eq (pc := 57) (tgt := 89) ⟨by omega, by omega⟩ dX12_down_57 rfl (fun h47 => ?_) (fun h47 => ?_)
          · refine j_iconst (pc := 89) dX12_down_89 ?_
            refine j_istore (pc := 90) (i := 4) (ls' := [(0, vR 88), (1, vI d), (2, vI h), (3, vI f), (4, vI 0)]) [1, 2, 3, 4, 0] dX12_down_90 (Nat.le_of_ble_eq_true rfl) rfl rfl ?_
            refine j_iload (pc := 92) dX12_down_92 rfl ?_
            refine j_ifR_eq (pc := 94) (tgt := 120) ⟨by omega, by omega⟩ dX12_down_94 rfl (fun h48 => ?_) (fun h48 => by exfalso; omega)
            refine j_iconst (pc := 120) dX12_down_120 ?_
            refine j_istore (pc := 121) (i := 5) (ls' := [(0, vR 88), (1, vI d), (2, vI h), (3, vI f), (4, vI 0), (5, vI 0)]) [1, 2, 3, 4, 5, 0] dX12_down_121 (Nat.le_of_ble_eq_true rfl) rfl rfl ?_
            refine j_aload_n (pc := 123) dX12_down_123 rfl rfl ?_
            refine j_getR (pc := 124) (r := 101) fl_X12_47 dX12_down_124 (a_88 hM) rfl ?_
            refine j_iload_n (pc := 127) dX12_down_127 rfl rfl ?_
            refine j_iload (pc := 128) dX12_down_128 rfl ?_
            refine j_ifR_eq (pc := 130) (tgt := 160) ⟨by omega, by omega⟩ dX12_down_130 rfl (fun h49 => ?_) (fun h49 => by exfalso; omega)
            refine j_aload_n (pc := 160) dX12_down_160 rfl rfl ?_
            refine j_getR (pc := 161) (r := 101) fl_X12_47 dX12_down_161 (a_88 hM) rfl ?_
            refine j_iload_n (pc := 164) dX12_down_164 rfl rfl ?_
            refine j_iald (pc := 165) dX12_down_165 (a_101 hM) (by omega) (by omega) (by decide) ?_
            have f50 : (-2147483648 : Int) ≤ τ 101 (h.toNat) ∧ τ 101 (h.toNat) ≤ 2147483647 := hIτ 101 (h.toNat)
            refine j_iast (pc := 166) dX12_down_166 (a_101 hM) (by omega) (by omega) (by decide) (j_nm (fun σ51 (eσ51 : σ51 = tw_up τ 101 (h.toNat) (τ 101 (h.toNat))) => ?_))
            have hIσ51 : tw_I σ51 := tw_I_up hIτ eσ51 (show (-2147483648 : Int) ≤ τ 101 (h.toNat) ∧ τ 101 (h.toNat) ≤ 2147483647 from ⟨by omega, by omega⟩)
            have hFσ51 : tw_F (fun c j => c = 101) σ σ51 := tw_F_up hFτ eσ51 (show 101 = 101 from rfl)
            refine j_iinc (pc := 167) (i := 3) (n := 1) (ls' := [(0, vR 88), (1, vI d), (2, vI h), (3, vI (f + 1))]) [1, 2, 3, 0] dX12_down_167 rfl (Nat.le_of_ble_eq_true rfl) rfl rfl ?_
            refine j_goto (pc := 170) (tgt := 43) dX12_down_170 rfl ?_
            refine j_ls (ls' := [(0, vR 88), (1, vI d), (2, vI h), (3, vI (f + 1))]) [0, 1, 2, 3] rfl ?_
            exact ih.2 h ⟨by omega, by omega⟩ (f + 1) ⟨by omega, by omega⟩ σ51 hIσ51 hFσ51 (show 0 ≤ d ∧ d ≤ 40 from by omega) (show (f + 1) ≤ h from by omega) (show (100 * (41 - h) + 40 - (f + 1)).toNat < N_ from by omega)
          · refine j_aload_n (pc := 60) dX12_down_60 rfl rfl ?_
            refine j_getR (pc := 61) (r := 101) fl_X12_47 dX12_down_61 (a_88 hM) rfl ?_
            refine j_iload_n (pc := 64) dX12_down_64 rfl rfl ?_
            refine j_iald (pc := 65) dX12_down_65 (a_101 hM) (by omega) (by omega) (by decide) ?_
            have f52 : (-2147483648 : Int) ≤ τ 101 (f.toNat) ∧ τ 101 (f.toNat) ≤ 2147483647 := hIτ 101 (f.toNat)
            refine j_bipush (pc := 66) dX12_down_66 rfl ?_
            refine j_icmpR_eq (pc := 68) (tgt := 89) ⟨by omega, by omega⟩ ⟨by omega, by omega⟩ dX12_down_68 rfl (fun h53 => ?_) (fun h53 => ?_)
            · refine j_iconst (pc := 89) dX12_down_89 ?_
              refine j_istore (pc := 90) (i := 4) (ls' := [(0, vR 88), (1, vI d), (2, vI h), (3, vI f), (4, vI 0)]) [1, 2, 3, 4, 0] dX12_down_90 (Nat.le_of_ble_eq_true rfl) rfl rfl ?_
              refine j_iload (pc := 92) dX12_down_92 rfl ?_
              refine j_ifR_eq (pc := 94) (tgt := 120) ⟨by omega, by omega⟩ dX12_down_94 rfl (fun h54 => ?_) (fun h54 => by exfalso; omega)
              refine j_iconst (pc := 120) dX12_down_120 ?_
              refine j_istore (pc := 121) (i := 5) (ls' := [(0, vR 88), (1, vI d), (2, vI h), (3, vI f), (4, vI 0), (5, vI 0)]) [1, 2, 3, 4, 5, 0] dX12_down_121 (Nat.le_of_ble_eq_true rfl) rfl rfl ?_
              refine j_aload_n (pc := 123) dX12_down_123 rfl rfl ?_
              refine j_getR (pc := 124) (r := 101) fl_X12_47 dX12_down_124 (a_88 hM) rfl ?_
              refine j_iload_n (pc := 127) dX12_down_127 rfl rfl ?_
              refine j_iload (pc := 128) dX12_down_128 rfl ?_
              refine j_ifR_eq (pc := 130) (tgt := 160) ⟨by omega, by omega⟩ dX12_down_130 rfl (fun h55 => ?_) (fun h55 => by exfalso; omega)
              refine j_aload_n (pc := 160) dX12_down_160 rfl rfl ?_
              refine j_getR (pc := 161) (r := 101) fl_X12_47 dX12_down_161 (a_88 hM) rfl ?_
              refine j_iload_n (pc := 164) dX12_down_164 rfl rfl ?_
              refine j_iald (pc := 165) dX12_down_165 (a_101 hM) (by omega) (by omega) (by decide) ?_
              have f56 : (-2147483648 : Int) ≤ τ 101 (h.toNat) ∧ τ 101 (h.toNat) ≤ 2147483647 := hIτ 101 (h.toNat)
              refine j_iast (pc := 166) dX12_down_166 (a_101 hM) (by omega) (by omega) (by decide) (j_nm (fun σ57 (eσ57 : σ57 = tw_up τ 101 (h.toNat) (τ 101 (h.toNat))) => ?_))
              have hIσ57 : tw_I σ57 := tw_I_up hIτ eσ57 (show (-2147483648 : Int) ≤ τ 101 (h.toNat) ∧ τ 101 (h.toNat) ≤ 2147483647 from ⟨by omega, by omega⟩)
              have hFσ57 : tw_F (fun c j => c = 101) σ σ57 := tw_F_up hFτ eσ57 (show 101 = 101 from rfl)
              refine j_iinc (pc := 167) (i := 3) (n := 1) (ls' := [(0, vR 88), (1, vI d), (2, vI h), (3, vI (f + 1))]) [1, 2, 3, 0] dX12_down_167 rfl (Nat.le_of_ble_eq_true rfl) rfl rfl ?_
              refine j_goto (pc := 170) (tgt := 43) dX12_down_170 rfl ?_
              refine j_ls (ls' := [(0, vR 88), (1, vI d), (2, vI h), (3, vI (f + 1))]) [0, 1, 2, 3] rfl ?_
              exact ih.2 h ⟨by omega, by omega⟩ (f + 1) ⟨by omega, by omega⟩ σ57 hIσ57 hFσ57 (show 0 ≤ d ∧ d ≤ 40 from by omega) (show (f + 1) ≤ h from by omega) (show (100 * (41 - h) + 40 - (f + 1)).toNat < N_ from by omega)
            · refine j_iload_n (pc := 71) dX12_down_71 rfl rfl ?_
              refine j_iload_n (pc := 72) dX12_down_72 rfl rfl ?_
              refine j_isub (pc := 73) dX12_down_73 ?_
              refine j_aload_n (pc := 74) dX12_down_74 rfl rfl ?_
              refine j_getR (pc := 75) (r := 91) fl_X12_17 dX12_down_75 (a_88 hM) rfl ?_
              refine j_iconst (pc := 78) dX12_down_78 ?_
              refine j_iald (pc := 79) dX12_down_79 (a_91 hM) (by omega) (by omega) (by decide) ?_
              refine j_topV (show τ 91 (Int.toNat 3) = τ 91 3 from rfl) ?_
              have f58 : (1 : Int) ≤ τ 91 3 ∧ τ 91 3 ≤ 60 := hIτ 91 3
              refine j_iconst (pc := 80) dX12_down_80 ?_
              refine j_idiv (pc := 81) dX12_down_81 (tw_nz ⟨by omega, by omega⟩ (by omega)) (fun z59 ez59 => ?_)
              have hz59 : (-2147483648 : Int) ≤ z59 ∧ z59 ≤ 2147483647 := by rw [ez59]; exact div_in _ _
              have gz59 : z59 = (τ 91 3) / 2 := by rw [ez59]; exact div_pos_eq (by omega) (by omega) (by omega) (by omega)
              refine j_icmpR_gt (pc := 82) (tgt := 89) ⟨by omega, by omega⟩ ⟨by omega, by omega⟩ dX12_down_82 rfl (fun h60 => ?_) (fun h60 => ?_)
              · refine j_iconst (pc := 89) dX12_down_89 ?_
                refine j_istore (pc := 90) (i := 4) (ls' := [(0, vR 88), (1, vI d), (2, vI h), (3, vI f), (4, vI 0)]) [1, 2, 3, 4, 0] dX12_down_90 (Nat.le_of_ble_eq_true rfl) rfl rfl ?_
                refine j_iload (pc := 92) dX12_down_92 rfl ?_
                refine j_ifR_eq (pc := 94) (tgt := 120) ⟨by omega, by omega⟩ dX12_down_94 rfl (fun h61 => ?_) (fun h61 => by exfalso; omega)
                refine j_iconst (pc := 120) dX12_down_120 ?_
                refine j_istore (pc := 121) (i := 5) (ls' := [(0, vR 88), (1, vI d), (2, vI h), (3, vI f), (4, vI 0), (5, vI 0)]) [1, 2, 3, 4, 5, 0] dX12_down_121 (Nat.le_of_ble_eq_true rfl) rfl rfl ?_
                refine j_aload_n (pc := 123) dX12_down_123 rfl rfl ?_
                refine j_getR (pc := 124) (r := 101) fl_X12_47 dX12_down_124 (a_88 hM) rfl ?_
                refine j_iload_n (pc := 127) dX12_down_127 rfl rfl ?_
                refine j_iload (pc := 128) dX12_down_128 rfl ?_
                refine j_ifR_eq (pc := 130) (tgt := 160) ⟨by omega, by omega⟩ dX12_down_130 rfl (fun h62 => ?_) (fun h62 => by exfalso; omega)
                refine j_aload_n (pc := 160) dX12_down_160 rfl rfl ?_
                refine j_getR (pc := 161) (r := 101) fl_X12_47 dX12_down_161 (a_88 hM) rfl ?_
                refine j_iload_n (pc := 164) dX12_down_164 rfl rfl ?_
                refine j_iald (pc := 165) dX12_down_165 (a_101 hM) (by omega) (by omega) (by decide) ?_
                have f63 : (-2147483648 : Int) ≤ τ 101 (h.toNat) ∧ τ 101 (h.toNat) ≤ 2147483647 := hIτ 101 (h.toNat)
                refine j_iast (pc := 166) dX12_down_166 (a_101 hM) (by omega) (by omega) (by decide) (j_nm (fun σ64 (eσ64 : σ64 = tw_up τ 101 (h.toNat) (τ 101 (h.toNat))) => ?_))
                have hIσ64 : tw_I σ64 := tw_I_up hIτ eσ64 (show (-2147483648 : Int) ≤ τ 101 (h.toNat) ∧ τ 101 (h.toNat) ≤ 2147483647 from ⟨by omega, by omega⟩)
                have hFσ64 : tw_F (fun c j => c = 101) σ σ64 := tw_F_up hFτ eσ64 (show 101 = 101 from rfl)
                refine j_iinc (pc := 167) (i := 3) (n := 1) (ls' := [(0, vR 88), (1, vI d), (2, vI h), (3, vI (f + 1))]) [1, 2, 3, 0] dX12_down_167 rfl (Nat.le_of_ble_eq_true rfl) rfl rfl ?_
                refine j_goto (pc := 170) (tgt := 43) dX12_down_170 rfl ?_
                refine j_ls (ls' := [(0, vR 88), (1, vI d), (2, vI h), (3, vI (f + 1))]) [0, 1, 2, 3] rfl ?_
                exact ih.2 h ⟨by omega, by omega⟩ (f + 1) ⟨by omega, by omega⟩ σ64 hIσ64 hFσ64 (show 0 ≤ d ∧ d ≤ 40 from by omega) (show (f + 1) ≤ h from by omega) (show (100 * (41 - h) + 40 - (f + 1)).toNat < N_ from by omega)
              · refine j_iconst (pc := 85) dX12_down_85 ?_
                refine j_goto (pc := 86) (tgt := 90) dX12_down_86 rfl ?_
                refine j_istore (pc := 90) (i := 4) (ls' := [(0, vR 88), (1, vI d), (2, vI h), (3, vI f), (4, vI 1)]) [1, 2, 3, 4, 0] dX12_down_90 (Nat.le_of_ble_eq_true rfl) rfl rfl ?_
                refine j_iload (pc := 92) dX12_down_92 rfl ?_
                refine j_ifR_eq (pc := 94) (tgt := 120) ⟨by omega, by omega⟩ dX12_down_94 rfl (fun h65 => by exfalso; omega) (fun h65 => ?_)
                refine j_aload_n (pc := 97) dX12_down_97 rfl rfl ?_
                refine j_getR (pc := 98) (r := 101) fl_X12_47 dX12_down_98 (a_88 hM) rfl ?_
                refine j_iload_n (pc := 101) dX12_down_101 rfl rfl ?_
                refine j_iald (pc := 102) dX12_down_102 (a_101 hM) (by omega) (by omega) (by decide) ?_
                refine j_aload_n (pc := 103) dX12_down_103 rfl rfl ?_
                refine j_iload_n (pc := 104) dX12_down_104 rfl rfl ?_
                refine j_callV (pc := 105) (As := [vI h]) (st := [vI (τ 101 (f.toNat))]) (c_X12_isStance hM h ⟨by omega, by omega⟩ τ hIτ) mv_X12_323 rfl rfl rfl (a_88 hM) dX12_down_105 ⟨Nat.le_of_ble_eq_true rfl, Nat.le_of_ble_eq_true rfl⟩ ⟨Nat.le_refl _, Nat.le_refl _⟩ rfl (Nat.le_of_ble_eq_true rfl) rfl (fun z66 σ67 hz66 => ?_)
                obtain ⟨r69, rfl, hr69, rfl, q68_0⟩ := hz66
                replace q68_0 : (r69 = 1 ∧ mSt τ h) ∨ (r69 = 0 ∧ ¬ mSt τ h) := q68_0
                refine j_st (st' := [vI r69, vI (τ 101 (f.toNat))]) rfl ?_
                refine j_ifR_eq (pc := 108) (tgt := 115) ⟨by omega, by omega⟩ dX12_down_108 rfl (fun h70 => ?_) (fun h70 => ?_)
                · refine j_iconst (pc := 115) dX12_down_115 ?_
                  refine j_iadd (pc := 116) dX12_down_116 ?_
                  refine j_top (fun z71 ez71 hz71 => ?_)
                  refine j_goto (pc := 117) (tgt := 121) dX12_down_117 rfl ?_
                  refine j_istore (pc := 121) (i := 5) (ls' := [(0, vR 88), (1, vI d), (2, vI h), (3, vI f), (4, vI 1), (5, vI z71)]) [1, 2, 3, 4, 5, 0] dX12_down_121 (Nat.le_of_ble_eq_true rfl) rfl rfl ?_
                  refine j_aload_n (pc := 123) dX12_down_123 rfl rfl ?_
                  refine j_getR (pc := 124) (r := 101) fl_X12_47 dX12_down_124 (a_88 hM) rfl ?_
                  refine j_iload_n (pc := 127) dX12_down_127 rfl rfl ?_
                  refine j_iload (pc := 128) dX12_down_128 rfl ?_
                  refine j_ifR_eq (pc := 130) (tgt := 160) ⟨by omega, by omega⟩ dX12_down_130 rfl (fun h72 => by exfalso; omega) (fun h72 => ?_)
                  refine j_aload_n (pc := 133) dX12_down_133 rfl rfl ?_
                  refine j_getR (pc := 134) (r := 101) fl_X12_47 dX12_down_134 (a_88 hM) rfl ?_
                  refine j_iload_n (pc := 137) dX12_down_137 rfl rfl ?_
                  refine j_iald (pc := 138) dX12_down_138 (a_101 hM) (by omega) (by omega) (by decide) ?_
                  have f73 : (-2147483648 : Int) ≤ τ 101 (h.toNat) ∧ τ 101 (h.toNat) ≤ 2147483647 := hIτ 101 (h.toNat)
                  refine j_bipush (pc := 139) dX12_down_139 rfl ?_
                  refine j_icmpR_eq (pc := 141) (tgt := 155) ⟨by omega, by omega⟩ ⟨by omega, by omega⟩ dX12_down_141 rfl (fun h74 => ?_) (fun h74 => ?_)
                  · refine j_iload (pc := 155) dX12_down_155 rfl ?_
                    refine j_goto (pc := 157) (tgt := 166) dX12_down_157 rfl ?_
                    refine j_iast (pc := 166) dX12_down_166 (a_101 hM) (by omega) (by omega) (by decide) (j_nm (fun σ75 (eσ75 : σ75 = tw_up τ 101 (h.toNat) z71) => ?_))
                    have hIσ75 : tw_I σ75 := tw_I_up hIτ eσ75 (show (-2147483648 : Int) ≤ z71 ∧ z71 ≤ 2147483647 from ⟨by omega, by omega⟩)
                    have hFσ75 : tw_F (fun c j => c = 101) σ σ75 := tw_F_up hFτ eσ75 (show 101 = 101 from rfl)
                    refine j_iinc (pc := 167) (i := 3) (n := 1) (ls' := [(0, vR 88), (1, vI d), (2, vI h), (3, vI (f + 1))]) [1, 2, 3, 0] dX12_down_167 rfl (Nat.le_of_ble_eq_true rfl) rfl rfl ?_
                    refine j_goto (pc := 170) (tgt := 43) dX12_down_170 rfl ?_
                    refine j_ls (ls' := [(0, vR 88), (1, vI d), (2, vI h), (3, vI (f + 1))]) [0, 1, 2, 3] rfl ?_
                    exact ih.2 h ⟨by omega, by omega⟩ (f + 1) ⟨by omega, by omega⟩ σ75 hIσ75 hFσ75 (show 0 ≤ d ∧ d ≤ 40 from by omega) (show (f + 1) ≤ h from by omega) (show (100 * (41 - h) + 40 - (f + 1)).toNat < N_ from by omega)
                  · refine j_iload (pc := 144) dX12_down_144 rfl ?_
                    refine j_aload_n (pc := 146) dX12_down_146 rfl rfl ?_
                    refine j_getR (pc := 147) (r := 101) fl_X12_47 dX12_down_147 (a_88 hM) rfl ?_
                    refine j_iload_n (pc := 150) dX12_down_150 rfl rfl ?_
                    refine j_iald (pc := 151) dX12_down_151 (a_101 hM) (by omega) (by omega) (by decide) ?_
                    refine j_icmpR_ge (pc := 152) (tgt := 160) ⟨by omega, by omega⟩ ⟨by omega, by omega⟩ dX12_down_152 rfl (fun h76 => ?_) (fun h76 => ?_)
                    · refine j_aload_n (pc := 160) dX12_down_160 rfl rfl ?_
                      refine j_getR (pc := 161) (r := 101) fl_X12_47 dX12_down_161 (a_88 hM) rfl ?_
                      refine j_iload_n (pc := 164) dX12_down_164 rfl rfl ?_
                      refine j_iald (pc := 165) dX12_down_165 (a_101 hM) (by omega) (by omega) (by decide) ?_
                      refine j_iast (pc := 166) dX12_down_166 (a_101 hM) (by omega) (by omega) (by decide) (j_nm (fun σ77 (eσ77 : σ77 = tw_up τ 101 (h.toNat) (τ 101 (h.toNat))) => ?_))
                      have hIσ77 : tw_I σ77 := tw_I_up hIτ eσ77 (show (-2147483648 : Int) ≤ τ 101 (h.toNat) ∧ τ 101 (h.toNat) ≤ 2147483647 from ⟨by omega, by omega⟩)
                      have hFσ77 : tw_F (fun c j => c = 101) σ σ77 := tw_F_up hFτ eσ77 (show 101 = 101 from rfl)
                      refine j_iinc (pc := 167) (i := 3) (n := 1) (ls' := [(0, vR 88), (1, vI d), (2, vI h), (3, vI (f + 1))]) [1, 2, 3, 0] dX12_down_167 rfl (Nat.le_of_ble_eq_true rfl) rfl rfl ?_
                      refine j_goto (pc := 170) (tgt := 43) dX12_down_170 rfl ?_
                      refine j_ls (ls' := [(0, vR 88), (1, vI d), (2, vI h), (3, vI (f + 1))]) [0, 1, 2, 3] rfl ?_
                      exact ih.2 h ⟨by omega, by omega⟩ (f + 1) ⟨by omega, by omega⟩ σ77 hIσ77 hFσ77 (show 0 ≤ d ∧ d ≤ 40 from by omega) (show (f + 1) ≤ h from by omega) (show (100 * (41 - h) + 40 - (f + 1)).toNat < N_ from by omega)
                    · refine j_iload (pc := 155) dX12_down_155 rfl ?_
                      refine j_goto (pc := 157) (tgt := 166) dX12_down_157 rfl ?_
                      refine j_iast (pc := 166) dX12_down_166 (a_101 hM) (by omega) (by omega) (by decide) (j_nm (fun σ78 (eσ78 : σ78 = tw_up τ 101 (h.toNat) z71) => ?_))
                      have hIσ78 : tw_I σ78 := tw_I_up hIτ eσ78 (show (-2147483648 : Int) ≤ z71 ∧ z71 ≤ 2147483647 from ⟨by omega, by omega⟩)
                      have hFσ78 : tw_F (fun c j => c = 101) σ σ78 := tw_F_up hFτ eσ78 (show 101 = 101 from rfl)
                      refine j_iinc (pc := 167) (i := 3) (n := 1) (ls' := [(0, vR 88), (1, vI d), (2, vI h), (3, vI (f + 1))]) [1, 2, 3, 0] dX12_down_167 rfl (Nat.le_of_ble_eq_true rfl) rfl rfl ?_
                      refine j_goto (pc := 170) (tgt := 43) dX12_down_170 rfl ?_
                      refine j_ls (ls' := [(0, vR 88), (1, vI d), (2, vI h), (3, vI (f + 1))]) [0, 1, 2, 3] rfl ?_
                      exact ih.2 h ⟨by omega, by omega⟩ (f + 1) ⟨by omega, by omega⟩ σ78 hIσ78 hFσ78 (show 0 ≤ d ∧ d ≤ 40 from by omega) (show (f + 1) ≤ h from by omega) (show (100 * (41 - h) + 40 - (f + 1)).toNat < N_ from by omega)
                · refine j_iconst (pc := 111) dX12_down_111 ?_
                  refine j_goto (pc := 112) (tgt := 116) dX12_down_112 rfl ?_
                  refine j_iadd (pc := 116) dX12_down_116 ?_
                  refine j_top (fun z79 ez79 hz79 => ?_)
                  refine j_goto (pc := 117) (tgt := 121) dX12_down_117 rfl ?_
                  refine j_istore (pc := 121) (i := 5) (ls' := [(0, vR 88), (1, vI d), (2, vI h), (3, vI f), (4, vI 1), (5, vI z79)]) [1, 2, 3, 4, 5, 0] dX12_down_121 (Nat.le_of_ble_eq_true rfl) rfl rfl ?_
                  refine j_aload_n (pc := 123) dX12_down_123 rfl rfl ?_
                  refine j_getR (pc := 124) (r := 101) fl_X12_47 dX12_down_124 (a_88 hM) rfl ?_
                  refine j_iload_n (pc := 127) dX12_down_127 rfl rfl ?_
                  refine j_iload (pc := 128) dX12_down_128 rfl ?_
                  refine j_ifR_eq (pc := 130) (tgt := 160) ⟨by omega, by omega⟩ dX12_down_130 rfl (fun h80 => by exfalso; omega) (fun h80 => ?_)
                  refine j_aload_n (pc := 133) dX12_down_133 rfl rfl ?_
                  refine j_getR (pc := 134) (r := 101) fl_X12_47 dX12_down_134 (a_88 hM) rfl ?_
                  refine j_iload_n (pc := 137) dX12_down_137 rfl rfl ?_
                  refine j_iald (pc := 138) dX12_down_138 (a_101 hM) (by omega) (by omega) (by decide) ?_
                  have f81 : (-2147483648 : Int) ≤ τ 101 (h.toNat) ∧ τ 101 (h.toNat) ≤ 2147483647 := hIτ 101 (h.toNat)
                  refine j_bipush (pc := 139) dX12_down_139 rfl ?_
                  refine j_icmpR_eq (pc := 141) (tgt := 155) ⟨by omega, by omega⟩ ⟨by omega, by omega⟩ dX12_down_141 rfl (fun h82 => ?_) (fun h82 => ?_)
                  · refine j_iload (pc := 155) dX12_down_155 rfl ?_
                    refine j_goto (pc := 157) (tgt := 166) dX12_down_157 rfl ?_
                    refine j_iast (pc := 166) dX12_down_166 (a_101 hM) (by omega) (by omega) (by decide) (j_nm (fun σ83 (eσ83 : σ83 = tw_up τ 101 (h.toNat) z79) => ?_))
                    have hIσ83 : tw_I σ83 := tw_I_up hIτ eσ83 (show (-2147483648 : Int) ≤ z79 ∧ z79 ≤ 2147483647 from ⟨by omega, by omega⟩)
                    have hFσ83 : tw_F (fun c j => c = 101) σ σ83 := tw_F_up hFτ eσ83 (show 101 = 101 from rfl)
                    refine j_iinc (pc := 167) (i := 3) (n := 1) (ls' := [(0, vR 88), (1, vI d), (2, vI h), (3, vI (f + 1))]) [1, 2, 3, 0] dX12_down_167 rfl (Nat.le_of_ble_eq_true rfl) rfl rfl ?_
                    refine j_goto (pc := 170) (tgt := 43) dX12_down_170 rfl ?_
                    refine j_ls (ls' := [(0, vR 88), (1, vI d), (2, vI h), (3, vI (f + 1))]) [0, 1, 2, 3] rfl ?_
                    exact ih.2 h ⟨by omega, by omega⟩ (f + 1) ⟨by omega, by omega⟩ σ83 hIσ83 hFσ83 (show 0 ≤ d ∧ d ≤ 40 from by omega) (show (f + 1) ≤ h from by omega) (show (100 * (41 - h) + 40 - (f + 1)).toNat < N_ from by omega)
                  · refine j_iload (pc := 144) dX12_down_144 rfl ?_
                    refine j_aload_n (pc := 146) dX12_down_146 rfl rfl ?_
                    refine j_getR (pc := 147) (r := 101) fl_X12_47 dX12_down_147 (a_88 hM) rfl ?_
                    refine j_iload_n (pc := 150) dX12_down_150 rfl rfl ?_
                    refine j_iald (pc := 151) dX12_down_151 (a_101 hM) (by omega) (by omega) (by decide) ?_
                    refine j_icmpR_ge (pc := 152) (tgt := 160) ⟨by omega, by omega⟩ ⟨by omega, by omega⟩ dX12_down_152 rfl (fun h84 => ?_) (fun h84 => ?_)
                    · refine j_aload_n (pc := 160) dX12_down_160 rfl rfl ?_
                      refine j_getR (pc := 161) (r := 101) fl_X12_47 dX12_down_161 (a_88 hM) rfl ?_
                      refine j_iload_n (pc := 164) dX12_down_164 rfl rfl ?_
                      refine j_iald (pc := 165) dX12_down_165 (a_101 hM) (by omega) (by omega) (by decide) ?_
                      refine j_iast (pc := 166) dX12_down_166 (a_101 hM) (by omega) (by omega) (by decide) (j_nm (fun σ85 (eσ85 : σ85 = tw_up τ 101 (h.toNat) (τ 101 (h.toNat))) => ?_))
                      have hIσ85 : tw_I σ85 := tw_I_up hIτ eσ85 (show (-2147483648 : Int) ≤ τ 101 (h.toNat) ∧ τ 101 (h.toNat) ≤ 2147483647 from ⟨by omega, by omega⟩)
                      have hFσ85 : tw_F (fun c j => c = 101) σ σ85 := tw_F_up hFτ eσ85 (show 101 = 101 from rfl)
                      refine j_iinc (pc := 167) (i := 3) (n := 1) (ls' := [(0, vR 88), (1, vI d), (2, vI h), (3, vI (f + 1))]) [1, 2, 3, 0] dX12_down_167 rfl (Nat.le_of_ble_eq_true rfl) rfl rfl ?_
                      refine j_goto (pc := 170) (tgt := 43) dX12_down_170 rfl ?_
                      refine j_ls (ls' := [(0, vR 88), (1, vI d), (2, vI h), (3, vI (f + 1))]) [0, 1, 2, 3] rfl ?_
                      exact ih.2 h ⟨by omega, by omega⟩ (f + 1) ⟨by omega, by omega⟩ σ85 hIσ85 hFσ85 (show 0 ≤ d ∧ d ≤ 40 from by omega) (show (f + 1) ≤ h from by omega) (show (100 * (41 - h) + 40 - (f + 1)).toNat < N_ from by omega)
                    · refine j_iload (pc := 155) dX12_down_155 rfl ?_
                      refine j_goto (pc := 157) (tgt := 166) dX12_down_157 rfl ?_
                      refine j_iast (pc := 166) dX12_down_166 (a_101 hM) (by omega) (by omega) (by decide) (j_nm (fun σ86 (eσ86 : σ86 = tw_up τ 101 (h.toNat) z79) => ?_))
                      have hIσ86 : tw_I σ86 := tw_I_up hIτ eσ86 (show (-2147483648 : Int) ≤ z79 ∧ z79 ≤ 2147483647 from ⟨by omega, by omega⟩)
                      have hFσ86 : tw_F (fun c j => c = 101) σ σ86 := tw_F_up hFτ eσ86 (show 101 = 101 from rfl)
                      refine j_iinc (pc := 167) (i := 3) (n := 1) (ls' := [(0, vR 88), (1, vI d), (2, vI h), (3, vI (f + 1))]) [1, 2, 3, 0] dX12_down_167 rfl (Nat.le_of_ble_eq_true rfl) rfl rfl ?_
                      refine j_goto (pc := 170) (tgt := 43) dX12_down_170 rfl ?_
                      refine j_ls (ls' := [(0, vR 88), (1, vI d), (2, vI h), (3, vI (f + 1))]) [0, 1, 2, 3] rfl ?_
                      exact ih.2 h ⟨by omega, by omega⟩ (f + 1) ⟨by omega, by omega⟩ σ86 hIσ86 hFσ86 (show 0 ≤ d ∧ d ≤ 40 from by omega) (show (f + 1) ≤ h from by omega) (show (100 * (41 - h) + 40 - (f + 1)).toNat < N_ from by omega)
set_option maxHeartbeats 4000000 in
set_option maxRecDepth 100000 in
theorem c_X12_down {G : tw_G} (hM : tw_isM G) (d : Int) (hd : -2147483648 ≤ d ∧ d ≤ 2147483647) (σ : tw_M) (hI : tw_I σ) : tw_C G yX12_down cX12_down 6 (some .int) 2 [vR 88, vI d] σ (q_X12_down d σ) := by
  refine tw_met [(0, vR 88), (1, vI d)] (by decide +kernel) rfl (Nat.le_of_ble_eq_true rfl) ?_
  refine j_iload_n (pc := 0) dX12_down_0 rfl rfl ?_
  refine j_i2l (pc := 1) dX12_down_1 ?_
  rw [w32_eq (a := d) (by omega) (by omega)]
  refine j_lconst (pc := 2) (z := 0) dX12_down_2 rfl ?_
  refine j_aload_n (pc := 3) dX12_down_3 rfl rfl ?_
  refine j_getR (pc := 4) (r := 91) fl_X12_17 dX12_down_4 (a_88 hM) rfl ?_
  refine j_iconst (pc := 7) dX12_down_7 ?_
  refine j_iald (pc := 8) dX12_down_8 (a_91 hM) (by omega) (by omega) (by decide) ?_
  refine j_topV (show σ 91 (Int.toNat 0) = σ 91 0 from rfl) ?_
  have f87 : (1 : Int) ≤ σ 91 0 ∧ σ 91 0 ≤ 40 := hI 91 0
  refine j_i2l (pc := 9) dX12_down_9 ?_
  rw [w32_eq (a := σ 91 0) (by omega) (by omega)]
  refine j_callS (pc := 10) (As := [vL d, vL 0, vL (σ 91 0)]) (st := []) (c_X12_in d ⟨by omega, by omega⟩ 0 (by (first | decide | exact ⟨by omega, by omega⟩)) (σ 91 0) ⟨by omega, by omega⟩ σ hI) ms_X12_82 rfl dX12_down_10 ⟨Nat.le_of_ble_eq_true rfl, Nat.le_of_ble_eq_true rfl⟩ ⟨Nat.le_refl _, Nat.le_refl _⟩ rfl (Nat.le_of_ble_eq_true rfl) rfl (fun z88 σ89 hz88 => ?_)
  obtain ⟨r91, rfl, hr91, rfl, q90_0⟩ := hz88
  replace q90_0 : (r91 = 1 ∧ (0 : Int) ≤ d ∧ d ≤ (σ 91 0)) ∨ (r91 = 0 ∧ ¬ ((0 : Int) ≤ d ∧ d ≤ (σ 91 0))) := q90_0
  refine j_st (st' := [vI r91]) rfl ?_
  refine j_ifR_ne (pc := 13) (tgt := 18) ⟨by omega, by omega⟩ dX12_down_13 rfl (fun h92 => ?_) (fun h92 => ?_)
  · refine j_iconst (pc := 18) dX12_down_18 ?_
    refine j_istore_n (pc := 19) (i := 2) (ls' := [(0, vR 88), (1, vI d), (2, vI 0)]) [1, 2, 0] dX12_down_19 rfl (Nat.le_of_ble_eq_true rfl) rfl rfl ?_
    refine j_ls (ls' := [(0, vR 88), (1, vI d), (2, vI 0)]) [0, 1, 2] rfl ?_
    exact (l_X12_down hM d hd σ hI (((100 * (41 - (0 : Int)) + 50).toNat) + 1)).1 0 (by (first | decide | exact ⟨by omega, by omega⟩)) σ hI (tw_F_rf) (show 0 ≤ d ∧ d ≤ 40 from by omega) (Nat.lt_succ_self _)
  · refine j_iconst (pc := 16) dX12_down_16 ?_
    exact j_iret (pc := 17) ⟨rfl, rfl⟩ dX12_down_17 rfl ⟨_, rfl, ⟨by omega, by omega⟩, hI, (tw_F_rf), trivial⟩
abbrev q_X12_triesAll  (σ : tw_M) : Option tw_V → tw_M → Prop := fun z τ => ∃ r : Int, z = some (vI r) ∧ (-2147483648 ≤ r ∧ r ≤ 2147483647) ∧ σ = τ ∧ (r = σ 89 93 + σ 89 95)
set_option maxHeartbeats 4000000 in
set_option maxRecDepth 100000 in
theorem c_X12_triesAll {G : tw_G} (hM : tw_isM G) (σ : tw_M) (hI : tw_I σ) : tw_C G yX12_triesAll cX12_triesAll 1 (some .int) 0 [vR 88] σ (q_X12_triesAll σ) := by
  refine tw_met [(0, vR 88)] (by decide +kernel) rfl (Nat.le_of_ble_eq_true rfl) ?_
  refine j_aload_n (pc := 0) dX12_triesAll_0 rfl rfl ?_
  refine j_getR (pc := 1) (r := 89) fl_X12_7 dX12_triesAll_1 (a_88 hM) rfl ?_
  refine j_bipush (pc := 4) dX12_triesAll_4 rfl ?_
  refine j_iald (pc := 6) dX12_triesAll_6 (a_89 hM) (by omega) (by omega) (by decide) ?_
  refine j_topV (show σ 89 (Int.toNat 93) = σ 89 93 from rfl) ?_
  have f1 : (0 : Int) ≤ σ 89 93 ∧ σ 89 93 ≤ 999 := hI 89 93
  refine j_aload_n (pc := 7) dX12_triesAll_7 rfl rfl ?_
  refine j_getR (pc := 8) (r := 89) fl_X12_7 dX12_triesAll_8 (a_88 hM) rfl ?_
  refine j_bipush (pc := 11) dX12_triesAll_11 rfl ?_
  refine j_iald (pc := 13) dX12_triesAll_13 (a_89 hM) (by omega) (by omega) (by decide) ?_
  refine j_topV (show σ 89 (Int.toNat 95) = σ 89 95 from rfl) ?_
  have f2 : (0 : Int) ≤ σ 89 95 ∧ σ 89 95 ≤ 999 := hI 89 95
  refine j_iadd (pc := 14) dX12_triesAll_14 ?_
  exact j_iret (pc := 15) ⟨rfl, rfl⟩ dX12_triesAll_15 rfl ⟨_, rfl, ⟨by omega, by omega⟩, rfl, by omega⟩
abbrev q_X12_tried (s : Int) (e : Int) (σ : tw_M) : Option tw_V → tw_M → Prop := fun z τ => ∃ r : Int, z = some (vI r) ∧ (-2147483648 ≤ r ∧ r ≤ 2147483647) ∧ tw_I τ ∧ tw_F (fun c j => (c = 89 ∧ 93 ≤ j ∧ j < 97)) σ τ ∧ (mI τ) ∧ ((r = -1 ∧ ¬ (s = 0 ∨ s = 1) ∧ τ 89 93 = σ 89 93 ∧ τ 89 94 = σ 89 94 ∧ τ 89 95 = σ 89 95 ∧ τ 89 96 = σ 89 96) ∨ (r = -3 ∧ (s = 0 ∨ s = 1) ∧ 999 ≤ σ 89 93 + σ 89 95 ∧ τ 89 93 = σ 89 93 ∧ τ 89 94 = σ 89 94 ∧ τ 89 95 = σ 89 95 ∧ τ 89 96 = σ 89 96) ∨ (s = 0 ∧ σ 89 93 + σ 89 95 < 999 ∧ r = σ 89 93 + 1 ∧ τ 89 93 = σ 89 93 + 1 ∧ (2147483647 ≤ σ 89 94 ∨ τ 89 94 = σ 89 94 + e) ∧ τ 89 95 = σ 89 95 ∧ τ 89 96 = σ 89 96) ∨ (s = 1 ∧ σ 89 93 + σ 89 95 < 999 ∧ r = σ 89 95 + 1 ∧ τ 89 95 = σ 89 95 + 1 ∧ (2147483647 ≤ σ 89 96 ∨ τ 89 96 = σ 89 96 + e) ∧ τ 89 93 = σ 89 93 ∧ τ 89 94 = σ 89 94))
set_option maxHeartbeats 4000000 in
set_option maxRecDepth 100000 in
theorem c_X12_tried {G : tw_G} (hM : tw_isM G) (s : Int) (hs : -2147483648 ≤ s ∧ s ≤ 2147483647) (e : Int) (he : 0 ≤ e ∧ e ≤ 1) (σ : tw_M) (hI : tw_I σ) (hq0 : mI σ) : tw_C G yX12_tried cX12_tried 3 (some .int) 1 [vR 88, vI s, vI e] σ (q_X12_tried s e σ) := by
  refine tw_met [(0, vR 88), (1, vI s), (2, vI e)] (by decide +kernel) rfl (Nat.le_of_ble_eq_true rfl) ?_
  refine j_iload_n (pc := 0) dX12_tried_0 rfl rfl ?_
  refine j_i2l (pc := 1) dX12_tried_1 ?_
  rw [w32_eq (a := s) (by omega) (by omega)]
  refine j_lconst (pc := 2) (z := 0) dX12_tried_2 rfl ?_
  refine j_lconst (pc := 3) (z := 1) dX12_tried_3 rfl ?_
  refine j_callS (pc := 4) (As := [vL s, vL 0, vL 1]) (st := []) (c_X12_in s ⟨by omega, by omega⟩ 0 (by (first | decide | exact ⟨by omega, by omega⟩)) 1 (by (first | decide | exact ⟨by omega, by omega⟩)) σ hI) ms_X12_82 rfl dX12_tried_4 ⟨Nat.le_of_ble_eq_true rfl, Nat.le_of_ble_eq_true rfl⟩ ⟨Nat.le_refl _, Nat.le_refl _⟩ rfl (Nat.le_of_ble_eq_true rfl) rfl (fun z1 σ2 hz1 => ?_)
  obtain ⟨r4, rfl, hr4, rfl, q3_0⟩ := hz1
  replace q3_0 : (r4 = 1 ∧ (0 : Int) ≤ s ∧ s ≤ (1 : Int)) ∨ (r4 = 0 ∧ ¬ ((0 : Int) ≤ s ∧ s ≤ (1 : Int))) := q3_0
  refine j_st (st' := [vI r4]) rfl ?_
  refine j_ifR_ne (pc := 7) (tgt := 12) ⟨by omega, by omega⟩ dX12_tried_7 rfl (fun h5 => ?_) (fun h5 => ?_)
  · refine j_aload_n (pc := 12) dX12_tried_12 rfl rfl ?_
    refine j_callV (pc := 13) (As := []) (st := []) (c_X12_triesAll hM σ hI) mv_X12_343 rfl rfl rfl (a_88 hM) dX12_tried_13 ⟨Nat.le_of_ble_eq_true rfl, Nat.le_of_ble_eq_true rfl⟩ ⟨Nat.le_refl _, Nat.le_refl _⟩ rfl (Nat.le_of_ble_eq_true rfl) rfl (fun z6 σ7 hz6 => ?_)
    obtain ⟨r9, rfl, hr9, rfl, q8_0⟩ := hz6
    replace q8_0 : r9 = σ 89 93 + σ 89 95 := q8_0
    refine j_st (st' := [vI r9]) rfl ?_
    refine j_sipush (pc := 16) dX12_tried_16 rfl ?_
    refine j_icmpR_ne (pc := 19) (tgt := 25) ⟨by omega, by omega⟩ ⟨by omega, by omega⟩ dX12_tried_19 rfl (fun h10 => ?_) (fun h10 => ?_)
    · have t9 := t9_s (s := s) ⟨by omega, by omega⟩ hI hq0 (by omega)
      refine j_aload_n (pc := 25) dX12_tried_25 rfl rfl ?_
      refine j_getR (pc := 26) (r := 89) fl_X12_7 dX12_tried_26 (a_88 hM) rfl ?_
      refine j_bipush (pc := 29) dX12_tried_29 rfl ?_
      refine j_iconst (pc := 31) dX12_tried_31 ?_
      refine j_iload_n (pc := 32) dX12_tried_32 rfl rfl ?_
      refine j_imul (pc := 33) dX12_tried_33 ?_
      refine j_iadd (pc := 34) dX12_tried_34 ?_
      refine j_dup2 (pc := 35) dX12_tried_35 rfl rfl ?_
      refine j_iald (pc := 36) dX12_tried_36 (a_89 hM) (by omega) (by omega) (by decide) ?_
      have f11 : (-2147483648 : Int) ≤ σ 89 ((93 + (2 * s)).toNat) ∧ σ 89 ((93 + (2 * s)).toNat) ≤ 2147483647 := st_D hI _
      have g12 : (0 : Int) ≤ σ 89 ((93 + (2 * s)).toNat) ∧ σ 89 ((93 + (2 * s)).toNat) ≤ 998 := t9
      refine j_iconst (pc := 37) dX12_tried_37 ?_
      refine j_iadd (pc := 38) dX12_tried_38 ?_
      refine j_iast (pc := 39) dX12_tried_39 (a_89 hM) (by omega) (by omega) (by decide) (j_nm (fun σ13 (eσ13 : σ13 = tw_up σ 89 ((93 + (2 * s)).toNat) ((σ 89 ((93 + (2 * s)).toNat)) + 1)) => ?_))
      have hIσ13 : tw_I σ13 := tw_I_up hI eσ13  (st_wt (by omega) (by omega))
      have hFσ13 : tw_F (fun c j => (c = 89 ∧ 93 ≤ j ∧ j < 97)) σ σ13 := tw_F_up (tw_F_rf) eσ13 (show (89 = 89 ∧ 93 ≤ (93 + (2 * s)).toNat ∧ (93 + (2 * s)).toNat < 97) from by omega)
      have y1 := tri4 (p := 93) (q := 95) (a := 94) (b := 96) (s := s) eσ13 (by omega) (by decide)
      refine j_aload_n (pc := 40) dX12_tried_40 rfl rfl ?_
      refine j_getR (pc := 41) (r := 89) fl_X12_7 dX12_tried_41 (a_88 hM) rfl ?_
      refine j_bipush (pc := 44) dX12_tried_44 rfl ?_
      refine j_iconst (pc := 46) dX12_tried_46 ?_
      refine j_iload_n (pc := 47) dX12_tried_47 rfl rfl ?_
      refine j_imul (pc := 48) dX12_tried_48 ?_
      refine j_iadd (pc := 49) dX12_tried_49 ?_
      refine j_iconst (pc := 50) dX12_tried_50 ?_
      refine j_iadd (pc := 51) dX12_tried_51 ?_
      refine j_dup2 (pc := 52) dX12_tried_52 rfl rfl ?_
      refine j_iald (pc := 53) dX12_tried_53 (a_89 hM) (by omega) (by omega) (by decide) ?_
      have f14 : (-2147483648 : Int) ≤ σ13 89 (((93 + (2 * s)) + 1).toNat) ∧ σ13 89 (((93 + (2 * s)) + 1).toNat) ≤ 2147483647 := st_D hIσ13 _
      refine j_iload_n (pc := 54) dX12_tried_54 rfl rfl ?_
      refine j_callS (pc := 55) (As := [vI e]) (st := [vI (σ13 89 (((93 + (2 * s)) + 1).toNat)), vI ((93 + (2 * s)) + 1), vR 89]) (c_X12_flag e ⟨by omega, by omega⟩ σ13 hIσ13) ms_X12_168 rfl dX12_tried_55 ⟨Nat.le_of_ble_eq_true rfl, Nat.le_of_ble_eq_true rfl⟩ ⟨Nat.le_refl _, Nat.le_refl _⟩ rfl (Nat.le_of_ble_eq_true rfl) rfl (fun z15 σ16 hz15 => ?_)
      obtain ⟨r18, rfl, hr18, rfl, q17_0⟩ := hz15
      replace q17_0 : r18 = e := q17_0
      refine j_st (st' := [vI r18, vI (σ13 89 (((93 + (2 * s)) + 1).toNat)), vI ((93 + (2 * s)) + 1), vR 89]) rfl ?_
      refine j_iadd (pc := 58) dX12_tried_58 ?_
      refine j_top (fun z19 ez19 hz19 => ?_)
      have gz19 : (σ13 89 (((93 + (2 * s)) + 1).toNat)) + r18 < -2147483648 ∨ 2147483647 < (σ13 89 (((93 + (2 * s)) + 1).toNat)) + r18 ∨ z19 = (σ13 89 (((93 + (2 * s)) + 1).toNat)) + r18 := by rw [ez19]; exact w32_or _
      refine j_iast (pc := 59) dX12_tried_59 (a_89 hM) (by omega) (by omega) (by decide) (j_nm (fun σ20 (eσ20 : σ20 = tw_up σ13 89 (((93 + (2 * s)) + 1).toNat) z19) => ?_))
      have hIσ20 : tw_I σ20 := tw_I_up hIσ13 eσ20  (st_wd (by omega) (by omega))
      have hFσ20 : tw_F (fun c j => (c = 89 ∧ 93 ≤ j ∧ j < 97)) σ σ20 := tw_F_up hFσ13 eσ20 (show (89 = 89 ∧ 93 ≤ ((93 + (2 * s)) + 1).toNat ∧ ((93 + (2 * s)) + 1).toNat < 97) from by omega)
      have y2 := tri4 (p := 94) (q := 96) (a := 93) (b := 95) (s := s) eσ20 (by omega) (by decide)
      refine j_aload_n (pc := 60) dX12_tried_60 rfl rfl ?_
      refine j_getR (pc := 61) (r := 89) fl_X12_7 dX12_tried_61 (a_88 hM) rfl ?_
      refine j_bipush (pc := 64) dX12_tried_64 rfl ?_
      refine j_iconst (pc := 66) dX12_tried_66 ?_
      refine j_iload_n (pc := 67) dX12_tried_67 rfl rfl ?_
      refine j_imul (pc := 68) dX12_tried_68 ?_
      refine j_iadd (pc := 69) dX12_tried_69 ?_
      refine j_iald (pc := 70) dX12_tried_70 (a_89 hM) (by omega) (by omega) (by decide) ?_
      have f21 : (-2147483648 : Int) ≤ σ20 89 ((93 + (2 * s)).toNat) ∧ σ20 89 ((93 + (2 * s)).toNat) ≤ 2147483647 := st_D hIσ20 _
      have y3 := tri_at (τ := σ20) (c := 89) (s := s) (p := 93) (q := 95) (j := (93 + 2 * s).toNat) (by omega)
      have n9 : σ 89 93 + σ 89 95 ≤ 999 := hq0.2.2.2.1
      have kk : (s = 0 ∧ σ 89 93 + σ 89 95 < 999 ∧ (σ20 89 ((93 + (2 * s)).toNat)) = σ 89 93 + 1 ∧ σ20 89 93 = σ 89 93 + 1 ∧ (2147483647 ≤ σ 89 94 ∨ σ20 89 94 = σ 89 94 + e) ∧ σ20 89 95 = σ 89 95 ∧ σ20 89 96 = σ 89 96) ∨ (s = 1 ∧ σ 89 93 + σ 89 95 < 999 ∧ (σ20 89 ((93 + (2 * s)).toNat)) = σ 89 95 + 1 ∧ σ20 89 95 = σ 89 95 + 1 ∧ (2147483647 ≤ σ 89 96 ∨ σ20 89 96 = σ 89 96 + e) ∧ σ20 89 93 = σ 89 93 ∧ σ20 89 94 = σ 89 94) := by
        rcases (show s = 0 ∨ s = 1 by omega) with q | q
        · exact Or.inl ⟨q, by omega, by omega, by omega, by omega, by omega, by omega⟩
        · exact Or.inr ⟨q, by omega, by omega, by omega, by omega, by omega, by omega⟩
      exact j_iret (pc := 71) ⟨rfl, rfl⟩ dX12_tried_71 rfl ⟨_, rfl, ⟨by omega, by omega⟩, hIσ20, hFσ20, (by first | exact hq0 | exact mI_tried ⟨by omega, by omega⟩ hI hq0 (by omega) rfl eσ13 eσ20), (by first | exact Or.inr (Or.inr kk) | omega)⟩
    · refine j_bipush (pc := 22) dX12_tried_22 rfl ?_
      exact j_iret (pc := 24) ⟨rfl, rfl⟩ dX12_tried_24 rfl ⟨_, rfl, ⟨by omega, by omega⟩, hI, (tw_F_rf), (by first | exact hq0 | exact mI_tried ⟨by omega, by omega⟩ hI hq0 (by omega) rfl _ _), (by first | exact Or.inr (Or.inr kk) | omega)⟩
  · refine j_iconst (pc := 10) dX12_tried_10 ?_
    exact j_iret (pc := 11) ⟨rfl, rfl⟩ dX12_tried_11 rfl ⟨_, rfl, ⟨by omega, by omega⟩, hI, (tw_F_rf), (by first | exact hq0 | exact mI_tried ⟨by omega, by omega⟩ hI hq0 (by omega) rfl _ _), (by first | exact Or.inr (Or.inr kk) | omega)⟩
abbrev q_X12_eye (s : Int) (w : Int) (σ : tw_M) : Option tw_V → tw_M → Prop := fun z τ => ∃ r : Int, z = some (vI r) ∧ (-2147483648 ≤ r ∧ r ≤ 2147483647) ∧ σ = τ ∧ ((r = -1 ∧ ¬ ((s = 0 ∨ s = 1) ∧ (w = 0 ∨ w = 1))) ∨ (r = -4 ∧ ((s = 0 ∧ σ 89 93 = 0) ∨ (s = 1 ∧ σ 89 95 = 0)) ∧ (w = 0 ∨ w = 1)) ∨ (s = 0 ∧ (w = 0 ∨ w = 1) ∧ ¬ σ 89 93 = 0 ∧ r = EYM (σ 89 94) (σ 89 93) w) ∨ (s = 1 ∧ (w = 0 ∨ w = 1) ∧ ¬ σ 89 95 = 0 ∧ r = EYM (σ 89 96) (σ 89 95) w))
set_option maxHeartbeats 4000000 in
set_option maxRecDepth 100000 in
theorem c_X12_eye {G : tw_G} (hM : tw_isM G) (s : Int) (hs : -2147483648 ≤ s ∧ s ≤ 2147483647) (w : Int) (hw : -2147483648 ≤ w ∧ w ≤ 2147483647) (σ : tw_M) (hI : tw_I σ) : tw_C G yX12_eye cX12_eye 4 (some .int) 1 [vR 88, vI s, vI w] σ (q_X12_eye s w σ) := by
  refine tw_met [(0, vR 88), (1, vI s), (2, vI w)] (by decide +kernel) rfl (Nat.le_of_ble_eq_true rfl) ?_
  refine j_iload_n (pc := 0) dX12_eye_0 rfl rfl ?_
  refine j_i2l (pc := 1) dX12_eye_1 ?_
  rw [w32_eq (a := s) (by omega) (by omega)]
  refine j_lconst (pc := 2) (z := 0) dX12_eye_2 rfl ?_
  refine j_lconst (pc := 3) (z := 1) dX12_eye_3 rfl ?_
  refine j_callS (pc := 4) (As := [vL s, vL 0, vL 1]) (st := []) (c_X12_in s ⟨by omega, by omega⟩ 0 (by (first | decide | exact ⟨by omega, by omega⟩)) 1 (by (first | decide | exact ⟨by omega, by omega⟩)) σ hI) ms_X12_82 rfl dX12_eye_4 ⟨Nat.le_of_ble_eq_true rfl, Nat.le_of_ble_eq_true rfl⟩ ⟨Nat.le_refl _, Nat.le_refl _⟩ rfl (Nat.le_of_ble_eq_true rfl) rfl (fun z1 σ2 hz1 => ?_)
  obtain ⟨r4, rfl, hr4, rfl, q3_0⟩ := hz1
  replace q3_0 : (r4 = 1 ∧ (0 : Int) ≤ s ∧ s ≤ (1 : Int)) ∨ (r4 = 0 ∧ ¬ ((0 : Int) ≤ s ∧ s ≤ (1 : Int))) := q3_0
  refine j_st (st' := [vI r4]) rfl ?_
  refine j_ifR_eq (pc := 7) (tgt := 20) ⟨by omega, by omega⟩ dX12_eye_7 rfl (fun h5 => ?_) (fun h5 => ?_)
  · refine j_iconst (pc := 20) dX12_eye_20 ?_
    exact j_iret (pc := 21) ⟨rfl, rfl⟩ dX12_eye_21 rfl ⟨_, rfl, ⟨by omega, by omega⟩, rfl, (by first | exact (k8.elim (fun z => Or.inr (Or.inr (Or.inl ⟨z.1, by omega, z.2.1, z.2.2⟩))) (fun z => Or.inr (Or.inr (Or.inr ⟨z.1, by omega, z.2.1, z.2.2⟩)))) | omega)⟩
  · refine j_iload_n (pc := 10) dX12_eye_10 rfl rfl ?_
    refine j_i2l (pc := 11) dX12_eye_11 ?_
    rw [w32_eq (a := w) (by omega) (by omega)]
    refine j_lconst (pc := 12) (z := 0) dX12_eye_12 rfl ?_
    refine j_lconst (pc := 13) (z := 1) dX12_eye_13 rfl ?_
    refine j_callS (pc := 14) (As := [vL w, vL 0, vL 1]) (st := []) (c_X12_in w ⟨by omega, by omega⟩ 0 (by (first | decide | exact ⟨by omega, by omega⟩)) 1 (by (first | decide | exact ⟨by omega, by omega⟩)) σ hI) ms_X12_82 rfl dX12_eye_14 ⟨Nat.le_of_ble_eq_true rfl, Nat.le_of_ble_eq_true rfl⟩ ⟨Nat.le_refl _, Nat.le_refl _⟩ rfl (Nat.le_of_ble_eq_true rfl) rfl (fun z6 σ7 hz6 => ?_)
    obtain ⟨r9, rfl, hr9, rfl, q8_0⟩ := hz6
    replace q8_0 : (r9 = 1 ∧ (0 : Int) ≤ w ∧ w ≤ (1 : Int)) ∨ (r9 = 0 ∧ ¬ ((0 : Int) ≤ w ∧ w ≤ (1 : Int))) := q8_0
    refine j_st (st' := [vI r9]) rfl ?_
    refine j_ifR_ne (pc := 17) (tgt := 22) ⟨by omega, by omega⟩ dX12_eye_17 rfl (fun h10 => ?_) (fun h10 => ?_)
    · have y3 := tri_at (τ := σ) (c := 89) (s := s) (p := 93) (q := 95) (j := (93 + 2 * s).toNat) (by omega)
      refine j_aload_n (pc := 22) dX12_eye_22 rfl rfl ?_
      refine j_getR (pc := 23) (r := 89) fl_X12_7 dX12_eye_23 (a_88 hM) rfl ?_
      refine j_bipush (pc := 26) dX12_eye_26 rfl ?_
      refine j_iconst (pc := 28) dX12_eye_28 ?_
      refine j_iload_n (pc := 29) dX12_eye_29 rfl rfl ?_
      refine j_imul (pc := 30) dX12_eye_30 ?_
      refine j_iadd (pc := 31) dX12_eye_31 ?_
      refine j_iald (pc := 32) dX12_eye_32 (a_89 hM) (by omega) (by omega) (by decide) ?_
      have f11 : (-2147483648 : Int) ≤ σ 89 ((93 + (2 * s)).toNat) ∧ σ 89 ((93 + (2 * s)).toNat) ≤ 2147483647 := st_D hI _
      refine j_istore_n (pc := 33) (i := 3) (ls' := [(0, vR 88), (1, vI s), (2, vI w), (3, vI (σ 89 ((93 + (2 * s)).toNat)))]) [1, 2, 3, 0] dX12_eye_33 rfl (Nat.le_of_ble_eq_true rfl) rfl rfl ?_
      refine j_iload_n (pc := 34) dX12_eye_34 rfl rfl ?_
      refine j_ifR_ne (pc := 35) (tgt := 43) ⟨by omega, by omega⟩ dX12_eye_35 rfl (fun h12 => ?_) (fun h12 => ?_)
      · refine j_aload_n (pc := 43) dX12_eye_43 rfl rfl ?_
        refine j_getR (pc := 44) (r := 89) fl_X12_7 dX12_eye_44 (a_88 hM) rfl ?_
        refine j_bipush (pc := 47) dX12_eye_47 rfl ?_
        refine j_iconst (pc := 49) dX12_eye_49 ?_
        refine j_iload_n (pc := 50) dX12_eye_50 rfl rfl ?_
        refine j_imul (pc := 51) dX12_eye_51 ?_
        refine j_iadd (pc := 52) dX12_eye_52 ?_
        refine j_iconst (pc := 53) dX12_eye_53 ?_
        refine j_iadd (pc := 54) dX12_eye_54 ?_
        refine j_iald (pc := 55) dX12_eye_55 (a_89 hM) (by omega) (by omega) (by decide) ?_
        have f13 : (-2147483648 : Int) ≤ σ 89 (((93 + (2 * s)) + 1).toNat) ∧ σ 89 (((93 + (2 * s)) + 1).toNat) ≤ 2147483647 := st_D hI _
        refine j_i2l (pc := 56) dX12_eye_56 ?_
        rw [w32_eq (a := σ 89 (((93 + (2 * s)) + 1).toNat)) (by omega) (by omega)]
        refine j_iload_n (pc := 57) dX12_eye_57 rfl rfl ?_
        refine j_i2l (pc := 58) dX12_eye_58 ?_
        rw [w32_eq (a := σ 89 ((93 + (2 * s)).toNat)) (by omega) (by omega)]
        refine j_iload_n (pc := 59) dX12_eye_59 rfl rfl ?_
        refine j_callS (pc := 60) (As := [vL (σ 89 (((93 + (2 * s)) + 1).toNat)), vL (σ 89 ((93 + (2 * s)).toNat)), vI w]) (st := []) (c_X12_told (σ 89 (((93 + (2 * s)) + 1).toNat)) ⟨by omega, by omega⟩ (σ 89 ((93 + (2 * s)).toNat)) ⟨by omega, by omega⟩ w ⟨by omega, by omega⟩ σ hI (by omega)) ms_X12_267 rfl dX12_eye_60 ⟨Nat.le_of_ble_eq_true rfl, Nat.le_of_ble_eq_true rfl⟩ ⟨Nat.le_refl _, Nat.le_refl _⟩ rfl (Nat.le_of_ble_eq_true rfl) rfl (fun z14 σ15 hz14 => ?_)
        obtain ⟨r17, rfl, hr17, rfl, q16_0⟩ := hz14
        replace q16_0 : r17 = euM (σ 89 (((93 + (2 * s)) + 1).toNat)) (σ 89 ((93 + (2 * s)).toNat)) (eu (σ 89 (((93 + (2 * s)) + 1).toNat)).natAbs (σ 89 ((93 + (2 * s)).toNat)) (σ 89 (((93 + (2 * s)) + 1).toNat))) w := q16_0
        refine j_st (st' := [vL r17]) rfl ?_
        refine j_l2i (pc := 63) dX12_eye_63 (fun z18 ez18 => ?_)
        have hz18 : (-2147483648 : Int) ≤ z18 ∧ z18 ≤ 2147483647 := by rw [ez18]; exact l2i_in _
        have k9 : z18 = EYM (σ 89 (93 + 2 * s + 1).toNat) (σ 89 (93 + 2 * s).toNat) w := by
          unfold EYM
          rw [ez18, q16_0]
        have k8 : (s = 0 ∧ ¬ σ 89 93 = 0 ∧ z18 = EYM (σ 89 94) (σ 89 93) w) ∨ (s = 1 ∧ ¬ σ 89 95 = 0 ∧ z18 = EYM (σ 89 96) (σ 89 95) w) := by
          rcases (show s = 0 ∨ s = 1 by omega) with q | q
          · exact Or.inl ⟨q, by omega, by rw [show (93 + 2 * s + 1).toNat = 94 from by omega, show (93 + 2 * s).toNat = 93 from by omega] at k9; exact k9⟩
          · exact Or.inr ⟨q, by omega, by rw [show (93 + 2 * s + 1).toNat = 96 from by omega, show (93 + 2 * s).toNat = 95 from by omega] at k9; exact k9⟩
        exact j_iret (pc := 64) ⟨rfl, rfl⟩ dX12_eye_64 rfl ⟨_, rfl, ⟨by omega, by omega⟩, rfl, (by first | exact (k8.elim (fun z => Or.inr (Or.inr (Or.inl ⟨z.1, by omega, z.2.1, z.2.2⟩))) (fun z => Or.inr (Or.inr (Or.inr ⟨z.1, by omega, z.2.1, z.2.2⟩)))) | omega)⟩
      · refine j_bipush (pc := 38) dX12_eye_38 rfl ?_
        refine j_goto (pc := 40) (tgt := 64) dX12_eye_40 rfl ?_
        exact j_iret (pc := 64) ⟨rfl, rfl⟩ dX12_eye_64 rfl ⟨_, rfl, ⟨by omega, by omega⟩, rfl, (by first | exact (k8.elim (fun z => Or.inr (Or.inr (Or.inl ⟨z.1, by omega, z.2.1, z.2.2⟩))) (fun z => Or.inr (Or.inr (Or.inr ⟨z.1, by omega, z.2.1, z.2.2⟩)))) | omega)⟩
    · refine j_iconst (pc := 20) dX12_eye_20 ?_
      exact j_iret (pc := 21) ⟨rfl, rfl⟩ dX12_eye_21 rfl ⟨_, rfl, ⟨by omega, by omega⟩, rfl, (by first | exact (k8.elim (fun z => Or.inr (Or.inr (Or.inl ⟨z.1, by omega, z.2.1, z.2.2⟩))) (fun z => Or.inr (Or.inr (Or.inr ⟨z.1, by omega, z.2.1, z.2.2⟩)))) | omega)⟩
abbrev q_X12_learn  (σ : tw_M) : Option tw_V → tw_M → Prop := fun z τ => ∃ r : Int, z = some (vI r) ∧ (-2147483648 ≤ r ∧ r ≤ 2147483647) ∧ tw_I τ ∧ tw_F (fun c j => (c = 91 ∧ (j = 5 ∨ j = 6))) σ τ ∧ (((σ 89 93 = 0 ∧ τ 91 5 = σ 91 5) ∨ (¬ σ 89 93 = 0 ∧ τ 91 5 = lrn (σ 89 94) (σ 89 93)))) ∧ (((σ 89 95 = 0 ∧ τ 91 6 = σ 91 6) ∨ (¬ σ 89 95 = 0 ∧ τ 91 6 = lrn (σ 89 96) (σ 89 95)))) ∧ (((τ 91 5 = σ 91 5 ∧ τ 91 6 = σ 91 6 ∧ r = 0) ∨ (¬ τ 91 5 = σ 91 5 ∧ τ 91 6 = σ 91 6 ∧ r = 1) ∨ (τ 91 5 = σ 91 5 ∧ ¬ τ 91 6 = σ 91 6 ∧ r = 1) ∨ (¬ τ 91 5 = σ 91 5 ∧ ¬ τ 91 6 = σ 91 6 ∧ r = 2)))
set_option maxHeartbeats 4000000 in
set_option maxRecDepth 100000 in
theorem l_X12_learn {G : tw_G} (hM : tw_isM G) (σ : tw_M) (hI : tw_I σ) : ∀ N_ : Nat, (∀ (m : Int) (hm : 0 ≤ m ∧ m ≤ 2) (k : Int) (hk : 0 ≤ k ∧ k ≤ 2) (τ : tw_M) (hIτ : tw_I τ) (hFτ : tw_F (fun c j => (c = 91 ∧ (j = 5 ∨ j = 6))) σ τ) (i0 : (k = 0 ∧ τ 91 5 = σ 91 5) ∨ (1 ≤ k ∧ ((σ 89 93 = 0 ∧ τ 91 5 = σ 91 5) ∨ (¬ σ 89 93 = 0 ∧ τ 91 5 = lrn (σ 89 94) (σ 89 93))))) (i1 : (k ≤ 1 ∧ τ 91 6 = σ 91 6) ∨ (k = 2 ∧ ((σ 89 95 = 0 ∧ τ 91 6 = σ 91 6) ∨ (¬ σ 89 95 = 0 ∧ τ 91 6 = lrn (σ 89 96) (σ 89 95))))) (i2 : ((τ 91 5 = σ 91 5 ∧ τ 91 6 = σ 91 6 ∧ m = 0) ∨ (¬ τ 91 5 = σ 91 5 ∧ τ 91 6 = σ 91 6 ∧ m = 1) ∨ (τ 91 5 = σ 91 5 ∧ ¬ τ 91 6 = σ 91 6 ∧ m = 1) ∨ (¬ τ 91 5 = σ 91 5 ∧ ¬ τ 91 6 = σ 91 6 ∧ m = 2))) (i3 : m ≤ k) (hm : (2 - k).toNat < N_), tw_J G (tw_mt RX12 cX12_learn 5 (some .int) 1) (tw_E G (q_X12_learn σ)) 4 [(0, vR 88), (1, vI m), (2, vI k)] [] τ) := by
  intro N_
  induction N_ with
  | zero => exact fun m hm k hk τ hIτ hFτ i0 i1 i2 i3 hm => absurd hm (Nat.not_lt_zero _)
  | succ N_ ih =>
    intro m hm k hk τ hIτ hFτ i0 i1 i2 i3 hm
    refine j_iload_n (pc := 4) dX12_learn_4 rfl rfl ?_
    refine j_iconst (pc := 5) dX12_learn_5 ?_
    refine j_icmpR_ge (pc := 6) (tgt := 89) ⟨by omega, by omega⟩ ⟨by omega, by omega⟩ dX12_learn_6 rfl (fun h1 => ?_) (fun h1 => ?_)
    · refine j_iload_n (pc := 89) dX12_learn_89 rfl rfl ?_
      exact j_iret (pc := 90) ⟨rfl, rfl⟩ dX12_learn_90 rfl ⟨_, rfl, ⟨by omega, by omega⟩, hIτ, hFτ, (by clear i1 i2; omega), (by clear i0 i2; omega), (by clear i0 i1; omega)⟩
    · have r5 := tri_at (τ := τ) (c := 91) (s := k) (p := 5) (q := 6) (j := (5 + k).toNat) (by omega)
      have r9 := tri_at (τ := τ) (c := 89) (s := k) (p := 93) (q := 95) (j := (93 + 2 * k).toNat) (by omega)
      have f93 : τ 89 93 = σ 89 93 := hFτ 89 93 (show ¬ ((89 = 91 ∧ (93 = 5 ∨ 93 = 6))) from by decide)
      have f94 : τ 89 94 = σ 89 94 := hFτ 89 94 (show ¬ ((89 = 91 ∧ (94 = 5 ∨ 94 = 6))) from by decide)
      have f95 : τ 89 95 = σ 89 95 := hFτ 89 95 (show ¬ ((89 = 91 ∧ (95 = 5 ∨ 95 = 6))) from by decide)
      have f96 : τ 89 96 = σ 89 96 := hFτ 89 96 (show ¬ ((89 = 91 ∧ (96 = 5 ∨ 96 = 6))) from by decide)
      have b93 : (0 : Int) ≤ σ 89 93 ∧ σ 89 93 ≤ 999 := hI 89 93
      have b95 : (0 : Int) ≤ σ 89 95 ∧ σ 89 95 ≤ 999 := hI 89 95
      refine j_aload_n (pc := 9) dX12_learn_9 rfl rfl ?_
      refine j_getR (pc := 10) (r := 89) fl_X12_7 dX12_learn_10 (a_88 hM) rfl ?_
      refine j_bipush (pc := 13) dX12_learn_13 rfl ?_
      refine j_iconst (pc := 15) dX12_learn_15 ?_
      refine j_iload_n (pc := 16) dX12_learn_16 rfl rfl ?_
      refine j_imul (pc := 17) dX12_learn_17 ?_
      refine j_iadd (pc := 18) dX12_learn_18 ?_
      refine j_iald (pc := 19) dX12_learn_19 (a_89 hM) (by omega) (by omega) (by decide) ?_
      have f2 : (-2147483648 : Int) ≤ τ 89 ((93 + (2 * k)).toNat) ∧ τ 89 ((93 + (2 * k)).toNat) ≤ 2147483647 := st_D hIτ _
      have g3 : (0 : Int) ≤ τ 89 ((93 + (2 * k)).toNat) ∧ τ 89 ((93 + (2 * k)).toNat) ≤ 999 := st_t hIτ (by omega)
      refine j_istore_n (pc := 20) (i := 3) (ls' := [(0, vR 88), (1, vI m), (2, vI k), (3, vI (τ 89 ((93 + (2 * k)).toNat)))]) [1, 2, 3, 0] dX12_learn_20 rfl (Nat.le_of_ble_eq_true rfl) rfl rfl ?_
      refine j_iload_n (pc := 21) dX12_learn_21 rfl rfl ?_
      refine j_ifR_le (pc := 22) (tgt := 83) ⟨by omega, by omega⟩ dX12_learn_22 rfl (fun h4 => ?_) (fun h4 => ?_)
      · refine j_iinc (pc := 83) (i := 2) (n := 1) (ls' := [(0, vR 88), (1, vI m), (2, vI (k + 1))]) [1, 2, 0] dX12_learn_83 rfl (Nat.le_of_ble_eq_true rfl) rfl rfl ?_
        refine j_goto (pc := 86) (tgt := 4) dX12_learn_86 rfl ?_
        refine j_ls (ls' := [(0, vR 88), (1, vI m), (2, vI (k + 1))]) [0, 1, 2] rfl ?_
        exact ih m ⟨by omega, by omega⟩ (k + 1) ⟨by omega, by omega⟩ τ hIτ hFτ (show ((k + 1) = 0 ∧ τ 91 5 = σ 91 5) ∨ (1 ≤ (k + 1) ∧ ((σ 89 93 = 0 ∧ τ 91 5 = σ 91 5) ∨ (¬ σ 89 93 = 0 ∧ τ 91 5 = lrn (σ 89 94) (σ 89 93)))) from (by clear i1 i2; omega)) (show ((k + 1) ≤ 1 ∧ τ 91 6 = σ 91 6) ∨ ((k + 1) = 2 ∧ ((σ 89 95 = 0 ∧ τ 91 6 = σ 91 6) ∨ (¬ σ 89 95 = 0 ∧ τ 91 6 = lrn (σ 89 96) (σ 89 95)))) from (by clear i0 i2; omega)) (show ((τ 91 5 = σ 91 5 ∧ τ 91 6 = σ 91 6 ∧ m = 0) ∨ (¬ τ 91 5 = σ 91 5 ∧ τ 91 6 = σ 91 6 ∧ m = 1) ∨ (τ 91 5 = σ 91 5 ∧ ¬ τ 91 6 = σ 91 6 ∧ m = 1) ∨ (¬ τ 91 5 = σ 91 5 ∧ ¬ τ 91 6 = σ 91 6 ∧ m = 2)) from (by omega)) (show m ≤ (k + 1) from by omega) (show (2 - (k + 1)).toNat < N_ from by omega)
      · refine j_bipush (pc := 25) dX12_learn_25 rfl ?_
        refine j_aload_n (pc := 27) dX12_learn_27 rfl rfl ?_
        refine j_getR (pc := 28) (r := 89) fl_X12_7 dX12_learn_28 (a_88 hM) rfl ?_
        refine j_bipush (pc := 31) dX12_learn_31 rfl ?_
        refine j_iconst (pc := 33) dX12_learn_33 ?_
        refine j_iload_n (pc := 34) dX12_learn_34 rfl rfl ?_
        refine j_imul (pc := 35) dX12_learn_35 ?_
        refine j_iadd (pc := 36) dX12_learn_36 ?_
        refine j_iconst (pc := 37) dX12_learn_37 ?_
        refine j_iadd (pc := 38) dX12_learn_38 ?_
        refine j_iald (pc := 39) dX12_learn_39 (a_89 hM) (by omega) (by omega) (by decide) ?_
        have f5 : (-2147483648 : Int) ≤ τ 89 (((93 + (2 * k)) + 1).toNat) ∧ τ 89 (((93 + (2 * k)) + 1).toNat) ≤ 2147483647 := st_D hIτ _
        refine j_imul (pc := 40) dX12_learn_40 ?_
        refine j_top (fun z6 ez6 hz6 => ?_)
        have t1 := ez6
        refine j_iload_n (pc := 41) dX12_learn_41 rfl rfl ?_
        refine j_iadd (pc := 42) dX12_learn_42 ?_
        refine j_top (fun z7 ez7 hz7 => ?_)
        have t2 := ez7
        refine j_iconst (pc := 43) dX12_learn_43 ?_
        refine j_iload_n (pc := 44) dX12_learn_44 rfl rfl ?_
        refine j_imul (pc := 45) dX12_learn_45 ?_
        refine j_idiv (pc := 46) dX12_learn_46 (tw_nz ⟨by omega, by omega⟩ (by omega)) (fun z8 ez8 => ?_)
        have hz8 : (-2147483648 : Int) ≤ z8 ∧ z8 ≤ 2147483647 := by rw [ez8]; exact div_in _ _
        have lv : (k = 0 ∧ z8 = lrn (σ 89 94) (σ 89 93)) ∨ (k = 1 ∧ z8 = lrn (σ 89 96) (σ 89 95)) := by
          have t3 := ez8
          rw [t2, t1] at t3
          rcases (show k = 0 ∨ k = 1 by omega) with q | q
          · rw [show (93 + 2 * k + 1).toNat = 94 from by omega, show (93 + 2 * k).toNat = 93 from by omega, f93, f94] at t3
            exact Or.inl ⟨q, t3⟩
          · rw [show (93 + 2 * k + 1).toNat = 96 from by omega, show (93 + 2 * k).toNat = 95 from by omega, f95, f96] at t3
            exact Or.inr ⟨q, t3⟩
        refine j_istore (pc := 47) (i := 4) (ls' := [(0, vR 88), (1, vI m), (2, vI k), (4, vI z8)]) [1, 2, 3, 0] dX12_learn_47 (Nat.le_of_ble_eq_true rfl) rfl rfl ?_
        refine j_iload_n (pc := 49) dX12_learn_49 rfl rfl ?_
        refine j_iload (pc := 50) dX12_learn_50 rfl ?_
        refine j_aload_n (pc := 52) dX12_learn_52 rfl rfl ?_
        refine j_getR (pc := 53) (r := 91) fl_X12_17 dX12_learn_53 (a_88 hM) rfl ?_
        refine j_iconst (pc := 56) dX12_learn_56 ?_
        refine j_iload_n (pc := 57) dX12_learn_57 rfl rfl ?_
        refine j_iadd (pc := 58) dX12_learn_58 ?_
        refine j_iald (pc := 59) dX12_learn_59 (a_91 hM) (by omega) (by omega) (by decide) ?_
        have f9 : (-2147483648 : Int) ≤ τ 91 ((5 + k).toNat) ∧ τ 91 ((5 + k).toNat) ≤ 2147483647 := rbm_D (hIτ 91 ((5 + k).toNat))
        refine j_icmpR_eq (pc := 60) (tgt := 67) ⟨by omega, by omega⟩ ⟨by omega, by omega⟩ dX12_learn_60 rfl (fun h10 => ?_) (fun h10 => ?_)
        · refine j_iconst (pc := 67) dX12_learn_67 ?_
          refine j_callS (pc := 68) (As := [vI 0]) (st := [vI m]) (c_X12_flag 0 (by (first | decide | exact ⟨by omega, by omega⟩)) τ hIτ) ms_X12_168 rfl dX12_learn_68 ⟨Nat.le_of_ble_eq_true rfl, Nat.le_of_ble_eq_true rfl⟩ ⟨Nat.le_refl _, Nat.le_refl _⟩ rfl (Nat.le_of_ble_eq_true rfl) rfl (fun z11 σ12 hz11 => ?_)
          obtain ⟨r14, rfl, hr14, rfl, q13_0⟩ := hz11
          replace q13_0 : r14 = (0 : Int) := q13_0
          refine j_st (st' := [vI r14, vI m]) rfl ?_
          refine j_iadd (pc := 71) dX12_learn_71 ?_
          refine j_istore_n (pc := 72) (i := 1) (ls' := [(0, vR 88), (1, vI (m + r14)), (2, vI k), (4, vI z8)]) [1, 0, 2, 3] dX12_learn_72 rfl (Nat.le_of_ble_eq_true rfl) rfl rfl ?_
          refine j_aload_n (pc := 73) dX12_learn_73 rfl rfl ?_
          refine j_getR (pc := 74) (r := 91) fl_X12_17 dX12_learn_74 (a_88 hM) rfl ?_
          refine j_iconst (pc := 77) dX12_learn_77 ?_
          refine j_iload_n (pc := 78) dX12_learn_78 rfl rfl ?_
          refine j_iadd (pc := 79) dX12_learn_79 ?_
          refine j_iload (pc := 80) dX12_learn_80 rfl ?_
          refine j_iast (pc := 82) dX12_learn_82 (a_91 hM) (by omega) (by omega) (by decide) (j_nm (fun σ15 (eσ15 : σ15 = tw_up τ 91 ((5 + k).toNat) z8) => ?_))
          have hIσ15 : tw_I σ15 := tw_I_up hIτ eσ15  (r5w (by omega) (by omega))
          have hFσ15 : tw_F (fun c j => (c = 91 ∧ (j = 5 ∨ j = 6))) σ σ15 := tw_F_up hFτ eσ15 (show (91 = 91 ∧ ((5 + k).toNat = 5 ∨ (5 + k).toNat = 6)) from by omega)
          have w5 : (k = 0 ∧ σ15 91 5 = z8 ∧ σ15 91 6 = τ 91 6) ∨ (k = 1 ∧ σ15 91 6 = z8 ∧ σ15 91 5 = τ 91 5) := by
            rcases (show k = 0 ∨ k = 1 by omega) with q | q
            · exact Or.inl ⟨q, tw_eq2 eσ15 (by omega), tw_ne1 eσ15 (by (first | decide | omega))⟩
            · exact Or.inr ⟨q, tw_eq2 eσ15 (by omega), tw_ne1 eσ15 (by (first | decide | omega))⟩
          refine j_iinc (pc := 83) (i := 2) (n := 1) (ls' := [(0, vR 88), (1, vI (m + r14)), (2, vI (k + 1))]) [1, 2, 0] dX12_learn_83 rfl (Nat.le_of_ble_eq_true rfl) rfl rfl ?_
          refine j_goto (pc := 86) (tgt := 4) dX12_learn_86 rfl ?_
          refine j_ls (ls' := [(0, vR 88), (1, vI (m + r14)), (2, vI (k + 1))]) [0, 1, 2] rfl ?_
          exact ih (m + r14) ⟨by omega, by omega⟩ (k + 1) ⟨by omega, by omega⟩ σ15 hIσ15 hFσ15 (show ((k + 1) = 0 ∧ σ15 91 5 = σ 91 5) ∨ (1 ≤ (k + 1) ∧ ((σ 89 93 = 0 ∧ σ15 91 5 = σ 91 5) ∨ (¬ σ 89 93 = 0 ∧ σ15 91 5 = lrn (σ 89 94) (σ 89 93)))) from (by clear i1 i2; omega)) (show ((k + 1) ≤ 1 ∧ σ15 91 6 = σ 91 6) ∨ ((k + 1) = 2 ∧ ((σ 89 95 = 0 ∧ σ15 91 6 = σ 91 6) ∨ (¬ σ 89 95 = 0 ∧ σ15 91 6 = lrn (σ 89 96) (σ 89 95)))) from (by clear i0 i2; omega)) (show ((σ15 91 5 = σ 91 5 ∧ σ15 91 6 = σ 91 6 ∧ (m + r14) = 0) ∨ (¬ σ15 91 5 = σ 91 5 ∧ σ15 91 6 = σ 91 6 ∧ (m + r14) = 1) ∨ (σ15 91 5 = σ 91 5 ∧ ¬ σ15 91 6 = σ 91 6 ∧ (m + r14) = 1) ∨ (¬ σ15 91 5 = σ 91 5 ∧ ¬ σ15 91 6 = σ 91 6 ∧ (m + r14) = 2)) from (by omega)) (show (m + r14) ≤ (k + 1) from by omega) (show (2 - (k + 1)).toNat < N_ from by omega)
        · refine j_iconst (pc := 63) dX12_learn_63 ?_
          refine j_goto (pc := 64) (tgt := 68) dX12_learn_64 rfl ?_
          refine j_callS (pc := 68) (As := [vI 1]) (st := [vI m]) (c_X12_flag 1 (by (first | decide | exact ⟨by omega, by omega⟩)) τ hIτ) ms_X12_168 rfl dX12_learn_68 ⟨Nat.le_of_ble_eq_true rfl, Nat.le_of_ble_eq_true rfl⟩ ⟨Nat.le_refl _, Nat.le_refl _⟩ rfl (Nat.le_of_ble_eq_true rfl) rfl (fun z16 σ17 hz16 => ?_)
          obtain ⟨r19, rfl, hr19, rfl, q18_0⟩ := hz16
          replace q18_0 : r19 = (1 : Int) := q18_0
          refine j_st (st' := [vI r19, vI m]) rfl ?_
          refine j_iadd (pc := 71) dX12_learn_71 ?_
          refine j_istore_n (pc := 72) (i := 1) (ls' := [(0, vR 88), (1, vI (m + r19)), (2, vI k), (4, vI z8)]) [1, 0, 2, 3] dX12_learn_72 rfl (Nat.le_of_ble_eq_true rfl) rfl rfl ?_
          refine j_aload_n (pc := 73) dX12_learn_73 rfl rfl ?_
          refine j_getR (pc := 74) (r := 91) fl_X12_17 dX12_learn_74 (a_88 hM) rfl ?_
          refine j_iconst (pc := 77) dX12_learn_77 ?_
          refine j_iload_n (pc := 78) dX12_learn_78 rfl rfl ?_
          refine j_iadd (pc := 79) dX12_learn_79 ?_
          refine j_iload (pc := 80) dX12_learn_80 rfl ?_
          refine j_iast (pc := 82) dX12_learn_82 (a_91 hM) (by omega) (by omega) (by decide) (j_nm (fun σ20 (eσ20 : σ20 = tw_up τ 91 ((5 + k).toNat) z8) => ?_))
          have hIσ20 : tw_I σ20 := tw_I_up hIτ eσ20  (r5w (by omega) (by omega))
          have hFσ20 : tw_F (fun c j => (c = 91 ∧ (j = 5 ∨ j = 6))) σ σ20 := tw_F_up hFτ eσ20 (show (91 = 91 ∧ ((5 + k).toNat = 5 ∨ (5 + k).toNat = 6)) from by omega)
          have w5 : (k = 0 ∧ σ20 91 5 = z8 ∧ σ20 91 6 = τ 91 6) ∨ (k = 1 ∧ σ20 91 6 = z8 ∧ σ20 91 5 = τ 91 5) := by
            rcases (show k = 0 ∨ k = 1 by omega) with q | q
            · exact Or.inl ⟨q, tw_eq2 eσ20 (by omega), tw_ne1 eσ20 (by (first | decide | omega))⟩
            · exact Or.inr ⟨q, tw_eq2 eσ20 (by omega), tw_ne1 eσ20 (by (first | decide | omega))⟩
          refine j_iinc (pc := 83) (i := 2) (n := 1) (ls' := [(0, vR 88), (1, vI (m + r19)), (2, vI (k + 1))]) [1, 2, 0] dX12_learn_83 rfl (Nat.le_of_ble_eq_true rfl) rfl rfl ?_
          refine j_goto (pc := 86) (tgt := 4) dX12_learn_86 rfl ?_
          refine j_ls (ls' := [(0, vR 88), (1, vI (m + r19)), (2, vI (k + 1))]) [0, 1, 2] rfl ?_
          exact ih (m + r19) ⟨by omega, by omega⟩ (k + 1) ⟨by omega, by omega⟩ σ20 hIσ20 hFσ20 (show ((k + 1) = 0 ∧ σ20 91 5 = σ 91 5) ∨ (1 ≤ (k + 1) ∧ ((σ 89 93 = 0 ∧ σ20 91 5 = σ 91 5) ∨ (¬ σ 89 93 = 0 ∧ σ20 91 5 = lrn (σ 89 94) (σ 89 93)))) from (by clear i1 i2; omega)) (show ((k + 1) ≤ 1 ∧ σ20 91 6 = σ 91 6) ∨ ((k + 1) = 2 ∧ ((σ 89 95 = 0 ∧ σ20 91 6 = σ 91 6) ∨ (¬ σ 89 95 = 0 ∧ σ20 91 6 = lrn (σ 89 96) (σ 89 95)))) from (by clear i0 i2; omega)) (show ((σ20 91 5 = σ 91 5 ∧ σ20 91 6 = σ 91 6 ∧ (m + r19) = 0) ∨ (¬ σ20 91 5 = σ 91 5 ∧ σ20 91 6 = σ 91 6 ∧ (m + r19) = 1) ∨ (σ20 91 5 = σ 91 5 ∧ ¬ σ20 91 6 = σ 91 6 ∧ (m + r19) = 1) ∨ (¬ σ20 91 5 = σ 91 5 ∧ ¬ σ20 91 6 = σ 91 6 ∧ (m + r19) = 2)) from (by omega)) (show (m + r19) ≤ (k + 1) from by omega) (show (2 - (k + 1)).toNat < N_ from by omega)
set_option maxHeartbeats 4000000 in
set_option maxRecDepth 100000 in
theorem c_X12_learn {G : tw_G} (hM : tw_isM G) (σ : tw_M) (hI : tw_I σ) : tw_C G yX12_learn cX12_learn 5 (some .int) 1 [vR 88] σ (q_X12_learn σ) := by
  refine tw_met [(0, vR 88)] (by decide +kernel) rfl (Nat.le_of_ble_eq_true rfl) ?_
  refine j_iconst (pc := 0) dX12_learn_0 ?_
  refine j_istore_n (pc := 1) (i := 1) (ls' := [(0, vR 88), (1, vI 0)]) [1, 0] dX12_learn_1 rfl (Nat.le_of_ble_eq_true rfl) rfl rfl ?_
  refine j_iconst (pc := 2) dX12_learn_2 ?_
  refine j_istore_n (pc := 3) (i := 2) (ls' := [(0, vR 88), (1, vI 0), (2, vI 0)]) [1, 2, 0] dX12_learn_3 rfl (Nat.le_of_ble_eq_true rfl) rfl rfl ?_
  refine j_ls (ls' := [(0, vR 88), (1, vI 0), (2, vI 0)]) [0, 1, 2] rfl ?_
  exact (l_X12_learn hM σ hI (((2 - (0 : Int)).toNat) + 1)) 0 (by (first | decide | exact ⟨by omega, by omega⟩)) 0 (by (first | decide | exact ⟨by omega, by omega⟩)) σ hI (tw_F_rf) (show ((0 : Int) = 0 ∧ σ 91 5 = σ 91 5) ∨ (1 ≤ (0 : Int) ∧ ((σ 89 93 = 0 ∧ σ 91 5 = σ 91 5) ∨ (¬ σ 89 93 = 0 ∧ σ 91 5 = lrn (σ 89 94) (σ 89 93)))) from (by omega)) (show ((0 : Int) ≤ 1 ∧ σ 91 6 = σ 91 6) ∨ ((0 : Int) = 2 ∧ ((σ 89 95 = 0 ∧ σ 91 6 = σ 91 6) ∨ (¬ σ 89 95 = 0 ∧ σ 91 6 = lrn (σ 89 96) (σ 89 95)))) from (by omega)) (show ((σ 91 5 = σ 91 5 ∧ σ 91 6 = σ 91 6 ∧ (0 : Int) = 0) ∨ (¬ σ 91 5 = σ 91 5 ∧ σ 91 6 = σ 91 6 ∧ (0 : Int) = 1) ∨ (σ 91 5 = σ 91 5 ∧ ¬ σ 91 6 = σ 91 6 ∧ (0 : Int) = 1) ∨ (¬ σ 91 5 = σ 91 5 ∧ ¬ σ 91 6 = σ 91 6 ∧ (0 : Int) = 2)) from (by omega)) (show (0 : Int) ≤ (0 : Int) from by omega) (Nat.lt_succ_self _)
abbrev q_X12_isStory (p : Int) (q : Int) (σ : tw_M) : Option tw_V → tw_M → Prop := fun z τ => ∃ r : Int, z = some (vI r) ∧ (0 ≤ r ∧ r ≤ 1) ∧ σ = τ ∧ (r = 0 ∨ (0 ≤ q ∧ q ≤ σ 91 0))
set_option maxHeartbeats 4000000 in
set_option maxRecDepth 100000 in
theorem c_X12_isStory {G : tw_G} (hM : tw_isM G) (p : Int) (hp : -2147483648 ≤ p ∧ p ≤ 2147483647) (q : Int) (hq : -2147483648 ≤ q ∧ q ≤ 2147483647) (σ : tw_M) (hI : tw_I σ) (hq0 : mc σ 0 (σ 91 0).toNat ≤ 10) : tw_C G yX12_isStory cX12_isStory 3 (some .boolean) 4 [vR 88, vI p, vI q] σ (q_X12_isStory p q σ) := by
  refine tw_met [(0, vR 88), (1, vI p), (2, vI q)] (by decide +kernel) rfl (Nat.le_of_ble_eq_true rfl) ?_
  refine j_aload_n (pc := 0) dX12_isStory_0 rfl rfl ?_
  refine j_iload_n (pc := 1) dX12_isStory_1 rfl rfl ?_
  refine j_callV (pc := 2) (As := [vI p]) (st := []) (c_X12_arePieces hM p ⟨by omega, by omega⟩ σ hI (by omega)) mv_X12_242 rfl rfl rfl (a_88 hM) dX12_isStory_2 ⟨Nat.le_of_ble_eq_true rfl, Nat.le_of_ble_eq_true rfl⟩ ⟨Nat.le_refl _, Nat.le_refl _⟩ rfl (Nat.le_of_ble_eq_true rfl) rfl (fun z1 σ2 hz1 => ?_)
  obtain ⟨r4, rfl, hr4, rfl, -⟩ := hz1
  refine j_st (st' := [vI r4]) rfl ?_
  refine j_ifR_eq (pc := 5) (tgt := 28) ⟨by omega, by omega⟩ dX12_isStory_5 rfl (fun h5 => ?_) (fun h5 => ?_)
  · refine j_iconst (pc := 28) dX12_isStory_28 ?_
    exact j_zret (pc := 29) ⟨rfl, rfl⟩ dX12_isStory_29 rfl (nar_bool (by omega) (by omega)) ⟨_, rfl, ⟨by omega, by omega⟩, rfl, by omega⟩
  · refine j_iload_n (pc := 8) dX12_isStory_8 rfl rfl ?_
    refine j_i2l (pc := 9) dX12_isStory_9 ?_
    rw [w32_eq (a := q) (by omega) (by omega)]
    refine j_lconst (pc := 10) (z := 0) dX12_isStory_10 rfl ?_
    refine j_aload_n (pc := 11) dX12_isStory_11 rfl rfl ?_
    refine j_getR (pc := 12) (r := 91) fl_X12_17 dX12_isStory_12 (a_88 hM) rfl ?_
    refine j_iconst (pc := 15) dX12_isStory_15 ?_
    refine j_iald (pc := 16) dX12_isStory_16 (a_91 hM) (by omega) (by omega) (by decide) ?_
    refine j_topV (show σ 91 (Int.toNat 0) = σ 91 0 from rfl) ?_
    have f6 : (1 : Int) ≤ σ 91 0 ∧ σ 91 0 ≤ 40 := hI 91 0
    refine j_i2l (pc := 17) dX12_isStory_17 ?_
    rw [w32_eq (a := σ 91 0) (by omega) (by omega)]
    refine j_callS (pc := 18) (As := [vL q, vL 0, vL (σ 91 0)]) (st := []) (c_X12_in q ⟨by omega, by omega⟩ 0 (by (first | decide | exact ⟨by omega, by omega⟩)) (σ 91 0) ⟨by omega, by omega⟩ σ hI) ms_X12_82 rfl dX12_isStory_18 ⟨Nat.le_of_ble_eq_true rfl, Nat.le_of_ble_eq_true rfl⟩ ⟨Nat.le_refl _, Nat.le_refl _⟩ rfl (Nat.le_of_ble_eq_true rfl) rfl (fun z7 σ8 hz7 => ?_)
    obtain ⟨r10, rfl, hr10, rfl, q9_0⟩ := hz7
    replace q9_0 : (r10 = 1 ∧ (0 : Int) ≤ q ∧ q ≤ (σ 91 0)) ∨ (r10 = 0 ∧ ¬ ((0 : Int) ≤ q ∧ q ≤ (σ 91 0))) := q9_0
    refine j_st (st' := [vI r10]) rfl ?_
    refine j_ifR_eq (pc := 21) (tgt := 28) ⟨by omega, by omega⟩ dX12_isStory_21 rfl (fun h11 => ?_) (fun h11 => ?_)
    · refine j_iconst (pc := 28) dX12_isStory_28 ?_
      exact j_zret (pc := 29) ⟨rfl, rfl⟩ dX12_isStory_29 rfl (nar_bool (by omega) (by omega)) ⟨_, rfl, ⟨by omega, by omega⟩, rfl, by omega⟩
    · refine j_iconst (pc := 24) dX12_isStory_24 ?_
      refine j_goto (pc := 25) (tgt := 29) dX12_isStory_25 rfl ?_
      exact j_zret (pc := 29) ⟨rfl, rfl⟩ dX12_isStory_29 rfl (nar_bool (by omega) (by omega)) ⟨_, rfl, ⟨by omega, by omega⟩, rfl, by omega⟩
abbrev q_X12_story (p : Int) (q : Int) (σ : tw_M) : Option tw_V → tw_M → Prop := fun z τ => ∃ r : Int, z = some (vL r) ∧ (-9223372036854775808 ≤ r ∧ r ≤ 9223372036854775807) ∧ tw_I τ ∧ tw_F (fun c j => (c = 88 ∧ (j = 19 ∨ j = 20 ∨ j = 21 ∨ j = 22 ∨ j = 23))) σ τ ∧ True
set_option maxHeartbeats 4000000 in
set_option maxRecDepth 100000 in
theorem l_X12_story {G : tw_G} (hM : tw_isM G) (p : Int) (hp : -2147483648 ≤ p ∧ p ≤ 2147483647) (q : Int) (hq : -2147483648 ≤ q ∧ q ≤ 2147483647) (σ : tw_M) (hI : tw_I σ) (hq0 : mc σ 0 (σ 91 0).toNat ≤ 10) : ∀ N_ : Nat, (∀ (s : Int) (hs : -9223372036854775808 ≤ s ∧ s ≤ 9223372036854775807) (g : Int) (hg : -2147483648 ≤ g ∧ g ≤ 2147483647) (h : Int) (hh : 1 ≤ h ∧ h ≤ 41) (τ : tw_M) (hIτ : tw_I τ) (hFτ : tw_F (fun c j => (c = 88 ∧ (j = 19 ∨ j = 20 ∨ j = 21 ∨ j = 22 ∨ j = 23))) σ τ)  (hm : (41 - h).toNat < N_), tw_J G (tw_mt RX12 cX12_story 7 (some .long) 5) (tw_E G (q_X12_story p q σ)) 33 [(0, vR 88), (1, vI p), (2, vI q), (3, vL s), (5, vI g), (6, vI h)] [] τ) := by
  intro N_
  induction N_ with
  | zero => exact fun s hs g hg h hh τ hIτ hFτ hm => absurd hm (Nat.not_lt_zero _)
  | succ N_ ih =>
    intro s hs g hg h hh τ hIτ hFτ hm
    refine j_iload (pc := 33) dX12_story_33 rfl ?_
    refine j_aload_n (pc := 35) dX12_story_35 rfl rfl ?_
    refine j_getR (pc := 36) (r := 91) fl_X12_17 dX12_story_36 (a_88 hM) rfl ?_
    refine j_iconst (pc := 39) dX12_story_39 ?_
    refine j_iald (pc := 40) dX12_story_40 (a_91 hM) (by omega) (by omega) (by decide) ?_
    refine j_topV (show τ 91 (Int.toNat 0) = τ 91 0 from rfl) ?_
    have f1 : (1 : Int) ≤ τ 91 0 ∧ τ 91 0 ≤ 40 := hIτ 91 0
    refine j_icmpR_gt (pc := 41) (tgt := 86) ⟨by omega, by omega⟩ ⟨by omega, by omega⟩ dX12_story_41 rfl (fun h2 => ?_) (fun h2 => ?_)
    · refine j_lload_n (pc := 86) dX12_story_86 rfl rfl ?_
      exact j_lret (pc := 87) ⟨rfl, rfl⟩ dX12_story_87 rfl ⟨_, rfl, ⟨by omega, by omega⟩, hIτ, hFτ, trivial⟩
    · refine j_aload_n (pc := 44) dX12_story_44 rfl rfl ?_
      refine j_iconst (pc := 45) dX12_story_45 ?_
      refine j_iload (pc := 46) dX12_story_46 rfl ?_
      refine j_iload (pc := 48) dX12_story_48 rfl ?_
      refine j_callV (pc := 50) (As := [vI 0, vI h, vI g]) (st := []) (c_X12_falls hM 0 (by (first | decide | exact ⟨by omega, by omega⟩)) h ⟨by omega, by omega⟩ g ⟨by omega, by omega⟩ τ hIτ (by omega)) mv_X12_245 rfl rfl rfl (a_88 hM) dX12_story_50 ⟨Nat.le_of_ble_eq_true rfl, Nat.le_of_ble_eq_true rfl⟩ ⟨Nat.le_refl _, Nat.le_refl _⟩ rfl (Nat.le_of_ble_eq_true rfl) rfl (fun z3 σ4 hz3 => ?_)
      obtain ⟨rfl, hIσ4, hGσ4, q5_0, q5_1⟩ := hz3
      replace q5_0 : (σ4 88 19, σ4 88 20, σ4 88 21, σ4 88 22) = fallG (wM τ) (gM (0 : Int) τ) h g h.toNat 0 := q5_0
      replace q5_1 : σ4 88 23 = strS (wM τ) h (σ4 88 19) := q5_1
      have hFσ4 : tw_F (fun c j => (c = 88 ∧ (j = 19 ∨ j = 20 ∨ j = 21 ∨ j = 22 ∨ j = 23))) σ σ4 := tw_F_tr hFτ hGσ4 (fun c j q => (show (c = 88 ∧ (j = 19 ∨ j = 20 ∨ j = 21 ∨ j = 22 ∨ j = 23)) from by replace q : (c = 88 ∧ (j = 19 ∨ j = 20 ∨ j = 21 ∨ j = 22 ∨ j = 23)) := q; exact q))
      refine j_st (st' := []) rfl ?_
      refine j_lload_n (pc := 53) dX12_story_53 rfl rfl ?_
      refine j_aload_n (pc := 54) dX12_story_54 rfl rfl ?_
      refine j_getI (pc := 55) fl_X12_232 dX12_story_55 (a_88 hM) rfl ?_
      have f7 : (-2147483648 : Int) ≤ σ4 88 22 ∧ σ4 88 22 ≤ 2147483647 := hIσ4 88 22
      refine j_iload_n (pc := 58) dX12_story_58 rfl rfl ?_
      refine j_icmpR_ne (pc := 59) (tgt := 77) ⟨by omega, by omega⟩ ⟨by omega, by omega⟩ dX12_story_59 rfl (fun h8 => ?_) (fun h8 => ?_)
      · refine j_lconst (pc := 77) (z := 0) dX12_story_77 rfl ?_
        refine j_lor (pc := 78) dX12_story_78 (fun z9 ez9 => ?_)
        have hz9 : (-9223372036854775808 : Int) ≤ z9 ∧ z9 ≤ 9223372036854775807 := by rw [ez9]; exact lorL_in _ _
        refine j_lstore_n (pc := 79) (i := 3) (ls' := [(0, vR 88), (1, vI p), (2, vI q), (3, vL z9), (5, vI g), (6, vI h)]) [1, 2, 3, 0, 4, 5] dX12_story_79 rfl (Nat.le_of_ble_eq_true rfl) rfl rfl ?_
        refine j_iinc (pc := 80) (i := 6) (n := 1) (ls' := [(0, vR 88), (1, vI p), (2, vI q), (3, vL z9), (5, vI g), (6, vI (h + 1))]) [1, 2, 3, 4, 5, 0] dX12_story_80 rfl (Nat.le_of_ble_eq_true rfl) rfl rfl ?_
        refine j_goto (pc := 83) (tgt := 33) dX12_story_83 rfl ?_
        refine j_ls (ls' := [(0, vR 88), (1, vI p), (2, vI q), (3, vL z9), (5, vI g), (6, vI (h + 1))]) [0, 1, 2, 3, 4, 5] rfl ?_
        exact ih z9 ⟨by omega, by omega⟩ g ⟨by omega, by omega⟩ (h + 1) ⟨by omega, by omega⟩ σ4 hIσ4 hFσ4 (show (41 - (h + 1)).toNat < N_ from by omega)
      · refine j_aload_n (pc := 62) dX12_story_62 rfl rfl ?_
        refine j_callV (pc := 63) (As := []) (st := [vL s]) (c_X12_hung hM σ4 hIσ4) mv_X12_249 rfl rfl rfl (a_88 hM) dX12_story_63 ⟨Nat.le_of_ble_eq_true rfl, Nat.le_of_ble_eq_true rfl⟩ ⟨Nat.le_refl _, Nat.le_refl _⟩ rfl (Nat.le_of_ble_eq_true rfl) rfl (fun z10 σ11 hz10 => ?_)
        obtain ⟨r13, rfl, hr13, rfl, -⟩ := hz10
        refine j_st (st' := [vI r13, vL s]) rfl ?_
        refine j_iload_n (pc := 66) dX12_story_66 rfl rfl ?_
        refine j_icmpR_ne (pc := 67) (tgt := 77) ⟨by omega, by omega⟩ ⟨by omega, by omega⟩ dX12_story_67 rfl (fun h14 => ?_) (fun h14 => ?_)
        · refine j_lconst (pc := 77) (z := 0) dX12_story_77 rfl ?_
          refine j_lor (pc := 78) dX12_story_78 (fun z15 ez15 => ?_)
          have hz15 : (-9223372036854775808 : Int) ≤ z15 ∧ z15 ≤ 9223372036854775807 := by rw [ez15]; exact lorL_in _ _
          refine j_lstore_n (pc := 79) (i := 3) (ls' := [(0, vR 88), (1, vI p), (2, vI q), (3, vL z15), (5, vI g), (6, vI h)]) [1, 2, 3, 0, 4, 5] dX12_story_79 rfl (Nat.le_of_ble_eq_true rfl) rfl rfl ?_
          refine j_iinc (pc := 80) (i := 6) (n := 1) (ls' := [(0, vR 88), (1, vI p), (2, vI q), (3, vL z15), (5, vI g), (6, vI (h + 1))]) [1, 2, 3, 4, 5, 0] dX12_story_80 rfl (Nat.le_of_ble_eq_true rfl) rfl rfl ?_
          refine j_goto (pc := 83) (tgt := 33) dX12_story_83 rfl ?_
          refine j_ls (ls' := [(0, vR 88), (1, vI p), (2, vI q), (3, vL z15), (5, vI g), (6, vI (h + 1))]) [0, 1, 2, 3, 4, 5] rfl ?_
          exact ih z15 ⟨by omega, by omega⟩ g ⟨by omega, by omega⟩ (h + 1) ⟨by omega, by omega⟩ σ4 hIσ4 hFσ4 (show (41 - (h + 1)).toNat < N_ from by omega)
        · refine j_lconst (pc := 70) (z := 1) dX12_story_70 rfl ?_
          refine j_iload (pc := 71) dX12_story_71 rfl ?_
          refine j_lshl (pc := 73) dX12_story_73 (fun z16 ez16 => ?_)
          have hz16 : (-9223372036854775808 : Int) ≤ z16 ∧ z16 ≤ 9223372036854775807 := by rw [ez16]; exact lshlL_in _ _
          refine j_goto (pc := 74) (tgt := 78) dX12_story_74 rfl ?_
          refine j_lor (pc := 78) dX12_story_78 (fun z17 ez17 => ?_)
          have hz17 : (-9223372036854775808 : Int) ≤ z17 ∧ z17 ≤ 9223372036854775807 := by rw [ez17]; exact lorL_in _ _
          refine j_lstore_n (pc := 79) (i := 3) (ls' := [(0, vR 88), (1, vI p), (2, vI q), (3, vL z17), (5, vI g), (6, vI h)]) [1, 2, 3, 0, 4, 5] dX12_story_79 rfl (Nat.le_of_ble_eq_true rfl) rfl rfl ?_
          refine j_iinc (pc := 80) (i := 6) (n := 1) (ls' := [(0, vR 88), (1, vI p), (2, vI q), (3, vL z17), (5, vI g), (6, vI (h + 1))]) [1, 2, 3, 4, 5, 0] dX12_story_80 rfl (Nat.le_of_ble_eq_true rfl) rfl rfl ?_
          refine j_goto (pc := 83) (tgt := 33) dX12_story_83 rfl ?_
          refine j_ls (ls' := [(0, vR 88), (1, vI p), (2, vI q), (3, vL z17), (5, vI g), (6, vI (h + 1))]) [0, 1, 2, 3, 4, 5] rfl ?_
          exact ih z17 ⟨by omega, by omega⟩ g ⟨by omega, by omega⟩ (h + 1) ⟨by omega, by omega⟩ σ4 hIσ4 hFσ4 (show (41 - (h + 1)).toNat < N_ from by omega)
set_option maxHeartbeats 4000000 in
set_option maxRecDepth 100000 in
theorem c_X12_story {G : tw_G} (hM : tw_isM G) (p : Int) (hp : -2147483648 ≤ p ∧ p ≤ 2147483647) (q : Int) (hq : -2147483648 ≤ q ∧ q ≤ 2147483647) (σ : tw_M) (hI : tw_I σ) (hq0 : mc σ 0 (σ 91 0).toNat ≤ 10) : tw_C G yX12_story cX12_story 7 (some .long) 5 [vR 88, vI p, vI q] σ (q_X12_story p q σ) := by
  refine tw_met [(0, vR 88), (1, vI p), (2, vI q)] (by decide +kernel) rfl (Nat.le_of_ble_eq_true rfl) ?_
  refine j_aload_n (pc := 0) dX12_story_0 rfl rfl ?_
  refine j_iload_n (pc := 1) dX12_story_1 rfl rfl ?_
  refine j_iload_n (pc := 2) dX12_story_2 rfl rfl ?_
  refine j_callV (pc := 3) (As := [vI p, vI q]) (st := []) (c_X12_isStory hM p ⟨by omega, by omega⟩ q ⟨by omega, by omega⟩ σ hI (by omega)) mv_X12_346 rfl rfl rfl (a_88 hM) dX12_story_3 ⟨Nat.le_of_ble_eq_true rfl, Nat.le_of_ble_eq_true rfl⟩ ⟨Nat.le_refl _, Nat.le_refl _⟩ rfl (Nat.le_of_ble_eq_true rfl) rfl (fun z18 σ19 hz18 => ?_)
  obtain ⟨r21, rfl, hr21, rfl, q20_0⟩ := hz18
  replace q20_0 : r21 = 0 ∨ (0 ≤ q ∧ q ≤ σ 91 0) := q20_0
  refine j_st (st' := [vI r21]) rfl ?_
  refine j_ifR_ne (pc := 6) (tgt := 13) ⟨by omega, by omega⟩ dX12_story_6 rfl (fun h22 => ?_) (fun h22 => ?_)
  · refine j_lconst (pc := 13) (z := 0) dX12_story_13 rfl ?_
    refine j_lstore_n (pc := 14) (i := 3) (ls' := [(0, vR 88), (1, vI p), (2, vI q), (3, vL 0)]) [1, 2, 3, 0] dX12_story_14 rfl (Nat.le_of_ble_eq_true rfl) rfl rfl ?_
    refine j_iconst (pc := 15) dX12_story_15 ?_
    refine j_aload_n (pc := 16) dX12_story_16 rfl rfl ?_
    refine j_iconst (pc := 17) dX12_story_17 ?_
    refine j_callV (pc := 18) (As := [vI 0]) (st := [vI 1]) (c_X12_all hM 0 (by (first | decide | exact ⟨by omega, by omega⟩)) σ hI) mv_X12_192 rfl rfl rfl (a_88 hM) dX12_story_18 ⟨Nat.le_of_ble_eq_true rfl, Nat.le_of_ble_eq_true rfl⟩ ⟨Nat.le_refl _, Nat.le_refl _⟩ rfl (Nat.le_of_ble_eq_true rfl) rfl (fun z23 σ24 hz23 => ?_)
    obtain ⟨r26, rfl, hr26, rfl, q25_0⟩ := hz23
    replace q25_0 : r26 = mc σ (0 : Int) (σ 91 0).toNat := q25_0
    refine j_st (st' := [vI r26, vI 1]) rfl ?_
    refine j_ishl (pc := 21) dX12_story_21 (fun z27 ez27 => ?_)
    have hz27 : (-2147483648 : Int) ≤ z27 ∧ z27 ≤ 2147483647 := by rw [ez27]; exact shl_in _ _
    refine j_iconst (pc := 22) dX12_story_22 ?_
    refine j_isub (pc := 23) dX12_story_23 ?_
    refine j_top (fun z28 ez28 hz28 => ?_)
    refine j_iload_n (pc := 24) dX12_story_24 rfl rfl ?_
    refine j_iconst (pc := 25) dX12_story_25 ?_
    refine j_ixor (pc := 26) dX12_story_26 (fun z29 ez29 => ?_)
    have hz29 : (-2147483648 : Int) ≤ z29 ∧ z29 ≤ 2147483647 := by rw [ez29]; exact xor_in _ _
    refine j_iand (pc := 27) dX12_story_27 (fun z30 ez30 => ?_)
    have hz30 : (-2147483648 : Int) ≤ z30 ∧ z30 ≤ 2147483647 := by rw [ez30]; exact and_in _ _
    refine j_istore (pc := 28) (i := 5) (ls' := [(0, vR 88), (1, vI p), (2, vI q), (3, vL 0), (5, vI z30)]) [1, 2, 3, 4, 0] dX12_story_28 (Nat.le_of_ble_eq_true rfl) rfl rfl ?_
    refine j_iconst (pc := 30) dX12_story_30 ?_
    refine j_istore (pc := 31) (i := 6) (ls' := [(0, vR 88), (1, vI p), (2, vI q), (3, vL 0), (5, vI z30), (6, vI 1)]) [1, 2, 3, 4, 5, 0] dX12_story_31 (Nat.le_of_ble_eq_true rfl) rfl rfl ?_
    refine j_ls (ls' := [(0, vR 88), (1, vI p), (2, vI q), (3, vL 0), (5, vI z30), (6, vI 1)]) [0, 1, 2, 3, 4, 5] rfl ?_
    exact (l_X12_story hM p hp q hq σ hI hq0 (((41 - (1 : Int)).toNat) + 1)) 0 (by (first | decide | exact ⟨by omega, by omega⟩)) z30 ⟨by omega, by omega⟩ 1 (by (first | decide | exact ⟨by omega, by omega⟩)) σ hI (tw_F_rf) (Nat.lt_succ_self _)
  · refine j_ldc2 (pc := 9) (z := -1) dX12_story_9 (tw_inc tm_7 (i := 81) rfl rfl) ?_
    exact j_lret (pc := 12) ⟨rfl, rfl⟩ dX12_story_12 rfl ⟨_, rfl, ⟨by omega, by omega⟩, hI, (tw_F_rf), trivial⟩
abbrev q_X12_weightOf (p : Int) (q : Int) (h : Int) (σ : tw_M) : Option tw_V → tw_M → Prop := fun z τ => ∃ r : Int, z = some (vL r) ∧ (-9223372036854775808 ≤ r ∧ r ≤ 9223372036854775807) ∧ tw_I τ ∧ tw_F (fun c j => (c = 88 ∧ (j = 19 ∨ j = 20 ∨ j = 21 ∨ j = 22 ∨ j = 23))) σ τ ∧ True
set_option maxHeartbeats 4000000 in
set_option maxRecDepth 100000 in
theorem l_X12_weightOf {G : tw_G} (hM : tw_isM G) (p : Int) (hp : -2147483648 ≤ p ∧ p ≤ 2147483647) (q : Int) (hq : -2147483648 ≤ q ∧ q ≤ 2147483647) (h : Int) (hh : 1 ≤ h ∧ h ≤ 40) (σ : tw_M) (hI : tw_I σ) : ∀ N_ : Nat, (∀ (s : Int) (hs : -9223372036854775808 ≤ s ∧ s ≤ 9223372036854775807) (g : Int) (hg : 0 ≤ g ∧ g ≤ 2147483647) (τ : tw_M) (hIτ : tw_I τ) (hFτ : tw_F (fun c j => (c = 88 ∧ (j = 19 ∨ j = 20 ∨ j = 21 ∨ j = 22 ∨ j = 23))) σ τ)  (hm : (2147483647 - g).toNat < N_), tw_J G (tw_mt RX12 cX12_weightOf 7 (some .long) 4) (tw_E G (q_X12_weightOf p q h σ)) 6 [(0, vR 88), (1, vI p), (2, vI q), (3, vI h), (4, vL s), (6, vI g)] [] τ) := by
  intro N_
  induction N_ with
  | zero => exact fun s hs g hg τ hIτ hFτ hm => absurd hm (Nat.not_lt_zero _)
  | succ N_ ih =>
    intro s hs g hg τ hIτ hFτ hm
    refine j_iload (pc := 6) dX12_weightOf_6 rfl ?_
    refine j_iconst (pc := 8) dX12_weightOf_8 ?_
    refine j_aload_n (pc := 9) dX12_weightOf_9 rfl rfl ?_
    refine j_iconst (pc := 10) dX12_weightOf_10 ?_
    refine j_callV (pc := 11) (As := [vI 0]) (st := [vI 1, vI g]) (c_X12_all hM 0 (by (first | decide | exact ⟨by omega, by omega⟩)) τ hIτ) mv_X12_192 rfl rfl rfl (a_88 hM) dX12_weightOf_11 ⟨Nat.le_of_ble_eq_true rfl, Nat.le_of_ble_eq_true rfl⟩ ⟨Nat.le_refl _, Nat.le_refl _⟩ rfl (Nat.le_of_ble_eq_true rfl) rfl (fun z1 σ2 hz1 => ?_)
    obtain ⟨r4, rfl, hr4, rfl, q3_0⟩ := hz1
    replace q3_0 : r4 = mc τ (0 : Int) (τ 91 0).toNat := q3_0
    refine j_st (st' := [vI r4, vI 1, vI g]) rfl ?_
    refine j_ishl (pc := 14) dX12_weightOf_14 (fun z5 ez5 => ?_)
    have hz5 : (-2147483648 : Int) ≤ z5 ∧ z5 ≤ 2147483647 := by rw [ez5]; exact shl_in _ _
    refine j_icmpR_ge (pc := 15) (tgt := 63) ⟨by omega, by omega⟩ ⟨by omega, by omega⟩ dX12_weightOf_15 rfl (fun h6 => ?_) (fun h6 => ?_)
    · refine j_lload (pc := 63) dX12_weightOf_63 rfl ?_
      refine j_aload_n (pc := 65) dX12_weightOf_65 rfl rfl ?_
      refine j_iload_n (pc := 66) dX12_weightOf_66 rfl rfl ?_
      refine j_iconst (pc := 67) dX12_weightOf_67 ?_
      refine j_callV (pc := 68) (As := [vI h, vI 0]) (st := [vL s]) (c_X12_of hM h ⟨by omega, by omega⟩ 0 (by (first | decide | exact ⟨by omega, by omega⟩)) τ hIτ) mv_X12_184 rfl rfl rfl (a_88 hM) dX12_weightOf_68 ⟨Nat.le_of_ble_eq_true rfl, Nat.le_of_ble_eq_true rfl⟩ ⟨Nat.le_refl _, Nat.le_refl _⟩ rfl (Nat.le_of_ble_eq_true rfl) rfl (fun z7 σ8 hz7 => ?_)
      obtain ⟨r10, rfl, hr10, rfl, q9_0⟩ := hz7
      replace q9_0 : r10 = τ 92 (5 * h + (0 : Int)).toNat := q9_0
      refine j_st (st' := [vI r10, vL s]) rfl ?_
      refine j_i2l (pc := 71) dX12_weightOf_71 ?_
      rw [w32_eq (a := r10) (by omega) (by omega)]
      refine j_lmul (pc := 72) dX12_weightOf_72 ?_
      refine j_topL (fun z11 ez11 hz11 => ?_)
      exact j_lret (pc := 73) ⟨rfl, rfl⟩ dX12_weightOf_73 rfl ⟨_, rfl, ⟨by omega, by omega⟩, hIτ, hFτ, trivial⟩
    · refine j_aload_n (pc := 18) dX12_weightOf_18 rfl rfl ?_
      refine j_iconst (pc := 19) dX12_weightOf_19 ?_
      refine j_iload_n (pc := 20) dX12_weightOf_20 rfl rfl ?_
      refine j_iload (pc := 21) dX12_weightOf_21 rfl ?_
      refine j_callV (pc := 23) (As := [vI 0, vI h, vI g]) (st := []) (c_X12_falls hM 0 (by (first | decide | exact ⟨by omega, by omega⟩)) h ⟨by omega, by omega⟩ g ⟨by omega, by omega⟩ τ hIτ (by omega)) mv_X12_245 rfl rfl rfl (a_88 hM) dX12_weightOf_23 ⟨Nat.le_of_ble_eq_true rfl, Nat.le_of_ble_eq_true rfl⟩ ⟨Nat.le_refl _, Nat.le_refl _⟩ rfl (Nat.le_of_ble_eq_true rfl) rfl (fun z12 σ13 hz12 => ?_)
      obtain ⟨rfl, hIσ13, hGσ13, q14_0, q14_1⟩ := hz12
      replace q14_0 : (σ13 88 19, σ13 88 20, σ13 88 21, σ13 88 22) = fallG (wM τ) (gM (0 : Int) τ) h g h.toNat 0 := q14_0
      replace q14_1 : σ13 88 23 = strS (wM τ) h (σ13 88 19) := q14_1
      have hFσ13 : tw_F (fun c j => (c = 88 ∧ (j = 19 ∨ j = 20 ∨ j = 21 ∨ j = 22 ∨ j = 23))) σ σ13 := tw_F_tr hFτ hGσ13 (fun c j q => (show (c = 88 ∧ (j = 19 ∨ j = 20 ∨ j = 21 ∨ j = 22 ∨ j = 23)) from by replace q : (c = 88 ∧ (j = 19 ∨ j = 20 ∨ j = 21 ∨ j = 22 ∨ j = 23)) := q; exact q))
      refine j_st (st' := []) rfl ?_
      refine j_lload (pc := 26) dX12_weightOf_26 rfl ?_
      refine j_aload_n (pc := 28) dX12_weightOf_28 rfl rfl ?_
      refine j_getI (pc := 29) fl_X12_232 dX12_weightOf_29 (a_88 hM) rfl ?_
      have f16 : (-2147483648 : Int) ≤ σ13 88 22 ∧ σ13 88 22 ≤ 2147483647 := hIσ13 88 22
      refine j_iload_n (pc := 32) dX12_weightOf_32 rfl rfl ?_
      refine j_icmpR_ne (pc := 33) (tgt := 53) ⟨by omega, by omega⟩ ⟨by omega, by omega⟩ dX12_weightOf_33 rfl (fun h17 => ?_) (fun h17 => ?_)
      · refine j_lconst (pc := 53) (z := 0) dX12_weightOf_53 rfl ?_
        refine j_ladd (pc := 54) dX12_weightOf_54 ?_
        refine j_lstore (pc := 55) (i := 4) (ls' := [(0, vR 88), (1, vI p), (2, vI q), (3, vI h), (4, vL (s + 0)), (6, vI g)]) [1, 2, 3, 4, 0, 5] dX12_weightOf_55 (Nat.le_of_ble_eq_true rfl) rfl rfl ?_
        refine j_iinc (pc := 57) (i := 6) (n := 1) (ls' := [(0, vR 88), (1, vI p), (2, vI q), (3, vI h), (4, vL (s + 0)), (6, vI (g + 1))]) [1, 2, 3, 4, 5, 0] dX12_weightOf_57 rfl (Nat.le_of_ble_eq_true rfl) rfl rfl ?_
        refine j_goto (pc := 60) (tgt := 6) dX12_weightOf_60 rfl ?_
        refine j_ls (ls' := [(0, vR 88), (1, vI p), (2, vI q), (3, vI h), (4, vL (s + 0)), (6, vI (g + 1))]) [0, 1, 2, 3, 4, 5] rfl ?_
        exact ih (s + 0) ⟨by omega, by omega⟩ (g + 1) ⟨by omega, by omega⟩ σ13 hIσ13 hFσ13 (show (2147483647 - (g + 1)).toNat < N_ from by omega)
      · refine j_aload_n (pc := 36) dX12_weightOf_36 rfl rfl ?_
        refine j_callV (pc := 37) (As := []) (st := [vL s]) (c_X12_hung hM σ13 hIσ13) mv_X12_249 rfl rfl rfl (a_88 hM) dX12_weightOf_37 ⟨Nat.le_of_ble_eq_true rfl, Nat.le_of_ble_eq_true rfl⟩ ⟨Nat.le_refl _, Nat.le_refl _⟩ rfl (Nat.le_of_ble_eq_true rfl) rfl (fun z18 σ19 hz18 => ?_)
        obtain ⟨r21, rfl, hr21, rfl, -⟩ := hz18
        refine j_st (st' := [vI r21, vL s]) rfl ?_
        refine j_iload_n (pc := 40) dX12_weightOf_40 rfl rfl ?_
        refine j_icmpR_ne (pc := 41) (tgt := 53) ⟨by omega, by omega⟩ ⟨by omega, by omega⟩ dX12_weightOf_41 rfl (fun h22 => ?_) (fun h22 => ?_)
        · refine j_lconst (pc := 53) (z := 0) dX12_weightOf_53 rfl ?_
          refine j_ladd (pc := 54) dX12_weightOf_54 ?_
          refine j_lstore (pc := 55) (i := 4) (ls' := [(0, vR 88), (1, vI p), (2, vI q), (3, vI h), (4, vL (s + 0)), (6, vI g)]) [1, 2, 3, 4, 0, 5] dX12_weightOf_55 (Nat.le_of_ble_eq_true rfl) rfl rfl ?_
          refine j_iinc (pc := 57) (i := 6) (n := 1) (ls' := [(0, vR 88), (1, vI p), (2, vI q), (3, vI h), (4, vL (s + 0)), (6, vI (g + 1))]) [1, 2, 3, 4, 5, 0] dX12_weightOf_57 rfl (Nat.le_of_ble_eq_true rfl) rfl rfl ?_
          refine j_goto (pc := 60) (tgt := 6) dX12_weightOf_60 rfl ?_
          refine j_ls (ls' := [(0, vR 88), (1, vI p), (2, vI q), (3, vI h), (4, vL (s + 0)), (6, vI (g + 1))]) [0, 1, 2, 3, 4, 5] rfl ?_
          exact ih (s + 0) ⟨by omega, by omega⟩ (g + 1) ⟨by omega, by omega⟩ σ13 hIσ13 hFσ13 (show (2147483647 - (g + 1)).toNat < N_ from by omega)
        · refine j_aload_n (pc := 44) dX12_weightOf_44 rfl rfl ?_
          refine j_iload (pc := 45) dX12_weightOf_45 rfl ?_
          refine j_callV (pc := 47) (As := [vI g]) (st := [vL s]) (c_X12_likely hM g ⟨by omega, by omega⟩ σ13 hIσ13) mv_X12_259 rfl rfl rfl (a_88 hM) dX12_weightOf_47 ⟨Nat.le_of_ble_eq_true rfl, Nat.le_of_ble_eq_true rfl⟩ ⟨Nat.le_refl _, Nat.le_refl _⟩ rfl (Nat.le_of_ble_eq_true rfl) rfl (fun z23 σ24 hz23 => ?_)
          obtain ⟨r26, rfl, hr26, rfl, -⟩ := hz23
          refine j_st (st' := [vL r26, vL s]) rfl ?_
          refine j_goto (pc := 50) (tgt := 54) dX12_weightOf_50 rfl ?_
          refine j_ladd (pc := 54) dX12_weightOf_54 ?_
          refine j_topL (fun z27 ez27 hz27 => ?_)
          refine j_lstore (pc := 55) (i := 4) (ls' := [(0, vR 88), (1, vI p), (2, vI q), (3, vI h), (4, vL z27), (6, vI g)]) [1, 2, 3, 4, 0, 5] dX12_weightOf_55 (Nat.le_of_ble_eq_true rfl) rfl rfl ?_
          refine j_iinc (pc := 57) (i := 6) (n := 1) (ls' := [(0, vR 88), (1, vI p), (2, vI q), (3, vI h), (4, vL z27), (6, vI (g + 1))]) [1, 2, 3, 4, 5, 0] dX12_weightOf_57 rfl (Nat.le_of_ble_eq_true rfl) rfl rfl ?_
          refine j_goto (pc := 60) (tgt := 6) dX12_weightOf_60 rfl ?_
          refine j_ls (ls' := [(0, vR 88), (1, vI p), (2, vI q), (3, vI h), (4, vL z27), (6, vI (g + 1))]) [0, 1, 2, 3, 4, 5] rfl ?_
          exact ih z27 ⟨by omega, by omega⟩ (g + 1) ⟨by omega, by omega⟩ σ13 hIσ13 hFσ13 (show (2147483647 - (g + 1)).toNat < N_ from by omega)
set_option maxHeartbeats 4000000 in
set_option maxRecDepth 100000 in
theorem c_X12_weightOf {G : tw_G} (hM : tw_isM G) (p : Int) (hp : -2147483648 ≤ p ∧ p ≤ 2147483647) (q : Int) (hq : -2147483648 ≤ q ∧ q ≤ 2147483647) (h : Int) (hh : 1 ≤ h ∧ h ≤ 40) (σ : tw_M) (hI : tw_I σ) : tw_C G yX12_weightOf cX12_weightOf 7 (some .long) 4 [vR 88, vI p, vI q, vI h] σ (q_X12_weightOf p q h σ) := by
  refine tw_met [(0, vR 88), (1, vI p), (2, vI q), (3, vI h)] (by decide +kernel) rfl (Nat.le_of_ble_eq_true rfl) ?_
  refine j_lconst (pc := 0) (z := 0) dX12_weightOf_0 rfl ?_
  refine j_lstore (pc := 1) (i := 4) (ls' := [(0, vR 88), (1, vI p), (2, vI q), (3, vI h), (4, vL 0)]) [1, 2, 3, 4, 0] dX12_weightOf_1 (Nat.le_of_ble_eq_true rfl) rfl rfl ?_
  refine j_iconst (pc := 3) dX12_weightOf_3 ?_
  refine j_istore (pc := 4) (i := 6) (ls' := [(0, vR 88), (1, vI p), (2, vI q), (3, vI h), (4, vL 0), (6, vI 0)]) [1, 2, 3, 4, 5, 0] dX12_weightOf_4 (Nat.le_of_ble_eq_true rfl) rfl rfl ?_
  refine j_ls (ls' := [(0, vR 88), (1, vI p), (2, vI q), (3, vI h), (4, vL 0), (6, vI 0)]) [0, 1, 2, 3, 4, 5] rfl ?_
  exact (l_X12_weightOf hM p hp q hq h hh σ hI (((2147483647 - (0 : Int)).toNat) + 1)) 0 (by (first | decide | exact ⟨by omega, by omega⟩)) 0 (by (first | decide | exact ⟨by omega, by omega⟩)) σ hI (tw_F_rf) (Nat.lt_succ_self _)
abbrev q_X12_odds (p : Int) (q : Int) (h : Int) (w : Int) (σ : tw_M) : Option tw_V → tw_M → Prop := fun z τ => ∃ r : Int, z = some (vL r) ∧ (-9223372036854775808 ≤ r ∧ r ≤ 9223372036854775807) ∧ tw_I τ ∧ tw_F (fun c j => (c = 88 ∧ (j = 19 ∨ j = 20 ∨ j = 21 ∨ j = 22 ∨ j = 23))) σ τ ∧ True
set_option maxHeartbeats 4000000 in
set_option maxRecDepth 100000 in
theorem l_X12_odds {G : tw_G} (hM : tw_isM G) (p : Int) (hp : -2147483648 ≤ p ∧ p ≤ 2147483647) (q : Int) (hq : -2147483648 ≤ q ∧ q ≤ 2147483647) (h : Int) (hh : -2147483648 ≤ h ∧ h ≤ 2147483647) (w : Int) (hw : -2147483648 ≤ w ∧ w ≤ 2147483647) (σ : tw_M) (hI : tw_I σ) (hq0 : mc σ 0 (σ 91 0).toNat ≤ 10) : ∀ N_ : Nat, (∀ (s : Int) (hs : -9223372036854775808 ≤ s ∧ s ≤ 9223372036854775807) (o : Int) (ho : -9223372036854775808 ≤ o ∧ o ≤ 9223372036854775807) (f : Int) (hf : 1 ≤ f ∧ f ≤ 41) (τ : tw_M) (hIτ : tw_I τ) (hFτ : tw_F (fun c j => (c = 88 ∧ (j = 19 ∨ j = 20 ∨ j = 21 ∨ j = 22 ∨ j = 23))) σ τ)  (hm : (41 - f).toNat < N_), tw_J G (tw_mt RX12 cX12_odds 12 (some .long) 5) (tw_E G (q_X12_odds p q h w σ)) 41 [(0, vR 88), (1, vI p), (2, vI q), (3, vI h), (4, vI w), (5, vL s), (7, vL o), (9, vI f)] [] τ) := by
  intro N_
  induction N_ with
  | zero => exact fun s hs o ho f hf τ hIτ hFτ hm => absurd hm (Nat.not_lt_zero _)
  | succ N_ ih =>
    intro s hs o ho f hf τ hIτ hFτ hm
    refine j_iload (pc := 41) dX12_odds_41 rfl ?_
    refine j_aload_n (pc := 43) dX12_odds_43 rfl rfl ?_
    refine j_getR (pc := 44) (r := 91) fl_X12_17 dX12_odds_44 (a_88 hM) rfl ?_
    refine j_iconst (pc := 47) dX12_odds_47 ?_
    refine j_iald (pc := 48) dX12_odds_48 (a_91 hM) (by omega) (by omega) (by decide) ?_
    refine j_topV (show τ 91 (Int.toNat 0) = τ 91 0 from rfl) ?_
    have f1 : (1 : Int) ≤ τ 91 0 ∧ τ 91 0 ≤ 40 := hIτ 91 0
    refine j_icmpR_gt (pc := 49) (tgt := 90) ⟨by omega, by omega⟩ ⟨by omega, by omega⟩ dX12_odds_49 rfl (fun h2 => ?_) (fun h2 => ?_)
    · refine j_lload (pc := 90) dX12_odds_90 rfl ?_
      refine j_lconst (pc := 92) (z := 0) dX12_odds_92 rfl ?_
      refine j_lcmp (pc := 93) dX12_odds_93 (fun z3 ez3 => ?_)
      have hz3 : (z3 = 1 ∧ 0 < s) ∨ (z3 = 0 ∧ s = 0) ∨ (z3 = -1 ∧ s < 0) := by rw [ez3]; exact tw_cmp_eq ⟨by omega, by omega⟩ ⟨by omega, by omega⟩
      refine j_ifR_ne (pc := 94) (tgt := 103) ⟨by omega, by omega⟩ dX12_odds_94 rfl (fun h4 => ?_) (fun h4 => ?_)
      · refine j_lload (pc := 103) dX12_odds_103 rfl ?_
        refine j_lload (pc := 105) dX12_odds_105 rfl ?_
        refine j_iload (pc := 107) dX12_odds_107 rfl ?_
        refine j_callS (pc := 109) (As := [vL o, vL s, vI w]) (st := []) (c_X12_told o ⟨by omega, by omega⟩ s ⟨by omega, by omega⟩ w ⟨by omega, by omega⟩ τ hIτ (by omega)) ms_X12_267 rfl dX12_odds_109 ⟨Nat.le_of_ble_eq_true rfl, Nat.le_of_ble_eq_true rfl⟩ ⟨Nat.le_refl _, Nat.le_refl _⟩ rfl (Nat.le_of_ble_eq_true rfl) rfl (fun z5 σ6 hz5 => ?_)
        obtain ⟨r8, rfl, hr8, rfl, q7_0⟩ := hz5
        replace q7_0 : r8 = euM o s (eu o.natAbs s o) w := q7_0
        refine j_st (st' := [vL r8]) rfl ?_
        exact j_lret (pc := 112) ⟨rfl, rfl⟩ dX12_odds_112 rfl ⟨_, rfl, ⟨by omega, by omega⟩, hIτ, hFτ, trivial⟩
      · refine j_ldc2 (pc := 97) (z := -4) dX12_odds_97 (tw_inc tm_8 (i := 0) rfl rfl) ?_
        refine j_goto (pc := 100) (tgt := 112) dX12_odds_100 rfl ?_
        exact j_lret (pc := 112) ⟨rfl, rfl⟩ dX12_odds_112 rfl ⟨_, rfl, ⟨by omega, by omega⟩, hIτ, hFτ, trivial⟩
    · refine j_aload_n (pc := 52) dX12_odds_52 rfl rfl ?_
      refine j_iload_n (pc := 53) dX12_odds_53 rfl rfl ?_
      refine j_iload_n (pc := 54) dX12_odds_54 rfl rfl ?_
      refine j_iload (pc := 55) dX12_odds_55 rfl ?_
      refine j_callV (pc := 57) (As := [vI p, vI q, vI f]) (st := []) (c_X12_weightOf hM p ⟨by omega, by omega⟩ q ⟨by omega, by omega⟩ f ⟨by omega, by omega⟩ τ hIτ) mv_X12_350 rfl rfl rfl (a_88 hM) dX12_odds_57 ⟨Nat.le_of_ble_eq_true rfl, Nat.le_of_ble_eq_true rfl⟩ ⟨Nat.le_refl _, Nat.le_refl _⟩ rfl (Nat.le_of_ble_eq_true rfl) rfl (fun z9 σ10 hz9 => ?_)
      obtain ⟨r12, rfl, hr12, hIσ10, hGσ10, -⟩ := hz9
      have hFσ10 : tw_F (fun c j => (c = 88 ∧ (j = 19 ∨ j = 20 ∨ j = 21 ∨ j = 22 ∨ j = 23))) σ σ10 := tw_F_tr hFτ hGσ10 (fun c j q => (show (c = 88 ∧ (j = 19 ∨ j = 20 ∨ j = 21 ∨ j = 22 ∨ j = 23)) from by replace q : (c = 88 ∧ (j = 19 ∨ j = 20 ∨ j = 21 ∨ j = 22 ∨ j = 23)) := q; exact q))
      refine j_st (st' := [vL r12]) rfl ?_
      refine j_lstore (pc := 60) (i := 10) (ls' := [(0, vR 88), (1, vI p), (2, vI q), (3, vI h), (4, vI w), (5, vL s), (7, vL o), (9, vI f), (10, vL r12)]) [1, 2, 3, 4, 5, 6, 7, 8, 0] dX12_odds_60 (Nat.le_of_ble_eq_true rfl) rfl rfl ?_
      refine j_lload (pc := 62) dX12_odds_62 rfl ?_
      refine j_lload (pc := 64) dX12_odds_64 rfl ?_
      refine j_ladd (pc := 66) dX12_odds_66 ?_
      refine j_topL (fun z13 ez13 hz13 => ?_)
      refine j_lstore (pc := 67) (i := 5) (ls' := [(0, vR 88), (1, vI p), (2, vI q), (3, vI h), (4, vI w), (5, vL z13), (7, vL o), (9, vI f), (10, vL r12)]) [1, 2, 3, 4, 5, 0, 6, 7, 8] dX12_odds_67 (Nat.le_of_ble_eq_true rfl) rfl rfl ?_
      refine j_iload (pc := 69) dX12_odds_69 rfl ?_
      refine j_iload_n (pc := 71) dX12_odds_71 rfl rfl ?_
      refine j_icmpR_ne (pc := 72) (tgt := 80) ⟨by omega, by omega⟩ ⟨by omega, by omega⟩ dX12_odds_72 rfl (fun h14 => ?_) (fun h14 => ?_)
      · refine j_lload (pc := 80) dX12_odds_80 rfl ?_
        refine j_lstore (pc := 82) (i := 7) (ls' := [(0, vR 88), (1, vI p), (2, vI q), (3, vI h), (4, vI w), (5, vL z13), (7, vL o), (9, vI f)]) [1, 2, 3, 4, 5, 6, 0, 7] dX12_odds_82 (Nat.le_of_ble_eq_true rfl) rfl rfl ?_
        refine j_iinc (pc := 84) (i := 9) (n := 1) (ls' := [(0, vR 88), (1, vI p), (2, vI q), (3, vI h), (4, vI w), (5, vL z13), (7, vL o), (9, vI (f + 1))]) [1, 2, 3, 4, 5, 6, 7, 0] dX12_odds_84 rfl (Nat.le_of_ble_eq_true rfl) rfl rfl ?_
        refine j_goto (pc := 87) (tgt := 41) dX12_odds_87 rfl ?_
        refine j_ls (ls' := [(0, vR 88), (1, vI p), (2, vI q), (3, vI h), (4, vI w), (5, vL z13), (7, vL o), (9, vI (f + 1))]) [0, 1, 2, 3, 4, 5, 6, 7] rfl ?_
        exact ih z13 ⟨by omega, by omega⟩ o ⟨by omega, by omega⟩ (f + 1) ⟨by omega, by omega⟩ σ10 hIσ10 hFσ10 (show (41 - (f + 1)).toNat < N_ from by omega)
      · refine j_lload (pc := 75) dX12_odds_75 rfl ?_
        refine j_goto (pc := 77) (tgt := 82) dX12_odds_77 rfl ?_
        refine j_lstore (pc := 82) (i := 7) (ls' := [(0, vR 88), (1, vI p), (2, vI q), (3, vI h), (4, vI w), (5, vL z13), (7, vL r12), (9, vI f)]) [1, 2, 3, 4, 5, 6, 0, 7] dX12_odds_82 (Nat.le_of_ble_eq_true rfl) rfl rfl ?_
        refine j_iinc (pc := 84) (i := 9) (n := 1) (ls' := [(0, vR 88), (1, vI p), (2, vI q), (3, vI h), (4, vI w), (5, vL z13), (7, vL r12), (9, vI (f + 1))]) [1, 2, 3, 4, 5, 6, 7, 0] dX12_odds_84 rfl (Nat.le_of_ble_eq_true rfl) rfl rfl ?_
        refine j_goto (pc := 87) (tgt := 41) dX12_odds_87 rfl ?_
        refine j_ls (ls' := [(0, vR 88), (1, vI p), (2, vI q), (3, vI h), (4, vI w), (5, vL z13), (7, vL r12), (9, vI (f + 1))]) [0, 1, 2, 3, 4, 5, 6, 7] rfl ?_
        exact ih z13 ⟨by omega, by omega⟩ r12 ⟨by omega, by omega⟩ (f + 1) ⟨by omega, by omega⟩ σ10 hIσ10 hFσ10 (show (41 - (f + 1)).toNat < N_ from by omega)
set_option maxHeartbeats 4000000 in
set_option maxRecDepth 100000 in
theorem c_X12_odds {G : tw_G} (hM : tw_isM G) (p : Int) (hp : -2147483648 ≤ p ∧ p ≤ 2147483647) (q : Int) (hq : -2147483648 ≤ q ∧ q ≤ 2147483647) (h : Int) (hh : -2147483648 ≤ h ∧ h ≤ 2147483647) (w : Int) (hw : -2147483648 ≤ w ∧ w ≤ 2147483647) (σ : tw_M) (hI : tw_I σ) (hq0 : mc σ 0 (σ 91 0).toNat ≤ 10) : tw_C G yX12_odds cX12_odds 12 (some .long) 5 [vR 88, vI p, vI q, vI h, vI w] σ (q_X12_odds p q h w σ) := by
  refine tw_met [(0, vR 88), (1, vI p), (2, vI q), (3, vI h), (4, vI w)] (by decide +kernel) rfl (Nat.le_of_ble_eq_true rfl) ?_
  refine j_aload_n (pc := 0) dX12_odds_0 rfl rfl ?_
  refine j_iload_n (pc := 1) dX12_odds_1 rfl rfl ?_
  refine j_iload_n (pc := 2) dX12_odds_2 rfl rfl ?_
  refine j_callV (pc := 3) (As := [vI p, vI q]) (st := []) (c_X12_isStory hM p ⟨by omega, by omega⟩ q ⟨by omega, by omega⟩ σ hI (by omega)) mv_X12_346 rfl rfl rfl (a_88 hM) dX12_odds_3 ⟨Nat.le_of_ble_eq_true rfl, Nat.le_of_ble_eq_true rfl⟩ ⟨Nat.le_refl _, Nat.le_refl _⟩ rfl (Nat.le_of_ble_eq_true rfl) rfl (fun z15 σ16 hz15 => ?_)
  obtain ⟨r18, rfl, hr18, rfl, q17_0⟩ := hz15
  replace q17_0 : r18 = 0 ∨ (0 ≤ q ∧ q ≤ σ 91 0) := q17_0
  refine j_st (st' := [vI r18]) rfl ?_
  refine j_ifR_eq (pc := 6) (tgt := 28) ⟨by omega, by omega⟩ dX12_odds_6 rfl (fun h19 => ?_) (fun h19 => ?_)
  · refine j_ldc2 (pc := 28) (z := -1) dX12_odds_28 (tw_inc tm_7 (i := 81) rfl rfl) ?_
    exact j_lret (pc := 31) ⟨rfl, rfl⟩ dX12_odds_31 rfl ⟨_, rfl, ⟨by omega, by omega⟩, hI, (tw_F_rf), trivial⟩
  · refine j_aload_n (pc := 9) dX12_odds_9 rfl rfl ?_
    refine j_iload_n (pc := 10) dX12_odds_10 rfl rfl ?_
    refine j_callV (pc := 11) (As := [vI h]) (st := []) (c_X12_isAt hM h ⟨by omega, by omega⟩ σ hI) mv_X12_175 rfl rfl rfl (a_88 hM) dX12_odds_11 ⟨Nat.le_of_ble_eq_true rfl, Nat.le_of_ble_eq_true rfl⟩ ⟨Nat.le_refl _, Nat.le_refl _⟩ rfl (Nat.le_of_ble_eq_true rfl) rfl (fun z20 σ21 hz20 => ?_)
    obtain ⟨r23, rfl, hr23, rfl, q22_0⟩ := hz20
    replace q22_0 : (r23 = 1 ∧ 1 ≤ h ∧ h ≤ σ 91 0 ∧ h ≤ 40) ∨ (r23 = 0 ∧ ¬ (1 ≤ h ∧ h ≤ σ 91 0)) := q22_0
    refine j_st (st' := [vI r23]) rfl ?_
    refine j_ifR_eq (pc := 14) (tgt := 28) ⟨by omega, by omega⟩ dX12_odds_14 rfl (fun h24 => ?_) (fun h24 => ?_)
    · refine j_ldc2 (pc := 28) (z := -1) dX12_odds_28 (tw_inc tm_7 (i := 81) rfl rfl) ?_
      exact j_lret (pc := 31) ⟨rfl, rfl⟩ dX12_odds_31 rfl ⟨_, rfl, ⟨by omega, by omega⟩, hI, (tw_F_rf), trivial⟩
    · refine j_iload (pc := 17) dX12_odds_17 rfl ?_
      refine j_i2l (pc := 19) dX12_odds_19 ?_
      rw [w32_eq (a := w) (by omega) (by omega)]
      refine j_lconst (pc := 20) (z := 0) dX12_odds_20 rfl ?_
      refine j_lconst (pc := 21) (z := 1) dX12_odds_21 rfl ?_
      refine j_callS (pc := 22) (As := [vL w, vL 0, vL 1]) (st := []) (c_X12_in w ⟨by omega, by omega⟩ 0 (by (first | decide | exact ⟨by omega, by omega⟩)) 1 (by (first | decide | exact ⟨by omega, by omega⟩)) σ hI) ms_X12_82 rfl dX12_odds_22 ⟨Nat.le_of_ble_eq_true rfl, Nat.le_of_ble_eq_true rfl⟩ ⟨Nat.le_refl _, Nat.le_refl _⟩ rfl (Nat.le_of_ble_eq_true rfl) rfl (fun z25 σ26 hz25 => ?_)
      obtain ⟨r28, rfl, hr28, rfl, q27_0⟩ := hz25
      replace q27_0 : (r28 = 1 ∧ (0 : Int) ≤ w ∧ w ≤ (1 : Int)) ∨ (r28 = 0 ∧ ¬ ((0 : Int) ≤ w ∧ w ≤ (1 : Int))) := q27_0
      refine j_st (st' := [vI r28]) rfl ?_
      refine j_ifR_ne (pc := 25) (tgt := 32) ⟨by omega, by omega⟩ dX12_odds_25 rfl (fun h29 => ?_) (fun h29 => ?_)
      · refine j_lconst (pc := 32) (z := 0) dX12_odds_32 rfl ?_
        refine j_lstore (pc := 33) (i := 5) (ls' := [(0, vR 88), (1, vI p), (2, vI q), (3, vI h), (4, vI w), (5, vL 0)]) [1, 2, 3, 4, 5, 0] dX12_odds_33 (Nat.le_of_ble_eq_true rfl) rfl rfl ?_
        refine j_lconst (pc := 35) (z := 0) dX12_odds_35 rfl ?_
        refine j_lstore (pc := 36) (i := 7) (ls' := [(0, vR 88), (1, vI p), (2, vI q), (3, vI h), (4, vI w), (5, vL 0), (7, vL 0)]) [1, 2, 3, 4, 5, 6, 0] dX12_odds_36 (Nat.le_of_ble_eq_true rfl) rfl rfl ?_
        refine j_iconst (pc := 38) dX12_odds_38 ?_
        refine j_istore (pc := 39) (i := 9) (ls' := [(0, vR 88), (1, vI p), (2, vI q), (3, vI h), (4, vI w), (5, vL 0), (7, vL 0), (9, vI 1)]) [1, 2, 3, 4, 5, 6, 7, 0] dX12_odds_39 (Nat.le_of_ble_eq_true rfl) rfl rfl ?_
        refine j_ls (ls' := [(0, vR 88), (1, vI p), (2, vI q), (3, vI h), (4, vI w), (5, vL 0), (7, vL 0), (9, vI 1)]) [0, 1, 2, 3, 4, 5, 6, 7] rfl ?_
        exact (l_X12_odds hM p hp q hq h hh w hw σ hI hq0 (((41 - (1 : Int)).toNat) + 1)) 0 (by (first | decide | exact ⟨by omega, by omega⟩)) 0 (by (first | decide | exact ⟨by omega, by omega⟩)) 1 (by (first | decide | exact ⟨by omega, by omega⟩)) σ hI (tw_F_rf) (Nat.lt_succ_self _)
      · refine j_ldc2 (pc := 28) (z := -1) dX12_odds_28 (tw_inc tm_7 (i := 81) rfl rfl) ?_
        exact j_lret (pc := 31) ⟨rfl, rfl⟩ dX12_odds_31 rfl ⟨_, rfl, ⟨by omega, by omega⟩, hI, (tw_F_rf), trivial⟩
abbrev q_X12_isClear (h : Int) (b : Int) (σ : tw_M) : Option tw_V → tw_M → Prop := fun z τ => ∃ r : Int, z = some (vI r) ∧ (0 ≤ r ∧ r ≤ 1) ∧ tw_I τ ∧ tw_F (fun c j => (c = 88 ∧ (j = 19 ∨ j = 23))) σ τ ∧ ((r = 1 ∧ mIC σ h b) ∨ (r = 0 ∧ ¬ mIC σ h b))
set_option maxHeartbeats 4000000 in
set_option maxRecDepth 100000 in
theorem c_X12_isClear {G : tw_G} (hM : tw_isM G) (h : Int) (hh : 1 ≤ h ∧ h ≤ 40) (b : Int) (hb : 1 ≤ b ∧ b ≤ 40) (σ : tw_M) (hI : tw_I σ) : tw_C G yX12_isClear cX12_isClear 3 (some .boolean) 2 [vR 88, vI h, vI b] σ (q_X12_isClear h b σ) := by
  refine tw_met [(0, vR 88), (1, vI h), (2, vI b)] (by decide +kernel) rfl (Nat.le_of_ble_eq_true rfl) ?_
  refine j_aload_n (pc := 0) dX12_isClear_0 rfl rfl ?_
  refine j_iload_n (pc := 1) dX12_isClear_1 rfl rfl ?_
  refine j_aload_n (pc := 2) dX12_isClear_2 rfl rfl ?_
  refine j_iload_n (pc := 3) dX12_isClear_3 rfl rfl ?_
  refine j_iload_n (pc := 4) dX12_isClear_4 rfl rfl ?_
  refine j_callV (pc := 5) (As := [vI h, vI b]) (st := [vI h, vR 88]) (c_X12_dropOf hM h ⟨by omega, by omega⟩ b ⟨by omega, by omega⟩ σ hI) mv_X12_235 rfl rfl rfl (a_88 hM) dX12_isClear_5 ⟨Nat.le_of_ble_eq_true rfl, Nat.le_of_ble_eq_true rfl⟩ ⟨Nat.le_refl _, Nat.le_refl _⟩ rfl (Nat.le_of_ble_eq_true rfl) rfl (fun z1 σ2 hz1 => ?_)
  obtain ⟨r4, rfl, hr4, rfl, q3_0⟩ := hz1
  replace q3_0 : r4 = mD σ h b := q3_0
  refine j_st (st' := [vI r4, vI h, vR 88]) rfl ?_
  refine j_isub (pc := 8) dX12_isClear_8 ?_
  refine j_top (fun z5 ez5 hz5 => ?_)
  refine j_putI (pc := 9) fl_X12_220 fp_X12_19 dX12_isClear_9 (a_88 hM) rfl (j_nm (fun σ6 (eσ6 : σ6 = tw_up σ 88 19 z5) => ?_))
  have hIσ6 : tw_I σ6 := tw_I_up hI eσ6 (show (-2147483648 : Int) ≤ z5 ∧ z5 ≤ 2147483647 from ⟨by omega, by omega⟩)
  have hFσ6 : tw_F (fun c j => (c = 88 ∧ (j = 19 ∨ j = 23))) σ σ6 := tw_F_up (tw_F_rf) eσ6 (show (88 = 88 ∧ (19 = 19 ∨ 19 = 23)) from ⟨rfl, (Or.inl rfl)⟩)
  refine j_aload_n (pc := 12) dX12_isClear_12 rfl rfl ?_
  refine j_iload_n (pc := 13) dX12_isClear_13 rfl rfl ?_
  refine j_callV (pc := 14) (As := [vI h]) (st := []) (c_X12_findStruck hM h ⟨by omega, by omega⟩ σ6 hIσ6) mv_X12_238 rfl rfl rfl (a_88 hM) dX12_isClear_14 ⟨Nat.le_of_ble_eq_true rfl, Nat.le_of_ble_eq_true rfl⟩ ⟨Nat.le_refl _, Nat.le_refl _⟩ rfl (Nat.le_of_ble_eq_true rfl) rfl (fun z7 σ8 hz7 => ?_)
  obtain ⟨rfl, hIσ8, hGσ8, q9_0, q9_1⟩ := hz7
  replace q9_0 : SI σ6 (σ6 88 19) (σ8 88 23) h := q9_0
  replace q9_1 : σ8 88 23 = strS (wM σ6) h (σ6 88 19) := q9_1
  have y11 : σ6 88 19 = z5 := (tw_eq1 eσ6)
  have hFσ8 : tw_F (fun c j => (c = 88 ∧ (j = 19 ∨ j = 23))) σ σ8 := tw_F_tr hFσ6 hGσ8 (fun c j q => (show (c = 88 ∧ (j = 19 ∨ j = 23)) from by replace q : (c = 88 ∧ (j = 23)) := q; exact ⟨q.1, (Or.inr q.2)⟩))
  refine j_st (st' := []) rfl ?_
  have ic8 := q9_0
  rw [tw_eq1 eσ6] at ic8
  refine j_aload_n (pc := 17) dX12_isClear_17 rfl rfl ?_
  refine j_getI (pc := 18) fl_X12_223 dX12_isClear_18 (a_88 hM) rfl ?_
  have f12 : (-2147483648 : Int) ≤ σ8 88 23 ∧ σ8 88 23 ≤ 2147483647 := hIσ8 88 23
  refine j_bipush (pc := 21) dX12_isClear_21 rfl ?_
  refine j_icmpR_ne (pc := 23) (tgt := 30) ⟨by omega, by omega⟩ ⟨by omega, by omega⟩ dX12_isClear_23 rfl (fun h13 => ?_) (fun h13 => ?_)
  · have ic9 : ((0 : Int) = 1 ∧ mIC σ h b) ∨ ((0 : Int) = 0 ∧ ¬ mIC σ h b) := IC_0 (fun j => tw_ne1 eσ6 (by (first | decide | omega))) ic8 (by rw [ez5, q3_0]) (by omega)
    refine j_iconst (pc := 30) dX12_isClear_30 ?_
    exact j_zret (pc := 31) ⟨rfl, rfl⟩ dX12_isClear_31 rfl (nar_bool (by omega) (by omega)) ⟨_, rfl, ⟨by omega, by omega⟩, hIσ8, hFσ8, ic9⟩
  · have ic9 : ((1 : Int) = 1 ∧ mIC σ h b) ∨ ((1 : Int) = 0 ∧ ¬ mIC σ h b) := IC_1 (fun j => tw_ne1 eσ6 (by (first | decide | omega))) ic8 (by rw [ez5, q3_0]) (by omega)
    refine j_iconst (pc := 26) dX12_isClear_26 ?_
    refine j_goto (pc := 27) (tgt := 31) dX12_isClear_27 rfl ?_
    exact j_zret (pc := 31) ⟨rfl, rfl⟩ dX12_isClear_31 rfl (nar_bool (by omega) (by omega)) ⟨_, rfl, ⟨by omega, by omega⟩, hIσ8, hFσ8, ic9⟩
abbrev q_X12_areClear (l : Int) (g : Int) (b : Int) (σ : tw_M) : Option tw_V → tw_M → Prop := fun z τ => ∃ r : Int, z = some (vI r) ∧ (0 ≤ r ∧ r ≤ 1) ∧ tw_I τ ∧ tw_F (fun c j => (c = 88 ∧ (j = 19 ∨ j = 23))) σ τ ∧ ((r = 1 ∧ mAC σ l g b) ∨ (r = 0 ∧ ¬ mAC σ l g b))
set_option maxHeartbeats 4000000 in
set_option maxRecDepth 100000 in
theorem l_X12_areClear {G : tw_G} (hM : tw_isM G) (l : Int) (hl : 1 ≤ l ∧ l ≤ 41) (g : Int) (hg : 0 ≤ g ∧ g ≤ 40) (b : Int) (hb : 1 ≤ b ∧ b ≤ 40) (σ : tw_M) (hI : tw_I σ) : ∀ N_ : Nat, (∀ (i : Int) (hi : 0 ≤ i ∧ i ≤ 1) (h : Int) (hh : 1 ≤ h ∧ h ≤ 41) (τ : tw_M) (hIτ : tw_I τ) (hFτ : tw_F (fun c j => (c = 88 ∧ (j = 19 ∨ j = 23))) σ τ) (i0 : AI σ l h b i) (i1 : l ≤ h) (i2 : h = l ∨ h ≤ g + 1) (hm : (41 - h).toNat < N_), tw_J G (tw_mt RX12 cX12_areClear 6 (some .boolean) 3) (tw_E G (q_X12_areClear l g b σ)) 6 [(0, vR 88), (2, vI g), (3, vI b), (4, vI i), (5, vI h)] [] τ) := by
  intro N_
  induction N_ with
  | zero => exact fun i hi h hh τ hIτ hFτ i0 i1 i2 hm => absurd hm (Nat.not_lt_zero _)
  | succ N_ ih =>
    intro i hi h hh τ hIτ hFτ i0 i1 i2 hm
    have c9 : ∀ x y, mIC τ x y ↔ mIC σ x y := fun x y => mIC_congr (fun j => hFτ 92 j (show ¬ ((92 = 88 ∧ (j = 19 ∨ j = 23))) from fun h => absurd h.1 (by decide))) (hFτ 91 4 (show ¬ ((91 = 88 ∧ (4 = 19 ∨ 4 = 23))) from by decide))
    refine j_iload (pc := 6) dX12_areClear_6 rfl ?_
    refine j_iload_n (pc := 8) dX12_areClear_8 rfl rfl ?_
    refine j_icmpR_gt (pc := 9) (tgt := 40) ⟨by omega, by omega⟩ ⟨by omega, by omega⟩ dX12_areClear_9 rfl (fun h1 => ?_) (fun h1 => ?_)
    · refine j_iload (pc := 40) dX12_areClear_40 rfl ?_
      exact j_zret (pc := 42) ⟨rfl, rfl⟩ dX12_areClear_42 rfl (nar_bool (by omega) (by omega)) ⟨_, rfl, ⟨by omega, by omega⟩, hIτ, hFτ, AI_end i0 (by omega) (by omega)⟩
    · refine j_iload (pc := 12) dX12_areClear_12 rfl ?_
      refine j_ifR_eq (pc := 14) (tgt := 31) ⟨by omega, by omega⟩ dX12_areClear_14 rfl (fun h2 => ?_) (fun h2 => ?_)
      · refine j_iconst (pc := 31) dX12_areClear_31 ?_
        refine j_istore (pc := 32) (i := 4) (ls' := [(0, vR 88), (2, vI g), (3, vI b), (4, vI 0), (5, vI h)]) [1, 2, 3, 0, 4] dX12_areClear_32 (Nat.le_of_ble_eq_true rfl) rfl rfl ?_
        refine j_iinc (pc := 34) (i := 5) (n := 1) (ls' := [(0, vR 88), (2, vI g), (3, vI b), (4, vI 0), (5, vI (h + 1))]) [1, 2, 3, 4, 0] dX12_areClear_34 rfl (Nat.le_of_ble_eq_true rfl) rfl rfl ?_
        refine j_goto (pc := 37) (tgt := 6) dX12_areClear_37 rfl ?_
        refine j_ls (ls' := [(0, vR 88), (2, vI g), (3, vI b), (4, vI 0), (5, vI (h + 1))]) [0, 1, 2, 3, 4] rfl ?_
        exact ih 0 (by (first | decide | exact ⟨by omega, by omega⟩)) (h + 1) ⟨by omega, by omega⟩ τ hIτ hFτ (show AI σ l (h + 1) b (0 : Int) from (by first | exact AI_t i0 (by omega) ((c9 h b).mp ((b01 __0).1 (by omega))) | exact AI_n (by omega) (fun k => (b01 __0).2 (by omega) ((c9 h b).mpr k)) | exact AI_f i0 (by omega) (by omega))) (show l ≤ (h + 1) from by omega) (show (h + 1) = l ∨ (h + 1) ≤ g + 1 from by omega) (show (41 - (h + 1)).toNat < N_ from by omega)
      · refine j_aload_n (pc := 17) dX12_areClear_17 rfl rfl ?_
        refine j_iload (pc := 18) dX12_areClear_18 rfl ?_
        refine j_iload_n (pc := 20) dX12_areClear_20 rfl rfl ?_
        refine j_callV (pc := 21) (As := [vI h, vI b]) (st := []) (c_X12_isClear hM h ⟨by omega, by omega⟩ b ⟨by omega, by omega⟩ τ hIτ) mv_X12_356 rfl rfl rfl (a_88 hM) dX12_areClear_21 ⟨Nat.le_of_ble_eq_true rfl, Nat.le_of_ble_eq_true rfl⟩ ⟨Nat.le_refl _, Nat.le_refl _⟩ rfl (Nat.le_of_ble_eq_true rfl) rfl (fun z3 σ4 hz3 => ?_)
        obtain ⟨r6, rfl, hr6, hIσ4, hGσ4, q5_0⟩ := hz3
        replace q5_0 : (r6 = 1 ∧ mIC τ h b) ∨ (r6 = 0 ∧ ¬ mIC τ h b) := q5_0
        have hFσ4 : tw_F (fun c j => (c = 88 ∧ (j = 19 ∨ j = 23))) σ σ4 := tw_F_tr hFτ hGσ4 (fun c j q => (show (c = 88 ∧ (j = 19 ∨ j = 23)) from by replace q : (c = 88 ∧ (j = 19 ∨ j = 23)) := q; exact q))
        refine j_st (st' := [vI r6]) rfl ?_
        refine j_ifR_eq (pc := 24) (tgt := 31) ⟨by omega, by omega⟩ dX12_areClear_24 rfl (fun h7 => ?_) (fun h7 => ?_)
        · refine j_iconst (pc := 31) dX12_areClear_31 ?_
          refine j_istore (pc := 32) (i := 4) (ls' := [(0, vR 88), (2, vI g), (3, vI b), (4, vI 0), (5, vI h)]) [1, 2, 3, 0, 4] dX12_areClear_32 (Nat.le_of_ble_eq_true rfl) rfl rfl ?_
          refine j_iinc (pc := 34) (i := 5) (n := 1) (ls' := [(0, vR 88), (2, vI g), (3, vI b), (4, vI 0), (5, vI (h + 1))]) [1, 2, 3, 4, 0] dX12_areClear_34 rfl (Nat.le_of_ble_eq_true rfl) rfl rfl ?_
          refine j_goto (pc := 37) (tgt := 6) dX12_areClear_37 rfl ?_
          refine j_ls (ls' := [(0, vR 88), (2, vI g), (3, vI b), (4, vI 0), (5, vI (h + 1))]) [0, 1, 2, 3, 4] rfl ?_
          exact ih 0 (by (first | decide | exact ⟨by omega, by omega⟩)) (h + 1) ⟨by omega, by omega⟩ σ4 hIσ4 hFσ4 (show AI σ l (h + 1) b (0 : Int) from (by first | exact AI_t i0 (by omega) ((c9 h b).mp ((b01 q5_0).1 (by omega))) | exact AI_n (by omega) (fun k => (b01 q5_0).2 (by omega) ((c9 h b).mpr k)) | exact AI_f i0 (by omega) (by omega))) (show l ≤ (h + 1) from by omega) (show (h + 1) = l ∨ (h + 1) ≤ g + 1 from by omega) (show (41 - (h + 1)).toNat < N_ from by omega)
        · refine j_iconst (pc := 27) dX12_areClear_27 ?_
          refine j_goto (pc := 28) (tgt := 32) dX12_areClear_28 rfl ?_
          refine j_istore (pc := 32) (i := 4) (ls' := [(0, vR 88), (2, vI g), (3, vI b), (4, vI 1), (5, vI h)]) [1, 2, 3, 0, 4] dX12_areClear_32 (Nat.le_of_ble_eq_true rfl) rfl rfl ?_
          refine j_iinc (pc := 34) (i := 5) (n := 1) (ls' := [(0, vR 88), (2, vI g), (3, vI b), (4, vI 1), (5, vI (h + 1))]) [1, 2, 3, 4, 0] dX12_areClear_34 rfl (Nat.le_of_ble_eq_true rfl) rfl rfl ?_
          refine j_goto (pc := 37) (tgt := 6) dX12_areClear_37 rfl ?_
          refine j_ls (ls' := [(0, vR 88), (2, vI g), (3, vI b), (4, vI 1), (5, vI (h + 1))]) [0, 1, 2, 3, 4] rfl ?_
          exact ih 1 (by (first | decide | exact ⟨by omega, by omega⟩)) (h + 1) ⟨by omega, by omega⟩ σ4 hIσ4 hFσ4 (show AI σ l (h + 1) b (1 : Int) from (by first | exact AI_t i0 (by omega) ((c9 h b).mp ((b01 q5_0).1 (by omega))) | exact AI_n (by omega) (fun k => (b01 q5_0).2 (by omega) ((c9 h b).mpr k)) | exact AI_f i0 (by omega) (by omega))) (show l ≤ (h + 1) from by omega) (show (h + 1) = l ∨ (h + 1) ≤ g + 1 from by omega) (show (41 - (h + 1)).toNat < N_ from by omega)
set_option maxHeartbeats 4000000 in
set_option maxRecDepth 100000 in
theorem c_X12_areClear {G : tw_G} (hM : tw_isM G) (l : Int) (hl : 1 ≤ l ∧ l ≤ 41) (g : Int) (hg : 0 ≤ g ∧ g ≤ 40) (b : Int) (hb : 1 ≤ b ∧ b ≤ 40) (σ : tw_M) (hI : tw_I σ) : tw_C G yX12_areClear cX12_areClear 6 (some .boolean) 3 [vR 88, vI l, vI g, vI b] σ (q_X12_areClear l g b σ) := by
  refine tw_met [(0, vR 88), (1, vI l), (2, vI g), (3, vI b)] (by decide +kernel) rfl (Nat.le_of_ble_eq_true rfl) ?_
  refine j_iconst (pc := 0) dX12_areClear_0 ?_
  refine j_istore (pc := 1) (i := 4) (ls' := [(0, vR 88), (1, vI l), (2, vI g), (3, vI b), (4, vI 1)]) [1, 2, 3, 4, 0] dX12_areClear_1 (Nat.le_of_ble_eq_true rfl) rfl rfl ?_
  refine j_iload_n (pc := 3) dX12_areClear_3 rfl rfl ?_
  refine j_istore (pc := 4) (i := 5) (ls' := [(0, vR 88), (2, vI g), (3, vI b), (4, vI 1), (5, vI l)]) [1, 3, 4, 5, 0] dX12_areClear_4 (Nat.le_of_ble_eq_true rfl) rfl rfl ?_
  refine j_ls (ls' := [(0, vR 88), (2, vI g), (3, vI b), (4, vI 1), (5, vI l)]) [0, 1, 2, 3, 4] rfl ?_
  exact (l_X12_areClear hM l hl g hg b hb σ hI (((41 - l).toNat) + 1)) 1 (by (first | decide | exact ⟨by omega, by omega⟩)) l ⟨by omega, by omega⟩ σ hI (tw_F_rf) (show AI σ l l b (1 : Int) from AI_0) (show l ≤ l from by omega) (show l = l ∨ l ≤ g + 1 from by omega) (Nat.lt_succ_self _)
abbrev q_X12_findMore  (σ : tw_M) : Option tw_V → tw_M → Prop := fun z τ => z = none ∧ tw_I τ ∧ tw_F (fun c j => (c = 88 ∧ (j = 19 ∨ j = 23)) ∨ c = 102) σ τ ∧ (∀ j : Int, 1 ≤ j → j ≤ σ 91 0 → TOK (σ 91 0) (okB σ) (τ 102) j)
set_option maxHeartbeats 4000000 in
set_option maxRecDepth 100000 in
theorem l_X12_findMore {G : tw_G} (hM : tw_isM G) (σ : tw_M) (hI : tw_I σ) : ∀ N_ : Nat, (∀ (t : Int) (ht : 1 ≤ t ∧ t ≤ 40) (b : Int) (hb : 0 ≤ b ∧ b ≤ 40) (τ : tw_M) (hIτ : tw_I τ) (hFτ : tw_F (fun c j => (c = 88 ∧ (j = 19 ∨ j = 23)) ∨ c = 102) σ τ) (i0 : t = σ 91 0) (i1 : b ≤ t) (i2 : ∀ j : Int, b < j → j ≤ t → TOK (σ 91 0) (okB σ) (τ 102) j) (hm : (100 * b + 50).toNat < N_), tw_J G (tw_mt RX12 cX12_findMore 5 none 4) (tw_E G (q_X12_findMore σ)) 9 [(0, vR 88), (1, vI t), (2, vI b)] [] τ) ∧ (∀ (t : Int) (ht : 1 ≤ t ∧ t ≤ 40) (b : Int) (hb : 1 ≤ b ∧ b ≤ 40) (c : Int) (hc : 2 ≤ c ∧ c ≤ 41) (τ : tw_M) (hIτ : tw_I τ) (hFτ : tw_F (fun c j => (c = 88 ∧ (j = 19 ∨ j = 23)) ∨ c = 102) σ τ) (i0 : t = σ 91 0) (i1 : b ≤ t) (i2 : b < c) (i3 : ∀ j : Int, b ≤ j → j ≤ t → TOK (σ 91 0) (okB σ) (τ 102) j) (hm : (100 * b + 41 - c).toNat < N_), tw_J G (tw_mt RX12 cX12_findMore 5 none 4) (tw_E G (q_X12_findMore σ)) 41 [(0, vR 88), (1, vI t), (2, vI b), (3, vI c)] [] τ) := by
  intro N_
  induction N_ with
  | zero => exact ⟨fun t ht b hb τ hIτ hFτ i0 i1 i2 hm => absurd hm (Nat.not_lt_zero _), fun t ht b hb c hc τ hIτ hFτ i0 i1 i2 i3 hm => absurd hm (Nat.not_lt_zero _)⟩
  | succ N_ ih =>
    refine ⟨?_, ?_⟩
    · intro t ht b hb τ hIτ hFτ i0 i1 i2 hm
      have ft : (1 : Int) ≤ σ 91 0 ∧ σ 91 0 ≤ 40 := hI 91 0
      have f91 := hFτ 91 0 (show ¬ ((91 = 88 ∧ (0 = 19 ∨ 0 = 23)) ∨ 91 = 102) from by decide)
      refine j_iload_n (pc := 9) dX12_findMore_9 rfl rfl ?_
      refine j_ifR_le (pc := 10) (tgt := 155) ⟨by omega, by omega⟩ dX12_findMore_10 rfl (fun h1 => ?_) (fun h1 => ?_)
      · exact j_vret (pc := 155) ⟨rfl, rfl⟩ dX12_findMore_155 rfl ⟨rfl, hIτ, hFτ, (fun j h1 h2 => i2 j (by omega) (by omega))⟩
      · refine j_aload_n (pc := 13) dX12_findMore_13 rfl rfl ?_
        refine j_getR (pc := 14) (r := 102) fl_X12_50 dX12_findMore_14 (a_88 hM) rfl ?_
        refine j_iload_n (pc := 17) dX12_findMore_17 rfl rfl ?_
        refine j_aload_n (pc := 18) dX12_findMore_18 rfl rfl ?_
        refine j_iload_n (pc := 19) dX12_findMore_19 rfl rfl ?_
        refine j_iconst (pc := 20) dX12_findMore_20 ?_
        refine j_iadd (pc := 21) dX12_findMore_21 ?_
        refine j_iload_n (pc := 22) dX12_findMore_22 rfl rfl ?_
        refine j_iload_n (pc := 23) dX12_findMore_23 rfl rfl ?_
        refine j_callV (pc := 24) (As := [vI (b + 1), vI t, vI b]) (st := [vI b, vR 102]) (c_X12_areClear hM (b + 1) ⟨by omega, by omega⟩ t ⟨by omega, by omega⟩ b ⟨by omega, by omega⟩ τ hIτ) mv_X12_359 rfl rfl rfl (a_88 hM) dX12_findMore_24 ⟨Nat.le_of_ble_eq_true rfl, Nat.le_of_ble_eq_true rfl⟩ ⟨Nat.le_refl _, Nat.le_refl _⟩ rfl (Nat.le_of_ble_eq_true rfl) rfl (fun z2 σ3 hz2 => ?_)
        obtain ⟨r5, rfl, hr5, hIσ3, hGσ3, q4_0⟩ := hz2
        replace q4_0 : (r5 = 1 ∧ mAC τ (b + 1) t b) ∨ (r5 = 0 ∧ ¬ mAC τ (b + 1) t b) := q4_0
        have hFσ3 : tw_F (fun c j => (c = 88 ∧ (j = 19 ∨ j = 23)) ∨ c = 102) σ σ3 := tw_F_tr hFτ hGσ3 (fun c j q => (show (c = 88 ∧ (j = 19 ∨ j = 23)) ∨ c = 102 from by replace q : (c = 88 ∧ (j = 19 ∨ j = 23)) := q; exact (Or.inl q)))
        refine j_st (st' := [vI r5, vI b, vR 102]) rfl ?_
        refine j_ifR_eq (pc := 27) (tgt := 34) ⟨by omega, by omega⟩ dX12_findMore_27 rfl (fun h6 => ?_) (fun h6 => ?_)
        · refine j_bipush (pc := 34) dX12_findMore_34 rfl ?_
          refine j_iast (pc := 36) dX12_findMore_36 (a_102 hM) (by omega) (by omega) (by decide) (j_nm (fun σ7 (eσ7 : σ7 = tw_up σ3 102 (b.toNat) (-4)) => ?_))
          have hIσ7 : tw_I σ7 := tw_I_up hIσ3 eσ7 (show (-2147483648 : Int) ≤ -4 ∧ -4 ≤ 2147483647 from by decide)
          have hFσ7 : tw_F (fun c j => (c = 88 ∧ (j = 19 ∨ j = 23)) ∨ c = 102) σ σ7 := tw_F_up hFσ3 eσ7 (show (102 = 88 ∧ (b.toNat = 19 ∨ b.toNat = 23)) ∨ 102 = 102 from (Or.inr rfl))
          refine j_iload_n (pc := 37) dX12_findMore_37 rfl rfl ?_
          refine j_iconst (pc := 38) dX12_findMore_38 ?_
          refine j_iadd (pc := 39) dX12_findMore_39 ?_
          refine j_istore_n (pc := 40) (i := 3) (ls' := [(0, vR 88), (1, vI t), (2, vI b), (3, vI (b + 1))]) [1, 2, 3, 0] dX12_findMore_40 rfl (Nat.le_of_ble_eq_true rfl) rfl rfl ?_
          refine j_ls (ls' := [(0, vR 88), (1, vI t), (2, vI b), (3, vI (b + 1))]) [0, 1, 2, 3] rfl ?_
          exact ih.2 t ⟨by omega, by omega⟩ b ⟨by omega, by omega⟩ (b + 1) ⟨by omega, by omega⟩ σ7 hIσ7 hFσ7 (show t = σ 91 0 from by omega) (show b ≤ t from by omega) (show b < (b + 1) from by omega) (show ∀ j : Int, b ≤ j → j ≤ t → TOK (σ 91 0) (okB σ) (σ7 102) j from (by first | exact fun j h1 h2 => TOK_up eσ7 (by omega) (fun j h1 h2 => TOK_F (fun x => hGσ3 102 x (show ¬ ((102 = 88 ∧ (x = 19 ∨ x = 23))) from fun h => absurd h.1 (by decide))) (i2 j h1 (by omega))) (by first | exact Or.inl rfl | exact Or.inr (Or.inl rfl)) j h1 (by omega) | exact fun j h1 h2 => TOK_up eσ7 (by omega) (fun j h1 h2 => t9 j (by omega) (by omega)) (TOK_old (t9 b (by omega) (by omega)) (by omega)) j h1 (by omega) | exact fun j h1 h2 => TOK_up eσ7 (by omega) (fun j h1 h2 => t9 j (by omega) (by omega)) (TOK_new (f := c) (by omega) (by omega) g9 (by omega) (t9 c (by omega) (by omega)) (by omega)) j h1 (by omega))) (show (100 * b + 41 - (b + 1)).toNat < N_ from by omega)
        · refine j_iconst (pc := 30) dX12_findMore_30 ?_
          refine j_goto (pc := 31) (tgt := 36) dX12_findMore_31 rfl ?_
          refine j_iast (pc := 36) dX12_findMore_36 (a_102 hM) (by omega) (by omega) (by decide) (j_nm (fun σ8 (eσ8 : σ8 = tw_up σ3 102 (b.toNat) 0) => ?_))
          have hIσ8 : tw_I σ8 := tw_I_up hIσ3 eσ8 (show (-2147483648 : Int) ≤ 0 ∧ 0 ≤ 2147483647 from by decide)
          have hFσ8 : tw_F (fun c j => (c = 88 ∧ (j = 19 ∨ j = 23)) ∨ c = 102) σ σ8 := tw_F_up hFσ3 eσ8 (show (102 = 88 ∧ (b.toNat = 19 ∨ b.toNat = 23)) ∨ 102 = 102 from (Or.inr rfl))
          refine j_iload_n (pc := 37) dX12_findMore_37 rfl rfl ?_
          refine j_iconst (pc := 38) dX12_findMore_38 ?_
          refine j_iadd (pc := 39) dX12_findMore_39 ?_
          refine j_istore_n (pc := 40) (i := 3) (ls' := [(0, vR 88), (1, vI t), (2, vI b), (3, vI (b + 1))]) [1, 2, 3, 0] dX12_findMore_40 rfl (Nat.le_of_ble_eq_true rfl) rfl rfl ?_
          refine j_ls (ls' := [(0, vR 88), (1, vI t), (2, vI b), (3, vI (b + 1))]) [0, 1, 2, 3] rfl ?_
          exact ih.2 t ⟨by omega, by omega⟩ b ⟨by omega, by omega⟩ (b + 1) ⟨by omega, by omega⟩ σ8 hIσ8 hFσ8 (show t = σ 91 0 from by omega) (show b ≤ t from by omega) (show b < (b + 1) from by omega) (show ∀ j : Int, b ≤ j → j ≤ t → TOK (σ 91 0) (okB σ) (σ8 102) j from (by first | exact fun j h1 h2 => TOK_up eσ8 (by omega) (fun j h1 h2 => TOK_F (fun x => hGσ3 102 x (show ¬ ((102 = 88 ∧ (x = 19 ∨ x = 23))) from fun h => absurd h.1 (by decide))) (i2 j h1 (by omega))) (by first | exact Or.inl rfl | exact Or.inr (Or.inl rfl)) j h1 (by omega) | exact fun j h1 h2 => TOK_up eσ8 (by omega) (fun j h1 h2 => t9 j (by omega) (by omega)) (TOK_old (t9 b (by omega) (by omega)) (by omega)) j h1 (by omega) | exact fun j h1 h2 => TOK_up eσ8 (by omega) (fun j h1 h2 => t9 j (by omega) (by omega)) (TOK_new (f := c) (by omega) (by omega) g9 (by omega) (t9 c (by omega) (by omega)) (by omega)) j h1 (by omega))) (show (100 * b + 41 - (b + 1)).toNat < N_ from by omega)
    · intro t ht b hb c hc τ hIτ hFτ i0 i1 i2 i3 hm
      have ft : (1 : Int) ≤ σ 91 0 ∧ σ 91 0 ≤ 40 := hI 91 0
      have f91 := hFτ 91 0 (show ¬ ((91 = 88 ∧ (0 = 19 ∨ 0 = 23)) ∨ 91 = 102) from by decide)
      have a9 : ∀ x y z, mAC τ x y z ↔ mAC σ x y z := fun x y z => mAC_congr (fun j => hFτ 92 j (show ¬ ((92 = 88 ∧ (j = 19 ∨ j = 23)) ∨ 92 = 102) from fun h => h.elim (fun h => absurd h.1 (by decide)) (fun h => absurd h (by decide)))) (hFτ 91 4 (show ¬ ((91 = 88 ∧ (4 = 19 ∨ 4 = 23)) ∨ 91 = 102) from by decide))
      refine j_iload_n (pc := 41) dX12_findMore_41 rfl rfl ?_
      refine j_iload_n (pc := 42) dX12_findMore_42 rfl rfl ?_
      refine j_icmpR_gt (pc := 43) (tgt := 149) ⟨by omega, by omega⟩ ⟨by omega, by omega⟩ dX12_findMore_43 rfl (fun h9 => ?_) (fun h9 => ?_)
      · refine j_iinc (pc := 149) (i := 2) (n := -1) (ls' := [(0, vR 88), (1, vI t), (2, vI (b + (-1)))]) [1, 2, 0] dX12_findMore_149 rfl (Nat.le_of_ble_eq_true rfl) rfl rfl ?_
        refine j_goto (pc := 152) (tgt := 9) dX12_findMore_152 rfl ?_
        refine j_ls (ls' := [(0, vR 88), (1, vI t), (2, vI (b + (-1)))]) [0, 1, 2] rfl ?_
        exact ih.1 t ⟨by omega, by omega⟩ (b + (-1)) ⟨by omega, by omega⟩ τ hIτ hFτ (show t = σ 91 0 from by omega) (show (b + (-1)) ≤ t from by omega) (show ∀ j : Int, (b + (-1)) < j → j ≤ t → TOK (σ 91 0) (okB σ) (τ 102) j from (fun j h1 h2 => i3 j (by omega) (by omega))) (show (100 * (b + (-1)) + 50).toNat < N_ from by omega)
      · refine j_aload_n (pc := 46) dX12_findMore_46 rfl rfl ?_
        refine j_getR (pc := 47) (r := 102) fl_X12_50 dX12_findMore_47 (a_88 hM) rfl ?_
        refine j_iload_n (pc := 50) dX12_findMore_50 rfl rfl ?_
        refine j_iald (pc := 51) dX12_findMore_51 (a_102 hM) (by omega) (by omega) (by decide) ?_
        have f10 : (-2147483648 : Int) ≤ τ 102 (c.toNat) ∧ τ 102 (c.toNat) ≤ 2147483647 := hIτ 102 (c.toNat)
        refine j_bipush (pc := 52) dX12_findMore_52 rfl ?_
        refine j_icmpR_eq (pc := 54) (tgt := 84) ⟨by omega, by omega⟩ ⟨by omega, by omega⟩ dX12_findMore_54 rfl (fun h11 => ?_) (fun h11 => ?_)
        · refine j_iconst (pc := 84) dX12_findMore_84 ?_
          refine j_istore (pc := 85) (i := 4) (ls' := [(0, vR 88), (1, vI t), (2, vI b), (3, vI c), (4, vI 0)]) [1, 2, 3, 4, 0] dX12_findMore_85 (Nat.le_of_ble_eq_true rfl) rfl rfl ?_
          have t9 : ∀ j : Int, b ≤ j → j ≤ t → TOK (σ 91 0) (okB σ) (τ 102) j := fun j h1 h2 => TOK_F (fun x => rfl) (i3 j h1 h2)
          have f5 : τ 102 b.toNat = τ 102 b.toNat := rfl
          have f6 : τ 102 c.toNat = τ 102 c.toNat := rfl
          refine j_aload_n (pc := 87) dX12_findMore_87 rfl rfl ?_
          refine j_getR (pc := 88) (r := 102) fl_X12_50 dX12_findMore_88 (a_88 hM) rfl ?_
          refine j_iload_n (pc := 91) dX12_findMore_91 rfl rfl ?_
          refine j_iload (pc := 92) dX12_findMore_92 rfl ?_
          refine j_ifR_eq (pc := 94) (tgt := 136) ⟨by omega, by omega⟩ dX12_findMore_94 rfl (fun h12 => ?_) (fun h12 => by exfalso; omega)
          refine j_aload_n (pc := 136) dX12_findMore_136 rfl rfl ?_
          refine j_getR (pc := 137) (r := 102) fl_X12_50 dX12_findMore_137 (a_88 hM) rfl ?_
          refine j_iload_n (pc := 140) dX12_findMore_140 rfl rfl ?_
          refine j_iald (pc := 141) dX12_findMore_141 (a_102 hM) (by omega) (by omega) (by decide) ?_
          have f13 : (-2147483648 : Int) ≤ τ 102 (b.toNat) ∧ τ 102 (b.toNat) ≤ 2147483647 := hIτ 102 (b.toNat)
          refine j_iast (pc := 142) dX12_findMore_142 (a_102 hM) (by omega) (by omega) (by decide) (j_nm (fun σ14 (eσ14 : σ14 = tw_up τ 102 (b.toNat) (τ 102 (b.toNat))) => ?_))
          have hIσ14 : tw_I σ14 := tw_I_up hIτ eσ14 (show (-2147483648 : Int) ≤ τ 102 (b.toNat) ∧ τ 102 (b.toNat) ≤ 2147483647 from ⟨by omega, by omega⟩)
          have hFσ14 : tw_F (fun c j => (c = 88 ∧ (j = 19 ∨ j = 23)) ∨ c = 102) σ σ14 := tw_F_up hFτ eσ14 (show (102 = 88 ∧ (b.toNat = 19 ∨ b.toNat = 23)) ∨ 102 = 102 from (Or.inr rfl))
          refine j_iinc (pc := 143) (i := 3) (n := 1) (ls' := [(0, vR 88), (1, vI t), (2, vI b), (3, vI (c + 1))]) [1, 2, 3, 0] dX12_findMore_143 rfl (Nat.le_of_ble_eq_true rfl) rfl rfl ?_
          refine j_goto (pc := 146) (tgt := 41) dX12_findMore_146 rfl ?_
          refine j_ls (ls' := [(0, vR 88), (1, vI t), (2, vI b), (3, vI (c + 1))]) [0, 1, 2, 3] rfl ?_
          exact ih.2 t ⟨by omega, by omega⟩ b ⟨by omega, by omega⟩ (c + 1) ⟨by omega, by omega⟩ σ14 hIσ14 hFσ14 (show t = σ 91 0 from by omega) (show b ≤ t from by omega) (show b < (c + 1) from by omega) (show ∀ j : Int, b ≤ j → j ≤ t → TOK (σ 91 0) (okB σ) (σ14 102) j from (by first | exact fun j h1 h2 => TOK_up eσ14 (by omega) (fun j h1 h2 => TOK_F (fun x => hG_ 102 x _) (i2 j h1 (by omega))) (by first | exact Or.inl rfl | exact Or.inr (Or.inl rfl)) j h1 (by omega) | exact fun j h1 h2 => TOK_up eσ14 (by omega) (fun j h1 h2 => t9 j (by omega) (by omega)) (TOK_old (t9 b (by omega) (by omega)) (by omega)) j h1 (by omega) | exact fun j h1 h2 => TOK_up eσ14 (by omega) (fun j h1 h2 => t9 j (by omega) (by omega)) (TOK_new (f := c) (by omega) (by omega) g9 (by omega) (t9 c (by omega) (by omega)) (by omega)) j h1 (by omega))) (show (100 * b + 41 - (c + 1)).toNat < N_ from by omega)
        · refine j_aload_n (pc := 57) dX12_findMore_57 rfl rfl ?_
          refine j_iload_n (pc := 58) dX12_findMore_58 rfl rfl ?_
          refine j_iconst (pc := 59) dX12_findMore_59 ?_
          refine j_iadd (pc := 60) dX12_findMore_60 ?_
          refine j_iload_n (pc := 61) dX12_findMore_61 rfl rfl ?_
          refine j_iconst (pc := 62) dX12_findMore_62 ?_
          refine j_isub (pc := 63) dX12_findMore_63 ?_
          refine j_iload_n (pc := 64) dX12_findMore_64 rfl rfl ?_
          refine j_callV (pc := 65) (As := [vI (b + 1), vI (c - 1), vI b]) (st := []) (c_X12_areClear hM (b + 1) ⟨by omega, by omega⟩ (c - 1) ⟨by omega, by omega⟩ b ⟨by omega, by omega⟩ τ hIτ) mv_X12_359 rfl rfl rfl (a_88 hM) dX12_findMore_65 ⟨Nat.le_of_ble_eq_true rfl, Nat.le_of_ble_eq_true rfl⟩ ⟨Nat.le_refl _, Nat.le_refl _⟩ rfl (Nat.le_of_ble_eq_true rfl) rfl (fun z15 σ16 hz15 => ?_)
          obtain ⟨r18, rfl, hr18, hIσ16, hGσ16, q17_0⟩ := hz15
          replace q17_0 : (r18 = 1 ∧ mAC τ (b + 1) (c - 1) b) ∨ (r18 = 0 ∧ ¬ mAC τ (b + 1) (c - 1) b) := q17_0
          have hFσ16 : tw_F (fun c j => (c = 88 ∧ (j = 19 ∨ j = 23)) ∨ c = 102) σ σ16 := tw_F_tr hFτ hGσ16 (fun c j q => (show (c = 88 ∧ (j = 19 ∨ j = 23)) ∨ c = 102 from by replace q : (c = 88 ∧ (j = 19 ∨ j = 23)) := q; exact (Or.inl q)))
          refine j_st (st' := [vI r18]) rfl ?_
          refine j_ifR_eq (pc := 68) (tgt := 84) ⟨by omega, by omega⟩ dX12_findMore_68 rfl (fun h19 => ?_) (fun h19 => ?_)
          · refine j_iconst (pc := 84) dX12_findMore_84 ?_
            refine j_istore (pc := 85) (i := 4) (ls' := [(0, vR 88), (1, vI t), (2, vI b), (3, vI c), (4, vI 0)]) [1, 2, 3, 4, 0] dX12_findMore_85 (Nat.le_of_ble_eq_true rfl) rfl rfl ?_
            have t9 : ∀ j : Int, b ≤ j → j ≤ t → TOK (σ 91 0) (okB σ) (σ16 102) j := fun j h1 h2 => TOK_F (fun x => (hGσ16 102 x (show ¬ ((102 = 88 ∧ (x = 19 ∨ x = 23))) from fun h => absurd h.1 (by decide)))) (i3 j h1 h2)
            have f5 : σ16 102 b.toNat = τ 102 b.toNat := (hGσ16 102 (b.toNat) (show ¬ ((102 = 88 ∧ (b.toNat = 19 ∨ b.toNat = 23))) from fun h => absurd h.1 (by decide)))
            have f6 : σ16 102 c.toNat = τ 102 c.toNat := (hGσ16 102 (c.toNat) (show ¬ ((102 = 88 ∧ (c.toNat = 19 ∨ c.toNat = 23))) from fun h => absurd h.1 (by decide)))
            refine j_aload_n (pc := 87) dX12_findMore_87 rfl rfl ?_
            refine j_getR (pc := 88) (r := 102) fl_X12_50 dX12_findMore_88 (a_88 hM) rfl ?_
            refine j_iload_n (pc := 91) dX12_findMore_91 rfl rfl ?_
            refine j_iload (pc := 92) dX12_findMore_92 rfl ?_
            refine j_ifR_eq (pc := 94) (tgt := 136) ⟨by omega, by omega⟩ dX12_findMore_94 rfl (fun h20 => ?_) (fun h20 => by exfalso; omega)
            refine j_aload_n (pc := 136) dX12_findMore_136 rfl rfl ?_
            refine j_getR (pc := 137) (r := 102) fl_X12_50 dX12_findMore_137 (a_88 hM) rfl ?_
            refine j_iload_n (pc := 140) dX12_findMore_140 rfl rfl ?_
            refine j_iald (pc := 141) dX12_findMore_141 (a_102 hM) (by omega) (by omega) (by decide) ?_
            refine j_topV (show σ16 102 (b.toNat) = τ 102 (b.toNat) from (hGσ16 102 (b.toNat) (show ¬ ((102 = 88 ∧ (b.toNat = 19 ∨ b.toNat = 23))) from fun h => absurd h.1 (by decide)))) ?_
            have f21 : (-2147483648 : Int) ≤ τ 102 (b.toNat) ∧ τ 102 (b.toNat) ≤ 2147483647 := hIτ 102 (b.toNat)
            refine j_iast (pc := 142) dX12_findMore_142 (a_102 hM) (by omega) (by omega) (by decide) (j_nm (fun σ22 (eσ22 : σ22 = tw_up σ16 102 (b.toNat) (τ 102 (b.toNat))) => ?_))
            have hIσ22 : tw_I σ22 := tw_I_up hIσ16 eσ22 (show (-2147483648 : Int) ≤ τ 102 (b.toNat) ∧ τ 102 (b.toNat) ≤ 2147483647 from ⟨by omega, by omega⟩)
            have hFσ22 : tw_F (fun c j => (c = 88 ∧ (j = 19 ∨ j = 23)) ∨ c = 102) σ σ22 := tw_F_up hFσ16 eσ22 (show (102 = 88 ∧ (b.toNat = 19 ∨ b.toNat = 23)) ∨ 102 = 102 from (Or.inr rfl))
            refine j_iinc (pc := 143) (i := 3) (n := 1) (ls' := [(0, vR 88), (1, vI t), (2, vI b), (3, vI (c + 1))]) [1, 2, 3, 0] dX12_findMore_143 rfl (Nat.le_of_ble_eq_true rfl) rfl rfl ?_
            refine j_goto (pc := 146) (tgt := 41) dX12_findMore_146 rfl ?_
            refine j_ls (ls' := [(0, vR 88), (1, vI t), (2, vI b), (3, vI (c + 1))]) [0, 1, 2, 3] rfl ?_
            exact ih.2 t ⟨by omega, by omega⟩ b ⟨by omega, by omega⟩ (c + 1) ⟨by omega, by omega⟩ σ22 hIσ22 hFσ22 (show t = σ 91 0 from by omega) (show b ≤ t from by omega) (show b < (c + 1) from by omega) (show ∀ j : Int, b ≤ j → j ≤ t → TOK (σ 91 0) (okB σ) (σ22 102) j from (by first | exact fun j h1 h2 => TOK_up eσ22 (by omega) (fun j h1 h2 => TOK_F (fun x => hGσ16 102 x (show ¬ ((102 = 88 ∧ (x = 19 ∨ x = 23))) from fun h => absurd h.1 (by decide))) (i2 j h1 (by omega))) (by first | exact Or.inl rfl | exact Or.inr (Or.inl rfl)) j h1 (by omega) | exact fun j h1 h2 => TOK_up eσ22 (by omega) (fun j h1 h2 => t9 j (by omega) (by omega)) (TOK_old (t9 b (by omega) (by omega)) (by omega)) j h1 (by omega) | exact fun j h1 h2 => TOK_up eσ22 (by omega) (fun j h1 h2 => t9 j (by omega) (by omega)) (TOK_new (f := c) (by omega) (by omega) g9 (by omega) (t9 c (by omega) (by omega)) (by omega)) j h1 (by omega))) (show (100 * b + 41 - (c + 1)).toNat < N_ from by omega)
          · have g7 : mAC σ (b + 1) (c - 1) b := (a9 _ _ _).mp ((b01 q17_0).1 (by omega))
            have c8 : ∀ x y, mIC σ16 x y ↔ mIC σ x y := fun x y => mIC_congr (fun j => hFσ16 92 j (show ¬ ((92 = 88 ∧ (j = 19 ∨ j = 23)) ∨ 92 = 102) from fun h => h.elim (fun h => absurd h.1 (by decide)) (fun h => absurd h (by decide)))) (hFσ16 91 4 (show ¬ ((91 = 88 ∧ (4 = 19 ∨ 4 = 23)) ∨ 91 = 102) from by decide))
            refine j_aload_n (pc := 71) dX12_findMore_71 rfl rfl ?_
            refine j_iload_n (pc := 72) dX12_findMore_72 rfl rfl ?_
            refine j_iload_n (pc := 73) dX12_findMore_73 rfl rfl ?_
            refine j_callV (pc := 74) (As := [vI c, vI c]) (st := []) (c_X12_isClear hM c ⟨by omega, by omega⟩ c ⟨by omega, by omega⟩ σ16 hIσ16) mv_X12_356 rfl rfl rfl (a_88 hM) dX12_findMore_74 ⟨Nat.le_of_ble_eq_true rfl, Nat.le_of_ble_eq_true rfl⟩ ⟨Nat.le_refl _, Nat.le_refl _⟩ rfl (Nat.le_of_ble_eq_true rfl) rfl (fun z23 σ24 hz23 => ?_)
            obtain ⟨r26, rfl, hr26, hIσ24, hGσ24, q25_0⟩ := hz23
            replace q25_0 : (r26 = 1 ∧ mIC σ16 c c) ∨ (r26 = 0 ∧ ¬ mIC σ16 c c) := q25_0
            have hFσ24 : tw_F (fun c j => (c = 88 ∧ (j = 19 ∨ j = 23)) ∨ c = 102) σ σ24 := tw_F_tr hFσ16 hGσ24 (fun c j q => (show (c = 88 ∧ (j = 19 ∨ j = 23)) ∨ c = 102 from by replace q : (c = 88 ∧ (j = 19 ∨ j = 23)) := q; exact (Or.inl q)))
            refine j_st (st' := [vI r26]) rfl ?_
            refine j_ifR_eq (pc := 77) (tgt := 84) ⟨by omega, by omega⟩ dX12_findMore_77 rfl (fun h27 => ?_) (fun h27 => ?_)
            · refine j_iconst (pc := 84) dX12_findMore_84 ?_
              refine j_istore (pc := 85) (i := 4) (ls' := [(0, vR 88), (1, vI t), (2, vI b), (3, vI c), (4, vI 0)]) [1, 2, 3, 4, 0] dX12_findMore_85 (Nat.le_of_ble_eq_true rfl) rfl rfl ?_
              have t9 : ∀ j : Int, b ≤ j → j ≤ t → TOK (σ 91 0) (okB σ) (σ24 102) j := fun j h1 h2 => TOK_F (fun x => ((hGσ24 102 x (show ¬ ((102 = 88 ∧ (x = 19 ∨ x = 23))) from fun h => absurd h.1 (by decide)))).trans (hGσ16 102 x (show ¬ ((102 = 88 ∧ (x = 19 ∨ x = 23))) from fun h => absurd h.1 (by decide)))) (i3 j h1 h2)
              have f5 : σ24 102 b.toNat = τ 102 b.toNat := ((hGσ24 102 (b.toNat) (show ¬ ((102 = 88 ∧ (b.toNat = 19 ∨ b.toNat = 23))) from fun h => absurd h.1 (by decide)))).trans (hGσ16 102 (b.toNat) (show ¬ ((102 = 88 ∧ (b.toNat = 19 ∨ b.toNat = 23))) from fun h => absurd h.1 (by decide)))
              have f6 : σ24 102 c.toNat = τ 102 c.toNat := ((hGσ24 102 (c.toNat) (show ¬ ((102 = 88 ∧ (c.toNat = 19 ∨ c.toNat = 23))) from fun h => absurd h.1 (by decide)))).trans (hGσ16 102 (c.toNat) (show ¬ ((102 = 88 ∧ (c.toNat = 19 ∨ c.toNat = 23))) from fun h => absurd h.1 (by decide)))
              refine j_aload_n (pc := 87) dX12_findMore_87 rfl rfl ?_
              refine j_getR (pc := 88) (r := 102) fl_X12_50 dX12_findMore_88 (a_88 hM) rfl ?_
              refine j_iload_n (pc := 91) dX12_findMore_91 rfl rfl ?_
              refine j_iload (pc := 92) dX12_findMore_92 rfl ?_
              refine j_ifR_eq (pc := 94) (tgt := 136) ⟨by omega, by omega⟩ dX12_findMore_94 rfl (fun h28 => ?_) (fun h28 => by exfalso; omega)
              refine j_aload_n (pc := 136) dX12_findMore_136 rfl rfl ?_
              refine j_getR (pc := 137) (r := 102) fl_X12_50 dX12_findMore_137 (a_88 hM) rfl ?_
              refine j_iload_n (pc := 140) dX12_findMore_140 rfl rfl ?_
              refine j_iald (pc := 141) dX12_findMore_141 (a_102 hM) (by omega) (by omega) (by decide) ?_
              refine j_topV (show σ24 102 (b.toNat) = τ 102 (b.toNat) from ((hGσ24 102 (b.toNat) (show ¬ ((102 = 88 ∧ (b.toNat = 19 ∨ b.toNat = 23))) from fun h => absurd h.1 (by decide)))).trans (hGσ16 102 (b.toNat) (show ¬ ((102 = 88 ∧ (b.toNat = 19 ∨ b.toNat = 23))) from fun h => absurd h.1 (by decide)))) ?_
              have f29 : (-2147483648 : Int) ≤ τ 102 (b.toNat) ∧ τ 102 (b.toNat) ≤ 2147483647 := hIτ 102 (b.toNat)
              refine j_iast (pc := 142) dX12_findMore_142 (a_102 hM) (by omega) (by omega) (by decide) (j_nm (fun σ30 (eσ30 : σ30 = tw_up σ24 102 (b.toNat) (τ 102 (b.toNat))) => ?_))
              have hIσ30 : tw_I σ30 := tw_I_up hIσ24 eσ30 (show (-2147483648 : Int) ≤ τ 102 (b.toNat) ∧ τ 102 (b.toNat) ≤ 2147483647 from ⟨by omega, by omega⟩)
              have hFσ30 : tw_F (fun c j => (c = 88 ∧ (j = 19 ∨ j = 23)) ∨ c = 102) σ σ30 := tw_F_up hFσ24 eσ30 (show (102 = 88 ∧ (b.toNat = 19 ∨ b.toNat = 23)) ∨ 102 = 102 from (Or.inr rfl))
              refine j_iinc (pc := 143) (i := 3) (n := 1) (ls' := [(0, vR 88), (1, vI t), (2, vI b), (3, vI (c + 1))]) [1, 2, 3, 0] dX12_findMore_143 rfl (Nat.le_of_ble_eq_true rfl) rfl rfl ?_
              refine j_goto (pc := 146) (tgt := 41) dX12_findMore_146 rfl ?_
              refine j_ls (ls' := [(0, vR 88), (1, vI t), (2, vI b), (3, vI (c + 1))]) [0, 1, 2, 3] rfl ?_
              exact ih.2 t ⟨by omega, by omega⟩ b ⟨by omega, by omega⟩ (c + 1) ⟨by omega, by omega⟩ σ30 hIσ30 hFσ30 (show t = σ 91 0 from by omega) (show b ≤ t from by omega) (show b < (c + 1) from by omega) (show ∀ j : Int, b ≤ j → j ≤ t → TOK (σ 91 0) (okB σ) (σ30 102) j from (by first | exact fun j h1 h2 => TOK_up eσ30 (by omega) (fun j h1 h2 => TOK_F (fun x => hGσ24 102 x (show ¬ ((102 = 88 ∧ (x = 19 ∨ x = 23))) from fun h => absurd h.1 (by decide))) (i2 j h1 (by omega))) (by first | exact Or.inl rfl | exact Or.inr (Or.inl rfl)) j h1 (by omega) | exact fun j h1 h2 => TOK_up eσ30 (by omega) (fun j h1 h2 => t9 j (by omega) (by omega)) (TOK_old (t9 b (by omega) (by omega)) (by omega)) j h1 (by omega) | exact fun j h1 h2 => TOK_up eσ30 (by omega) (fun j h1 h2 => t9 j (by omega) (by omega)) (TOK_new (f := c) (by omega) (by omega) g9 (by omega) (t9 c (by omega) (by omega)) (by omega)) j h1 (by omega))) (show (100 * b + 41 - (c + 1)).toNat < N_ from by omega)
            · have g9 : okB σ b c := ⟨g7, (c8 c c).mp ((b01 q25_0).1 (by omega))⟩
              refine j_iconst (pc := 80) dX12_findMore_80 ?_
              refine j_goto (pc := 81) (tgt := 85) dX12_findMore_81 rfl ?_
              refine j_istore (pc := 85) (i := 4) (ls' := [(0, vR 88), (1, vI t), (2, vI b), (3, vI c), (4, vI 1)]) [1, 2, 3, 4, 0] dX12_findMore_85 (Nat.le_of_ble_eq_true rfl) rfl rfl ?_
              have t9 : ∀ j : Int, b ≤ j → j ≤ t → TOK (σ 91 0) (okB σ) (σ24 102) j := fun j h1 h2 => TOK_F (fun x => ((hGσ24 102 x (show ¬ ((102 = 88 ∧ (x = 19 ∨ x = 23))) from fun h => absurd h.1 (by decide)))).trans (hGσ16 102 x (show ¬ ((102 = 88 ∧ (x = 19 ∨ x = 23))) from fun h => absurd h.1 (by decide)))) (i3 j h1 h2)
              have f5 : σ24 102 b.toNat = τ 102 b.toNat := ((hGσ24 102 (b.toNat) (show ¬ ((102 = 88 ∧ (b.toNat = 19 ∨ b.toNat = 23))) from fun h => absurd h.1 (by decide)))).trans (hGσ16 102 (b.toNat) (show ¬ ((102 = 88 ∧ (b.toNat = 19 ∨ b.toNat = 23))) from fun h => absurd h.1 (by decide)))
              have f6 : σ24 102 c.toNat = τ 102 c.toNat := ((hGσ24 102 (c.toNat) (show ¬ ((102 = 88 ∧ (c.toNat = 19 ∨ c.toNat = 23))) from fun h => absurd h.1 (by decide)))).trans (hGσ16 102 (c.toNat) (show ¬ ((102 = 88 ∧ (c.toNat = 19 ∨ c.toNat = 23))) from fun h => absurd h.1 (by decide)))
              refine j_aload_n (pc := 87) dX12_findMore_87 rfl rfl ?_
              refine j_getR (pc := 88) (r := 102) fl_X12_50 dX12_findMore_88 (a_88 hM) rfl ?_
              refine j_iload_n (pc := 91) dX12_findMore_91 rfl rfl ?_
              refine j_iload (pc := 92) dX12_findMore_92 rfl ?_
              refine j_ifR_eq (pc := 94) (tgt := 136) ⟨by omega, by omega⟩ dX12_findMore_94 rfl (fun h31 => by exfalso; omega) (fun h31 => ?_)
              refine j_aload_n (pc := 97) dX12_findMore_97 rfl rfl ?_
              refine j_getR (pc := 98) (r := 102) fl_X12_50 dX12_findMore_98 (a_88 hM) rfl ?_
              refine j_iload_n (pc := 101) dX12_findMore_101 rfl rfl ?_
              refine j_iald (pc := 102) dX12_findMore_102 (a_102 hM) (by omega) (by omega) (by decide) ?_
              refine j_topV (show σ24 102 (b.toNat) = τ 102 (b.toNat) from ((hGσ24 102 (b.toNat) (show ¬ ((102 = 88 ∧ (b.toNat = 19 ∨ b.toNat = 23))) from fun h => absurd h.1 (by decide)))).trans (hGσ16 102 (b.toNat) (show ¬ ((102 = 88 ∧ (b.toNat = 19 ∨ b.toNat = 23))) from fun h => absurd h.1 (by decide)))) ?_
              have f32 : (-2147483648 : Int) ≤ τ 102 (b.toNat) ∧ τ 102 (b.toNat) ≤ 2147483647 := hIτ 102 (b.toNat)
              refine j_bipush (pc := 103) dX12_findMore_103 rfl ?_
              refine j_icmpR_eq (pc := 105) (tgt := 125) ⟨by omega, by omega⟩ ⟨by omega, by omega⟩ dX12_findMore_105 rfl (fun h33 => ?_) (fun h33 => ?_)
              · refine j_aload_n (pc := 125) dX12_findMore_125 rfl rfl ?_
                refine j_getR (pc := 126) (r := 102) fl_X12_50 dX12_findMore_126 (a_88 hM) rfl ?_
                refine j_iload_n (pc := 129) dX12_findMore_129 rfl rfl ?_
                refine j_iald (pc := 130) dX12_findMore_130 (a_102 hM) (by omega) (by omega) (by decide) ?_
                refine j_topV (show σ24 102 (c.toNat) = τ 102 (c.toNat) from ((hGσ24 102 (c.toNat) (show ¬ ((102 = 88 ∧ (c.toNat = 19 ∨ c.toNat = 23))) from fun h => absurd h.1 (by decide)))).trans (hGσ16 102 (c.toNat) (show ¬ ((102 = 88 ∧ (c.toNat = 19 ∨ c.toNat = 23))) from fun h => absurd h.1 (by decide)))) ?_
                have g34 : (0 : Int) ≤ τ 102 (c.toNat) ∧ τ 102 (c.toNat) ≤ 39 := (by have q := TOK_in (t9 c (by omega) (by omega)) (by omega) (by omega); omega)
                refine j_iconst (pc := 131) dX12_findMore_131 ?_
                refine j_iadd (pc := 132) dX12_findMore_132 ?_
                refine j_goto (pc := 133) (tgt := 142) dX12_findMore_133 rfl ?_
                refine j_iast (pc := 142) dX12_findMore_142 (a_102 hM) (by omega) (by omega) (by decide) (j_nm (fun σ35 (eσ35 : σ35 = tw_up σ24 102 (b.toNat) ((τ 102 (c.toNat)) + 1)) => ?_))
                have hIσ35 : tw_I σ35 := tw_I_up hIσ24 eσ35 (show (-2147483648 : Int) ≤ (τ 102 (c.toNat)) + 1 ∧ (τ 102 (c.toNat)) + 1 ≤ 2147483647 from ⟨by omega, by omega⟩)
                have hFσ35 : tw_F (fun c j => (c = 88 ∧ (j = 19 ∨ j = 23)) ∨ c = 102) σ σ35 := tw_F_up hFσ24 eσ35 (show (102 = 88 ∧ (b.toNat = 19 ∨ b.toNat = 23)) ∨ 102 = 102 from (Or.inr rfl))
                refine j_iinc (pc := 143) (i := 3) (n := 1) (ls' := [(0, vR 88), (1, vI t), (2, vI b), (3, vI (c + 1))]) [1, 2, 3, 0] dX12_findMore_143 rfl (Nat.le_of_ble_eq_true rfl) rfl rfl ?_
                refine j_goto (pc := 146) (tgt := 41) dX12_findMore_146 rfl ?_
                refine j_ls (ls' := [(0, vR 88), (1, vI t), (2, vI b), (3, vI (c + 1))]) [0, 1, 2, 3] rfl ?_
                exact ih.2 t ⟨by omega, by omega⟩ b ⟨by omega, by omega⟩ (c + 1) ⟨by omega, by omega⟩ σ35 hIσ35 hFσ35 (show t = σ 91 0 from by omega) (show b ≤ t from by omega) (show b < (c + 1) from by omega) (show ∀ j : Int, b ≤ j → j ≤ t → TOK (σ 91 0) (okB σ) (σ35 102) j from (by first | exact fun j h1 h2 => TOK_up eσ35 (by omega) (fun j h1 h2 => TOK_F (fun x => hGσ24 102 x (show ¬ ((102 = 88 ∧ (x = 19 ∨ x = 23))) from fun h => absurd h.1 (by decide))) (i2 j h1 (by omega))) (by first | exact Or.inl rfl | exact Or.inr (Or.inl rfl)) j h1 (by omega) | exact fun j h1 h2 => TOK_up eσ35 (by omega) (fun j h1 h2 => t9 j (by omega) (by omega)) (TOK_old (t9 b (by omega) (by omega)) (by omega)) j h1 (by omega) | exact fun j h1 h2 => TOK_up eσ35 (by omega) (fun j h1 h2 => t9 j (by omega) (by omega)) (TOK_new (f := c) (by omega) (by omega) g9 (by omega) (t9 c (by omega) (by omega)) (by omega)) j h1 (by omega))) (show (100 * b + 41 - (c + 1)).toNat < N_ from by omega)
              · refine j_aload_n (pc := 108) dX12_findMore_108 rfl rfl ?_
                refine j_getR (pc := 109) (r := 102) fl_X12_50 dX12_findMore_109 (a_88 hM) rfl ?_
                refine j_iload_n (pc := 112) dX12_findMore_112 rfl rfl ?_
                refine j_iald (pc := 113) dX12_findMore_113 (a_102 hM) (by omega) (by omega) (by decide) ?_
                refine j_topV (show σ24 102 (c.toNat) = τ 102 (c.toNat) from ((hGσ24 102 (c.toNat) (show ¬ ((102 = 88 ∧ (c.toNat = 19 ∨ c.toNat = 23))) from fun h => absurd h.1 (by decide)))).trans (hGσ16 102 (c.toNat) (show ¬ ((102 = 88 ∧ (c.toNat = 19 ∨ c.toNat = 23))) from fun h => absurd h.1 (by decide)))) ?_
                have g36 : (0 : Int) ≤ τ 102 (c.toNat) ∧ τ 102 (c.toNat) ≤ 39 := (by have q := TOK_in (t9 c (by omega) (by omega)) (by omega) (by omega); omega)
                refine j_iconst (pc := 114) dX12_findMore_114 ?_
                refine j_iadd (pc := 115) dX12_findMore_115 ?_
                refine j_aload_n (pc := 116) dX12_findMore_116 rfl rfl ?_
                refine j_getR (pc := 117) (r := 102) fl_X12_50 dX12_findMore_117 (a_88 hM) rfl ?_
                refine j_iload_n (pc := 120) dX12_findMore_120 rfl rfl ?_
                refine j_iald (pc := 121) dX12_findMore_121 (a_102 hM) (by omega) (by omega) (by decide) ?_
                refine j_topV (show σ24 102 (b.toNat) = τ 102 (b.toNat) from ((hGσ24 102 (b.toNat) (show ¬ ((102 = 88 ∧ (b.toNat = 19 ∨ b.toNat = 23))) from fun h => absurd h.1 (by decide)))).trans (hGσ16 102 (b.toNat) (show ¬ ((102 = 88 ∧ (b.toNat = 19 ∨ b.toNat = 23))) from fun h => absurd h.1 (by decide)))) ?_
                refine j_icmpR_ge (pc := 122) (tgt := 136) ⟨by omega, by omega⟩ ⟨by omega, by omega⟩ dX12_findMore_122 rfl (fun h37 => ?_) (fun h37 => ?_)
                · refine j_aload_n (pc := 136) dX12_findMore_136 rfl rfl ?_
                  refine j_getR (pc := 137) (r := 102) fl_X12_50 dX12_findMore_137 (a_88 hM) rfl ?_
                  refine j_iload_n (pc := 140) dX12_findMore_140 rfl rfl ?_
                  refine j_iald (pc := 141) dX12_findMore_141 (a_102 hM) (by omega) (by omega) (by decide) ?_
                  refine j_topV (show σ24 102 (b.toNat) = τ 102 (b.toNat) from ((hGσ24 102 (b.toNat) (show ¬ ((102 = 88 ∧ (b.toNat = 19 ∨ b.toNat = 23))) from fun h => absurd h.1 (by decide)))).trans (hGσ16 102 (b.toNat) (show ¬ ((102 = 88 ∧ (b.toNat = 19 ∨ b.toNat = 23))) from fun h => absurd h.1 (by decide)))) ?_
                  refine j_iast (pc := 142) dX12_findMore_142 (a_102 hM) (by omega) (by omega) (by decide) (j_nm (fun σ38 (eσ38 : σ38 = tw_up σ24 102 (b.toNat) (τ 102 (b.toNat))) => ?_))
                  have hIσ38 : tw_I σ38 := tw_I_up hIσ24 eσ38 (show (-2147483648 : Int) ≤ τ 102 (b.toNat) ∧ τ 102 (b.toNat) ≤ 2147483647 from ⟨by omega, by omega⟩)
                  have hFσ38 : tw_F (fun c j => (c = 88 ∧ (j = 19 ∨ j = 23)) ∨ c = 102) σ σ38 := tw_F_up hFσ24 eσ38 (show (102 = 88 ∧ (b.toNat = 19 ∨ b.toNat = 23)) ∨ 102 = 102 from (Or.inr rfl))
                  refine j_iinc (pc := 143) (i := 3) (n := 1) (ls' := [(0, vR 88), (1, vI t), (2, vI b), (3, vI (c + 1))]) [1, 2, 3, 0] dX12_findMore_143 rfl (Nat.le_of_ble_eq_true rfl) rfl rfl ?_
                  refine j_goto (pc := 146) (tgt := 41) dX12_findMore_146 rfl ?_
                  refine j_ls (ls' := [(0, vR 88), (1, vI t), (2, vI b), (3, vI (c + 1))]) [0, 1, 2, 3] rfl ?_
                  exact ih.2 t ⟨by omega, by omega⟩ b ⟨by omega, by omega⟩ (c + 1) ⟨by omega, by omega⟩ σ38 hIσ38 hFσ38 (show t = σ 91 0 from by omega) (show b ≤ t from by omega) (show b < (c + 1) from by omega) (show ∀ j : Int, b ≤ j → j ≤ t → TOK (σ 91 0) (okB σ) (σ38 102) j from (by first | exact fun j h1 h2 => TOK_up eσ38 (by omega) (fun j h1 h2 => TOK_F (fun x => hGσ24 102 x (show ¬ ((102 = 88 ∧ (x = 19 ∨ x = 23))) from fun h => absurd h.1 (by decide))) (i2 j h1 (by omega))) (by first | exact Or.inl rfl | exact Or.inr (Or.inl rfl)) j h1 (by omega) | exact fun j h1 h2 => TOK_up eσ38 (by omega) (fun j h1 h2 => t9 j (by omega) (by omega)) (TOK_old (t9 b (by omega) (by omega)) (by omega)) j h1 (by omega) | exact fun j h1 h2 => TOK_up eσ38 (by omega) (fun j h1 h2 => t9 j (by omega) (by omega)) (TOK_new (f := c) (by omega) (by omega) g9 (by omega) (t9 c (by omega) (by omega)) (by omega)) j h1 (by omega))) (show (100 * b + 41 - (c + 1)).toNat < N_ from by omega)
                · refine j_aload_n (pc := 125) dX12_findMore_125 rfl rfl ?_
                  refine j_getR (pc := 126) (r := 102) fl_X12_50 dX12_findMore_126 (a_88 hM) rfl ?_
                  refine j_iload_n (pc := 129) dX12_findMore_129 rfl rfl ?_
                  refine j_iald (pc := 130) dX12_findMore_130 (a_102 hM) (by omega) (by omega) (by decide) ?_
                  refine j_topV (show σ24 102 (c.toNat) = τ 102 (c.toNat) from ((hGσ24 102 (c.toNat) (show ¬ ((102 = 88 ∧ (c.toNat = 19 ∨ c.toNat = 23))) from fun h => absurd h.1 (by decide)))).trans (hGσ16 102 (c.toNat) (show ¬ ((102 = 88 ∧ (c.toNat = 19 ∨ c.toNat = 23))) from fun h => absurd h.1 (by decide)))) ?_
                  have g39 : (0 : Int) ≤ τ 102 (c.toNat) ∧ τ 102 (c.toNat) ≤ 39 := (by have q := TOK_in (t9 c (by omega) (by omega)) (by omega) (by omega); omega)
                  refine j_iconst (pc := 131) dX12_findMore_131 ?_
                  refine j_iadd (pc := 132) dX12_findMore_132 ?_
                  refine j_goto (pc := 133) (tgt := 142) dX12_findMore_133 rfl ?_
                  refine j_iast (pc := 142) dX12_findMore_142 (a_102 hM) (by omega) (by omega) (by decide) (j_nm (fun σ40 (eσ40 : σ40 = tw_up σ24 102 (b.toNat) ((τ 102 (c.toNat)) + 1)) => ?_))
                  have hIσ40 : tw_I σ40 := tw_I_up hIσ24 eσ40 (show (-2147483648 : Int) ≤ (τ 102 (c.toNat)) + 1 ∧ (τ 102 (c.toNat)) + 1 ≤ 2147483647 from ⟨by omega, by omega⟩)
                  have hFσ40 : tw_F (fun c j => (c = 88 ∧ (j = 19 ∨ j = 23)) ∨ c = 102) σ σ40 := tw_F_up hFσ24 eσ40 (show (102 = 88 ∧ (b.toNat = 19 ∨ b.toNat = 23)) ∨ 102 = 102 from (Or.inr rfl))
                  refine j_iinc (pc := 143) (i := 3) (n := 1) (ls' := [(0, vR 88), (1, vI t), (2, vI b), (3, vI (c + 1))]) [1, 2, 3, 0] dX12_findMore_143 rfl (Nat.le_of_ble_eq_true rfl) rfl rfl ?_
                  refine j_goto (pc := 146) (tgt := 41) dX12_findMore_146 rfl ?_
                  refine j_ls (ls' := [(0, vR 88), (1, vI t), (2, vI b), (3, vI (c + 1))]) [0, 1, 2, 3] rfl ?_
                  exact ih.2 t ⟨by omega, by omega⟩ b ⟨by omega, by omega⟩ (c + 1) ⟨by omega, by omega⟩ σ40 hIσ40 hFσ40 (show t = σ 91 0 from by omega) (show b ≤ t from by omega) (show b < (c + 1) from by omega) (show ∀ j : Int, b ≤ j → j ≤ t → TOK (σ 91 0) (okB σ) (σ40 102) j from (by first | exact fun j h1 h2 => TOK_up eσ40 (by omega) (fun j h1 h2 => TOK_F (fun x => hGσ24 102 x (show ¬ ((102 = 88 ∧ (x = 19 ∨ x = 23))) from fun h => absurd h.1 (by decide))) (i2 j h1 (by omega))) (by first | exact Or.inl rfl | exact Or.inr (Or.inl rfl)) j h1 (by omega) | exact fun j h1 h2 => TOK_up eσ40 (by omega) (fun j h1 h2 => t9 j (by omega) (by omega)) (TOK_old (t9 b (by omega) (by omega)) (by omega)) j h1 (by omega) | exact fun j h1 h2 => TOK_up eσ40 (by omega) (fun j h1 h2 => t9 j (by omega) (by omega)) (TOK_new (f := c) (by omega) (by omega) g9 (by omega) (t9 c (by omega) (by omega)) (by omega)) j h1 (by omega))) (show (100 * b + 41 - (c + 1)).toNat < N_ from by omega)
set_option maxHeartbeats 4000000 in
set_option maxRecDepth 100000 in
theorem c_X12_findMore {G : tw_G} (hM : tw_isM G) (σ : tw_M) (hI : tw_I σ) : tw_C G yX12_findMore cX12_findMore 5 none 4 [vR 88] σ (q_X12_findMore σ) := by
  refine tw_met [(0, vR 88)] (by decide +kernel) rfl (Nat.le_of_ble_eq_true rfl) ?_
  have ft : (1 : Int) ≤ σ 91 0 ∧ σ 91 0 ≤ 40 := hI 91 0
  refine j_aload_n (pc := 0) dX12_findMore_0 rfl rfl ?_
  refine j_getR (pc := 1) (r := 91) fl_X12_17 dX12_findMore_1 (a_88 hM) rfl ?_
  refine j_iconst (pc := 4) dX12_findMore_4 ?_
  refine j_iald (pc := 5) dX12_findMore_5 (a_91 hM) (by omega) (by omega) (by decide) ?_
  refine j_topV (show σ 91 (Int.toNat 0) = σ 91 0 from rfl) ?_
  have f41 : (1 : Int) ≤ σ 91 0 ∧ σ 91 0 ≤ 40 := hI 91 0
  refine j_istore_n (pc := 6) (i := 1) (ls' := [(0, vR 88), (1, vI (σ 91 0))]) [1, 0] dX12_findMore_6 rfl (Nat.le_of_ble_eq_true rfl) rfl rfl ?_
  refine j_iload_n (pc := 7) dX12_findMore_7 rfl rfl ?_
  refine j_istore_n (pc := 8) (i := 2) (ls' := [(0, vR 88), (1, vI (σ 91 0)), (2, vI (σ 91 0))]) [1, 2, 0] dX12_findMore_8 rfl (Nat.le_of_ble_eq_true rfl) rfl rfl ?_
  refine j_ls (ls' := [(0, vR 88), (1, vI (σ 91 0)), (2, vI (σ 91 0))]) [0, 1, 2] rfl ?_
  exact (l_X12_findMore hM σ hI (((100 * (σ 91 0) + 50).toNat) + 1)).1 (σ 91 0) ⟨by omega, by omega⟩ (σ 91 0) ⟨by omega, by omega⟩ σ hI (tw_F_rf) (show (σ 91 0) = σ 91 0 from by omega) (show (σ 91 0) ≤ (σ 91 0) from by omega) (show ∀ j : Int, (σ 91 0) < j → j ≤ (σ 91 0) → TOK (σ 91 0) (okB σ) (σ 102) j from (fun j h1 h2 => by exfalso; omega)) (Nat.lt_succ_self _)
abbrev q_X12_canBegin (b : Int) (σ : tw_M) : Option tw_V → tw_M → Prop := fun z τ => ∃ r : Int, z = some (vI r) ∧ (0 ≤ r ∧ r ≤ 1) ∧ tw_I τ ∧ tw_F (fun c j => (c = 88 ∧ (j = 19 ∨ j = 23))) σ τ ∧ (r = 0 ∨ ¬ σ 102 b.toNat = -4)
set_option maxHeartbeats 4000000 in
set_option maxRecDepth 100000 in
theorem c_X12_canBegin {G : tw_G} (hM : tw_isM G) (b : Int) (hb : 1 ≤ b ∧ b ≤ 40) (σ : tw_M) (hI : tw_I σ) : tw_C G yX12_canBegin cX12_canBegin 2 (some .boolean) 3 [vR 88, vI b] σ (q_X12_canBegin b σ) := by
  refine tw_met [(0, vR 88), (1, vI b)] (by decide +kernel) rfl (Nat.le_of_ble_eq_true rfl) ?_
  refine j_iload_n (pc := 0) dX12_canBegin_0 rfl rfl ?_
  refine j_aload_n (pc := 1) dX12_canBegin_1 rfl rfl ?_
  refine j_getR (pc := 2) (r := 91) fl_X12_17 dX12_canBegin_2 (a_88 hM) rfl ?_
  refine j_bipush (pc := 5) dX12_canBegin_5 rfl ?_
  refine j_iald (pc := 7) dX12_canBegin_7 (a_91 hM) (by omega) (by omega) (by decide) ?_
  refine j_topV (show σ 91 (Int.toNat 8) = σ 91 8 from rfl) ?_
  have f1 : (0 : Int) ≤ σ 91 8 ∧ σ 91 8 ≤ 9 := hI 91 8
  refine j_iconst (pc := 8) dX12_canBegin_8 ?_
  refine j_iadd (pc := 9) dX12_canBegin_9 ?_
  refine j_icmpR_gt (pc := 10) (tgt := 48) ⟨by omega, by omega⟩ ⟨by omega, by omega⟩ dX12_canBegin_10 rfl (fun h2 => ?_) (fun h2 => ?_)
  · refine j_iconst (pc := 48) dX12_canBegin_48 ?_
    exact j_zret (pc := 49) ⟨rfl, rfl⟩ dX12_canBegin_49 rfl (nar_bool (by omega) (by omega)) ⟨_, rfl, ⟨by omega, by omega⟩, hI, (tw_F_rf), by omega⟩
  · refine j_aload_n (pc := 13) dX12_canBegin_13 rfl rfl ?_
    refine j_getR (pc := 14) (r := 102) fl_X12_50 dX12_canBegin_14 (a_88 hM) rfl ?_
    refine j_iload_n (pc := 17) dX12_canBegin_17 rfl rfl ?_
    refine j_iald (pc := 18) dX12_canBegin_18 (a_102 hM) (by omega) (by omega) (by decide) ?_
    have f3 : (-2147483648 : Int) ≤ σ 102 (b.toNat) ∧ σ 102 (b.toNat) ≤ 2147483647 := hI 102 (b.toNat)
    refine j_bipush (pc := 19) dX12_canBegin_19 rfl ?_
    refine j_icmpR_eq (pc := 21) (tgt := 48) ⟨by omega, by omega⟩ ⟨by omega, by omega⟩ dX12_canBegin_21 rfl (fun h4 => ?_) (fun h4 => ?_)
    · refine j_iconst (pc := 48) dX12_canBegin_48 ?_
      exact j_zret (pc := 49) ⟨rfl, rfl⟩ dX12_canBegin_49 rfl (nar_bool (by omega) (by omega)) ⟨_, rfl, ⟨by omega, by omega⟩, hI, (tw_F_rf), by omega⟩
    · refine j_iload_n (pc := 24) dX12_canBegin_24 rfl rfl ?_
      refine j_aload_n (pc := 25) dX12_canBegin_25 rfl rfl ?_
      refine j_getR (pc := 26) (r := 91) fl_X12_17 dX12_canBegin_26 (a_88 hM) rfl ?_
      refine j_bipush (pc := 29) dX12_canBegin_29 rfl ?_
      refine j_iald (pc := 31) dX12_canBegin_31 (a_91 hM) (by omega) (by omega) (by decide) ?_
      refine j_topV (show σ 91 (Int.toNat 8) = σ 91 8 from rfl) ?_
      refine j_icmpR_le (pc := 32) (tgt := 44) ⟨by omega, by omega⟩ ⟨by omega, by omega⟩ dX12_canBegin_32 rfl (fun h5 => ?_) (fun h5 => ?_)
      · refine j_iconst (pc := 44) dX12_canBegin_44 ?_
        refine j_goto (pc := 45) (tgt := 49) dX12_canBegin_45 rfl ?_
        exact j_zret (pc := 49) ⟨rfl, rfl⟩ dX12_canBegin_49 rfl (nar_bool (by omega) (by omega)) ⟨_, rfl, ⟨by omega, by omega⟩, hI, (tw_F_rf), by omega⟩
      · refine j_aload_n (pc := 35) dX12_canBegin_35 rfl rfl ?_
        refine j_iload_n (pc := 36) dX12_canBegin_36 rfl rfl ?_
        refine j_iload_n (pc := 37) dX12_canBegin_37 rfl rfl ?_
        refine j_callV (pc := 38) (As := [vI b, vI b]) (st := []) (c_X12_isClear hM b ⟨by omega, by omega⟩ b ⟨by omega, by omega⟩ σ hI) mv_X12_356 rfl rfl rfl (a_88 hM) dX12_canBegin_38 ⟨Nat.le_of_ble_eq_true rfl, Nat.le_of_ble_eq_true rfl⟩ ⟨Nat.le_refl _, Nat.le_refl _⟩ rfl (Nat.le_of_ble_eq_true rfl) rfl (fun z6 σ7 hz6 => ?_)
        obtain ⟨r9, rfl, hr9, hIσ7, hGσ7, q8_0⟩ := hz6
        replace q8_0 : (r9 = 1 ∧ mIC σ b b) ∨ (r9 = 0 ∧ ¬ mIC σ b b) := q8_0
        have hFσ7 : tw_F (fun c j => (c = 88 ∧ (j = 19 ∨ j = 23))) σ σ7 := tw_F_tr (tw_F_rf) hGσ7 (fun c j q => (show (c = 88 ∧ (j = 19 ∨ j = 23)) from by replace q : (c = 88 ∧ (j = 19 ∨ j = 23)) := q; exact q))
        refine j_st (st' := [vI r9]) rfl ?_
        refine j_ifR_eq (pc := 41) (tgt := 48) ⟨by omega, by omega⟩ dX12_canBegin_41 rfl (fun h10 => ?_) (fun h10 => ?_)
        · refine j_iconst (pc := 48) dX12_canBegin_48 ?_
          exact j_zret (pc := 49) ⟨rfl, rfl⟩ dX12_canBegin_49 rfl (nar_bool (by omega) (by omega)) ⟨_, rfl, ⟨by omega, by omega⟩, hIσ7, hFσ7, by omega⟩
        · refine j_iconst (pc := 44) dX12_canBegin_44 ?_
          refine j_goto (pc := 45) (tgt := 49) dX12_canBegin_45 rfl ?_
          exact j_zret (pc := 49) ⟨rfl, rfl⟩ dX12_canBegin_49 rfl (nar_bool (by omega) (by omega)) ⟨_, rfl, ⟨by omega, by omega⟩, hIσ7, hFσ7, by omega⟩
abbrev q_X12_findBolts  (σ : tw_M) : Option tw_V → tw_M → Prop := fun z τ => z = none ∧ tw_I τ ∧ tw_F (fun c j => (c = 88 ∧ (j = 19 ∨ j = 23 ∨ j = 34)) ∨ (102 ≤ c ∧ c < 104)) σ τ ∧ True
set_option maxHeartbeats 4000000 in
set_option maxRecDepth 100000 in
theorem l_X12_findBolts {G : tw_G} (hM : tw_isM G) (σ : tw_M) (hI : tw_I σ) : ∀ N_ : Nat, (∀ (f : Int) (hf : 0 ≤ f ∧ f ≤ 40) (b : Int) (hb : 0 ≤ b ∧ b ≤ 40) (τ : tw_M) (hIτ : tw_I τ) (hFτ : tw_F (fun c j => (c = 88 ∧ (j = 19 ∨ j = 23 ∨ j = 34)) ∨ (102 ≤ c ∧ c < 104)) σ τ) (i0 : ∀ j : Int, 1 ≤ j → j ≤ σ 91 0 → TOK (σ 91 0) (okB σ) (τ 102) j) (i1 : b ≤ σ 91 0) (i2 : (f = 0 ∧ τ 88 34 = -4) ∨ (1 ≤ f ∧ f ≤ σ 91 0 ∧ ¬ τ 102 f.toNat = -4 ∧ τ 88 34 = τ 102 f.toNat + 1)) (hm : (100000 + b).toNat < N_), tw_J G (tw_mt RX12 cX12_findBolts 6 none 5) (tw_E G (q_X12_findBolts σ)) 44 [(0, vR 88), (2, vI f), (3, vI b)] [] τ) ∧ (∀ (a : Int) (ha : 0 ≤ a ∧ a ≤ 41) (i : Int) (hi : 0 ≤ i ∧ i ≤ 40) (τ : tw_M) (hIτ : tw_I τ) (hFτ : tw_F (fun c j => (c = 88 ∧ (j = 19 ∨ j = 23 ∨ j = 34)) ∨ (102 ≤ c ∧ c < 104)) σ τ) (i0 : ∀ j : Int, 1 ≤ j → j ≤ σ 91 0 → TOK (σ 91 0) (okB σ) (τ 102) j) (i1 : τ 88 34 = -4 ∨ i = τ 88 34 ∨ (i < τ 88 34 ∧ 1 ≤ a ∧ a ≤ σ 91 0 ∧ τ 102 a.toNat = τ 88 34 - 1 - i)) (hm : (100 * (41 - i) + 50).toNat < N_), tw_J G (tw_mt RX12 cX12_findBolts 6 none 5) (tw_E G (q_X12_findBolts σ)) 133 [(0, vR 88), (3, vI a), (4, vI i)] [] τ) ∧ (∀ (a : Int) (ha : 1 ≤ a ∧ a ≤ 40) (i : Int) (hi : 0 ≤ i ∧ i ≤ 39) (c : Int) (hc : 1 ≤ c ∧ c ≤ 41) (τ : tw_M) (hIτ : tw_I τ) (hFτ : tw_F (fun c j => (c = 88 ∧ (j = 19 ∨ j = 23 ∨ j = 34)) ∨ (102 ≤ c ∧ c < 104)) σ τ) (i0 : ∀ j : Int, 1 ≤ j → j ≤ σ 91 0 → TOK (σ 91 0) (okB σ) (τ 102) j) (i1 : i < τ 88 34 ∧ a ≤ σ 91 0 ∧ τ 102 a.toNat = τ 88 34 - 1 - i) (i2 : a < c) (i3 : i + 1 = τ 88 34 ∨ TW (σ 91 0) (okB σ) (τ 102) a c) (hm : (100 * (41 - i) + 41 - c).toNat < N_), tw_J G (tw_mt RX12 cX12_findBolts 6 none 5) (tw_E G (q_X12_findBolts σ)) 155 [(0, vR 88), (3, vI a), (4, vI i), (5, vI c)] [] τ) := by
  intro N_
  induction N_ with
  | zero => exact ⟨fun f hf b hb τ hIτ hFτ i0 i1 i2 hm => absurd hm (Nat.not_lt_zero _), fun a ha i hi τ hIτ hFτ i0 i1 hm => absurd hm (Nat.not_lt_zero _), fun a ha i hi c hc τ hIτ hFτ i0 i1 i2 i3 hm => absurd hm (Nat.not_lt_zero _)⟩
  | succ N_ ih =>
    refine ⟨?_, ?_, ?_⟩
    · intro f hf b hb τ hIτ hFτ i0 i1 i2 hm
      have ft : (1 : Int) ≤ σ 91 0 ∧ σ 91 0 ≤ 40 := hI 91 0
      have f91 := hFτ 91 0 (show ¬ ((91 = 88 ∧ (0 = 19 ∨ 0 = 23 ∨ 0 = 34)) ∨ (102 ≤ 91 ∧ 91 < 104)) from by decide)
      refine j_iload_n (pc := 44) dX12_findBolts_44 rfl rfl ?_
      refine j_ifR_le (pc := 45) (tgt := 128) ⟨by omega, by omega⟩ dX12_findBolts_45 rfl (fun h1 => ?_) (fun h1 => ?_)
      · have b9 : f = 0 ∨ 0 ≤ τ 102 f.toNat := by
          rcases i2 with ⟨q, _⟩ | ⟨q1, q2, q3, q4⟩
          · exact Or.inl q
          · exact Or.inr (TOK_in (i0 f (by omega) (by omega)) (by omega) q3).1
        refine j_iload_n (pc := 128) dX12_findBolts_128 rfl rfl ?_
        refine j_istore_n (pc := 129) (i := 3) (ls' := [(0, vR 88), (3, vI f)]) [1, 0] dX12_findBolts_129 rfl (Nat.le_of_ble_eq_true rfl) rfl rfl ?_
        refine j_iconst (pc := 130) dX12_findBolts_130 ?_
        refine j_istore (pc := 131) (i := 4) (ls' := [(0, vR 88), (3, vI f), (4, vI 0)]) [1, 2, 0] dX12_findBolts_131 (Nat.le_of_ble_eq_true rfl) rfl rfl ?_
        refine j_ls (ls' := [(0, vR 88), (3, vI f), (4, vI 0)]) [0, 1, 2] rfl ?_
        exact ih.2.1 f ⟨by omega, by omega⟩ 0 (by (first | decide | exact ⟨by omega, by omega⟩)) τ hIτ hFτ (show ∀ j : Int, 1 ≤ j → j ≤ σ 91 0 → TOK (σ 91 0) (okB σ) (τ 102) j from (fun j h1 h2 => TOK_F (fun x => rfl) (i0 j h1 h2))) (show τ 88 34 = -4 ∨ (0 : Int) = τ 88 34 ∨ ((0 : Int) < τ 88 34 ∧ 1 ≤ f ∧ f ≤ σ 91 0 ∧ τ 102 f.toNat = τ 88 34 - 1 - (0 : Int)) from by omega) (show (100 * (41 - (0 : Int)) + 50).toNat < N_ from by omega)
      · refine j_aload_n (pc := 48) dX12_findBolts_48 rfl rfl ?_
        refine j_iload_n (pc := 49) dX12_findBolts_49 rfl rfl ?_
        refine j_callV (pc := 50) (As := [vI b]) (st := []) (c_X12_canBegin hM b ⟨by omega, by omega⟩ τ hIτ) mv_X12_369 rfl rfl rfl (a_88 hM) dX12_findBolts_50 ⟨Nat.le_of_ble_eq_true rfl, Nat.le_of_ble_eq_true rfl⟩ ⟨Nat.le_refl _, Nat.le_refl _⟩ rfl (Nat.le_of_ble_eq_true rfl) rfl (fun z2 σ3 hz2 => ?_)
        obtain ⟨r5, rfl, hr5, hIσ3, hGσ3, q4_0⟩ := hz2
        replace q4_0 : r5 = 0 ∨ ¬ τ 102 b.toNat = -4 := q4_0
        have hFσ3 : tw_F (fun c j => (c = 88 ∧ (j = 19 ∨ j = 23 ∨ j = 34)) ∨ (102 ≤ c ∧ c < 104)) σ σ3 := tw_F_tr hFτ hGσ3 (fun c j q => (show (c = 88 ∧ (j = 19 ∨ j = 23 ∨ j = 34)) ∨ (102 ≤ c ∧ c < 104) from by replace q : (c = 88 ∧ (j = 19 ∨ j = 23)) := q; exact (Or.inl ⟨q.1, (q.2.elim (fun z => (Or.inl z)) (fun z => (Or.inr (Or.inl z))))⟩)))
        refine j_st (st' := [vI r5]) rfl ?_
        refine j_ifR_eq (pc := 53) (tgt := 84) ⟨by omega, by omega⟩ dX12_findBolts_53 rfl (fun h6 => ?_) (fun h6 => ?_)
        · refine j_iconst (pc := 84) dX12_findBolts_84 ?_
          refine j_istore (pc := 85) (i := 4) (ls' := [(0, vR 88), (2, vI f), (3, vI b), (4, vI 0)]) [1, 2, 3, 0] dX12_findBolts_85 (Nat.le_of_ble_eq_true rfl) rfl rfl ?_
          refine j_aload_n (pc := 87) dX12_findBolts_87 rfl rfl ?_
          refine j_iload (pc := 88) dX12_findBolts_88 rfl ?_
          refine j_ifR_eq (pc := 90) (tgt := 104) ⟨by omega, by omega⟩ dX12_findBolts_90 rfl (fun h7 => ?_) (fun h7 => by exfalso; omega)
          refine j_aload_n (pc := 104) dX12_findBolts_104 rfl rfl ?_
          refine j_getI (pc := 105) fl_X12_363 dX12_findBolts_105 (a_88 hM) rfl ?_
          refine j_topV (show σ3 88 34 = τ 88 34 from (hGσ3 88 34 (show ¬ ((88 = 88 ∧ (34 = 19 ∨ 34 = 23))) from by decide))) ?_
          have f8 : (-4 : Int) ≤ τ 88 34 ∧ τ 88 34 ≤ 40 := hIτ 88 34
          refine j_putI (pc := 108) fl_X12_363 fp_X12_34 dX12_findBolts_108 (a_88 hM) rfl (j_nm (fun σ9 (eσ9 : σ9 = tw_up σ3 88 34 (τ 88 34)) => ?_))
          have hIσ9 : tw_I σ9 := tw_I_up hIσ3 eσ9 (show (-4 : Int) ≤ τ 88 34 ∧ τ 88 34 ≤ 40 from ⟨by omega, by omega⟩)
          have hFσ9 : tw_F (fun c j => (c = 88 ∧ (j = 19 ∨ j = 23 ∨ j = 34)) ∨ (102 ≤ c ∧ c < 104)) σ σ9 := tw_F_up hFσ3 eσ9 (show (88 = 88 ∧ (34 = 19 ∨ 34 = 23 ∨ 34 = 34)) ∨ (102 ≤ 88 ∧ 88 < 104) from (Or.inl ⟨rfl, (Or.inr (Or.inr rfl))⟩))
          refine j_iload (pc := 111) dX12_findBolts_111 rfl ?_
          refine j_ifR_eq (pc := 113) (tgt := 120) ⟨by omega, by omega⟩ dX12_findBolts_113 rfl (fun h10 => ?_) (fun h10 => by exfalso; omega)
          refine j_iload_n (pc := 120) dX12_findBolts_120 rfl rfl ?_
          refine j_istore_n (pc := 121) (i := 2) (ls' := [(0, vR 88), (2, vI f), (3, vI b)]) [1, 0, 2] dX12_findBolts_121 rfl (Nat.le_of_ble_eq_true rfl) rfl rfl ?_
          refine j_iinc (pc := 122) (i := 3) (n := -1) (ls' := [(0, vR 88), (2, vI f), (3, vI (b + (-1)))]) [1, 2, 0] dX12_findBolts_122 rfl (Nat.le_of_ble_eq_true rfl) rfl rfl ?_
          refine j_goto (pc := 125) (tgt := 44) dX12_findBolts_125 rfl ?_
          refine j_ls (ls' := [(0, vR 88), (2, vI f), (3, vI (b + (-1)))]) [0, 1, 2] rfl ?_
          have y11 : σ9 88 34 = τ 88 34 := (tw_eq1 eσ9)
          have y12 : σ9 102 (f.toNat) = τ 102 (f.toNat) := ((tw_ne1 eσ9 (by (first | decide | omega)))).trans (hGσ3 102 (f.toNat) (show ¬ ((102 = 88 ∧ (f.toNat = 19 ∨ f.toNat = 23))) from fun h => absurd h.1 (by decide)))
          exact ih.1 f ⟨by omega, by omega⟩ (b + (-1)) ⟨by omega, by omega⟩ σ9 hIσ9 hFσ9 (show ∀ j : Int, 1 ≤ j → j ≤ σ 91 0 → TOK (σ 91 0) (okB σ) (σ9 102) j from (fun j h1 h2 => TOK_F (fun x => ((tw_ne1 eσ9 (by (first | decide | omega)))).trans (hGσ3 102 x (show ¬ ((102 = 88 ∧ (x = 19 ∨ x = 23))) from fun h => absurd h.1 (by decide)))) (i0 j h1 h2))) (show (b + (-1)) ≤ σ 91 0 from by omega) (show (f = 0 ∧ σ9 88 34 = -4) ∨ (1 ≤ f ∧ f ≤ σ 91 0 ∧ ¬ σ9 102 f.toNat = -4 ∧ σ9 88 34 = σ9 102 f.toNat + 1) from by omega) (show (100000 + (b + (-1))).toNat < N_ from by omega)
        · refine j_aload_n (pc := 56) dX12_findBolts_56 rfl rfl ?_
          refine j_getI (pc := 57) fl_X12_363 dX12_findBolts_57 (a_88 hM) rfl ?_
          refine j_topV (show σ3 88 34 = τ 88 34 from (hGσ3 88 34 (show ¬ ((88 = 88 ∧ (34 = 19 ∨ 34 = 23))) from by decide))) ?_
          have f13 : (-4 : Int) ≤ τ 88 34 ∧ τ 88 34 ≤ 40 := hIτ 88 34
          refine j_bipush (pc := 60) dX12_findBolts_60 rfl ?_
          refine j_icmpR_eq (pc := 62) (tgt := 80) ⟨by omega, by omega⟩ ⟨by omega, by omega⟩ dX12_findBolts_62 rfl (fun h14 => ?_) (fun h14 => ?_)
          · refine j_iconst (pc := 80) dX12_findBolts_80 ?_
            refine j_goto (pc := 81) (tgt := 85) dX12_findBolts_81 rfl ?_
            refine j_istore (pc := 85) (i := 4) (ls' := [(0, vR 88), (2, vI f), (3, vI b), (4, vI 1)]) [1, 2, 3, 0] dX12_findBolts_85 (Nat.le_of_ble_eq_true rfl) rfl rfl ?_
            refine j_aload_n (pc := 87) dX12_findBolts_87 rfl rfl ?_
            refine j_iload (pc := 88) dX12_findBolts_88 rfl ?_
            refine j_ifR_eq (pc := 90) (tgt := 104) ⟨by omega, by omega⟩ dX12_findBolts_90 rfl (fun h15 => by exfalso; omega) (fun h15 => ?_)
            refine j_aload_n (pc := 93) dX12_findBolts_93 rfl rfl ?_
            refine j_getR (pc := 94) (r := 102) fl_X12_50 dX12_findBolts_94 (a_88 hM) rfl ?_
            refine j_iload_n (pc := 97) dX12_findBolts_97 rfl rfl ?_
            refine j_iald (pc := 98) dX12_findBolts_98 (a_102 hM) (by omega) (by omega) (by decide) ?_
            refine j_topV (show σ3 102 (b.toNat) = τ 102 (b.toNat) from (hGσ3 102 (b.toNat) (show ¬ ((102 = 88 ∧ (b.toNat = 19 ∨ b.toNat = 23))) from fun h => absurd h.1 (by decide)))) ?_
            have f16 : (-2147483648 : Int) ≤ τ 102 (b.toNat) ∧ τ 102 (b.toNat) ≤ 2147483647 := hIτ 102 (b.toNat)
            have g17 : (0 : Int) ≤ τ 102 (b.toNat) ∧ τ 102 (b.toNat) ≤ 39 := (by have q := TOK_in (i0 b (by omega) (by omega)) (by omega) (by omega); omega)
            refine j_iconst (pc := 99) dX12_findBolts_99 ?_
            refine j_iadd (pc := 100) dX12_findBolts_100 ?_
            refine j_goto (pc := 101) (tgt := 108) dX12_findBolts_101 rfl ?_
            refine j_putI (pc := 108) fl_X12_363 fp_X12_34 dX12_findBolts_108 (a_88 hM) rfl (j_nm (fun σ18 (eσ18 : σ18 = tw_up σ3 88 34 ((τ 102 (b.toNat)) + 1)) => ?_))
            have hIσ18 : tw_I σ18 := tw_I_up hIσ3 eσ18 (show (-4 : Int) ≤ (τ 102 (b.toNat)) + 1 ∧ (τ 102 (b.toNat)) + 1 ≤ 40 from ⟨by omega, by omega⟩)
            have hFσ18 : tw_F (fun c j => (c = 88 ∧ (j = 19 ∨ j = 23 ∨ j = 34)) ∨ (102 ≤ c ∧ c < 104)) σ σ18 := tw_F_up hFσ3 eσ18 (show (88 = 88 ∧ (34 = 19 ∨ 34 = 23 ∨ 34 = 34)) ∨ (102 ≤ 88 ∧ 88 < 104) from (Or.inl ⟨rfl, (Or.inr (Or.inr rfl))⟩))
            refine j_iload (pc := 111) dX12_findBolts_111 rfl ?_
            refine j_ifR_eq (pc := 113) (tgt := 120) ⟨by omega, by omega⟩ dX12_findBolts_113 rfl (fun h19 => by exfalso; omega) (fun h19 => ?_)
            refine j_iload_n (pc := 116) dX12_findBolts_116 rfl rfl ?_
            refine j_goto (pc := 117) (tgt := 121) dX12_findBolts_117 rfl ?_
            refine j_istore_n (pc := 121) (i := 2) (ls' := [(0, vR 88), (2, vI b), (3, vI b)]) [1, 0, 2] dX12_findBolts_121 rfl (Nat.le_of_ble_eq_true rfl) rfl rfl ?_
            refine j_iinc (pc := 122) (i := 3) (n := -1) (ls' := [(0, vR 88), (2, vI b), (3, vI (b + (-1)))]) [1, 2, 0] dX12_findBolts_122 rfl (Nat.le_of_ble_eq_true rfl) rfl rfl ?_
            refine j_goto (pc := 125) (tgt := 44) dX12_findBolts_125 rfl ?_
            refine j_ls (ls' := [(0, vR 88), (2, vI b), (3, vI (b + (-1)))]) [0, 1, 2] rfl ?_
            have y20 : σ18 88 34 = (τ 102 (b.toNat)) + 1 := (tw_eq1 eσ18)
            have y21 : σ18 102 (b.toNat) = τ 102 (b.toNat) := ((tw_ne1 eσ18 (by (first | decide | omega)))).trans (hGσ3 102 (b.toNat) (show ¬ ((102 = 88 ∧ (b.toNat = 19 ∨ b.toNat = 23))) from fun h => absurd h.1 (by decide)))
            exact ih.1 b ⟨by omega, by omega⟩ (b + (-1)) ⟨by omega, by omega⟩ σ18 hIσ18 hFσ18 (show ∀ j : Int, 1 ≤ j → j ≤ σ 91 0 → TOK (σ 91 0) (okB σ) (σ18 102) j from (fun j h1 h2 => TOK_F (fun x => ((tw_ne1 eσ18 (by (first | decide | omega)))).trans (hGσ3 102 x (show ¬ ((102 = 88 ∧ (x = 19 ∨ x = 23))) from fun h => absurd h.1 (by decide)))) (i0 j h1 h2))) (show (b + (-1)) ≤ σ 91 0 from by omega) (show (b = 0 ∧ σ18 88 34 = -4) ∨ (1 ≤ b ∧ b ≤ σ 91 0 ∧ ¬ σ18 102 b.toNat = -4 ∧ σ18 88 34 = σ18 102 b.toNat + 1) from by omega) (show (100000 + (b + (-1))).toNat < N_ from by omega)
          · refine j_aload_n (pc := 65) dX12_findBolts_65 rfl rfl ?_
            refine j_getR (pc := 66) (r := 102) fl_X12_50 dX12_findBolts_66 (a_88 hM) rfl ?_
            refine j_iload_n (pc := 69) dX12_findBolts_69 rfl rfl ?_
            refine j_iald (pc := 70) dX12_findBolts_70 (a_102 hM) (by omega) (by omega) (by decide) ?_
            refine j_topV (show σ3 102 (b.toNat) = τ 102 (b.toNat) from (hGσ3 102 (b.toNat) (show ¬ ((102 = 88 ∧ (b.toNat = 19 ∨ b.toNat = 23))) from fun h => absurd h.1 (by decide)))) ?_
            have f22 : (-2147483648 : Int) ≤ τ 102 (b.toNat) ∧ τ 102 (b.toNat) ≤ 2147483647 := hIτ 102 (b.toNat)
            have g23 : (0 : Int) ≤ τ 102 (b.toNat) ∧ τ 102 (b.toNat) ≤ 39 := (by have q := TOK_in (i0 b (by omega) (by omega)) (by omega) (by omega); omega)
            refine j_iconst (pc := 71) dX12_findBolts_71 ?_
            refine j_iadd (pc := 72) dX12_findBolts_72 ?_
            refine j_aload_n (pc := 73) dX12_findBolts_73 rfl rfl ?_
            refine j_getI (pc := 74) fl_X12_363 dX12_findBolts_74 (a_88 hM) rfl ?_
            refine j_topV (show σ3 88 34 = τ 88 34 from (hGσ3 88 34 (show ¬ ((88 = 88 ∧ (34 = 19 ∨ 34 = 23))) from by decide))) ?_
            refine j_icmpR_gt (pc := 77) (tgt := 84) ⟨by omega, by omega⟩ ⟨by omega, by omega⟩ dX12_findBolts_77 rfl (fun h24 => ?_) (fun h24 => ?_)
            · refine j_iconst (pc := 84) dX12_findBolts_84 ?_
              refine j_istore (pc := 85) (i := 4) (ls' := [(0, vR 88), (2, vI f), (3, vI b), (4, vI 0)]) [1, 2, 3, 0] dX12_findBolts_85 (Nat.le_of_ble_eq_true rfl) rfl rfl ?_
              refine j_aload_n (pc := 87) dX12_findBolts_87 rfl rfl ?_
              refine j_iload (pc := 88) dX12_findBolts_88 rfl ?_
              refine j_ifR_eq (pc := 90) (tgt := 104) ⟨by omega, by omega⟩ dX12_findBolts_90 rfl (fun h25 => ?_) (fun h25 => by exfalso; omega)
              refine j_aload_n (pc := 104) dX12_findBolts_104 rfl rfl ?_
              refine j_getI (pc := 105) fl_X12_363 dX12_findBolts_105 (a_88 hM) rfl ?_
              refine j_topV (show σ3 88 34 = τ 88 34 from (hGσ3 88 34 (show ¬ ((88 = 88 ∧ (34 = 19 ∨ 34 = 23))) from by decide))) ?_
              refine j_putI (pc := 108) fl_X12_363 fp_X12_34 dX12_findBolts_108 (a_88 hM) rfl (j_nm (fun σ26 (eσ26 : σ26 = tw_up σ3 88 34 (τ 88 34)) => ?_))
              have hIσ26 : tw_I σ26 := tw_I_up hIσ3 eσ26 (show (-4 : Int) ≤ τ 88 34 ∧ τ 88 34 ≤ 40 from ⟨by omega, by omega⟩)
              have hFσ26 : tw_F (fun c j => (c = 88 ∧ (j = 19 ∨ j = 23 ∨ j = 34)) ∨ (102 ≤ c ∧ c < 104)) σ σ26 := tw_F_up hFσ3 eσ26 (show (88 = 88 ∧ (34 = 19 ∨ 34 = 23 ∨ 34 = 34)) ∨ (102 ≤ 88 ∧ 88 < 104) from (Or.inl ⟨rfl, (Or.inr (Or.inr rfl))⟩))
              refine j_iload (pc := 111) dX12_findBolts_111 rfl ?_
              refine j_ifR_eq (pc := 113) (tgt := 120) ⟨by omega, by omega⟩ dX12_findBolts_113 rfl (fun h27 => ?_) (fun h27 => by exfalso; omega)
              refine j_iload_n (pc := 120) dX12_findBolts_120 rfl rfl ?_
              refine j_istore_n (pc := 121) (i := 2) (ls' := [(0, vR 88), (2, vI f), (3, vI b)]) [1, 0, 2] dX12_findBolts_121 rfl (Nat.le_of_ble_eq_true rfl) rfl rfl ?_
              refine j_iinc (pc := 122) (i := 3) (n := -1) (ls' := [(0, vR 88), (2, vI f), (3, vI (b + (-1)))]) [1, 2, 0] dX12_findBolts_122 rfl (Nat.le_of_ble_eq_true rfl) rfl rfl ?_
              refine j_goto (pc := 125) (tgt := 44) dX12_findBolts_125 rfl ?_
              refine j_ls (ls' := [(0, vR 88), (2, vI f), (3, vI (b + (-1)))]) [0, 1, 2] rfl ?_
              have y28 : σ26 88 34 = τ 88 34 := (tw_eq1 eσ26)
              have y29 : σ26 102 (f.toNat) = τ 102 (f.toNat) := ((tw_ne1 eσ26 (by (first | decide | omega)))).trans (hGσ3 102 (f.toNat) (show ¬ ((102 = 88 ∧ (f.toNat = 19 ∨ f.toNat = 23))) from fun h => absurd h.1 (by decide)))
              exact ih.1 f ⟨by omega, by omega⟩ (b + (-1)) ⟨by omega, by omega⟩ σ26 hIσ26 hFσ26 (show ∀ j : Int, 1 ≤ j → j ≤ σ 91 0 → TOK (σ 91 0) (okB σ) (σ26 102) j from (fun j h1 h2 => TOK_F (fun x => ((tw_ne1 eσ26 (by (first | decide | omega)))).trans (hGσ3 102 x (show ¬ ((102 = 88 ∧ (x = 19 ∨ x = 23))) from fun h => absurd h.1 (by decide)))) (i0 j h1 h2))) (show (b + (-1)) ≤ σ 91 0 from by omega) (show (f = 0 ∧ σ26 88 34 = -4) ∨ (1 ≤ f ∧ f ≤ σ 91 0 ∧ ¬ σ26 102 f.toNat = -4 ∧ σ26 88 34 = σ26 102 f.toNat + 1) from by omega) (show (100000 + (b + (-1))).toNat < N_ from by omega)
            · refine j_iconst (pc := 80) dX12_findBolts_80 ?_
              refine j_goto (pc := 81) (tgt := 85) dX12_findBolts_81 rfl ?_
              refine j_istore (pc := 85) (i := 4) (ls' := [(0, vR 88), (2, vI f), (3, vI b), (4, vI 1)]) [1, 2, 3, 0] dX12_findBolts_85 (Nat.le_of_ble_eq_true rfl) rfl rfl ?_
              refine j_aload_n (pc := 87) dX12_findBolts_87 rfl rfl ?_
              refine j_iload (pc := 88) dX12_findBolts_88 rfl ?_
              refine j_ifR_eq (pc := 90) (tgt := 104) ⟨by omega, by omega⟩ dX12_findBolts_90 rfl (fun h30 => by exfalso; omega) (fun h30 => ?_)
              refine j_aload_n (pc := 93) dX12_findBolts_93 rfl rfl ?_
              refine j_getR (pc := 94) (r := 102) fl_X12_50 dX12_findBolts_94 (a_88 hM) rfl ?_
              refine j_iload_n (pc := 97) dX12_findBolts_97 rfl rfl ?_
              refine j_iald (pc := 98) dX12_findBolts_98 (a_102 hM) (by omega) (by omega) (by decide) ?_
              refine j_topV (show σ3 102 (b.toNat) = τ 102 (b.toNat) from (hGσ3 102 (b.toNat) (show ¬ ((102 = 88 ∧ (b.toNat = 19 ∨ b.toNat = 23))) from fun h => absurd h.1 (by decide)))) ?_
              have g31 : (0 : Int) ≤ τ 102 (b.toNat) ∧ τ 102 (b.toNat) ≤ 39 := (by have q := TOK_in (i0 b (by omega) (by omega)) (by omega) (by omega); omega)
              refine j_iconst (pc := 99) dX12_findBolts_99 ?_
              refine j_iadd (pc := 100) dX12_findBolts_100 ?_
              refine j_goto (pc := 101) (tgt := 108) dX12_findBolts_101 rfl ?_
              refine j_putI (pc := 108) fl_X12_363 fp_X12_34 dX12_findBolts_108 (a_88 hM) rfl (j_nm (fun σ32 (eσ32 : σ32 = tw_up σ3 88 34 ((τ 102 (b.toNat)) + 1)) => ?_))
              have hIσ32 : tw_I σ32 := tw_I_up hIσ3 eσ32 (show (-4 : Int) ≤ (τ 102 (b.toNat)) + 1 ∧ (τ 102 (b.toNat)) + 1 ≤ 40 from ⟨by omega, by omega⟩)
              have hFσ32 : tw_F (fun c j => (c = 88 ∧ (j = 19 ∨ j = 23 ∨ j = 34)) ∨ (102 ≤ c ∧ c < 104)) σ σ32 := tw_F_up hFσ3 eσ32 (show (88 = 88 ∧ (34 = 19 ∨ 34 = 23 ∨ 34 = 34)) ∨ (102 ≤ 88 ∧ 88 < 104) from (Or.inl ⟨rfl, (Or.inr (Or.inr rfl))⟩))
              refine j_iload (pc := 111) dX12_findBolts_111 rfl ?_
              refine j_ifR_eq (pc := 113) (tgt := 120) ⟨by omega, by omega⟩ dX12_findBolts_113 rfl (fun h33 => by exfalso; omega) (fun h33 => ?_)
              refine j_iload_n (pc := 116) dX12_findBolts_116 rfl rfl ?_
              refine j_goto (pc := 117) (tgt := 121) dX12_findBolts_117 rfl ?_
              refine j_istore_n (pc := 121) (i := 2) (ls' := [(0, vR 88), (2, vI b), (3, vI b)]) [1, 0, 2] dX12_findBolts_121 rfl (Nat.le_of_ble_eq_true rfl) rfl rfl ?_
              refine j_iinc (pc := 122) (i := 3) (n := -1) (ls' := [(0, vR 88), (2, vI b), (3, vI (b + (-1)))]) [1, 2, 0] dX12_findBolts_122 rfl (Nat.le_of_ble_eq_true rfl) rfl rfl ?_
              refine j_goto (pc := 125) (tgt := 44) dX12_findBolts_125 rfl ?_
              refine j_ls (ls' := [(0, vR 88), (2, vI b), (3, vI (b + (-1)))]) [0, 1, 2] rfl ?_
              have y34 : σ32 88 34 = (τ 102 (b.toNat)) + 1 := (tw_eq1 eσ32)
              have y35 : σ32 102 (b.toNat) = τ 102 (b.toNat) := ((tw_ne1 eσ32 (by (first | decide | omega)))).trans (hGσ3 102 (b.toNat) (show ¬ ((102 = 88 ∧ (b.toNat = 19 ∨ b.toNat = 23))) from fun h => absurd h.1 (by decide)))
              exact ih.1 b ⟨by omega, by omega⟩ (b + (-1)) ⟨by omega, by omega⟩ σ32 hIσ32 hFσ32 (show ∀ j : Int, 1 ≤ j → j ≤ σ 91 0 → TOK (σ 91 0) (okB σ) (σ32 102) j from (fun j h1 h2 => TOK_F (fun x => ((tw_ne1 eσ32 (by (first | decide | omega)))).trans (hGσ3 102 x (show ¬ ((102 = 88 ∧ (x = 19 ∨ x = 23))) from fun h => absurd h.1 (by decide)))) (i0 j h1 h2))) (show (b + (-1)) ≤ σ 91 0 from by omega) (show (b = 0 ∧ σ32 88 34 = -4) ∨ (1 ≤ b ∧ b ≤ σ 91 0 ∧ ¬ σ32 102 b.toNat = -4 ∧ σ32 88 34 = σ32 102 b.toNat + 1) from by omega) (show (100000 + (b + (-1))).toNat < N_ from by omega)
    · intro a ha i hi τ hIτ hFτ i0 i1 hm
      have ft : (1 : Int) ≤ σ 91 0 ∧ σ 91 0 ≤ 40 := hI 91 0
      have f91 := hFτ 91 0 (show ¬ ((91 = 88 ∧ (0 = 19 ∨ 0 = 23 ∨ 0 = 34)) ∨ (102 ≤ 91 ∧ 91 < 104)) from by decide)
      refine j_iload (pc := 133) dX12_findBolts_133 rfl ?_
      refine j_aload_n (pc := 135) dX12_findBolts_135 rfl rfl ?_
      refine j_getI (pc := 136) fl_X12_363 dX12_findBolts_136 (a_88 hM) rfl ?_
      have f36 : (-4 : Int) ≤ τ 88 34 ∧ τ 88 34 ≤ 40 := hIτ 88 34
      refine j_icmpR_ge (pc := 139) (tgt := 237) ⟨by omega, by omega⟩ ⟨by omega, by omega⟩ dX12_findBolts_139 rfl (fun h37 => ?_) (fun h37 => ?_)
      · exact j_vret (pc := 237) ⟨rfl, rfl⟩ dX12_findBolts_237 rfl ⟨rfl, hIτ, hFτ, trivial⟩
      · refine j_aload_n (pc := 142) dX12_findBolts_142 rfl rfl ?_
        refine j_getR (pc := 143) (r := 103) fl_X12_53 dX12_findBolts_143 (a_88 hM) rfl ?_
        refine j_iload (pc := 146) dX12_findBolts_146 rfl ?_
        refine j_iload_n (pc := 148) dX12_findBolts_148 rfl rfl ?_
        refine j_iast (pc := 149) dX12_findBolts_149 (a_103 hM) (by omega) (by omega) (by decide) (j_nm (fun σ38 (eσ38 : σ38 = tw_up τ 103 (i.toNat) a) => ?_))
        have hIσ38 : tw_I σ38 := tw_I_up hIτ eσ38 (show (0 : Int) ≤ a ∧ a ≤ 40 from ⟨by omega, by omega⟩)
        have hFσ38 : tw_F (fun c j => (c = 88 ∧ (j = 19 ∨ j = 23 ∨ j = 34)) ∨ (102 ≤ c ∧ c < 104)) σ σ38 := tw_F_up hFτ eσ38 (show (103 = 88 ∧ (i.toNat = 19 ∨ i.toNat = 23 ∨ i.toNat = 34)) ∨ (102 ≤ 103 ∧ 103 < 104) from (Or.inr (by decide)))
        refine j_iload_n (pc := 150) dX12_findBolts_150 rfl rfl ?_
        refine j_iconst (pc := 151) dX12_findBolts_151 ?_
        refine j_iadd (pc := 152) dX12_findBolts_152 ?_
        refine j_istore (pc := 153) (i := 5) (ls' := [(0, vR 88), (3, vI a), (4, vI i), (5, vI (a + 1))]) [1, 2, 3, 0] dX12_findBolts_153 (Nat.le_of_ble_eq_true rfl) rfl rfl ?_
        refine j_ls (ls' := [(0, vR 88), (3, vI a), (4, vI i), (5, vI (a + 1))]) [0, 1, 2, 3] rfl ?_
        have y39 : σ38 88 34 = τ 88 34 := (tw_ne1 eσ38 (by (first | decide | omega)))
        have y40 : σ38 102 (a.toNat) = τ 102 (a.toNat) := (tw_ne1 eσ38 (by (first | decide | omega)))
        have y41 : σ38 88 34 = τ 88 34 := (tw_ne1 eσ38 (by (first | decide | omega)))
        exact ih.2.2 a ⟨by omega, by omega⟩ i ⟨by omega, by omega⟩ (a + 1) ⟨by omega, by omega⟩ σ38 hIσ38 hFσ38 (show ∀ j : Int, 1 ≤ j → j ≤ σ 91 0 → TOK (σ 91 0) (okB σ) (σ38 102) j from (fun j h1 h2 => TOK_F (fun x => (tw_ne1 eσ38 (by (first | decide | omega)))) (i0 j h1 h2))) (show i < σ38 88 34 ∧ a ≤ σ 91 0 ∧ σ38 102 a.toNat = σ38 88 34 - 1 - i from by omega) (show a < (a + 1) from by omega) (show i + 1 = σ38 88 34 ∨ TW (σ 91 0) (okB σ) (σ38 102) a (a + 1) from (by first | exact Or.inr (TW_F (fun x => (tw_ne1 eσ38 (by (first | decide | omega)))) (TW_s tw9 n9)) | (by_cases q9 : i + 1 = σ38 88 34; (exact Or.inl q9); (exact Or.inr (TW_F (fun x => (tw_ne1 eσ38 (by (first | decide | omega)))) (TW_0 (i0 a (by omega) (by omega)) (by omega))))))) (show (100 * (41 - i) + 41 - (a + 1)).toNat < N_ from by omega)
    · intro a ha i hi c hc τ hIτ hFτ i0 i1 i2 i3 hm
      have ft : (1 : Int) ≤ σ 91 0 ∧ σ 91 0 ≤ 40 := hI 91 0
      have f91 := hFτ 91 0 (show ¬ ((91 = 88 ∧ (0 = 19 ∨ 0 = 23 ∨ 0 = 34)) ∨ (102 ≤ 91 ∧ 91 < 104)) from by decide)
      have a9 : ∀ x y z, mAC τ x y z ↔ mAC σ x y z := fun x y z => mAC_congr (fun j => hFτ 92 j (show ¬ ((92 = 88 ∧ (j = 19 ∨ j = 23 ∨ j = 34)) ∨ (102 ≤ 92 ∧ 92 < 104)) from fun h => h.elim (fun h => absurd h.1 (by decide)) (fun h => absurd h (by decide)))) (hFτ 91 4 (show ¬ ((91 = 88 ∧ (4 = 19 ∨ 4 = 23 ∨ 4 = 34)) ∨ (102 ≤ 91 ∧ 91 < 104)) from by decide))
      refine j_iload (pc := 155) dX12_findBolts_155 rfl ?_
      refine j_iconst (pc := 157) dX12_findBolts_157 ?_
      refine j_iadd (pc := 158) dX12_findBolts_158 ?_
      refine j_aload_n (pc := 159) dX12_findBolts_159 rfl rfl ?_
      refine j_getI (pc := 160) fl_X12_363 dX12_findBolts_160 (a_88 hM) rfl ?_
      have f42 : (-4 : Int) ≤ τ 88 34 ∧ τ 88 34 ≤ 40 := hIτ 88 34
      refine j_icmpR_ge (pc := 163) (tgt := 228) ⟨by omega, by omega⟩ ⟨by omega, by omega⟩ dX12_findBolts_163 rfl (fun h43 => ?_) (fun h43 => ?_)
      · refine j_iload (pc := 228) dX12_findBolts_228 rfl ?_
        refine j_istore_n (pc := 230) (i := 3) (ls' := [(0, vR 88), (3, vI c), (4, vI i)]) [1, 0, 2] dX12_findBolts_230 rfl (Nat.le_of_ble_eq_true rfl) rfl rfl ?_
        refine j_iinc (pc := 231) (i := 4) (n := 1) (ls' := [(0, vR 88), (3, vI c), (4, vI (i + 1))]) [1, 2, 0] dX12_findBolts_231 rfl (Nat.le_of_ble_eq_true rfl) rfl rfl ?_
        refine j_goto (pc := 234) (tgt := 133) dX12_findBolts_234 rfl ?_
        refine j_ls (ls' := [(0, vR 88), (3, vI c), (4, vI (i + 1))]) [0, 1, 2] rfl ?_
        exact ih.2.1 c ⟨by omega, by omega⟩ (i + 1) ⟨by omega, by omega⟩ τ hIτ hFτ (show ∀ j : Int, 1 ≤ j → j ≤ σ 91 0 → TOK (σ 91 0) (okB σ) (τ 102) j from (fun j h1 h2 => TOK_F (fun x => rfl) (i0 j h1 h2))) (show τ 88 34 = -4 ∨ (i + 1) = τ 88 34 ∨ ((i + 1) < τ 88 34 ∧ 1 ≤ c ∧ c ≤ σ 91 0 ∧ τ 102 c.toNat = τ 88 34 - 1 - (i + 1)) from by omega) (show (100 * (41 - (i + 1)) + 50).toNat < N_ from by omega)
      · have tw9 : TW (σ 91 0) (okB σ) (τ 102) a c := by
          rcases i3 with q | q
          · exfalso; omega
          · exact q
        have w9 := TW_le tw9
        refine j_aload_n (pc := 166) dX12_findBolts_166 rfl rfl ?_
        refine j_getR (pc := 167) (r := 102) fl_X12_50 dX12_findBolts_167 (a_88 hM) rfl ?_
        refine j_iload (pc := 170) dX12_findBolts_170 rfl ?_
        refine j_iald (pc := 172) dX12_findBolts_172 (a_102 hM) (by omega) (by omega) (by decide) ?_
        have f44 : (-2147483648 : Int) ≤ τ 102 (c.toNat) ∧ τ 102 (c.toNat) ≤ 2147483647 := hIτ 102 (c.toNat)
        refine j_bipush (pc := 173) dX12_findBolts_173 rfl ?_
        refine j_icmpR_eq (pc := 175) (tgt := 222) ⟨by omega, by omega⟩ ⟨by omega, by omega⟩ dX12_findBolts_175 rfl (fun h45 => ?_) (fun h45 => ?_)
        · have n9 : ¬ (okB σ a c ∧ ¬ τ 102 c.toNat = -4 ∧ τ 102 c.toNat + 1 = τ 102 a.toNat) := by
            rintro ⟨⟨x1, x2⟩, a2, a3⟩
            first
            | omega
            | exact (b01 __0).2 (by omega) ((a9 _ _ _).mpr x1)
            | exact (b01 __0).2 (by omega) ((c8 c c).mpr x2)
          refine j_iinc (pc := 222) (i := 5) (n := 1) (ls' := [(0, vR 88), (3, vI a), (4, vI i), (5, vI (c + 1))]) [1, 2, 3, 0] dX12_findBolts_222 rfl (Nat.le_of_ble_eq_true rfl) rfl rfl ?_
          refine j_goto (pc := 225) (tgt := 155) dX12_findBolts_225 rfl ?_
          refine j_ls (ls' := [(0, vR 88), (3, vI a), (4, vI i), (5, vI (c + 1))]) [0, 1, 2, 3] rfl ?_
          exact ih.2.2 a ⟨by omega, by omega⟩ i ⟨by omega, by omega⟩ (c + 1) ⟨by omega, by omega⟩ τ hIτ hFτ (show ∀ j : Int, 1 ≤ j → j ≤ σ 91 0 → TOK (σ 91 0) (okB σ) (τ 102) j from (fun j h1 h2 => TOK_F (fun x => rfl) (i0 j h1 h2))) (show i < τ 88 34 ∧ a ≤ σ 91 0 ∧ τ 102 a.toNat = τ 88 34 - 1 - i from by omega) (show a < (c + 1) from by omega) (show i + 1 = τ 88 34 ∨ TW (σ 91 0) (okB σ) (τ 102) a (c + 1) from (by first | exact Or.inr (TW_F (fun x => rfl) (TW_s tw9 n9)) | (by_cases q9 : i + 1 = τ 88 34; (exact Or.inl q9); (exact Or.inr (TW_F (fun x => rfl) (TW_0 (i0 a (by omega) (by omega)) (by omega))))))) (show (100 * (41 - i) + 41 - (c + 1)).toNat < N_ from by omega)
        · refine j_aload_n (pc := 178) dX12_findBolts_178 rfl rfl ?_
          refine j_getR (pc := 179) (r := 102) fl_X12_50 dX12_findBolts_179 (a_88 hM) rfl ?_
          refine j_iload (pc := 182) dX12_findBolts_182 rfl ?_
          refine j_iald (pc := 184) dX12_findBolts_184 (a_102 hM) (by omega) (by omega) (by decide) ?_
          have g46 : (0 : Int) ≤ τ 102 (c.toNat) ∧ τ 102 (c.toNat) ≤ 39 := (by have q := TOK_in (i0 c (by omega) (by omega)) (by omega) (by omega); omega)
          refine j_iconst (pc := 185) dX12_findBolts_185 ?_
          refine j_iadd (pc := 186) dX12_findBolts_186 ?_
          refine j_aload_n (pc := 187) dX12_findBolts_187 rfl rfl ?_
          refine j_getR (pc := 188) (r := 102) fl_X12_50 dX12_findBolts_188 (a_88 hM) rfl ?_
          refine j_iload_n (pc := 191) dX12_findBolts_191 rfl rfl ?_
          refine j_iald (pc := 192) dX12_findBolts_192 (a_102 hM) (by omega) (by omega) (by decide) ?_
          have f47 : (-2147483648 : Int) ≤ τ 102 (a.toNat) ∧ τ 102 (a.toNat) ≤ 2147483647 := hIτ 102 (a.toNat)
          refine j_icmpR_ne (pc := 193) (tgt := 222) ⟨by omega, by omega⟩ ⟨by omega, by omega⟩ dX12_findBolts_193 rfl (fun h48 => ?_) (fun h48 => ?_)
          · have n9 : ¬ (okB σ a c ∧ ¬ τ 102 c.toNat = -4 ∧ τ 102 c.toNat + 1 = τ 102 a.toNat) := by
              rintro ⟨⟨x1, x2⟩, a2, a3⟩
              first
              | omega
              | exact (b01 __0).2 (by omega) ((a9 _ _ _).mpr x1)
              | exact (b01 __0).2 (by omega) ((c8 c c).mpr x2)
            refine j_iinc (pc := 222) (i := 5) (n := 1) (ls' := [(0, vR 88), (3, vI a), (4, vI i), (5, vI (c + 1))]) [1, 2, 3, 0] dX12_findBolts_222 rfl (Nat.le_of_ble_eq_true rfl) rfl rfl ?_
            refine j_goto (pc := 225) (tgt := 155) dX12_findBolts_225 rfl ?_
            refine j_ls (ls' := [(0, vR 88), (3, vI a), (4, vI i), (5, vI (c + 1))]) [0, 1, 2, 3] rfl ?_
            exact ih.2.2 a ⟨by omega, by omega⟩ i ⟨by omega, by omega⟩ (c + 1) ⟨by omega, by omega⟩ τ hIτ hFτ (show ∀ j : Int, 1 ≤ j → j ≤ σ 91 0 → TOK (σ 91 0) (okB σ) (τ 102) j from (fun j h1 h2 => TOK_F (fun x => rfl) (i0 j h1 h2))) (show i < τ 88 34 ∧ a ≤ σ 91 0 ∧ τ 102 a.toNat = τ 88 34 - 1 - i from by omega) (show a < (c + 1) from by omega) (show i + 1 = τ 88 34 ∨ TW (σ 91 0) (okB σ) (τ 102) a (c + 1) from (by first | exact Or.inr (TW_F (fun x => rfl) (TW_s tw9 n9)) | (by_cases q9 : i + 1 = τ 88 34; (exact Or.inl q9); (exact Or.inr (TW_F (fun x => rfl) (TW_0 (i0 a (by omega) (by omega)) (by omega))))))) (show (100 * (41 - i) + 41 - (c + 1)).toNat < N_ from by omega)
          · refine j_aload_n (pc := 196) dX12_findBolts_196 rfl rfl ?_
            refine j_iload_n (pc := 197) dX12_findBolts_197 rfl rfl ?_
            refine j_iconst (pc := 198) dX12_findBolts_198 ?_
            refine j_iadd (pc := 199) dX12_findBolts_199 ?_
            refine j_iload (pc := 200) dX12_findBolts_200 rfl ?_
            refine j_iconst (pc := 202) dX12_findBolts_202 ?_
            refine j_isub (pc := 203) dX12_findBolts_203 ?_
            refine j_iload_n (pc := 204) dX12_findBolts_204 rfl rfl ?_
            refine j_callV (pc := 205) (As := [vI (a + 1), vI (c - 1), vI a]) (st := []) (c_X12_areClear hM (a + 1) ⟨by omega, by omega⟩ (c - 1) ⟨by omega, by omega⟩ a ⟨by omega, by omega⟩ τ hIτ) mv_X12_359 rfl rfl rfl (a_88 hM) dX12_findBolts_205 ⟨Nat.le_of_ble_eq_true rfl, Nat.le_of_ble_eq_true rfl⟩ ⟨Nat.le_refl _, Nat.le_refl _⟩ rfl (Nat.le_of_ble_eq_true rfl) rfl (fun z49 σ50 hz49 => ?_)
            obtain ⟨r52, rfl, hr52, hIσ50, hGσ50, q51_0⟩ := hz49
            replace q51_0 : (r52 = 1 ∧ mAC τ (a + 1) (c - 1) a) ∨ (r52 = 0 ∧ ¬ mAC τ (a + 1) (c - 1) a) := q51_0
            have hFσ50 : tw_F (fun c j => (c = 88 ∧ (j = 19 ∨ j = 23 ∨ j = 34)) ∨ (102 ≤ c ∧ c < 104)) σ σ50 := tw_F_tr hFτ hGσ50 (fun c j q => (show (c = 88 ∧ (j = 19 ∨ j = 23 ∨ j = 34)) ∨ (102 ≤ c ∧ c < 104) from by replace q : (c = 88 ∧ (j = 19 ∨ j = 23)) := q; exact (Or.inl ⟨q.1, (q.2.elim (fun z => (Or.inl z)) (fun z => (Or.inr (Or.inl z))))⟩)))
            refine j_st (st' := [vI r52]) rfl ?_
            refine j_ifR_eq (pc := 208) (tgt := 222) ⟨by omega, by omega⟩ dX12_findBolts_208 rfl (fun h53 => ?_) (fun h53 => ?_)
            · have n9 : ¬ (okB σ a c ∧ ¬ τ 102 c.toNat = -4 ∧ τ 102 c.toNat + 1 = τ 102 a.toNat) := by
                rintro ⟨⟨x1, x2⟩, a2, a3⟩
                first
                | omega
                | exact (b01 q51_0).2 (by omega) ((a9 _ _ _).mpr x1)
                | exact (b01 q51_0).2 (by omega) ((c8 c c).mpr x2)
              refine j_iinc (pc := 222) (i := 5) (n := 1) (ls' := [(0, vR 88), (3, vI a), (4, vI i), (5, vI (c + 1))]) [1, 2, 3, 0] dX12_findBolts_222 rfl (Nat.le_of_ble_eq_true rfl) rfl rfl ?_
              refine j_goto (pc := 225) (tgt := 155) dX12_findBolts_225 rfl ?_
              refine j_ls (ls' := [(0, vR 88), (3, vI a), (4, vI i), (5, vI (c + 1))]) [0, 1, 2, 3] rfl ?_
              have y54 : σ50 88 34 = τ 88 34 := (hGσ50 88 34 (show ¬ ((88 = 88 ∧ (34 = 19 ∨ 34 = 23))) from by decide))
              have y55 : σ50 102 (a.toNat) = τ 102 (a.toNat) := (hGσ50 102 (a.toNat) (show ¬ ((102 = 88 ∧ (a.toNat = 19 ∨ a.toNat = 23))) from fun h => absurd h.1 (by decide)))
              have y56 : σ50 88 34 = τ 88 34 := (hGσ50 88 34 (show ¬ ((88 = 88 ∧ (34 = 19 ∨ 34 = 23))) from by decide))
              exact ih.2.2 a ⟨by omega, by omega⟩ i ⟨by omega, by omega⟩ (c + 1) ⟨by omega, by omega⟩ σ50 hIσ50 hFσ50 (show ∀ j : Int, 1 ≤ j → j ≤ σ 91 0 → TOK (σ 91 0) (okB σ) (σ50 102) j from (fun j h1 h2 => TOK_F (fun x => (hGσ50 102 x (show ¬ ((102 = 88 ∧ (x = 19 ∨ x = 23))) from fun h => absurd h.1 (by decide)))) (i0 j h1 h2))) (show i < σ50 88 34 ∧ a ≤ σ 91 0 ∧ σ50 102 a.toNat = σ50 88 34 - 1 - i from by omega) (show a < (c + 1) from by omega) (show i + 1 = σ50 88 34 ∨ TW (σ 91 0) (okB σ) (σ50 102) a (c + 1) from (by first | exact Or.inr (TW_F (fun x => (hGσ50 102 x (show ¬ ((102 = 88 ∧ (x = 19 ∨ x = 23))) from fun h => absurd h.1 (by decide)))) (TW_s tw9 n9)) | (by_cases q9 : i + 1 = σ50 88 34; (exact Or.inl q9); (exact Or.inr (TW_F (fun x => (hGσ50 102 x (show ¬ ((102 = 88 ∧ (x = 19 ∨ x = 23))) from fun h => absurd h.1 (by decide)))) (TW_0 (i0 a (by omega) (by omega)) (by omega))))))) (show (100 * (41 - i) + 41 - (c + 1)).toNat < N_ from by omega)
            · have c8 : ∀ x y, mIC σ50 x y ↔ mIC σ x y := fun x y => mIC_congr (fun j => hFσ50 92 j (show ¬ ((92 = 88 ∧ (j = 19 ∨ j = 23 ∨ j = 34)) ∨ (102 ≤ 92 ∧ 92 < 104)) from fun h => h.elim (fun h => absurd h.1 (by decide)) (fun h => absurd h (by decide)))) (hFσ50 91 4 (show ¬ ((91 = 88 ∧ (4 = 19 ∨ 4 = 23 ∨ 4 = 34)) ∨ (102 ≤ 91 ∧ 91 < 104)) from by decide))
              refine j_aload_n (pc := 211) dX12_findBolts_211 rfl rfl ?_
              refine j_iload (pc := 212) dX12_findBolts_212 rfl ?_
              refine j_iload (pc := 214) dX12_findBolts_214 rfl ?_
              refine j_callV (pc := 216) (As := [vI c, vI c]) (st := []) (c_X12_isClear hM c ⟨by omega, by omega⟩ c ⟨by omega, by omega⟩ σ50 hIσ50) mv_X12_356 rfl rfl rfl (a_88 hM) dX12_findBolts_216 ⟨Nat.le_of_ble_eq_true rfl, Nat.le_of_ble_eq_true rfl⟩ ⟨Nat.le_refl _, Nat.le_refl _⟩ rfl (Nat.le_of_ble_eq_true rfl) rfl (fun z57 σ58 hz57 => ?_)
              obtain ⟨r60, rfl, hr60, hIσ58, hGσ58, q59_0⟩ := hz57
              replace q59_0 : (r60 = 1 ∧ mIC σ50 c c) ∨ (r60 = 0 ∧ ¬ mIC σ50 c c) := q59_0
              have hFσ58 : tw_F (fun c j => (c = 88 ∧ (j = 19 ∨ j = 23 ∨ j = 34)) ∨ (102 ≤ c ∧ c < 104)) σ σ58 := tw_F_tr hFσ50 hGσ58 (fun c j q => (show (c = 88 ∧ (j = 19 ∨ j = 23 ∨ j = 34)) ∨ (102 ≤ c ∧ c < 104) from by replace q : (c = 88 ∧ (j = 19 ∨ j = 23)) := q; exact (Or.inl ⟨q.1, (q.2.elim (fun z => (Or.inl z)) (fun z => (Or.inr (Or.inl z))))⟩)))
              refine j_st (st' := [vI r60]) rfl ?_
              refine j_ifR_ne (pc := 219) (tgt := 228) ⟨by omega, by omega⟩ dX12_findBolts_219 rfl (fun h61 => ?_) (fun h61 => ?_)
              · refine j_iload (pc := 228) dX12_findBolts_228 rfl ?_
                refine j_istore_n (pc := 230) (i := 3) (ls' := [(0, vR 88), (3, vI c), (4, vI i)]) [1, 0, 2] dX12_findBolts_230 rfl (Nat.le_of_ble_eq_true rfl) rfl rfl ?_
                refine j_iinc (pc := 231) (i := 4) (n := 1) (ls' := [(0, vR 88), (3, vI c), (4, vI (i + 1))]) [1, 2, 0] dX12_findBolts_231 rfl (Nat.le_of_ble_eq_true rfl) rfl rfl ?_
                refine j_goto (pc := 234) (tgt := 133) dX12_findBolts_234 rfl ?_
                refine j_ls (ls' := [(0, vR 88), (3, vI c), (4, vI (i + 1))]) [0, 1, 2] rfl ?_
                have y62 : σ58 88 34 = τ 88 34 := ((hGσ58 88 34 (show ¬ ((88 = 88 ∧ (34 = 19 ∨ 34 = 23))) from by decide))).trans (hGσ50 88 34 (show ¬ ((88 = 88 ∧ (34 = 19 ∨ 34 = 23))) from by decide))
                have y63 : σ58 102 (c.toNat) = τ 102 (c.toNat) := ((hGσ58 102 (c.toNat) (show ¬ ((102 = 88 ∧ (c.toNat = 19 ∨ c.toNat = 23))) from fun h => absurd h.1 (by decide)))).trans (hGσ50 102 (c.toNat) (show ¬ ((102 = 88 ∧ (c.toNat = 19 ∨ c.toNat = 23))) from fun h => absurd h.1 (by decide)))
                exact ih.2.1 c ⟨by omega, by omega⟩ (i + 1) ⟨by omega, by omega⟩ σ58 hIσ58 hFσ58 (show ∀ j : Int, 1 ≤ j → j ≤ σ 91 0 → TOK (σ 91 0) (okB σ) (σ58 102) j from (fun j h1 h2 => TOK_F (fun x => ((hGσ58 102 x (show ¬ ((102 = 88 ∧ (x = 19 ∨ x = 23))) from fun h => absurd h.1 (by decide)))).trans (hGσ50 102 x (show ¬ ((102 = 88 ∧ (x = 19 ∨ x = 23))) from fun h => absurd h.1 (by decide)))) (i0 j h1 h2))) (show σ58 88 34 = -4 ∨ (i + 1) = σ58 88 34 ∨ ((i + 1) < σ58 88 34 ∧ 1 ≤ c ∧ c ≤ σ 91 0 ∧ σ58 102 c.toNat = σ58 88 34 - 1 - (i + 1)) from by omega) (show (100 * (41 - (i + 1)) + 50).toNat < N_ from by omega)
              · have n9 : ¬ (okB σ a c ∧ ¬ τ 102 c.toNat = -4 ∧ τ 102 c.toNat + 1 = τ 102 a.toNat) := by
                  rintro ⟨⟨x1, x2⟩, a2, a3⟩
                  first
                  | omega
                  | exact (b01 q59_0).2 (by omega) ((a9 _ _ _).mpr x1)
                  | exact (b01 q59_0).2 (by omega) ((c8 c c).mpr x2)
                refine j_iinc (pc := 222) (i := 5) (n := 1) (ls' := [(0, vR 88), (3, vI a), (4, vI i), (5, vI (c + 1))]) [1, 2, 3, 0] dX12_findBolts_222 rfl (Nat.le_of_ble_eq_true rfl) rfl rfl ?_
                refine j_goto (pc := 225) (tgt := 155) dX12_findBolts_225 rfl ?_
                refine j_ls (ls' := [(0, vR 88), (3, vI a), (4, vI i), (5, vI (c + 1))]) [0, 1, 2, 3] rfl ?_
                have y64 : σ58 88 34 = τ 88 34 := ((hGσ58 88 34 (show ¬ ((88 = 88 ∧ (34 = 19 ∨ 34 = 23))) from by decide))).trans (hGσ50 88 34 (show ¬ ((88 = 88 ∧ (34 = 19 ∨ 34 = 23))) from by decide))
                have y65 : σ58 102 (a.toNat) = τ 102 (a.toNat) := ((hGσ58 102 (a.toNat) (show ¬ ((102 = 88 ∧ (a.toNat = 19 ∨ a.toNat = 23))) from fun h => absurd h.1 (by decide)))).trans (hGσ50 102 (a.toNat) (show ¬ ((102 = 88 ∧ (a.toNat = 19 ∨ a.toNat = 23))) from fun h => absurd h.1 (by decide)))
                have y66 : σ58 88 34 = τ 88 34 := ((hGσ58 88 34 (show ¬ ((88 = 88 ∧ (34 = 19 ∨ 34 = 23))) from by decide))).trans (hGσ50 88 34 (show ¬ ((88 = 88 ∧ (34 = 19 ∨ 34 = 23))) from by decide))
                exact ih.2.2 a ⟨by omega, by omega⟩ i ⟨by omega, by omega⟩ (c + 1) ⟨by omega, by omega⟩ σ58 hIσ58 hFσ58 (show ∀ j : Int, 1 ≤ j → j ≤ σ 91 0 → TOK (σ 91 0) (okB σ) (σ58 102) j from (fun j h1 h2 => TOK_F (fun x => ((hGσ58 102 x (show ¬ ((102 = 88 ∧ (x = 19 ∨ x = 23))) from fun h => absurd h.1 (by decide)))).trans (hGσ50 102 x (show ¬ ((102 = 88 ∧ (x = 19 ∨ x = 23))) from fun h => absurd h.1 (by decide)))) (i0 j h1 h2))) (show i < σ58 88 34 ∧ a ≤ σ 91 0 ∧ σ58 102 a.toNat = σ58 88 34 - 1 - i from by omega) (show a < (c + 1) from by omega) (show i + 1 = σ58 88 34 ∨ TW (σ 91 0) (okB σ) (σ58 102) a (c + 1) from (by first | exact Or.inr (TW_F (fun x => ((hGσ58 102 x (show ¬ ((102 = 88 ∧ (x = 19 ∨ x = 23))) from fun h => absurd h.1 (by decide)))).trans (hGσ50 102 x (show ¬ ((102 = 88 ∧ (x = 19 ∨ x = 23))) from fun h => absurd h.1 (by decide)))) (TW_s tw9 n9)) | (by_cases q9 : i + 1 = σ58 88 34; (exact Or.inl q9); (exact Or.inr (TW_F (fun x => ((hGσ58 102 x (show ¬ ((102 = 88 ∧ (x = 19 ∨ x = 23))) from fun h => absurd h.1 (by decide)))).trans (hGσ50 102 x (show ¬ ((102 = 88 ∧ (x = 19 ∨ x = 23))) from fun h => absurd h.1 (by decide)))) (TW_0 (i0 a (by omega) (by omega)) (by omega))))))) (show (100 * (41 - i) + 41 - (c + 1)).toNat < N_ from by omega)
set_option maxHeartbeats 4000000 in
set_option maxRecDepth 100000 in
theorem c_X12_findBolts {G : tw_G} (hM : tw_isM G) (σ : tw_M) (hI : tw_I σ) : tw_C G yX12_findBolts cX12_findBolts 6 none 5 [vR 88] σ (q_X12_findBolts σ) := by
  refine tw_met [(0, vR 88)] (by decide +kernel) rfl (Nat.le_of_ble_eq_true rfl) ?_
  have ft : (1 : Int) ≤ σ 91 0 ∧ σ 91 0 ≤ 40 := hI 91 0
  refine j_aload_n (pc := 0) dX12_findBolts_0 rfl rfl ?_
  refine j_getR (pc := 1) (r := 91) fl_X12_17 dX12_findBolts_1 (a_88 hM) rfl ?_
  refine j_iconst (pc := 4) dX12_findBolts_4 ?_
  refine j_iald (pc := 5) dX12_findBolts_5 (a_91 hM) (by omega) (by omega) (by decide) ?_
  refine j_topV (show σ 91 (Int.toNat 0) = σ 91 0 from rfl) ?_
  have f67 : (1 : Int) ≤ σ 91 0 ∧ σ 91 0 ≤ 40 := hI 91 0
  refine j_istore_n (pc := 6) (i := 1) (ls' := [(0, vR 88), (1, vI (σ 91 0))]) [1, 0] dX12_findBolts_6 rfl (Nat.le_of_ble_eq_true rfl) rfl rfl ?_
  refine j_aload_n (pc := 7) dX12_findBolts_7 rfl rfl ?_
  refine j_iload_n (pc := 8) dX12_findBolts_8 rfl rfl ?_
  refine j_aload_n (pc := 9) dX12_findBolts_9 rfl rfl ?_
  refine j_getR (pc := 10) (r := 91) fl_X12_17 dX12_findBolts_10 (a_88 hM) rfl ?_
  refine j_bipush (pc := 13) dX12_findBolts_13 rfl ?_
  refine j_iald (pc := 15) dX12_findBolts_15 (a_91 hM) (by omega) (by omega) (by decide) ?_
  refine j_topV (show σ 91 (Int.toNat 8) = σ 91 8 from rfl) ?_
  have f68 : (0 : Int) ≤ σ 91 8 ∧ σ 91 8 ≤ 9 := hI 91 8
  refine j_icmpR_gt (pc := 16) (tgt := 23) ⟨by omega, by omega⟩ ⟨by omega, by omega⟩ dX12_findBolts_16 rfl (fun h69 => ?_) (fun h69 => ?_)
  · refine j_bipush (pc := 23) dX12_findBolts_23 rfl ?_
    refine j_putI (pc := 25) fl_X12_363 fp_X12_34 dX12_findBolts_25 (a_88 hM) rfl (j_nm (fun σ70 (eσ70 : σ70 = tw_up σ 88 34 (-4)) => ?_))
    have hIσ70 : tw_I σ70 := tw_I_up hI eσ70 (show (-4 : Int) ≤ -4 ∧ -4 ≤ 40 from by decide)
    have hFσ70 : tw_F (fun c j => (c = 88 ∧ (j = 19 ∨ j = 23 ∨ j = 34)) ∨ (102 ≤ c ∧ c < 104)) σ σ70 := tw_F_up (tw_F_rf) eσ70 (show (88 = 88 ∧ (34 = 19 ∨ 34 = 23 ∨ 34 = 34)) ∨ (102 ≤ 88 ∧ 88 < 104) from (Or.inl ⟨rfl, (Or.inr (Or.inr rfl))⟩))
    refine j_aload_n (pc := 28) dX12_findBolts_28 rfl rfl ?_
    refine j_getI (pc := 29) fl_X12_363 dX12_findBolts_29 (a_88 hM) rfl ?_
    refine j_topV (show σ70 88 34 = -4 from (tw_eq1 eσ70)) ?_
    refine j_ifR_ne (pc := 32) (tgt := 36) ⟨by omega, by omega⟩ dX12_findBolts_32 rfl (fun h71 => ?_) (fun h71 => by exfalso; omega)
    refine j_aload_n (pc := 36) dX12_findBolts_36 rfl rfl ?_
    refine j_callV (pc := 37) (As := []) (st := []) (c_X12_findMore hM σ70 hIσ70) mv_X12_366 rfl rfl rfl (a_88 hM) dX12_findBolts_37 ⟨Nat.le_of_ble_eq_true rfl, Nat.le_of_ble_eq_true rfl⟩ ⟨Nat.le_refl _, Nat.le_refl _⟩ rfl (Nat.le_of_ble_eq_true rfl) rfl (fun z72 σ73 hz72 => ?_)
    obtain ⟨rfl, hIσ73, hGσ73, q74_0⟩ := hz72
    replace q74_0 : ∀ j : Int, 1 ≤ j → j ≤ σ70 91 0 → TOK (σ70 91 0) (okB σ70) (σ73 102) j := q74_0
    have y76 : σ70 91 0 = σ 91 0 := (tw_ne1 eσ70 (by (first | decide | omega)))
    have hFσ73 : tw_F (fun c j => (c = 88 ∧ (j = 19 ∨ j = 23 ∨ j = 34)) ∨ (102 ≤ c ∧ c < 104)) σ σ73 := tw_F_tr hFσ70 hGσ73 (fun c j q => (show (c = 88 ∧ (j = 19 ∨ j = 23 ∨ j = 34)) ∨ (102 ≤ c ∧ c < 104) from by replace q : (c = 88 ∧ (j = 19 ∨ j = 23)) ∨ c = 102 := q; exact (q.elim (fun q => (Or.inl ⟨q.1, (q.2.elim (fun z => (Or.inl z)) (fun z => (Or.inr (Or.inl z))))⟩)) (fun q => (Or.inr (by rw [show c = 102 from q]; decide))))))
    refine j_st (st' := []) rfl ?_
    have t9 : ∀ j : Int, 1 ≤ j → j ≤ σ 91 0 → TOK (σ 91 0) (okB σ) (σ73 102) j := fun j h1 h2 => TOKB_c (fun x => tw_ne1 eσ70 (by (first | decide | omega))) (tw_ne1 eσ70 (by (first | decide | omega))) (tw_ne1 eσ70 (by (first | decide | omega))) (q74_0 j h1) h2
    refine j_iconst (pc := 40) dX12_findBolts_40 ?_
    refine j_istore_n (pc := 41) (i := 2) (ls' := [(0, vR 88), (1, vI (σ 91 0)), (2, vI 0)]) [1, 2, 0] dX12_findBolts_41 rfl (Nat.le_of_ble_eq_true rfl) rfl rfl ?_
    refine j_iload_n (pc := 42) dX12_findBolts_42 rfl rfl ?_
    refine j_istore_n (pc := 43) (i := 3) (ls' := [(0, vR 88), (2, vI 0), (3, vI (σ 91 0))]) [1, 3, 0] dX12_findBolts_43 rfl (Nat.le_of_ble_eq_true rfl) rfl rfl ?_
    refine j_ls (ls' := [(0, vR 88), (2, vI 0), (3, vI (σ 91 0))]) [0, 1, 2] rfl ?_
    have y77 : σ73 88 34 = -4 := ((hGσ73 88 34 (show ¬ ((88 = 88 ∧ (34 = 19 ∨ 34 = 23)) ∨ 88 = 102) from by decide))).trans (tw_eq1 eσ70)
    exact (l_X12_findBolts hM σ hI (((100000 + (σ 91 0)).toNat) + 1)).1 0 (by (first | decide | exact ⟨by omega, by omega⟩)) (σ 91 0) ⟨by omega, by omega⟩ σ73 hIσ73 hFσ73 (show ∀ j : Int, 1 ≤ j → j ≤ σ 91 0 → TOK (σ 91 0) (okB σ) (σ73 102) j from t9) (show (σ 91 0) ≤ σ 91 0 from by omega) (show ((0 : Int) = 0 ∧ σ73 88 34 = -4) ∨ (1 ≤ (0 : Int) ∧ (0 : Int) ≤ σ 91 0 ∧ ¬ σ73 102 (0 : Int).toNat = -4 ∧ σ73 88 34 = σ73 102 (0 : Int).toNat + 1) from by omega) (Nat.lt_succ_self _)
  · refine j_iconst (pc := 19) dX12_findBolts_19 ?_
    refine j_goto (pc := 20) (tgt := 25) dX12_findBolts_20 rfl ?_
    refine j_putI (pc := 25) fl_X12_363 fp_X12_34 dX12_findBolts_25 (a_88 hM) rfl (j_nm (fun σ78 (eσ78 : σ78 = tw_up σ 88 34 0) => ?_))
    have hIσ78 : tw_I σ78 := tw_I_up hI eσ78 (show (-4 : Int) ≤ 0 ∧ 0 ≤ 40 from by decide)
    have hFσ78 : tw_F (fun c j => (c = 88 ∧ (j = 19 ∨ j = 23 ∨ j = 34)) ∨ (102 ≤ c ∧ c < 104)) σ σ78 := tw_F_up (tw_F_rf) eσ78 (show (88 = 88 ∧ (34 = 19 ∨ 34 = 23 ∨ 34 = 34)) ∨ (102 ≤ 88 ∧ 88 < 104) from (Or.inl ⟨rfl, (Or.inr (Or.inr rfl))⟩))
    refine j_aload_n (pc := 28) dX12_findBolts_28 rfl rfl ?_
    refine j_getI (pc := 29) fl_X12_363 dX12_findBolts_29 (a_88 hM) rfl ?_
    refine j_topV (show σ78 88 34 = 0 from (tw_eq1 eσ78)) ?_
    refine j_ifR_ne (pc := 32) (tgt := 36) ⟨by omega, by omega⟩ dX12_findBolts_32 rfl (fun h79 => by exfalso; omega) (fun h79 => ?_)
    exact j_vret (pc := 35) ⟨rfl, rfl⟩ dX12_findBolts_35 rfl ⟨rfl, hIσ78, hFσ78, trivial⟩
abbrev q_X12_bolts (w : Int) (σ : tw_M) : Option tw_V → tw_M → Prop := fun z τ => ∃ r : Int, z = some (vI r) ∧ (-2147483648 ≤ r ∧ r ≤ 2147483647) ∧ tw_I τ ∧ tw_F (fun c j => (c = 88 ∧ (j = 19 ∨ j = 23 ∨ j = 34)) ∨ (102 ≤ c ∧ c < 104)) σ τ ∧ True
set_option maxHeartbeats 4000000 in
set_option maxRecDepth 100000 in
theorem c_X12_bolts {G : tw_G} (hM : tw_isM G) (w : Int) (hw : -2147483648 ≤ w ∧ w ≤ 2147483647) (σ : tw_M) (hI : tw_I σ) : tw_C G yX12_bolts cX12_bolts 2 (some .int) 6 [vR 88, vI w] σ (q_X12_bolts w σ) := by
  refine tw_met [(0, vR 88), (1, vI w)] (by decide +kernel) rfl (Nat.le_of_ble_eq_true rfl) ?_
  refine j_iload_n (pc := 0) dX12_bolts_0 rfl rfl ?_
  refine j_ifR_eq (pc := 1) (tgt := 20) ⟨by omega, by omega⟩ dX12_bolts_1 rfl (fun h1 => ?_) (fun h1 => ?_)
  · refine j_aload_n (pc := 20) dX12_bolts_20 rfl rfl ?_
    refine j_callV (pc := 21) (As := []) (st := []) (c_X12_findBolts hM σ hI) mv_X12_372 rfl rfl rfl (a_88 hM) dX12_bolts_21 ⟨Nat.le_of_ble_eq_true rfl, Nat.le_of_ble_eq_true rfl⟩ ⟨Nat.le_refl _, Nat.le_refl _⟩ rfl (Nat.le_of_ble_eq_true rfl) rfl (fun z2 σ3 hz2 => ?_)
    obtain ⟨rfl, hIσ3, hGσ3, -⟩ := hz2
    have hFσ3 : tw_F (fun c j => (c = 88 ∧ (j = 19 ∨ j = 23 ∨ j = 34)) ∨ (102 ≤ c ∧ c < 104)) σ σ3 := tw_F_tr (tw_F_rf) hGσ3 (fun c j q => (show (c = 88 ∧ (j = 19 ∨ j = 23 ∨ j = 34)) ∨ (102 ≤ c ∧ c < 104) from by replace q : (c = 88 ∧ (j = 19 ∨ j = 23 ∨ j = 34)) ∨ (102 ≤ c ∧ c < 104) := q; exact q))
    refine j_st (st' := []) rfl ?_
    refine j_aload_n (pc := 24) dX12_bolts_24 rfl rfl ?_
    refine j_getI (pc := 25) fl_X12_363 dX12_bolts_25 (a_88 hM) rfl ?_
    have f6 : (-4 : Int) ≤ σ3 88 34 ∧ σ3 88 34 ≤ 40 := hIσ3 88 34
    refine j_bipush (pc := 28) dX12_bolts_28 rfl ?_
    refine j_icmpR_ne (pc := 30) (tgt := 36) ⟨by omega, by omega⟩ ⟨by omega, by omega⟩ dX12_bolts_30 rfl (fun h7 => ?_) (fun h7 => ?_)
    · refine j_iload_n (pc := 36) dX12_bolts_36 rfl rfl ?_
      refine j_ifR_ne (pc := 37) (tgt := 47) ⟨by omega, by omega⟩ dX12_bolts_37 rfl (fun h8 => by exfalso; omega) (fun h8 => ?_)
      refine j_aload_n (pc := 40) dX12_bolts_40 rfl rfl ?_
      refine j_getI (pc := 41) fl_X12_363 dX12_bolts_41 (a_88 hM) rfl ?_
      refine j_goto (pc := 44) (tgt := 71) dX12_bolts_44 rfl ?_
      exact j_iret (pc := 71) ⟨rfl, rfl⟩ dX12_bolts_71 rfl ⟨_, rfl, ⟨by omega, by omega⟩, hIσ3, hFσ3, trivial⟩
    · refine j_bipush (pc := 33) dX12_bolts_33 rfl ?_
      exact j_iret (pc := 35) ⟨rfl, rfl⟩ dX12_bolts_35 rfl ⟨_, rfl, ⟨by omega, by omega⟩, hIσ3, hFσ3, trivial⟩
  · refine j_iload_n (pc := 4) dX12_bolts_4 rfl rfl ?_
    refine j_i2l (pc := 5) dX12_bolts_5 ?_
    rw [w32_eq (a := w) (by omega) (by omega)]
    refine j_ldc2 (pc := 6) (z := 10) dX12_bolts_6 (tw_inc tm_6 (i := 239) rfl rfl) ?_
    refine j_ldc2 (pc := 9) (z := 49) dX12_bolts_9 (tw_inc tm_7 (i := 182) rfl rfl) ?_
    refine j_callS (pc := 12) (As := [vL w, vL 10, vL 49]) (st := []) (c_X12_in w ⟨by omega, by omega⟩ 10 (by (first | decide | exact ⟨by omega, by omega⟩)) 49 (by (first | decide | exact ⟨by omega, by omega⟩)) σ hI) ms_X12_82 rfl dX12_bolts_12 ⟨Nat.le_of_ble_eq_true rfl, Nat.le_of_ble_eq_true rfl⟩ ⟨Nat.le_refl _, Nat.le_refl _⟩ rfl (Nat.le_of_ble_eq_true rfl) rfl (fun z9 σ10 hz9 => ?_)
    obtain ⟨r12, rfl, hr12, rfl, q11_0⟩ := hz9
    replace q11_0 : (r12 = 1 ∧ (10 : Int) ≤ w ∧ w ≤ (49 : Int)) ∨ (r12 = 0 ∧ ¬ ((10 : Int) ≤ w ∧ w ≤ (49 : Int))) := q11_0
    refine j_st (st' := [vI r12]) rfl ?_
    refine j_ifR_ne (pc := 15) (tgt := 20) ⟨by omega, by omega⟩ dX12_bolts_15 rfl (fun h13 => ?_) (fun h13 => ?_)
    · refine j_aload_n (pc := 20) dX12_bolts_20 rfl rfl ?_
      refine j_callV (pc := 21) (As := []) (st := []) (c_X12_findBolts hM σ hI) mv_X12_372 rfl rfl rfl (a_88 hM) dX12_bolts_21 ⟨Nat.le_of_ble_eq_true rfl, Nat.le_of_ble_eq_true rfl⟩ ⟨Nat.le_refl _, Nat.le_refl _⟩ rfl (Nat.le_of_ble_eq_true rfl) rfl (fun z14 σ15 hz14 => ?_)
      obtain ⟨rfl, hIσ15, hGσ15, -⟩ := hz14
      have hFσ15 : tw_F (fun c j => (c = 88 ∧ (j = 19 ∨ j = 23 ∨ j = 34)) ∨ (102 ≤ c ∧ c < 104)) σ σ15 := tw_F_tr (tw_F_rf) hGσ15 (fun c j q => (show (c = 88 ∧ (j = 19 ∨ j = 23 ∨ j = 34)) ∨ (102 ≤ c ∧ c < 104) from by replace q : (c = 88 ∧ (j = 19 ∨ j = 23 ∨ j = 34)) ∨ (102 ≤ c ∧ c < 104) := q; exact q))
      refine j_st (st' := []) rfl ?_
      refine j_aload_n (pc := 24) dX12_bolts_24 rfl rfl ?_
      refine j_getI (pc := 25) fl_X12_363 dX12_bolts_25 (a_88 hM) rfl ?_
      have f18 : (-4 : Int) ≤ σ15 88 34 ∧ σ15 88 34 ≤ 40 := hIσ15 88 34
      refine j_bipush (pc := 28) dX12_bolts_28 rfl ?_
      refine j_icmpR_ne (pc := 30) (tgt := 36) ⟨by omega, by omega⟩ ⟨by omega, by omega⟩ dX12_bolts_30 rfl (fun h19 => ?_) (fun h19 => ?_)
      · refine j_iload_n (pc := 36) dX12_bolts_36 rfl rfl ?_
        refine j_ifR_ne (pc := 37) (tgt := 47) ⟨by omega, by omega⟩ dX12_bolts_37 rfl (fun h20 => ?_) (fun h20 => ?_)
        · refine j_iload_n (pc := 47) dX12_bolts_47 rfl rfl ?_
          refine j_bipush (pc := 48) dX12_bolts_48 rfl ?_
          refine j_isub (pc := 50) dX12_bolts_50 ?_
          refine j_top (fun z21 ez21 hz21 => ?_)
          have gz21 : w - 10 < -2147483648 ∨ 2147483647 < w - 10 ∨ z21 = w - 10 := by rw [ez21]; exact w32_or _
          refine j_aload_n (pc := 51) dX12_bolts_51 rfl rfl ?_
          refine j_getI (pc := 52) fl_X12_363 dX12_bolts_52 (a_88 hM) rfl ?_
          refine j_icmpR_ge (pc := 55) (tgt := 70) ⟨by omega, by omega⟩ ⟨by omega, by omega⟩ dX12_bolts_55 rfl (fun h22 => ?_) (fun h22 => ?_)
          · refine j_iconst (pc := 70) dX12_bolts_70 ?_
            exact j_iret (pc := 71) ⟨rfl, rfl⟩ dX12_bolts_71 rfl ⟨_, rfl, ⟨by omega, by omega⟩, hIσ15, hFσ15, trivial⟩
          · refine j_aload_n (pc := 58) dX12_bolts_58 rfl rfl ?_
            refine j_getR (pc := 59) (r := 103) fl_X12_53 dX12_bolts_59 (a_88 hM) rfl ?_
            refine j_iload_n (pc := 62) dX12_bolts_62 rfl rfl ?_
            refine j_bipush (pc := 63) dX12_bolts_63 rfl ?_
            refine j_isub (pc := 65) dX12_bolts_65 ?_
            refine j_top (fun z23 ez23 hz23 => ?_)
            have gz23 : w - 10 < -2147483648 ∨ 2147483647 < w - 10 ∨ z23 = w - 10 := by rw [ez23]; exact w32_or _
            refine j_iald (pc := 66) dX12_bolts_66 (a_103 hM) (by omega) (by omega) (by decide) ?_
            have f24 : (0 : Int) ≤ σ15 103 (z23.toNat) ∧ σ15 103 (z23.toNat) ≤ 40 := hIσ15 103 (z23.toNat)
            refine j_goto (pc := 67) (tgt := 71) dX12_bolts_67 rfl ?_
            exact j_iret (pc := 71) ⟨rfl, rfl⟩ dX12_bolts_71 rfl ⟨_, rfl, ⟨by omega, by omega⟩, hIσ15, hFσ15, trivial⟩
        · refine j_aload_n (pc := 40) dX12_bolts_40 rfl rfl ?_
          refine j_getI (pc := 41) fl_X12_363 dX12_bolts_41 (a_88 hM) rfl ?_
          refine j_goto (pc := 44) (tgt := 71) dX12_bolts_44 rfl ?_
          exact j_iret (pc := 71) ⟨rfl, rfl⟩ dX12_bolts_71 rfl ⟨_, rfl, ⟨by omega, by omega⟩, hIσ15, hFσ15, trivial⟩
      · refine j_bipush (pc := 33) dX12_bolts_33 rfl ?_
        exact j_iret (pc := 35) ⟨rfl, rfl⟩ dX12_bolts_35 rfl ⟨_, rfl, ⟨by omega, by omega⟩, hIσ15, hFσ15, trivial⟩
    · refine j_iconst (pc := 18) dX12_bolts_18 ?_
      exact j_iret (pc := 19) ⟨rfl, rfl⟩ dX12_bolts_19 rfl ⟨_, rfl, ⟨by omega, by omega⟩, hI, (tw_F_rf), trivial⟩
