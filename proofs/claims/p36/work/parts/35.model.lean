/-! 35.model -/
theorem dX12_readAt_0 : decode cX12_readAt 0 = .ok (.aload_n 0, 1) := by decide +kernel
theorem dX12_readAt_1 : decode cX12_readAt 1 = .ok (.iconst 1, 1) := by decide +kernel
theorem dX12_readAt_2 : decode cX12_readAt 2 = .ok (.bipush 40, 2) := by decide +kernel
theorem dX12_readAt_4 : decode cX12_readAt 4 = .ok (.invokevirtual 133, 3) := by decide +kernel
theorem dX12_readAt_7 : decode cX12_readAt 7 = .ok (.aload_n 0, 1) := by decide +kernel
theorem dX12_readAt_8 : decode cX12_readAt 8 = .ok (.getfield 91, 3) := by decide +kernel
theorem dX12_readAt_11 : decode cX12_readAt 11 = .ok (.ifCond .ne 10, 3) := by decide +kernel
theorem dX12_readAt_14 : decode cX12_readAt 14 = .ok (.aload_n 0, 1) := by decide +kernel
theorem dX12_readAt_15 : decode cX12_readAt 15 = .ok (.getfield 126, 3) := by decide +kernel
theorem dX12_readAt_18 : decode cX12_readAt 18 = .ok (.goto 4, 3) := by decide +kernel
theorem dX12_readAt_21 : decode cX12_readAt 21 = .ok (.iconst 0, 1) := by decide +kernel
theorem dX12_readAt_22 : decode cX12_readAt 22 = .ok (.istore_n 1, 1) := by decide +kernel
theorem dX12_readAt_23 : decode cX12_readAt 23 = .ok (.aload_n 0, 1) := by decide +kernel
theorem dX12_readAt_24 : decode cX12_readAt 24 = .ok (.getfield 91, 3) := by decide +kernel
theorem dX12_readAt_27 : decode cX12_readAt 27 = .ok (.ifCond .ne 49, 3) := by decide +kernel
theorem dX12_readAt_30 : decode cX12_readAt 30 = .ok (.aload_n 0, 1) := by decide +kernel
theorem dX12_readAt_31 : decode cX12_readAt 31 = .ok (.aload_n 0, 1) := by decide +kernel
theorem dX12_readAt_32 : decode cX12_readAt 32 = .ok (.getfield 32, 3) := by decide +kernel
theorem dX12_readAt_35 : decode cX12_readAt 35 = .ok (.iload_n 1, 1) := by decide +kernel
theorem dX12_readAt_36 : decode cX12_readAt 36 = .ok (.baload, 1) := by decide +kernel
theorem dX12_readAt_37 : decode cX12_readAt 37 = .ok (.ifCond .ne 7, 3) := by decide +kernel
theorem dX12_readAt_40 : decode cX12_readAt 40 = .ok (.iconst 1, 1) := by decide +kernel
theorem dX12_readAt_41 : decode cX12_readAt 41 = .ok (.goto 4, 3) := by decide +kernel
theorem dX12_readAt_44 : decode cX12_readAt 44 = .ok (.iconst 0, 1) := by decide +kernel
theorem dX12_readAt_45 : decode cX12_readAt 45 = .ok (.iconst 4, 1) := by decide +kernel
theorem dX12_readAt_46 : decode cX12_readAt 46 = .ok (.invokevirtual 129, 3) := by decide +kernel
theorem dX12_readAt_49 : decode cX12_readAt 49 = .ok (.aload_n 0, 1) := by decide +kernel
theorem dX12_readAt_50 : decode cX12_readAt 50 = .ok (.getfield 32, 3) := by decide +kernel
theorem dX12_readAt_53 : decode cX12_readAt 53 = .ok (.iload_n 1, 1) := by decide +kernel
theorem dX12_readAt_54 : decode cX12_readAt 54 = .ok (.iconst 1, 1) := by decide +kernel
theorem dX12_readAt_55 : decode cX12_readAt 55 = .ok (.bastore, 1) := by decide +kernel
theorem dX12_readAt_56 : decode cX12_readAt 56 = .ok (.aload_n 0, 1) := by decide +kernel
theorem dX12_readAt_57 : decode cX12_readAt 57 = .ok (.iload_n 1, 1) := by decide +kernel
theorem dX12_readAt_58 : decode cX12_readAt 58 = .ok (.aload_n 0, 1) := by decide +kernel
theorem dX12_readAt_59 : decode cX12_readAt 59 = .ok (.getfield 75, 3) := by decide +kernel
theorem dX12_readAt_62 : decode cX12_readAt 62 = .ok (.if_icmp .le 7, 3) := by decide +kernel
theorem dX12_readAt_65 : decode cX12_readAt 65 = .ok (.iload_n 1, 1) := by decide +kernel
theorem dX12_readAt_66 : decode cX12_readAt 66 = .ok (.goto 7, 3) := by decide +kernel
theorem dX12_readAt_69 : decode cX12_readAt 69 = .ok (.aload_n 0, 1) := by decide +kernel
theorem dX12_readAt_70 : decode cX12_readAt 70 = .ok (.getfield 75, 3) := by decide +kernel
theorem dX12_readAt_73 : decode cX12_readAt 73 = .ok (.putfield 75, 3) := by decide +kernel
theorem dX12_readAt_76 : decode cX12_readAt 76 = .ok (.aload_n 0, 1) := by decide +kernel
theorem dX12_readAt_77 : decode cX12_readAt 77 = .ok (.invokevirtual 137, 3) := by decide +kernel
theorem dX12_readAt_80 : decode cX12_readAt 80 = .ok (.aload_n 0, 1) := by decide +kernel
theorem dX12_readAt_81 : decode cX12_readAt 81 = .ok (.getfield 26, 3) := by decide +kernel
theorem dX12_readAt_84 : decode cX12_readAt 84 = .ok (.iconst 5, 1) := by decide +kernel
theorem dX12_readAt_85 : decode cX12_readAt 85 = .ok (.iload_n 1, 1) := by decide +kernel
theorem dX12_readAt_86 : decode cX12_readAt 86 = .ok (.imul, 1) := by decide +kernel
theorem dX12_readAt_87 : decode cX12_readAt 87 = .ok (.iconst 0, 1) := by decide +kernel
theorem dX12_readAt_88 : decode cX12_readAt 88 = .ok (.iadd, 1) := by decide +kernel
theorem dX12_readAt_89 : decode cX12_readAt 89 = .ok (.aload_n 0, 1) := by decide +kernel
theorem dX12_readAt_90 : decode cX12_readAt 90 = .ok (.iconst 0, 1) := by decide +kernel
theorem dX12_readAt_91 : decode cX12_readAt 91 = .ok (.bipush 9, 2) := by decide +kernel
theorem dX12_readAt_93 : decode cX12_readAt 93 = .ok (.invokevirtual 140, 3) := by decide +kernel
theorem dX12_readAt_96 : decode cX12_readAt 96 = .ok (.iastore, 1) := by decide +kernel
theorem dX12_readAt_97 : decode cX12_readAt 97 = .ok (.iconst 0, 1) := by decide +kernel
theorem dX12_readAt_98 : decode cX12_readAt 98 = .ok (.istore_n 2, 1) := by decide +kernel
theorem dX12_readAt_99 : decode cX12_readAt 99 = .ok (.aload_n 0, 1) := by decide +kernel
theorem dX12_readAt_100 : decode cX12_readAt 100 = .ok (.getfield 91, 3) := by decide +kernel
theorem dX12_readAt_103 : decode cX12_readAt 103 = .ok (.ifCond .ne 149, 3) := by decide +kernel
theorem dX12_readAt_106 : decode cX12_readAt 106 = .ok (.aload_n 0, 1) := by decide +kernel
theorem dX12_readAt_107 : decode cX12_readAt 107 = .ok (.getfield 115, 3) := by decide +kernel
theorem dX12_readAt_110 : decode cX12_readAt 110 = .ok (.iconst 1, 1) := by decide +kernel
theorem dX12_readAt_111 : decode cX12_readAt 111 = .ok (.if_icmp .ne 141, 3) := by decide +kernel
theorem dX12_readAt_114 : decode cX12_readAt 114 = .ok (.aload_n 0, 1) := by decide +kernel
theorem dX12_readAt_115 : decode cX12_readAt 115 = .ok (.invokevirtual 111, 3) := by decide +kernel
theorem dX12_readAt_118 : decode cX12_readAt 118 = .ok (.istore_n 3, 1) := by decide +kernel
theorem dX12_readAt_119 : decode cX12_readAt 119 = .ok (.aload_n 0, 1) := by decide +kernel
theorem dX12_readAt_120 : decode cX12_readAt 120 = .ok (.iload_n 3, 1) := by decide +kernel
theorem dX12_readAt_121 : decode cX12_readAt 121 = .ok (.bipush (-4), 2) := by decide +kernel
theorem dX12_readAt_123 : decode cX12_readAt 123 = .ok (.if_icmp .eq 7, 3) := by decide +kernel
theorem dX12_readAt_126 : decode cX12_readAt 126 = .ok (.iconst 1, 1) := by decide +kernel
theorem dX12_readAt_127 : decode cX12_readAt 127 = .ok (.goto 4, 3) := by decide +kernel
theorem dX12_readAt_130 : decode cX12_readAt 130 = .ok (.iconst 0, 1) := by decide +kernel
theorem dX12_readAt_131 : decode cX12_readAt 131 = .ok (.iconst 2, 1) := by decide +kernel
theorem dX12_readAt_132 : decode cX12_readAt 132 = .ok (.invokevirtual 129, 3) := by decide +kernel
theorem dX12_readAt_135 : decode cX12_readAt 135 = .ok (.aload_n 0, 1) := by decide +kernel
theorem dX12_readAt_136 : decode cX12_readAt 136 = .ok (.getfield 91, 3) := by decide +kernel
theorem dX12_readAt_139 : decode cX12_readAt 139 = .ok (.ifCond .ne 110, 3) := by decide +kernel
theorem dX12_readAt_142 : decode cX12_readAt 142 = .ok (.aload_n 0, 1) := by decide +kernel
theorem dX12_readAt_143 : decode cX12_readAt 143 = .ok (.iload_n 2, 1) := by decide +kernel
theorem dX12_readAt_144 : decode cX12_readAt 144 = .ok (.iload_n 3, 1) := by decide +kernel
theorem dX12_readAt_145 : decode cX12_readAt 145 = .ok (.bipush 20, 2) := by decide +kernel
theorem dX12_readAt_147 : decode cX12_readAt 147 = .ok (.isub, 1) := by decide +kernel
theorem dX12_readAt_148 : decode cX12_readAt 148 = .ok (.ishr, 1) := by decide +kernel
theorem dX12_readAt_149 : decode cX12_readAt 149 = .ok (.iconst 1, 1) := by decide +kernel
theorem dX12_readAt_150 : decode cX12_readAt 150 = .ok (.iand, 1) := by decide +kernel
theorem dX12_readAt_151 : decode cX12_readAt 151 = .ok (.ifCond .ne 7, 3) := by decide +kernel
theorem dX12_readAt_154 : decode cX12_readAt 154 = .ok (.iconst 1, 1) := by decide +kernel
theorem dX12_readAt_155 : decode cX12_readAt 155 = .ok (.goto 4, 3) := by decide +kernel
theorem dX12_readAt_158 : decode cX12_readAt 158 = .ok (.iconst 0, 1) := by decide +kernel
theorem dX12_readAt_159 : decode cX12_readAt 159 = .ok (.iconst 4, 1) := by decide +kernel
theorem dX12_readAt_160 : decode cX12_readAt 160 = .ok (.invokevirtual 129, 3) := by decide +kernel
theorem dX12_readAt_163 : decode cX12_readAt 163 = .ok (.iload_n 2, 1) := by decide +kernel
theorem dX12_readAt_164 : decode cX12_readAt 164 = .ok (.iconst 1, 1) := by decide +kernel
theorem dX12_readAt_165 : decode cX12_readAt 165 = .ok (.iload_n 3, 1) := by decide +kernel
theorem dX12_readAt_166 : decode cX12_readAt 166 = .ok (.bipush 20, 2) := by decide +kernel
theorem dX12_readAt_168 : decode cX12_readAt 168 = .ok (.isub, 1) := by decide +kernel
theorem dX12_readAt_169 : decode cX12_readAt 169 = .ok (.ishl, 1) := by decide +kernel
theorem dX12_readAt_170 : decode cX12_readAt 170 = .ok (.ior, 1) := by decide +kernel
theorem dX12_readAt_171 : decode cX12_readAt 171 = .ok (.istore_n 2, 1) := by decide +kernel
theorem dX12_readAt_172 : decode cX12_readAt 172 = .ok (.aload_n 0, 1) := by decide +kernel
theorem dX12_readAt_173 : decode cX12_readAt 173 = .ok (.invokevirtual 137, 3) := by decide +kernel
theorem dX12_readAt_176 : decode cX12_readAt 176 = .ok (.iload_n 3, 1) := by decide +kernel
theorem dX12_readAt_177 : decode cX12_readAt 177 = .ok (.bipush 20, 2) := by decide +kernel
theorem dX12_readAt_179 : decode cX12_readAt 179 = .ok (.if_icmp .ne 23, 3) := by decide +kernel
theorem dX12_readAt_182 : decode cX12_readAt 182 = .ok (.aload_n 0, 1) := by decide +kernel
theorem dX12_readAt_183 : decode cX12_readAt 183 = .ok (.getfield 26, 3) := by decide +kernel
theorem dX12_readAt_186 : decode cX12_readAt 186 = .ok (.iconst 5, 1) := by decide +kernel
theorem dX12_readAt_187 : decode cX12_readAt 187 = .ok (.iload_n 1, 1) := by decide +kernel
theorem dX12_readAt_188 : decode cX12_readAt 188 = .ok (.imul, 1) := by decide +kernel
theorem dX12_readAt_189 : decode cX12_readAt 189 = .ok (.iconst 1, 1) := by decide +kernel
theorem dX12_readAt_190 : decode cX12_readAt 190 = .ok (.iadd, 1) := by decide +kernel
theorem dX12_readAt_191 : decode cX12_readAt 191 = .ok (.aload_n 0, 1) := by decide +kernel
theorem dX12_readAt_192 : decode cX12_readAt 192 = .ok (.iconst 1, 1) := by decide +kernel
theorem dX12_readAt_193 : decode cX12_readAt 193 = .ok (.bipush 10, 2) := by decide +kernel
theorem dX12_readAt_195 : decode cX12_readAt 195 = .ok (.invokevirtual 140, 3) := by decide +kernel
theorem dX12_readAt_198 : decode cX12_readAt 198 = .ok (.iastore, 1) := by decide +kernel
theorem dX12_readAt_199 : decode cX12_readAt 199 = .ok (.goto 50, 3) := by decide +kernel
theorem dX12_readAt_202 : decode cX12_readAt 202 = .ok (.iload_n 3, 1) := by decide +kernel
theorem dX12_readAt_203 : decode cX12_readAt 203 = .ok (.bipush 23, 2) := by decide +kernel
theorem dX12_readAt_205 : decode cX12_readAt 205 = .ok (.if_icmp .ne 23, 3) := by decide +kernel
theorem dX12_readAt_208 : decode cX12_readAt 208 = .ok (.aload_n 0, 1) := by decide +kernel
theorem dX12_readAt_209 : decode cX12_readAt 209 = .ok (.getfield 26, 3) := by decide +kernel
theorem dX12_readAt_212 : decode cX12_readAt 212 = .ok (.iconst 5, 1) := by decide +kernel
theorem dX12_readAt_213 : decode cX12_readAt 213 = .ok (.iload_n 1, 1) := by decide +kernel
theorem dX12_readAt_214 : decode cX12_readAt 214 = .ok (.imul, 1) := by decide +kernel
theorem dX12_readAt_215 : decode cX12_readAt 215 = .ok (.iconst 4, 1) := by decide +kernel
theorem dX12_readAt_216 : decode cX12_readAt 216 = .ok (.iadd, 1) := by decide +kernel
theorem dX12_readAt_217 : decode cX12_readAt 217 = .ok (.aload_n 0, 1) := by decide +kernel
theorem dX12_readAt_218 : decode cX12_readAt 218 = .ok (.iconst 0, 1) := by decide +kernel
theorem dX12_readAt_219 : decode cX12_readAt 219 = .ok (.bipush 9, 2) := by decide +kernel
theorem dX12_readAt_221 : decode cX12_readAt 221 = .ok (.invokevirtual 140, 3) := by decide +kernel
theorem dX12_readAt_224 : decode cX12_readAt 224 = .ok (.iastore, 1) := by decide +kernel
theorem dX12_readAt_225 : decode cX12_readAt 225 = .ok (.goto 24, 3) := by decide +kernel
theorem dX12_readAt_228 : decode cX12_readAt 228 = .ok (.aload_n 0, 1) := by decide +kernel
theorem dX12_readAt_229 : decode cX12_readAt 229 = .ok (.getfield 26, 3) := by decide +kernel
theorem dX12_readAt_232 : decode cX12_readAt 232 = .ok (.iconst 5, 1) := by decide +kernel
theorem dX12_readAt_233 : decode cX12_readAt 233 = .ok (.iload_n 1, 1) := by decide +kernel
theorem dX12_readAt_234 : decode cX12_readAt 234 = .ok (.imul, 1) := by decide +kernel
theorem dX12_readAt_235 : decode cX12_readAt 235 = .ok (.iload_n 3, 1) := by decide +kernel
theorem dX12_readAt_236 : decode cX12_readAt 236 = .ok (.bipush 21, 2) := by decide +kernel
theorem dX12_readAt_238 : decode cX12_readAt 238 = .ok (.if_icmp .ne 7, 3) := by decide +kernel
theorem dX12_readAt_241 : decode cX12_readAt 241 = .ok (.iconst 2, 1) := by decide +kernel
theorem dX12_readAt_242 : decode cX12_readAt 242 = .ok (.goto 4, 3) := by decide +kernel
theorem dX12_readAt_245 : decode cX12_readAt 245 = .ok (.iconst 3, 1) := by decide +kernel
theorem dX12_readAt_246 : decode cX12_readAt 246 = .ok (.iadd, 1) := by decide +kernel
theorem dX12_readAt_247 : decode cX12_readAt 247 = .ok (.iconst 1, 1) := by decide +kernel
theorem dX12_readAt_248 : decode cX12_readAt 248 = .ok (.iastore, 1) := by decide +kernel
theorem dX12_readAt_249 : decode cX12_readAt 249 = .ok (.goto (-150), 3) := by decide +kernel
theorem dX12_readAt_252 : decode cX12_readAt 252 = .ok (.return_, 1) := by decide +kernel
theorem dX12_readRack_0 : decode cX12_readRack 0 = .ok (.aload_n 0, 1) := by decide +kernel
theorem dX12_readRack_1 : decode cX12_readRack 1 = .ok (.iconst 1, 1) := by decide +kernel
theorem dX12_readRack_2 : decode cX12_readRack 2 = .ok (.bipush 10, 2) := by decide +kernel
theorem dX12_readRack_4 : decode cX12_readRack 4 = .ok (.invokevirtual 133, 3) := by decide +kernel
theorem dX12_readRack_7 : decode cX12_readRack 7 = .ok (.aload_n 0, 1) := by decide +kernel
theorem dX12_readRack_8 : decode cX12_readRack 8 = .ok (.getfield 91, 3) := by decide +kernel
theorem dX12_readRack_11 : decode cX12_readRack 11 = .ok (.ifCond .ne 10, 3) := by decide +kernel
theorem dX12_readRack_14 : decode cX12_readRack 14 = .ok (.aload_n 0, 1) := by decide +kernel
theorem dX12_readRack_15 : decode cX12_readRack 15 = .ok (.getfield 126, 3) := by decide +kernel
theorem dX12_readRack_18 : decode cX12_readRack 18 = .ok (.goto 4, 3) := by decide +kernel
theorem dX12_readRack_21 : decode cX12_readRack 21 = .ok (.iconst 0, 1) := by decide +kernel
theorem dX12_readRack_22 : decode cX12_readRack 22 = .ok (.istore_n 1, 1) := by decide +kernel
theorem dX12_readRack_23 : decode cX12_readRack 23 = .ok (.aload_n 0, 1) := by decide +kernel
theorem dX12_readRack_24 : decode cX12_readRack 24 = .ok (.getfield 91, 3) := by decide +kernel
theorem dX12_readRack_27 : decode cX12_readRack 27 = .ok (.ifCond .ne 29, 3) := by decide +kernel
theorem dX12_readRack_30 : decode cX12_readRack 30 = .ok (.aload_n 0, 1) := by decide +kernel
theorem dX12_readRack_31 : decode cX12_readRack 31 = .ok (.aload_n 0, 1) := by decide +kernel
theorem dX12_readRack_32 : decode cX12_readRack 32 = .ok (.getfield 35, 3) := by decide +kernel
theorem dX12_readRack_35 : decode cX12_readRack 35 = .ok (.iload_n 1, 1) := by decide +kernel
theorem dX12_readRack_36 : decode cX12_readRack 36 = .ok (.baload, 1) := by decide +kernel
theorem dX12_readRack_37 : decode cX12_readRack 37 = .ok (.ifCond .ne 7, 3) := by decide +kernel
theorem dX12_readRack_40 : decode cX12_readRack 40 = .ok (.iconst 1, 1) := by decide +kernel
theorem dX12_readRack_41 : decode cX12_readRack 41 = .ok (.goto 4, 3) := by decide +kernel
theorem dX12_readRack_44 : decode cX12_readRack 44 = .ok (.iconst 0, 1) := by decide +kernel
theorem dX12_readRack_45 : decode cX12_readRack 45 = .ok (.iconst 4, 1) := by decide +kernel
theorem dX12_readRack_46 : decode cX12_readRack 46 = .ok (.invokevirtual 129, 3) := by decide +kernel
theorem dX12_readRack_49 : decode cX12_readRack 49 = .ok (.aload_n 0, 1) := by decide +kernel
theorem dX12_readRack_50 : decode cX12_readRack 50 = .ok (.getfield 35, 3) := by decide +kernel
theorem dX12_readRack_53 : decode cX12_readRack 53 = .ok (.iload_n 1, 1) := by decide +kernel
theorem dX12_readRack_54 : decode cX12_readRack 54 = .ok (.iconst 1, 1) := by decide +kernel
theorem dX12_readRack_55 : decode cX12_readRack 55 = .ok (.bastore, 1) := by decide +kernel
theorem dX12_readRack_56 : decode cX12_readRack 56 = .ok (.aload_n 0, 1) := by decide +kernel
theorem dX12_readRack_57 : decode cX12_readRack 57 = .ok (.invokevirtual 137, 3) := by decide +kernel
theorem dX12_readRack_60 : decode cX12_readRack 60 = .ok (.aload_n 0, 1) := by decide +kernel
theorem dX12_readRack_61 : decode cX12_readRack 61 = .ok (.getfield 29, 3) := by decide +kernel
theorem dX12_readRack_64 : decode cX12_readRack 64 = .ok (.iload_n 1, 1) := by decide +kernel
theorem dX12_readRack_65 : decode cX12_readRack 65 = .ok (.aload_n 0, 1) := by decide +kernel
theorem dX12_readRack_66 : decode cX12_readRack 66 = .ok (.iconst 0, 1) := by decide +kernel
theorem dX12_readRack_67 : decode cX12_readRack 67 = .ok (.iconst 5, 1) := by decide +kernel
theorem dX12_readRack_68 : decode cX12_readRack 68 = .ok (.invokevirtual 140, 3) := by decide +kernel
theorem dX12_readRack_71 : decode cX12_readRack 71 = .ok (.iastore, 1) := by decide +kernel
theorem dX12_readRack_72 : decode cX12_readRack 72 = .ok (.return_, 1) := by decide +kernel
theorem dX12_lowest_0 : decode cX12_lowest 0 = .ok (.iload_n 1, 1) := by decide +kernel
theorem dX12_lowest_1 : decode cX12_lowest 1 = .ok (.ifCond .eq 13, 3) := by decide +kernel
theorem dX12_lowest_4 : decode cX12_lowest 4 = .ok (.iload_n 1, 1) := by decide +kernel
theorem dX12_lowest_5 : decode cX12_lowest 5 = .ok (.iconst 1, 1) := by decide +kernel
theorem dX12_lowest_6 : decode cX12_lowest 6 = .ok (.if_icmp .eq 8, 3) := by decide +kernel
theorem dX12_lowest_9 : decode cX12_lowest 9 = .ok (.iload_n 1, 1) := by decide +kernel
theorem dX12_lowest_10 : decode cX12_lowest 10 = .ok (.iconst 3, 1) := by decide +kernel
theorem dX12_lowest_11 : decode cX12_lowest 11 = .ok (.if_icmp .ne 7, 3) := by decide +kernel
theorem dX12_lowest_14 : decode cX12_lowest 14 = .ok (.iconst 1, 1) := by decide +kernel
theorem dX12_lowest_15 : decode cX12_lowest 15 = .ok (.goto 4, 3) := by decide +kernel
theorem dX12_lowest_18 : decode cX12_lowest 18 = .ok (.iconst 0, 1) := by decide +kernel
theorem dX12_lowest_19 : decode cX12_lowest 19 = .ok (.ireturn, 1) := by decide +kernel
theorem dX12_highest_0 : decode cX12_highest 0 = .ok (.iload_n 1, 1) := by decide +kernel
theorem dX12_highest_1 : decode cX12_highest 1 = .ok (.ifCond .ne 8, 3) := by decide +kernel
theorem dX12_highest_4 : decode cX12_highest 4 = .ok (.bipush 40, 2) := by decide +kernel
theorem dX12_highest_6 : decode cX12_highest 6 = .ok (.goto 62, 3) := by decide +kernel
theorem dX12_highest_9 : decode cX12_highest 9 = .ok (.iload_n 1, 1) := by decide +kernel
theorem dX12_highest_10 : decode cX12_highest 10 = .ok (.iconst 1, 1) := by decide +kernel
theorem dX12_highest_11 : decode cX12_highest 11 = .ok (.if_icmp .ne 9, 3) := by decide +kernel
theorem dX12_highest_14 : decode cX12_highest 14 = .ok (.sipush 999, 3) := by decide +kernel
theorem dX12_highest_17 : decode cX12_highest 17 = .ok (.goto 51, 3) := by decide +kernel
theorem dX12_highest_20 : decode cX12_highest 20 = .ok (.iload_n 1, 1) := by decide +kernel
theorem dX12_highest_21 : decode cX12_highest 21 = .ok (.iconst 2, 1) := by decide +kernel
theorem dX12_highest_22 : decode cX12_highest 22 = .ok (.if_icmp .ne 8, 3) := by decide +kernel
theorem dX12_highest_25 : decode cX12_highest 25 = .ok (.bipush 99, 2) := by decide +kernel
theorem dX12_highest_27 : decode cX12_highest 27 = .ok (.goto 41, 3) := by decide +kernel
theorem dX12_highest_30 : decode cX12_highest 30 = .ok (.iload_n 1, 1) := by decide +kernel
theorem dX12_highest_31 : decode cX12_highest 31 = .ok (.iconst 3, 1) := by decide +kernel
theorem dX12_highest_32 : decode cX12_highest 32 = .ok (.if_icmp .eq 9, 3) := by decide +kernel
theorem dX12_highest_35 : decode cX12_highest 35 = .ok (.iload_n 1, 1) := by decide +kernel
theorem dX12_highest_36 : decode cX12_highest 36 = .ok (.bipush 7, 2) := by decide +kernel
theorem dX12_highest_38 : decode cX12_highest 38 = .ok (.if_icmp .ne 8, 3) := by decide +kernel
theorem dX12_highest_41 : decode cX12_highest 41 = .ok (.bipush 60, 2) := by decide +kernel
theorem dX12_highest_43 : decode cX12_highest 43 = .ok (.goto 25, 3) := by decide +kernel
theorem dX12_highest_46 : decode cX12_highest 46 = .ok (.iload_n 1, 1) := by decide +kernel
theorem dX12_highest_47 : decode cX12_highest 47 = .ok (.iconst 4, 1) := by decide +kernel
theorem dX12_highest_48 : decode cX12_highest 48 = .ok (.if_icmp .ne 8, 3) := by decide +kernel
theorem dX12_highest_51 : decode cX12_highest 51 = .ok (.bipush 50, 2) := by decide +kernel
theorem dX12_highest_53 : decode cX12_highest 53 = .ok (.goto 15, 3) := by decide +kernel
theorem dX12_highest_56 : decode cX12_highest 56 = .ok (.iload_n 1, 1) := by decide +kernel
theorem dX12_highest_57 : decode cX12_highest 57 = .ok (.iconst 5, 1) := by decide +kernel
theorem dX12_highest_58 : decode cX12_highest 58 = .ok (.if_icmp .ne 8, 3) := by decide +kernel
theorem dX12_highest_61 : decode cX12_highest 61 = .ok (.bipush 20, 2) := by decide +kernel
theorem dX12_highest_63 : decode cX12_highest 63 = .ok (.goto 5, 3) := by decide +kernel
theorem dX12_highest_66 : decode cX12_highest 66 = .ok (.bipush 9, 2) := by decide +kernel
theorem dX12_highest_68 : decode cX12_highest 68 = .ok (.ireturn, 1) := by decide +kernel
abbrev q_X12_readAt  (σ : tw_M) : Option tw_V → tw_M → Prop := fun z τ => z = none ∧ tw_I τ ∧ tw_F (fun c j => (c = 88 ∧ (j = 10 ∨ j = 13 ∨ j = 14 ∨ j = 15 ∨ j = 16 ∨ j = 17 ∨ j = 18)) ∨ c = 94 ∨ c = 96) σ τ ∧ (DQ τ) ∧ (¬ τ 88 17 = 0 ∨ σ 88 17 = 0) ∧ (σ 88 13 ≤ τ 88 13)
set_option maxHeartbeats 4000000 in
set_option maxRecDepth 100000 in
theorem l_X12_readAt {G : tw_G} (hM : tw_isM G) (σ : tw_M) (hI : tw_I σ) (hq0 : DQ σ) : ∀ N_ : Nat, (∀ (h : Int) (hh : 0 ≤ h ∧ h ≤ 40) (d : Int) (hd : -2147483648 ≤ d ∧ d ≤ 2147483647) (τ : tw_M) (hIτ : tw_I τ) (hFτ : tw_F (fun c j => (c = 88 ∧ (j = 10 ∨ j = 13 ∨ j = 14 ∨ j = 15 ∨ j = 16 ∨ j = 17 ∨ j = 18)) ∨ c = 94 ∨ c = 96) σ τ) (i0 : DQ τ) (i1 : ¬ τ 88 17 = 0 ∨ σ 88 17 = 0) (i2 : σ 88 13 ≤ τ 88 13) (hm : (mMu (τ 88 17) (τ 88 15) (τ 88 13)).toNat < N_), tw_J G (tw_mt RX12 cX12_readAt 4 none 3) (tw_E G (q_X12_readAt σ)) 99 [(0, vR 88), (1, vI h), (2, vI d)] [] τ) := by
  intro N_
  induction N_ with
  | zero => exact fun h hh d hd τ hIτ hFτ i0 i1 i2 hm => absurd hm (Nat.not_lt_zero _)
  | succ N_ ih =>
    intro h hh d hd τ hIτ hFτ i0 i1 i2 hm
    refine j_aload_n (pc := 99) dX12_readAt_99 rfl rfl ?_
    refine j_getI (pc := 100) fl_X12_91 dX12_readAt_100 (a_88 hM) rfl ?_
    have f1 : (0 : Int) ≤ τ 88 17 ∧ τ 88 17 ≤ 5 := hIτ 88 17
    refine j_ifR_ne (pc := 103) (tgt := 252) ⟨by omega, by omega⟩ dX12_readAt_103 rfl (fun h2 => ?_) (fun h2 => ?_)
    · exact j_vret (pc := 252) ⟨rfl, rfl⟩ dX12_readAt_252 rfl ⟨rfl, hIτ, hFτ, i0, by omega, by omega⟩
    · refine j_aload_n (pc := 106) dX12_readAt_106 rfl rfl ?_
      refine j_getI (pc := 107) fl_X12_115 dX12_readAt_107 (a_88 hM) rfl ?_
      have f3 : (-2147483648 : Int) ≤ τ 88 15 ∧ τ 88 15 ≤ 2147483647 := hIτ 88 15
      refine j_iconst (pc := 110) dX12_readAt_110 ?_
      refine j_icmpR_ne (pc := 111) (tgt := 252) ⟨by omega, by omega⟩ ⟨by omega, by omega⟩ dX12_readAt_111 rfl (fun h4 => ?_) (fun h4 => ?_)
      · exact j_vret (pc := 252) ⟨rfl, rfl⟩ dX12_readAt_252 rfl ⟨rfl, hIτ, hFτ, i0, by omega, by omega⟩
      · refine j_aload_n (pc := 114) dX12_readAt_114 rfl rfl ?_
        refine j_callV (pc := 115) (As := []) (st := []) (c_X12_withNow hM τ hIτ) mv_X12_111 rfl rfl rfl (a_88 hM) dX12_readAt_115 ⟨Nat.le_of_ble_eq_true rfl, Nat.le_of_ble_eq_true rfl⟩ ⟨Nat.le_refl _, Nat.le_refl _⟩ rfl (Nat.le_of_ble_eq_true rfl) rfl (fun z5 σ6 hz5 => ?_)
        obtain ⟨r8, rfl, hr8, rfl, q7_0⟩ := hz5
        replace q7_0 : r8 = -4 ∨ 20 ≤ r8 := q7_0
        refine j_st (st' := [vI r8]) rfl ?_
        refine j_istore_n (pc := 118) (i := 3) (ls' := [(0, vR 88), (1, vI h), (2, vI d), (3, vI r8)]) [1, 2, 3, 0] dX12_readAt_118 rfl (Nat.le_of_ble_eq_true rfl) rfl rfl ?_
        refine j_aload_n (pc := 119) dX12_readAt_119 rfl rfl ?_
        refine j_iload_n (pc := 120) dX12_readAt_120 rfl rfl ?_
        refine j_bipush (pc := 121) dX12_readAt_121 rfl ?_
        refine j_icmpR_eq (pc := 123) (tgt := 130) ⟨by omega, by omega⟩ ⟨by omega, by omega⟩ dX12_readAt_123 rfl (fun h9 => ?_) (fun h9 => ?_)
        · refine j_iconst (pc := 130) dX12_readAt_130 ?_
          refine j_iconst (pc := 131) dX12_readAt_131 ?_
          refine j_callV (pc := 132) (As := [vI 0, vI 2]) (st := []) (c_X12_needs hM 0 ⟨by omega, by omega⟩ 2 ⟨by omega, by omega⟩ τ hIτ) mv_X12_129 rfl rfl rfl (a_88 hM) dX12_readAt_132 ⟨Nat.le_of_ble_eq_true rfl, Nat.le_of_ble_eq_true rfl⟩ ⟨Nat.le_refl _, Nat.le_refl _⟩ rfl (Nat.le_of_ble_eq_true rfl) rfl (fun z10 σ11 hz10 => ?_)
          obtain ⟨rfl, hIσ11, hGσ11, q12_0⟩ := hz10
          replace q12_0 : (¬ (0 : Int) = 0 ∧ σ11 88 17 = τ 88 17) ∨ ((0 : Int) = 0 ∧ τ 88 17 = 0 ∧ σ11 88 17 = (2 : Int)) ∨ ((0 : Int) = 0 ∧ ¬ τ 88 17 = 0 ∧ σ11 88 17 = τ 88 17) := q12_0
          have hFσ11 : tw_F (fun c j => (c = 88 ∧ (j = 10 ∨ j = 13 ∨ j = 14 ∨ j = 15 ∨ j = 16 ∨ j = 17 ∨ j = 18)) ∨ c = 94 ∨ c = 96) σ σ11 := tw_F_tr hFτ hGσ11 (fun c j q => (show (c = 88 ∧ (j = 10 ∨ j = 13 ∨ j = 14 ∨ j = 15 ∨ j = 16 ∨ j = 17 ∨ j = 18)) ∨ c = 94 ∨ c = 96 from by replace q : (c = 88 ∧ (j = 17 ∨ j = 18)) := q; omega))
          refine j_st (st' := []) rfl ?_
          refine j_aload_n (pc := 135) dX12_readAt_135 rfl rfl ?_
          refine j_getI (pc := 136) fl_X12_91 dX12_readAt_136 (a_88 hM) rfl ?_
          have f14 : (0 : Int) ≤ σ11 88 17 ∧ σ11 88 17 ≤ 5 := hIσ11 88 17
          refine j_ifR_ne (pc := 139) (tgt := 249) ⟨by omega, by omega⟩ dX12_readAt_139 rfl (fun h15 => ?_) (fun h15 => ?_)
          · have y16 : σ11 88 13 = τ 88 13 := (hGσ11 88 13 (show ¬ ((88 = 88 ∧ (13 = 17 ∨ 13 = 18))) from by omega))
            skip
            have y17 : σ11 88 15 = τ 88 15 := (hGσ11 88 15 (show ¬ ((88 = 88 ∧ (15 = 17 ∨ 15 = 18))) from by omega))
            have y1 : σ11 88 17 = σ11 88 17 := by first | rfl | exact tw_ne1 _ (by omega)
            have y2 : σ11 88 15 = σ11 88 15 := by first | rfl | exact tw_ne1 _ (by omega)
            have y3 : σ11 88 13 = σ11 88 13 := by first | rfl | exact tw_ne1 _ (by omega)
            have y4 : (0 : Int) ≤ σ11 88 13 ∧ σ11 88 13 ≤ 400 := hIσ11 88 13
            have lt9 := mMu_lt (f := τ 88 17) (s := τ 88 15) (p := τ 88 13) (f2 := σ11 88 17) (s2 := σ11 88 15) (p2 := σ11 88 13) (by omega) (by omega) (by omega) (by omega) (by omega)
            refine j_goto (pc := 249) (tgt := 99) dX12_readAt_249 rfl ?_
            refine j_ls (ls' := [(0, vR 88), (1, vI h), (2, vI d)]) [0, 1, 2] rfl ?_
            have y18 : σ11 88 13 = τ 88 13 := (hGσ11 88 13 (show ¬ ((88 = 88 ∧ (13 = 17 ∨ 13 = 18))) from by omega))
            have f19 : (0 : Int) ≤ τ 88 13 ∧ τ 88 13 ≤ 400 := hIτ 88 13
            have y20 : σ11 88 15 = τ 88 15 := (hGσ11 88 15 (show ¬ ((88 = 88 ∧ (15 = 17 ∨ 15 = 18))) from by omega))
            have y21 : σ11 88 13 = τ 88 13 := (hGσ11 88 13 (show ¬ ((88 = 88 ∧ (13 = 17 ∨ 13 = 18))) from by omega))
            exact ih h ⟨by omega, by omega⟩ d ⟨by omega, by omega⟩ σ11 hIσ11 hFσ11 (show DQ σ11 from (by first | exact DQ_put (DQ_F i0 (fun j => rfl) (fun j => rfl) (by omega)) _ (by first | exact Or.inr (w92 (by omega) (by omega) (by omega)) | (rcases q12_0 with q | q; exact Or.inl (by omega); (first | exact Or.inr (w92 (by omega) (by omega) (by omega)) | exact Or.inr (w92 (h := 0) (k := 0) (by omega) (by omega) (by omega))))) | exact DQ_F i0 (fun j => (hGσ11 93 j (show ¬ ((93 = 88 ∧ (j = 17 ∨ j = 18))) from by omega))) (fun j => (hGσ11 94 j (show ¬ ((94 = 88 ∧ (j = 17 ∨ j = 18))) from by omega))) (by omega))) (show ¬ σ11 88 17 = 0 ∨ σ 88 17 = 0 from by omega) (show σ 88 13 ≤ σ11 88 13 from by omega) (show (mMu (σ11 88 17) (σ11 88 15) (σ11 88 13)).toNat < N_ from by omega)
          · refine j_aload_n (pc := 142) dX12_readAt_142 rfl rfl ?_
            refine j_iload_n (pc := 143) dX12_readAt_143 rfl rfl ?_
            refine j_iload_n (pc := 144) dX12_readAt_144 rfl rfl ?_
            refine j_bipush (pc := 145) dX12_readAt_145 rfl ?_
            refine j_isub (pc := 147) dX12_readAt_147 ?_
            refine j_ishr (pc := 148) dX12_readAt_148 (fun z22 ez22 => ?_)
            have hz22 : (-2147483648 : Int) ≤ z22 ∧ z22 ≤ 2147483647 := by rw [ez22]; exact shr_in _ _
            refine j_iconst (pc := 149) dX12_readAt_149 ?_
            refine j_iand (pc := 150) dX12_readAt_150 (fun z23 ez23 => ?_)
            have hz23 : (-2147483648 : Int) ≤ z23 ∧ z23 ≤ 2147483647 := by rw [ez23]; exact and_in _ _
            refine j_ifR_ne (pc := 151) (tgt := 158) ⟨by omega, by omega⟩ dX12_readAt_151 rfl (fun h24 => ?_) (fun h24 => ?_)
            · refine j_iconst (pc := 158) dX12_readAt_158 ?_
              refine j_iconst (pc := 159) dX12_readAt_159 ?_
              refine j_callV (pc := 160) (As := [vI 0, vI 4]) (st := []) (c_X12_needs hM 0 ⟨by omega, by omega⟩ 4 ⟨by omega, by omega⟩ σ11 hIσ11) mv_X12_129 rfl rfl rfl (a_88 hM) dX12_readAt_160 ⟨Nat.le_of_ble_eq_true rfl, Nat.le_of_ble_eq_true rfl⟩ ⟨Nat.le_refl _, Nat.le_refl _⟩ rfl (Nat.le_of_ble_eq_true rfl) rfl (fun z25 σ26 hz25 => ?_)
              obtain ⟨rfl, hIσ26, hGσ26, q27_0⟩ := hz25
              replace q27_0 : (¬ (0 : Int) = 0 ∧ σ26 88 17 = σ11 88 17) ∨ ((0 : Int) = 0 ∧ σ11 88 17 = 0 ∧ σ26 88 17 = (4 : Int)) ∨ ((0 : Int) = 0 ∧ ¬ σ11 88 17 = 0 ∧ σ26 88 17 = σ11 88 17) := q27_0
              have hFσ26 : tw_F (fun c j => (c = 88 ∧ (j = 10 ∨ j = 13 ∨ j = 14 ∨ j = 15 ∨ j = 16 ∨ j = 17 ∨ j = 18)) ∨ c = 94 ∨ c = 96) σ σ26 := tw_F_tr hFσ11 hGσ26 (fun c j q => (show (c = 88 ∧ (j = 10 ∨ j = 13 ∨ j = 14 ∨ j = 15 ∨ j = 16 ∨ j = 17 ∨ j = 18)) ∨ c = 94 ∨ c = 96 from by replace q : (c = 88 ∧ (j = 17 ∨ j = 18)) := q; omega))
              refine j_st (st' := []) rfl ?_
              refine j_iload_n (pc := 163) dX12_readAt_163 rfl rfl ?_
              refine j_iconst (pc := 164) dX12_readAt_164 ?_
              refine j_iload_n (pc := 165) dX12_readAt_165 rfl rfl ?_
              refine j_bipush (pc := 166) dX12_readAt_166 rfl ?_
              refine j_isub (pc := 168) dX12_readAt_168 ?_
              refine j_ishl (pc := 169) dX12_readAt_169 (fun z29 ez29 => ?_)
              have hz29 : (-2147483648 : Int) ≤ z29 ∧ z29 ≤ 2147483647 := by rw [ez29]; exact shl_in _ _
              refine j_ior (pc := 170) dX12_readAt_170 (fun z30 ez30 => ?_)
              have hz30 : (-2147483648 : Int) ≤ z30 ∧ z30 ≤ 2147483647 := by rw [ez30]; exact or_in _ _
              refine j_istore_n (pc := 171) (i := 2) (ls' := [(0, vR 88), (1, vI h), (2, vI z30), (3, vI r8)]) [1, 2, 0, 3] dX12_readAt_171 rfl (Nat.le_of_ble_eq_true rfl) rfl rfl ?_
              refine j_aload_n (pc := 172) dX12_readAt_172 rfl rfl ?_
              refine j_callV (pc := 173) (As := []) (st := []) (c_X12_next hM σ26 hIσ26) mv_X12_137 rfl rfl rfl (a_88 hM) dX12_readAt_173 ⟨Nat.le_of_ble_eq_true rfl, Nat.le_of_ble_eq_true rfl⟩ ⟨Nat.le_refl _, Nat.le_refl _⟩ rfl (Nat.le_of_ble_eq_true rfl) rfl (fun z31 σ32 hz31 => ?_)
              obtain ⟨rfl, hIσ32, hGσ32, q33_0, q33_1, q33_2⟩ := hz31
              replace q33_0 : ¬ σ32 88 17 = 0 ∨ σ26 88 17 = 0 := q33_0
              replace q33_1 : σ26 88 13 ≤ σ32 88 13 := q33_1
              have y35 : σ26 88 13 = τ 88 13 := ((hGσ26 88 13 (show ¬ ((88 = 88 ∧ (13 = 17 ∨ 13 = 18))) from by omega))).trans (hGσ11 88 13 (show ¬ ((88 = 88 ∧ (13 = 17 ∨ 13 = 18))) from by omega))
              have f36 : (0 : Int) ≤ τ 88 13 ∧ τ 88 13 ≤ 400 := hIτ 88 13
              replace q33_2 : ¬ σ32 88 17 = 0 ∨ σ32 88 15 = 0 ∨ σ26 88 13 < σ32 88 13 := q33_2
              have y37 : σ26 88 13 = τ 88 13 := ((hGσ26 88 13 (show ¬ ((88 = 88 ∧ (13 = 17 ∨ 13 = 18))) from by omega))).trans (hGσ11 88 13 (show ¬ ((88 = 88 ∧ (13 = 17 ∨ 13 = 18))) from by omega))
              have hFσ32 : tw_F (fun c j => (c = 88 ∧ (j = 10 ∨ j = 13 ∨ j = 14 ∨ j = 15 ∨ j = 16 ∨ j = 17 ∨ j = 18)) ∨ c = 94 ∨ c = 96) σ σ32 := tw_F_tr hFσ26 hGσ32 (fun c j q => (show (c = 88 ∧ (j = 10 ∨ j = 13 ∨ j = 14 ∨ j = 15 ∨ j = 16 ∨ j = 17 ∨ j = 18)) ∨ c = 94 ∨ c = 96 from by replace q : (c = 88 ∧ (j = 13 ∨ j = 14 ∨ j = 15 ∨ j = 16 ∨ j = 17 ∨ j = 18)) := q; omega))
              refine j_st (st' := []) rfl ?_
              refine j_iload_n (pc := 176) dX12_readAt_176 rfl rfl ?_
              refine j_bipush (pc := 177) dX12_readAt_177 rfl ?_
              refine j_icmpR_ne (pc := 179) (tgt := 202) ⟨by omega, by omega⟩ ⟨by omega, by omega⟩ dX12_readAt_179 rfl (fun h38 => ?_) (fun h38 => by exfalso; omega)
              refine j_iload_n (pc := 202) dX12_readAt_202 rfl rfl ?_
              refine j_bipush (pc := 203) dX12_readAt_203 rfl ?_
              refine j_icmpR_ne (pc := 205) (tgt := 228) ⟨by omega, by omega⟩ ⟨by omega, by omega⟩ dX12_readAt_205 rfl (fun h39 => ?_) (fun h39 => by exfalso; omega)
              refine j_aload_n (pc := 228) dX12_readAt_228 rfl rfl ?_
              refine j_getR (pc := 229) (r := 94) fl_X12_26 dX12_readAt_229 (a_88 hM) rfl ?_
              refine j_iconst (pc := 232) dX12_readAt_232 ?_
              refine j_iload_n (pc := 233) dX12_readAt_233 rfl rfl ?_
              refine j_imul (pc := 234) dX12_readAt_234 ?_
              refine j_iload_n (pc := 235) dX12_readAt_235 rfl rfl ?_
              refine j_bipush (pc := 236) dX12_readAt_236 rfl ?_
              refine j_icmpR_ne (pc := 238) (tgt := 245) ⟨by omega, by omega⟩ ⟨by omega, by omega⟩ dX12_readAt_238 rfl (fun h40 => ?_) (fun h40 => by exfalso; omega)
              refine j_iconst (pc := 245) dX12_readAt_245 ?_
              refine j_iadd (pc := 246) dX12_readAt_246 ?_
              refine j_iconst (pc := 247) dX12_readAt_247 ?_
              refine j_iast (pc := 248) dX12_readAt_248 (a_94 hM) (by omega) (by omega) (by decide) (j_nm (fun σ41 (eσ41 : σ41 = tw_up σ32 94 (((5 * h) + 3).toNat) 1) => ?_))
              have hIσ41 : tw_I σ41 := tw_I_up hIσ32 eσ41 (show (-2147483648 : Int) ≤ 1 ∧ 1 ≤ 2147483647 from ⟨by omega, by omega⟩)
              have hFσ41 : tw_F (fun c j => (c = 88 ∧ (j = 10 ∨ j = 13 ∨ j = 14 ∨ j = 15 ∨ j = 16 ∨ j = 17 ∨ j = 18)) ∨ c = 94 ∨ c = 96) σ σ41 := tw_F_up hFσ32 eσ41 (show (94 = 88 ∧ (((5 * h) + 3).toNat = 10 ∨ ((5 * h) + 3).toNat = 13 ∨ ((5 * h) + 3).toNat = 14 ∨ ((5 * h) + 3).toNat = 15 ∨ ((5 * h) + 3).toNat = 16 ∨ ((5 * h) + 3).toNat = 17 ∨ ((5 * h) + 3).toNat = 18)) ∨ 94 = 94 ∨ 94 = 96 from by omega)
              have y42 : σ41 88 13 = σ32 88 13 := (tw_ne1 eσ41 (by omega))
              have y43 : σ41 88 17 = σ32 88 17 := (tw_ne1 eσ41 (by omega))
              have y44 : σ41 88 15 = σ32 88 15 := (tw_ne1 eσ41 (by omega))
              have y1 : σ41 88 17 = σ32 88 17 := by first | rfl | exact tw_ne1 eσ41 (by omega)
              have y2 : σ41 88 15 = σ32 88 15 := by first | rfl | exact tw_ne1 eσ41 (by omega)
              have y3 : σ41 88 13 = σ32 88 13 := by first | rfl | exact tw_ne1 eσ41 (by omega)
              have y4 : (0 : Int) ≤ σ41 88 13 ∧ σ41 88 13 ≤ 400 := hIσ41 88 13
              have lt9 := mMu_lt (f := τ 88 17) (s := τ 88 15) (p := τ 88 13) (f2 := σ41 88 17) (s2 := σ41 88 15) (p2 := σ41 88 13) (by omega) (by omega) (by omega) (by omega) (by omega)
              refine j_goto (pc := 249) (tgt := 99) dX12_readAt_249 rfl ?_
              refine j_ls (ls' := [(0, vR 88), (1, vI h), (2, vI z30)]) [0, 1, 2] rfl ?_
              have y45 : σ41 88 17 = σ32 88 17 := (tw_ne1 eσ41 (by omega))
              have f46 : (0 : Int) ≤ σ32 88 17 ∧ σ32 88 17 ≤ 5 := hIσ32 88 17
              have y47 : σ41 88 13 = σ32 88 13 := (tw_ne1 eσ41 (by omega))
              have f48 : (0 : Int) ≤ σ32 88 13 ∧ σ32 88 13 ≤ 400 := hIσ32 88 13
              have y49 : σ41 88 17 = σ32 88 17 := (tw_ne1 eσ41 (by omega))
              have y50 : σ41 88 15 = σ32 88 15 := (tw_ne1 eσ41 (by omega))
              have f51 : (-2147483648 : Int) ≤ σ32 88 15 ∧ σ32 88 15 ≤ 2147483647 := hIσ32 88 15
              have y52 : σ41 88 13 = σ32 88 13 := (tw_ne1 eσ41 (by omega))
              exact ih h ⟨by omega, by omega⟩ z30 ⟨by omega, by omega⟩ σ41 hIσ41 hFσ41 (show DQ σ41 from (by first | exact DQ_put (DQ_F i0 (fun j => (((hGσ32 93 j (show ¬ ((93 = 88 ∧ (j = 13 ∨ j = 14 ∨ j = 15 ∨ j = 16 ∨ j = 17 ∨ j = 18))) from by omega))).trans (hGσ26 93 j (show ¬ ((93 = 88 ∧ (j = 17 ∨ j = 18))) from by omega))).trans (hGσ11 93 j (show ¬ ((93 = 88 ∧ (j = 17 ∨ j = 18))) from by omega))) (fun j => (((hGσ32 94 j (show ¬ ((94 = 88 ∧ (j = 13 ∨ j = 14 ∨ j = 15 ∨ j = 16 ∨ j = 17 ∨ j = 18))) from by omega))).trans (hGσ26 94 j (show ¬ ((94 = 88 ∧ (j = 17 ∨ j = 18))) from by omega))).trans (hGσ11 94 j (show ¬ ((94 = 88 ∧ (j = 17 ∨ j = 18))) from by omega))) (by omega)) eσ41 (by first | exact Or.inr (w92 (by omega) (by omega) (by omega)) | (rcases q33_0 with q | q; exact Or.inl (by omega); (first | exact Or.inr (w92 (by omega) (by omega) (by omega)) | exact Or.inr (w92 (h := 0) (k := 0) (by omega) (by omega) (by omega))))) | exact DQ_F i0 (fun j => ((((tw_ne1 eσ41 (by omega))).trans (hGσ32 93 j (show ¬ ((93 = 88 ∧ (j = 13 ∨ j = 14 ∨ j = 15 ∨ j = 16 ∨ j = 17 ∨ j = 18))) from by omega))).trans (hGσ26 93 j (show ¬ ((93 = 88 ∧ (j = 17 ∨ j = 18))) from by omega))).trans (hGσ11 93 j (show ¬ ((93 = 88 ∧ (j = 17 ∨ j = 18))) from by omega))) (fun j => rfl) (by omega))) (show ¬ σ41 88 17 = 0 ∨ σ 88 17 = 0 from by omega) (show σ 88 13 ≤ σ41 88 13 from by omega) (show (mMu (σ41 88 17) (σ41 88 15) (σ41 88 13)).toNat < N_ from by omega)
            · refine j_iconst (pc := 154) dX12_readAt_154 ?_
              refine j_goto (pc := 155) (tgt := 159) dX12_readAt_155 rfl ?_
              refine j_iconst (pc := 159) dX12_readAt_159 ?_
              refine j_callV (pc := 160) (As := [vI 1, vI 4]) (st := []) (c_X12_needs hM 1 ⟨by omega, by omega⟩ 4 ⟨by omega, by omega⟩ σ11 hIσ11) mv_X12_129 rfl rfl rfl (a_88 hM) dX12_readAt_160 ⟨Nat.le_of_ble_eq_true rfl, Nat.le_of_ble_eq_true rfl⟩ ⟨Nat.le_refl _, Nat.le_refl _⟩ rfl (Nat.le_of_ble_eq_true rfl) rfl (fun z53 σ54 hz53 => ?_)
              obtain ⟨rfl, hIσ54, hGσ54, q55_0⟩ := hz53
              replace q55_0 : (¬ (1 : Int) = 0 ∧ σ54 88 17 = σ11 88 17) ∨ ((1 : Int) = 0 ∧ σ11 88 17 = 0 ∧ σ54 88 17 = (4 : Int)) ∨ ((1 : Int) = 0 ∧ ¬ σ11 88 17 = 0 ∧ σ54 88 17 = σ11 88 17) := q55_0
              have hFσ54 : tw_F (fun c j => (c = 88 ∧ (j = 10 ∨ j = 13 ∨ j = 14 ∨ j = 15 ∨ j = 16 ∨ j = 17 ∨ j = 18)) ∨ c = 94 ∨ c = 96) σ σ54 := tw_F_tr hFσ11 hGσ54 (fun c j q => (show (c = 88 ∧ (j = 10 ∨ j = 13 ∨ j = 14 ∨ j = 15 ∨ j = 16 ∨ j = 17 ∨ j = 18)) ∨ c = 94 ∨ c = 96 from by replace q : (c = 88 ∧ (j = 17 ∨ j = 18)) := q; omega))
              refine j_st (st' := []) rfl ?_
              refine j_iload_n (pc := 163) dX12_readAt_163 rfl rfl ?_
              refine j_iconst (pc := 164) dX12_readAt_164 ?_
              refine j_iload_n (pc := 165) dX12_readAt_165 rfl rfl ?_
              refine j_bipush (pc := 166) dX12_readAt_166 rfl ?_
              refine j_isub (pc := 168) dX12_readAt_168 ?_
              refine j_ishl (pc := 169) dX12_readAt_169 (fun z57 ez57 => ?_)
              have hz57 : (-2147483648 : Int) ≤ z57 ∧ z57 ≤ 2147483647 := by rw [ez57]; exact shl_in _ _
              refine j_ior (pc := 170) dX12_readAt_170 (fun z58 ez58 => ?_)
              have hz58 : (-2147483648 : Int) ≤ z58 ∧ z58 ≤ 2147483647 := by rw [ez58]; exact or_in _ _
              refine j_istore_n (pc := 171) (i := 2) (ls' := [(0, vR 88), (1, vI h), (2, vI z58), (3, vI r8)]) [1, 2, 0, 3] dX12_readAt_171 rfl (Nat.le_of_ble_eq_true rfl) rfl rfl ?_
              refine j_aload_n (pc := 172) dX12_readAt_172 rfl rfl ?_
              refine j_callV (pc := 173) (As := []) (st := []) (c_X12_next hM σ54 hIσ54) mv_X12_137 rfl rfl rfl (a_88 hM) dX12_readAt_173 ⟨Nat.le_of_ble_eq_true rfl, Nat.le_of_ble_eq_true rfl⟩ ⟨Nat.le_refl _, Nat.le_refl _⟩ rfl (Nat.le_of_ble_eq_true rfl) rfl (fun z59 σ60 hz59 => ?_)
              obtain ⟨rfl, hIσ60, hGσ60, q61_0, q61_1, q61_2⟩ := hz59
              replace q61_0 : ¬ σ60 88 17 = 0 ∨ σ54 88 17 = 0 := q61_0
              replace q61_1 : σ54 88 13 ≤ σ60 88 13 := q61_1
              have y63 : σ54 88 13 = τ 88 13 := ((hGσ54 88 13 (show ¬ ((88 = 88 ∧ (13 = 17 ∨ 13 = 18))) from by omega))).trans (hGσ11 88 13 (show ¬ ((88 = 88 ∧ (13 = 17 ∨ 13 = 18))) from by omega))
              have f64 : (0 : Int) ≤ τ 88 13 ∧ τ 88 13 ≤ 400 := hIτ 88 13
              replace q61_2 : ¬ σ60 88 17 = 0 ∨ σ60 88 15 = 0 ∨ σ54 88 13 < σ60 88 13 := q61_2
              have y65 : σ54 88 13 = τ 88 13 := ((hGσ54 88 13 (show ¬ ((88 = 88 ∧ (13 = 17 ∨ 13 = 18))) from by omega))).trans (hGσ11 88 13 (show ¬ ((88 = 88 ∧ (13 = 17 ∨ 13 = 18))) from by omega))
              have hFσ60 : tw_F (fun c j => (c = 88 ∧ (j = 10 ∨ j = 13 ∨ j = 14 ∨ j = 15 ∨ j = 16 ∨ j = 17 ∨ j = 18)) ∨ c = 94 ∨ c = 96) σ σ60 := tw_F_tr hFσ54 hGσ60 (fun c j q => (show (c = 88 ∧ (j = 10 ∨ j = 13 ∨ j = 14 ∨ j = 15 ∨ j = 16 ∨ j = 17 ∨ j = 18)) ∨ c = 94 ∨ c = 96 from by replace q : (c = 88 ∧ (j = 13 ∨ j = 14 ∨ j = 15 ∨ j = 16 ∨ j = 17 ∨ j = 18)) := q; omega))
              refine j_st (st' := []) rfl ?_
              refine j_iload_n (pc := 176) dX12_readAt_176 rfl rfl ?_
              refine j_bipush (pc := 177) dX12_readAt_177 rfl ?_
              refine j_icmpR_ne (pc := 179) (tgt := 202) ⟨by omega, by omega⟩ ⟨by omega, by omega⟩ dX12_readAt_179 rfl (fun h66 => ?_) (fun h66 => by exfalso; omega)
              refine j_iload_n (pc := 202) dX12_readAt_202 rfl rfl ?_
              refine j_bipush (pc := 203) dX12_readAt_203 rfl ?_
              refine j_icmpR_ne (pc := 205) (tgt := 228) ⟨by omega, by omega⟩ ⟨by omega, by omega⟩ dX12_readAt_205 rfl (fun h67 => ?_) (fun h67 => by exfalso; omega)
              refine j_aload_n (pc := 228) dX12_readAt_228 rfl rfl ?_
              refine j_getR (pc := 229) (r := 94) fl_X12_26 dX12_readAt_229 (a_88 hM) rfl ?_
              refine j_iconst (pc := 232) dX12_readAt_232 ?_
              refine j_iload_n (pc := 233) dX12_readAt_233 rfl rfl ?_
              refine j_imul (pc := 234) dX12_readAt_234 ?_
              refine j_iload_n (pc := 235) dX12_readAt_235 rfl rfl ?_
              refine j_bipush (pc := 236) dX12_readAt_236 rfl ?_
              refine j_icmpR_ne (pc := 238) (tgt := 245) ⟨by omega, by omega⟩ ⟨by omega, by omega⟩ dX12_readAt_238 rfl (fun h68 => ?_) (fun h68 => by exfalso; omega)
              refine j_iconst (pc := 245) dX12_readAt_245 ?_
              refine j_iadd (pc := 246) dX12_readAt_246 ?_
              refine j_iconst (pc := 247) dX12_readAt_247 ?_
              refine j_iast (pc := 248) dX12_readAt_248 (a_94 hM) (by omega) (by omega) (by decide) (j_nm (fun σ69 (eσ69 : σ69 = tw_up σ60 94 (((5 * h) + 3).toNat) 1) => ?_))
              have hIσ69 : tw_I σ69 := tw_I_up hIσ60 eσ69 (show (-2147483648 : Int) ≤ 1 ∧ 1 ≤ 2147483647 from ⟨by omega, by omega⟩)
              have hFσ69 : tw_F (fun c j => (c = 88 ∧ (j = 10 ∨ j = 13 ∨ j = 14 ∨ j = 15 ∨ j = 16 ∨ j = 17 ∨ j = 18)) ∨ c = 94 ∨ c = 96) σ σ69 := tw_F_up hFσ60 eσ69 (show (94 = 88 ∧ (((5 * h) + 3).toNat = 10 ∨ ((5 * h) + 3).toNat = 13 ∨ ((5 * h) + 3).toNat = 14 ∨ ((5 * h) + 3).toNat = 15 ∨ ((5 * h) + 3).toNat = 16 ∨ ((5 * h) + 3).toNat = 17 ∨ ((5 * h) + 3).toNat = 18)) ∨ 94 = 94 ∨ 94 = 96 from by omega)
              have y70 : σ69 88 13 = σ60 88 13 := (tw_ne1 eσ69 (by omega))
              have y71 : σ69 88 17 = σ60 88 17 := (tw_ne1 eσ69 (by omega))
              have y72 : σ69 88 15 = σ60 88 15 := (tw_ne1 eσ69 (by omega))
              have y1 : σ69 88 17 = σ60 88 17 := by first | rfl | exact tw_ne1 eσ69 (by omega)
              have y2 : σ69 88 15 = σ60 88 15 := by first | rfl | exact tw_ne1 eσ69 (by omega)
              have y3 : σ69 88 13 = σ60 88 13 := by first | rfl | exact tw_ne1 eσ69 (by omega)
              have y4 : (0 : Int) ≤ σ69 88 13 ∧ σ69 88 13 ≤ 400 := hIσ69 88 13
              have lt9 := mMu_lt (f := τ 88 17) (s := τ 88 15) (p := τ 88 13) (f2 := σ69 88 17) (s2 := σ69 88 15) (p2 := σ69 88 13) (by omega) (by omega) (by omega) (by omega) (by omega)
              refine j_goto (pc := 249) (tgt := 99) dX12_readAt_249 rfl ?_
              refine j_ls (ls' := [(0, vR 88), (1, vI h), (2, vI z58)]) [0, 1, 2] rfl ?_
              have y73 : σ69 88 17 = σ60 88 17 := (tw_ne1 eσ69 (by omega))
              have f74 : (0 : Int) ≤ σ60 88 17 ∧ σ60 88 17 ≤ 5 := hIσ60 88 17
              have y75 : σ69 88 13 = σ60 88 13 := (tw_ne1 eσ69 (by omega))
              have f76 : (0 : Int) ≤ σ60 88 13 ∧ σ60 88 13 ≤ 400 := hIσ60 88 13
              have y77 : σ69 88 17 = σ60 88 17 := (tw_ne1 eσ69 (by omega))
              have y78 : σ69 88 15 = σ60 88 15 := (tw_ne1 eσ69 (by omega))
              have f79 : (-2147483648 : Int) ≤ σ60 88 15 ∧ σ60 88 15 ≤ 2147483647 := hIσ60 88 15
              have y80 : σ69 88 13 = σ60 88 13 := (tw_ne1 eσ69 (by omega))
              exact ih h ⟨by omega, by omega⟩ z58 ⟨by omega, by omega⟩ σ69 hIσ69 hFσ69 (show DQ σ69 from (by first | exact DQ_put (DQ_F i0 (fun j => (((hGσ60 93 j (show ¬ ((93 = 88 ∧ (j = 13 ∨ j = 14 ∨ j = 15 ∨ j = 16 ∨ j = 17 ∨ j = 18))) from by omega))).trans (hGσ54 93 j (show ¬ ((93 = 88 ∧ (j = 17 ∨ j = 18))) from by omega))).trans (hGσ11 93 j (show ¬ ((93 = 88 ∧ (j = 17 ∨ j = 18))) from by omega))) (fun j => (((hGσ60 94 j (show ¬ ((94 = 88 ∧ (j = 13 ∨ j = 14 ∨ j = 15 ∨ j = 16 ∨ j = 17 ∨ j = 18))) from by omega))).trans (hGσ54 94 j (show ¬ ((94 = 88 ∧ (j = 17 ∨ j = 18))) from by omega))).trans (hGσ11 94 j (show ¬ ((94 = 88 ∧ (j = 17 ∨ j = 18))) from by omega))) (by omega)) eσ69 (by first | exact Or.inr (w92 (by omega) (by omega) (by omega)) | (rcases q61_0 with q | q; exact Or.inl (by omega); (first | exact Or.inr (w92 (by omega) (by omega) (by omega)) | exact Or.inr (w92 (h := 0) (k := 0) (by omega) (by omega) (by omega))))) | exact DQ_F i0 (fun j => ((((tw_ne1 eσ69 (by omega))).trans (hGσ60 93 j (show ¬ ((93 = 88 ∧ (j = 13 ∨ j = 14 ∨ j = 15 ∨ j = 16 ∨ j = 17 ∨ j = 18))) from by omega))).trans (hGσ54 93 j (show ¬ ((93 = 88 ∧ (j = 17 ∨ j = 18))) from by omega))).trans (hGσ11 93 j (show ¬ ((93 = 88 ∧ (j = 17 ∨ j = 18))) from by omega))) (fun j => rfl) (by omega))) (show ¬ σ69 88 17 = 0 ∨ σ 88 17 = 0 from by omega) (show σ 88 13 ≤ σ69 88 13 from by omega) (show (mMu (σ69 88 17) (σ69 88 15) (σ69 88 13)).toNat < N_ from by omega)
        · refine j_iconst (pc := 126) dX12_readAt_126 ?_
          refine j_goto (pc := 127) (tgt := 131) dX12_readAt_127 rfl ?_
          refine j_iconst (pc := 131) dX12_readAt_131 ?_
          refine j_callV (pc := 132) (As := [vI 1, vI 2]) (st := []) (c_X12_needs hM 1 ⟨by omega, by omega⟩ 2 ⟨by omega, by omega⟩ τ hIτ) mv_X12_129 rfl rfl rfl (a_88 hM) dX12_readAt_132 ⟨Nat.le_of_ble_eq_true rfl, Nat.le_of_ble_eq_true rfl⟩ ⟨Nat.le_refl _, Nat.le_refl _⟩ rfl (Nat.le_of_ble_eq_true rfl) rfl (fun z81 σ82 hz81 => ?_)
          obtain ⟨rfl, hIσ82, hGσ82, q83_0⟩ := hz81
          replace q83_0 : (¬ (1 : Int) = 0 ∧ σ82 88 17 = τ 88 17) ∨ ((1 : Int) = 0 ∧ τ 88 17 = 0 ∧ σ82 88 17 = (2 : Int)) ∨ ((1 : Int) = 0 ∧ ¬ τ 88 17 = 0 ∧ σ82 88 17 = τ 88 17) := q83_0
          have hFσ82 : tw_F (fun c j => (c = 88 ∧ (j = 10 ∨ j = 13 ∨ j = 14 ∨ j = 15 ∨ j = 16 ∨ j = 17 ∨ j = 18)) ∨ c = 94 ∨ c = 96) σ σ82 := tw_F_tr hFτ hGσ82 (fun c j q => (show (c = 88 ∧ (j = 10 ∨ j = 13 ∨ j = 14 ∨ j = 15 ∨ j = 16 ∨ j = 17 ∨ j = 18)) ∨ c = 94 ∨ c = 96 from by replace q : (c = 88 ∧ (j = 17 ∨ j = 18)) := q; omega))
          refine j_st (st' := []) rfl ?_
          refine j_aload_n (pc := 135) dX12_readAt_135 rfl rfl ?_
          refine j_getI (pc := 136) fl_X12_91 dX12_readAt_136 (a_88 hM) rfl ?_
          have f85 : (0 : Int) ≤ σ82 88 17 ∧ σ82 88 17 ≤ 5 := hIσ82 88 17
          refine j_ifR_ne (pc := 139) (tgt := 249) ⟨by omega, by omega⟩ dX12_readAt_139 rfl (fun h86 => ?_) (fun h86 => ?_)
          · have y87 : σ82 88 13 = τ 88 13 := (hGσ82 88 13 (show ¬ ((88 = 88 ∧ (13 = 17 ∨ 13 = 18))) from by omega))
            skip
            have y88 : σ82 88 15 = τ 88 15 := (hGσ82 88 15 (show ¬ ((88 = 88 ∧ (15 = 17 ∨ 15 = 18))) from by omega))
            have y1 : σ82 88 17 = σ82 88 17 := by first | rfl | exact tw_ne1 _ (by omega)
            have y2 : σ82 88 15 = σ82 88 15 := by first | rfl | exact tw_ne1 _ (by omega)
            have y3 : σ82 88 13 = σ82 88 13 := by first | rfl | exact tw_ne1 _ (by omega)
            have y4 : (0 : Int) ≤ σ82 88 13 ∧ σ82 88 13 ≤ 400 := hIσ82 88 13
            have lt9 := mMu_lt (f := τ 88 17) (s := τ 88 15) (p := τ 88 13) (f2 := σ82 88 17) (s2 := σ82 88 15) (p2 := σ82 88 13) (by omega) (by omega) (by omega) (by omega) (by omega)
            refine j_goto (pc := 249) (tgt := 99) dX12_readAt_249 rfl ?_
            refine j_ls (ls' := [(0, vR 88), (1, vI h), (2, vI d)]) [0, 1, 2] rfl ?_
            have y89 : σ82 88 13 = τ 88 13 := (hGσ82 88 13 (show ¬ ((88 = 88 ∧ (13 = 17 ∨ 13 = 18))) from by omega))
            have f90 : (0 : Int) ≤ τ 88 13 ∧ τ 88 13 ≤ 400 := hIτ 88 13
            have y91 : σ82 88 15 = τ 88 15 := (hGσ82 88 15 (show ¬ ((88 = 88 ∧ (15 = 17 ∨ 15 = 18))) from by omega))
            have y92 : σ82 88 13 = τ 88 13 := (hGσ82 88 13 (show ¬ ((88 = 88 ∧ (13 = 17 ∨ 13 = 18))) from by omega))
            exact ih h ⟨by omega, by omega⟩ d ⟨by omega, by omega⟩ σ82 hIσ82 hFσ82 (show DQ σ82 from (by first | exact DQ_put (DQ_F i0 (fun j => rfl) (fun j => rfl) (by omega)) _ (by first | exact Or.inr (w92 (by omega) (by omega) (by omega)) | (rcases q83_0 with q | q; exact Or.inl (by omega); (first | exact Or.inr (w92 (by omega) (by omega) (by omega)) | exact Or.inr (w92 (h := 0) (k := 0) (by omega) (by omega) (by omega))))) | exact DQ_F i0 (fun j => (hGσ82 93 j (show ¬ ((93 = 88 ∧ (j = 17 ∨ j = 18))) from by omega))) (fun j => (hGσ82 94 j (show ¬ ((94 = 88 ∧ (j = 17 ∨ j = 18))) from by omega))) (by omega))) (show ¬ σ82 88 17 = 0 ∨ σ 88 17 = 0 from by omega) (show σ 88 13 ≤ σ82 88 13 from by omega) (show (mMu (σ82 88 17) (σ82 88 15) (σ82 88 13)).toNat < N_ from by omega)
          · refine j_aload_n (pc := 142) dX12_readAt_142 rfl rfl ?_
            refine j_iload_n (pc := 143) dX12_readAt_143 rfl rfl ?_
            refine j_iload_n (pc := 144) dX12_readAt_144 rfl rfl ?_
            refine j_bipush (pc := 145) dX12_readAt_145 rfl ?_
            refine j_isub (pc := 147) dX12_readAt_147 ?_
            refine j_ishr (pc := 148) dX12_readAt_148 (fun z93 ez93 => ?_)
            have hz93 : (-2147483648 : Int) ≤ z93 ∧ z93 ≤ 2147483647 := by rw [ez93]; exact shr_in _ _
            refine j_iconst (pc := 149) dX12_readAt_149 ?_
            refine j_iand (pc := 150) dX12_readAt_150 (fun z94 ez94 => ?_)
            have hz94 : (-2147483648 : Int) ≤ z94 ∧ z94 ≤ 2147483647 := by rw [ez94]; exact and_in _ _
            refine j_ifR_ne (pc := 151) (tgt := 158) ⟨by omega, by omega⟩ dX12_readAt_151 rfl (fun h95 => ?_) (fun h95 => ?_)
            · refine j_iconst (pc := 158) dX12_readAt_158 ?_
              refine j_iconst (pc := 159) dX12_readAt_159 ?_
              refine j_callV (pc := 160) (As := [vI 0, vI 4]) (st := []) (c_X12_needs hM 0 ⟨by omega, by omega⟩ 4 ⟨by omega, by omega⟩ σ82 hIσ82) mv_X12_129 rfl rfl rfl (a_88 hM) dX12_readAt_160 ⟨Nat.le_of_ble_eq_true rfl, Nat.le_of_ble_eq_true rfl⟩ ⟨Nat.le_refl _, Nat.le_refl _⟩ rfl (Nat.le_of_ble_eq_true rfl) rfl (fun z96 σ97 hz96 => ?_)
              obtain ⟨rfl, hIσ97, hGσ97, q98_0⟩ := hz96
              replace q98_0 : (¬ (0 : Int) = 0 ∧ σ97 88 17 = σ82 88 17) ∨ ((0 : Int) = 0 ∧ σ82 88 17 = 0 ∧ σ97 88 17 = (4 : Int)) ∨ ((0 : Int) = 0 ∧ ¬ σ82 88 17 = 0 ∧ σ97 88 17 = σ82 88 17) := q98_0
              have hFσ97 : tw_F (fun c j => (c = 88 ∧ (j = 10 ∨ j = 13 ∨ j = 14 ∨ j = 15 ∨ j = 16 ∨ j = 17 ∨ j = 18)) ∨ c = 94 ∨ c = 96) σ σ97 := tw_F_tr hFσ82 hGσ97 (fun c j q => (show (c = 88 ∧ (j = 10 ∨ j = 13 ∨ j = 14 ∨ j = 15 ∨ j = 16 ∨ j = 17 ∨ j = 18)) ∨ c = 94 ∨ c = 96 from by replace q : (c = 88 ∧ (j = 17 ∨ j = 18)) := q; omega))
              refine j_st (st' := []) rfl ?_
              refine j_iload_n (pc := 163) dX12_readAt_163 rfl rfl ?_
              refine j_iconst (pc := 164) dX12_readAt_164 ?_
              refine j_iload_n (pc := 165) dX12_readAt_165 rfl rfl ?_
              refine j_bipush (pc := 166) dX12_readAt_166 rfl ?_
              refine j_isub (pc := 168) dX12_readAt_168 ?_
              refine j_ishl (pc := 169) dX12_readAt_169 (fun z100 ez100 => ?_)
              have hz100 : (-2147483648 : Int) ≤ z100 ∧ z100 ≤ 2147483647 := by rw [ez100]; exact shl_in _ _
              refine j_ior (pc := 170) dX12_readAt_170 (fun z101 ez101 => ?_)
              have hz101 : (-2147483648 : Int) ≤ z101 ∧ z101 ≤ 2147483647 := by rw [ez101]; exact or_in _ _
              refine j_istore_n (pc := 171) (i := 2) (ls' := [(0, vR 88), (1, vI h), (2, vI z101), (3, vI r8)]) [1, 2, 0, 3] dX12_readAt_171 rfl (Nat.le_of_ble_eq_true rfl) rfl rfl ?_
              refine j_aload_n (pc := 172) dX12_readAt_172 rfl rfl ?_
              refine j_callV (pc := 173) (As := []) (st := []) (c_X12_next hM σ97 hIσ97) mv_X12_137 rfl rfl rfl (a_88 hM) dX12_readAt_173 ⟨Nat.le_of_ble_eq_true rfl, Nat.le_of_ble_eq_true rfl⟩ ⟨Nat.le_refl _, Nat.le_refl _⟩ rfl (Nat.le_of_ble_eq_true rfl) rfl (fun z102 σ103 hz102 => ?_)
              obtain ⟨rfl, hIσ103, hGσ103, q104_0, q104_1, q104_2⟩ := hz102
              replace q104_0 : ¬ σ103 88 17 = 0 ∨ σ97 88 17 = 0 := q104_0
              replace q104_1 : σ97 88 13 ≤ σ103 88 13 := q104_1
              have y106 : σ97 88 13 = τ 88 13 := ((hGσ97 88 13 (show ¬ ((88 = 88 ∧ (13 = 17 ∨ 13 = 18))) from by omega))).trans (hGσ82 88 13 (show ¬ ((88 = 88 ∧ (13 = 17 ∨ 13 = 18))) from by omega))
              have f107 : (0 : Int) ≤ τ 88 13 ∧ τ 88 13 ≤ 400 := hIτ 88 13
              replace q104_2 : ¬ σ103 88 17 = 0 ∨ σ103 88 15 = 0 ∨ σ97 88 13 < σ103 88 13 := q104_2
              have y108 : σ97 88 13 = τ 88 13 := ((hGσ97 88 13 (show ¬ ((88 = 88 ∧ (13 = 17 ∨ 13 = 18))) from by omega))).trans (hGσ82 88 13 (show ¬ ((88 = 88 ∧ (13 = 17 ∨ 13 = 18))) from by omega))
              have hFσ103 : tw_F (fun c j => (c = 88 ∧ (j = 10 ∨ j = 13 ∨ j = 14 ∨ j = 15 ∨ j = 16 ∨ j = 17 ∨ j = 18)) ∨ c = 94 ∨ c = 96) σ σ103 := tw_F_tr hFσ97 hGσ103 (fun c j q => (show (c = 88 ∧ (j = 10 ∨ j = 13 ∨ j = 14 ∨ j = 15 ∨ j = 16 ∨ j = 17 ∨ j = 18)) ∨ c = 94 ∨ c = 96 from by replace q : (c = 88 ∧ (j = 13 ∨ j = 14 ∨ j = 15 ∨ j = 16 ∨ j = 17 ∨ j = 18)) := q; omega))
              refine j_st (st' := []) rfl ?_
              refine j_iload_n (pc := 176) dX12_readAt_176 rfl rfl ?_
              refine j_bipush (pc := 177) dX12_readAt_177 rfl ?_
              refine j_icmpR_ne (pc := 179) (tgt := 202) ⟨by omega, by omega⟩ ⟨by omega, by omega⟩ dX12_readAt_179 rfl (fun h109 => ?_) (fun h109 => ?_)
              · refine j_iload_n (pc := 202) dX12_readAt_202 rfl rfl ?_
                refine j_bipush (pc := 203) dX12_readAt_203 rfl ?_
                refine j_icmpR_ne (pc := 205) (tgt := 228) ⟨by omega, by omega⟩ ⟨by omega, by omega⟩ dX12_readAt_205 rfl (fun h110 => ?_) (fun h110 => ?_)
                · refine j_aload_n (pc := 228) dX12_readAt_228 rfl rfl ?_
                  refine j_getR (pc := 229) (r := 94) fl_X12_26 dX12_readAt_229 (a_88 hM) rfl ?_
                  refine j_iconst (pc := 232) dX12_readAt_232 ?_
                  refine j_iload_n (pc := 233) dX12_readAt_233 rfl rfl ?_
                  refine j_imul (pc := 234) dX12_readAt_234 ?_
                  refine j_iload_n (pc := 235) dX12_readAt_235 rfl rfl ?_
                  refine j_bipush (pc := 236) dX12_readAt_236 rfl ?_
                  refine j_icmpR_ne (pc := 238) (tgt := 245) ⟨by omega, by omega⟩ ⟨by omega, by omega⟩ dX12_readAt_238 rfl (fun h111 => ?_) (fun h111 => ?_)
                  · refine j_iconst (pc := 245) dX12_readAt_245 ?_
                    refine j_iadd (pc := 246) dX12_readAt_246 ?_
                    refine j_iconst (pc := 247) dX12_readAt_247 ?_
                    refine j_iast (pc := 248) dX12_readAt_248 (a_94 hM) (by omega) (by omega) (by decide) (j_nm (fun σ112 (eσ112 : σ112 = tw_up σ103 94 (((5 * h) + 3).toNat) 1) => ?_))
                    have hIσ112 : tw_I σ112 := tw_I_up hIσ103 eσ112 (show (-2147483648 : Int) ≤ 1 ∧ 1 ≤ 2147483647 from ⟨by omega, by omega⟩)
                    have hFσ112 : tw_F (fun c j => (c = 88 ∧ (j = 10 ∨ j = 13 ∨ j = 14 ∨ j = 15 ∨ j = 16 ∨ j = 17 ∨ j = 18)) ∨ c = 94 ∨ c = 96) σ σ112 := tw_F_up hFσ103 eσ112 (show (94 = 88 ∧ (((5 * h) + 3).toNat = 10 ∨ ((5 * h) + 3).toNat = 13 ∨ ((5 * h) + 3).toNat = 14 ∨ ((5 * h) + 3).toNat = 15 ∨ ((5 * h) + 3).toNat = 16 ∨ ((5 * h) + 3).toNat = 17 ∨ ((5 * h) + 3).toNat = 18)) ∨ 94 = 94 ∨ 94 = 96 from by omega)
                    have y113 : σ112 88 13 = σ103 88 13 := (tw_ne1 eσ112 (by omega))
                    have y114 : σ112 88 17 = σ103 88 17 := (tw_ne1 eσ112 (by omega))
                    have y115 : σ112 88 15 = σ103 88 15 := (tw_ne1 eσ112 (by omega))
                    have y1 : σ112 88 17 = σ103 88 17 := by first | rfl | exact tw_ne1 eσ112 (by omega)
                    have y2 : σ112 88 15 = σ103 88 15 := by first | rfl | exact tw_ne1 eσ112 (by omega)
                    have y3 : σ112 88 13 = σ103 88 13 := by first | rfl | exact tw_ne1 eσ112 (by omega)
                    have y4 : (0 : Int) ≤ σ112 88 13 ∧ σ112 88 13 ≤ 400 := hIσ112 88 13
                    have lt9 := mMu_lt (f := τ 88 17) (s := τ 88 15) (p := τ 88 13) (f2 := σ112 88 17) (s2 := σ112 88 15) (p2 := σ112 88 13) (by omega) (by omega) (by omega) (by omega) (by omega)
                    refine j_goto (pc := 249) (tgt := 99) dX12_readAt_249 rfl ?_
                    refine j_ls (ls' := [(0, vR 88), (1, vI h), (2, vI z101)]) [0, 1, 2] rfl ?_
                    have y116 : σ112 88 17 = σ103 88 17 := (tw_ne1 eσ112 (by omega))
                    have f117 : (0 : Int) ≤ σ103 88 17 ∧ σ103 88 17 ≤ 5 := hIσ103 88 17
                    have y118 : σ112 88 13 = σ103 88 13 := (tw_ne1 eσ112 (by omega))
                    have f119 : (0 : Int) ≤ σ103 88 13 ∧ σ103 88 13 ≤ 400 := hIσ103 88 13
                    have y120 : σ112 88 17 = σ103 88 17 := (tw_ne1 eσ112 (by omega))
                    have y121 : σ112 88 15 = σ103 88 15 := (tw_ne1 eσ112 (by omega))
                    have f122 : (-2147483648 : Int) ≤ σ103 88 15 ∧ σ103 88 15 ≤ 2147483647 := hIσ103 88 15
                    have y123 : σ112 88 13 = σ103 88 13 := (tw_ne1 eσ112 (by omega))
                    exact ih h ⟨by omega, by omega⟩ z101 ⟨by omega, by omega⟩ σ112 hIσ112 hFσ112 (show DQ σ112 from (by first | exact DQ_put (DQ_F i0 (fun j => (((hGσ103 93 j (show ¬ ((93 = 88 ∧ (j = 13 ∨ j = 14 ∨ j = 15 ∨ j = 16 ∨ j = 17 ∨ j = 18))) from by omega))).trans (hGσ97 93 j (show ¬ ((93 = 88 ∧ (j = 17 ∨ j = 18))) from by omega))).trans (hGσ82 93 j (show ¬ ((93 = 88 ∧ (j = 17 ∨ j = 18))) from by omega))) (fun j => (((hGσ103 94 j (show ¬ ((94 = 88 ∧ (j = 13 ∨ j = 14 ∨ j = 15 ∨ j = 16 ∨ j = 17 ∨ j = 18))) from by omega))).trans (hGσ97 94 j (show ¬ ((94 = 88 ∧ (j = 17 ∨ j = 18))) from by omega))).trans (hGσ82 94 j (show ¬ ((94 = 88 ∧ (j = 17 ∨ j = 18))) from by omega))) (by omega)) eσ112 (by first | exact Or.inr (w92 (by omega) (by omega) (by omega)) | (rcases q104_0 with q | q; exact Or.inl (by omega); (first | exact Or.inr (w92 (by omega) (by omega) (by omega)) | exact Or.inr (w92 (h := 0) (k := 0) (by omega) (by omega) (by omega))))) | exact DQ_F i0 (fun j => ((((tw_ne1 eσ112 (by omega))).trans (hGσ103 93 j (show ¬ ((93 = 88 ∧ (j = 13 ∨ j = 14 ∨ j = 15 ∨ j = 16 ∨ j = 17 ∨ j = 18))) from by omega))).trans (hGσ97 93 j (show ¬ ((93 = 88 ∧ (j = 17 ∨ j = 18))) from by omega))).trans (hGσ82 93 j (show ¬ ((93 = 88 ∧ (j = 17 ∨ j = 18))) from by omega))) (fun j => rfl) (by omega))) (show ¬ σ112 88 17 = 0 ∨ σ 88 17 = 0 from by omega) (show σ 88 13 ≤ σ112 88 13 from by omega) (show (mMu (σ112 88 17) (σ112 88 15) (σ112 88 13)).toNat < N_ from by omega)
                  · refine j_iconst (pc := 241) dX12_readAt_241 ?_
                    refine j_goto (pc := 242) (tgt := 246) dX12_readAt_242 rfl ?_
                    refine j_iadd (pc := 246) dX12_readAt_246 ?_
                    refine j_iconst (pc := 247) dX12_readAt_247 ?_
                    refine j_iast (pc := 248) dX12_readAt_248 (a_94 hM) (by omega) (by omega) (by decide) (j_nm (fun σ124 (eσ124 : σ124 = tw_up σ103 94 (((5 * h) + 2).toNat) 1) => ?_))
                    have hIσ124 : tw_I σ124 := tw_I_up hIσ103 eσ124 (show (-2147483648 : Int) ≤ 1 ∧ 1 ≤ 2147483647 from ⟨by omega, by omega⟩)
                    have hFσ124 : tw_F (fun c j => (c = 88 ∧ (j = 10 ∨ j = 13 ∨ j = 14 ∨ j = 15 ∨ j = 16 ∨ j = 17 ∨ j = 18)) ∨ c = 94 ∨ c = 96) σ σ124 := tw_F_up hFσ103 eσ124 (show (94 = 88 ∧ (((5 * h) + 2).toNat = 10 ∨ ((5 * h) + 2).toNat = 13 ∨ ((5 * h) + 2).toNat = 14 ∨ ((5 * h) + 2).toNat = 15 ∨ ((5 * h) + 2).toNat = 16 ∨ ((5 * h) + 2).toNat = 17 ∨ ((5 * h) + 2).toNat = 18)) ∨ 94 = 94 ∨ 94 = 96 from by omega)
                    have y125 : σ124 88 13 = σ103 88 13 := (tw_ne1 eσ124 (by omega))
                    have y126 : σ124 88 17 = σ103 88 17 := (tw_ne1 eσ124 (by omega))
                    have y127 : σ124 88 15 = σ103 88 15 := (tw_ne1 eσ124 (by omega))
                    have y1 : σ124 88 17 = σ103 88 17 := by first | rfl | exact tw_ne1 eσ124 (by omega)
                    have y2 : σ124 88 15 = σ103 88 15 := by first | rfl | exact tw_ne1 eσ124 (by omega)
                    have y3 : σ124 88 13 = σ103 88 13 := by first | rfl | exact tw_ne1 eσ124 (by omega)
                    have y4 : (0 : Int) ≤ σ124 88 13 ∧ σ124 88 13 ≤ 400 := hIσ124 88 13
                    have lt9 := mMu_lt (f := τ 88 17) (s := τ 88 15) (p := τ 88 13) (f2 := σ124 88 17) (s2 := σ124 88 15) (p2 := σ124 88 13) (by omega) (by omega) (by omega) (by omega) (by omega)
                    refine j_goto (pc := 249) (tgt := 99) dX12_readAt_249 rfl ?_
                    refine j_ls (ls' := [(0, vR 88), (1, vI h), (2, vI z101)]) [0, 1, 2] rfl ?_
                    have y128 : σ124 88 17 = σ103 88 17 := (tw_ne1 eσ124 (by omega))
                    have f129 : (0 : Int) ≤ σ103 88 17 ∧ σ103 88 17 ≤ 5 := hIσ103 88 17
                    have y130 : σ124 88 13 = σ103 88 13 := (tw_ne1 eσ124 (by omega))
                    have f131 : (0 : Int) ≤ σ103 88 13 ∧ σ103 88 13 ≤ 400 := hIσ103 88 13
                    have y132 : σ124 88 17 = σ103 88 17 := (tw_ne1 eσ124 (by omega))
                    have y133 : σ124 88 15 = σ103 88 15 := (tw_ne1 eσ124 (by omega))
                    have f134 : (-2147483648 : Int) ≤ σ103 88 15 ∧ σ103 88 15 ≤ 2147483647 := hIσ103 88 15
                    have y135 : σ124 88 13 = σ103 88 13 := (tw_ne1 eσ124 (by omega))
                    exact ih h ⟨by omega, by omega⟩ z101 ⟨by omega, by omega⟩ σ124 hIσ124 hFσ124 (show DQ σ124 from (by first | exact DQ_put (DQ_F i0 (fun j => (((hGσ103 93 j (show ¬ ((93 = 88 ∧ (j = 13 ∨ j = 14 ∨ j = 15 ∨ j = 16 ∨ j = 17 ∨ j = 18))) from by omega))).trans (hGσ97 93 j (show ¬ ((93 = 88 ∧ (j = 17 ∨ j = 18))) from by omega))).trans (hGσ82 93 j (show ¬ ((93 = 88 ∧ (j = 17 ∨ j = 18))) from by omega))) (fun j => (((hGσ103 94 j (show ¬ ((94 = 88 ∧ (j = 13 ∨ j = 14 ∨ j = 15 ∨ j = 16 ∨ j = 17 ∨ j = 18))) from by omega))).trans (hGσ97 94 j (show ¬ ((94 = 88 ∧ (j = 17 ∨ j = 18))) from by omega))).trans (hGσ82 94 j (show ¬ ((94 = 88 ∧ (j = 17 ∨ j = 18))) from by omega))) (by omega)) eσ124 (by first | exact Or.inr (w92 (by omega) (by omega) (by omega)) | (rcases q104_0 with q | q; exact Or.inl (by omega); (first | exact Or.inr (w92 (by omega) (by omega) (by omega)) | exact Or.inr (w92 (h := 0) (k := 0) (by omega) (by omega) (by omega))))) | exact DQ_F i0 (fun j => ((((tw_ne1 eσ124 (by omega))).trans (hGσ103 93 j (show ¬ ((93 = 88 ∧ (j = 13 ∨ j = 14 ∨ j = 15 ∨ j = 16 ∨ j = 17 ∨ j = 18))) from by omega))).trans (hGσ97 93 j (show ¬ ((93 = 88 ∧ (j = 17 ∨ j = 18))) from by omega))).trans (hGσ82 93 j (show ¬ ((93 = 88 ∧ (j = 17 ∨ j = 18))) from by omega))) (fun j => rfl) (by omega))) (show ¬ σ124 88 17 = 0 ∨ σ 88 17 = 0 from by omega) (show σ 88 13 ≤ σ124 88 13 from by omega) (show (mMu (σ124 88 17) (σ124 88 15) (σ124 88 13)).toNat < N_ from by omega)
                · refine j_aload_n (pc := 208) dX12_readAt_208 rfl rfl ?_
                  refine j_getR (pc := 209) (r := 94) fl_X12_26 dX12_readAt_209 (a_88 hM) rfl ?_
                  refine j_iconst (pc := 212) dX12_readAt_212 ?_
                  refine j_iload_n (pc := 213) dX12_readAt_213 rfl rfl ?_
                  refine j_imul (pc := 214) dX12_readAt_214 ?_
                  refine j_iconst (pc := 215) dX12_readAt_215 ?_
                  refine j_iadd (pc := 216) dX12_readAt_216 ?_
                  refine j_aload_n (pc := 217) dX12_readAt_217 rfl rfl ?_
                  refine j_iconst (pc := 218) dX12_readAt_218 ?_
                  refine j_bipush (pc := 219) dX12_readAt_219 rfl ?_
                  refine j_callV (pc := 221) (As := [vI 0, vI 9]) (st := [vI ((5 * h) + 4), vR 94]) (c_X12_readNumber hM 0 ⟨by omega, by omega⟩ 9 ⟨by omega, by omega⟩ σ103 hIσ103) mv_X12_140 rfl rfl rfl (a_88 hM) dX12_readAt_221 ⟨Nat.le_of_ble_eq_true rfl, Nat.le_of_ble_eq_true rfl⟩ ⟨Nat.le_refl _, Nat.le_refl _⟩ rfl (Nat.le_of_ble_eq_true rfl) rfl (fun z136 σ137 hz136 => ?_)
                  obtain ⟨r139, rfl, hr139, hIσ137, hGσ137, q138_0, q138_1, q138_2⟩ := hz136
                  replace q138_0 : ¬ σ137 88 17 = 0 ∨ (σ103 88 17 = 0 ∧ (0 : Int) ≤ r139 ∧ r139 ≤ (9 : Int)) := q138_0
                  replace q138_1 : σ103 88 13 ≤ σ137 88 13 := q138_1
                  replace q138_2 : ¬ σ137 88 17 = 0 ∨ σ137 88 15 = 0 ∨ σ103 88 13 < σ137 88 13 := q138_2
                  have hFσ137 : tw_F (fun c j => (c = 88 ∧ (j = 10 ∨ j = 13 ∨ j = 14 ∨ j = 15 ∨ j = 16 ∨ j = 17 ∨ j = 18)) ∨ c = 94 ∨ c = 96) σ σ137 := tw_F_tr hFσ103 hGσ137 (fun c j q => (show (c = 88 ∧ (j = 10 ∨ j = 13 ∨ j = 14 ∨ j = 15 ∨ j = 16 ∨ j = 17 ∨ j = 18)) ∨ c = 94 ∨ c = 96 from by replace q : (c = 88 ∧ (j = 13 ∨ j = 14 ∨ j = 15 ∨ j = 16 ∨ j = 17 ∨ j = 18)) := q; omega))
                  refine j_st (st' := [vI r139, vI ((5 * h) + 4), vR 94]) rfl ?_
                  refine j_iast (pc := 224) dX12_readAt_224 (a_94 hM) (by omega) (by omega) (by decide) (j_nm (fun σ140 (eσ140 : σ140 = tw_up σ137 94 (((5 * h) + 4).toNat) r139) => ?_))
                  have hIσ140 : tw_I σ140 := tw_I_up hIσ137 eσ140 (show (-2147483648 : Int) ≤ r139 ∧ r139 ≤ 2147483647 from ⟨by omega, by omega⟩)
                  have hFσ140 : tw_F (fun c j => (c = 88 ∧ (j = 10 ∨ j = 13 ∨ j = 14 ∨ j = 15 ∨ j = 16 ∨ j = 17 ∨ j = 18)) ∨ c = 94 ∨ c = 96) σ σ140 := tw_F_up hFσ137 eσ140 (show (94 = 88 ∧ (((5 * h) + 4).toNat = 10 ∨ ((5 * h) + 4).toNat = 13 ∨ ((5 * h) + 4).toNat = 14 ∨ ((5 * h) + 4).toNat = 15 ∨ ((5 * h) + 4).toNat = 16 ∨ ((5 * h) + 4).toNat = 17 ∨ ((5 * h) + 4).toNat = 18)) ∨ 94 = 94 ∨ 94 = 96 from by omega)
                  refine j_goto (pc := 225) (tgt := 249) dX12_readAt_225 rfl ?_
                  have y141 : σ140 88 13 = σ137 88 13 := (tw_ne1 eσ140 (by omega))
                  have y142 : σ140 88 17 = σ137 88 17 := (tw_ne1 eσ140 (by omega))
                  have y143 : σ140 88 15 = σ137 88 15 := (tw_ne1 eσ140 (by omega))
                  have y1 : σ140 88 17 = σ137 88 17 := by first | rfl | exact tw_ne1 eσ140 (by omega)
                  have y2 : σ140 88 15 = σ137 88 15 := by first | rfl | exact tw_ne1 eσ140 (by omega)
                  have y3 : σ140 88 13 = σ137 88 13 := by first | rfl | exact tw_ne1 eσ140 (by omega)
                  have y4 : (0 : Int) ≤ σ140 88 13 ∧ σ140 88 13 ≤ 400 := hIσ140 88 13
                  have lt9 := mMu_lt (f := τ 88 17) (s := τ 88 15) (p := τ 88 13) (f2 := σ140 88 17) (s2 := σ140 88 15) (p2 := σ140 88 13) (by omega) (by omega) (by omega) (by omega) (by omega)
                  refine j_goto (pc := 249) (tgt := 99) dX12_readAt_249 rfl ?_
                  refine j_ls (ls' := [(0, vR 88), (1, vI h), (2, vI z101)]) [0, 1, 2] rfl ?_
                  have y144 : σ140 88 17 = σ137 88 17 := (tw_ne1 eσ140 (by omega))
                  have f145 : (0 : Int) ≤ σ137 88 17 ∧ σ137 88 17 ≤ 5 := hIσ137 88 17
                  have y146 : σ140 88 13 = σ137 88 13 := (tw_ne1 eσ140 (by omega))
                  have f147 : (0 : Int) ≤ σ137 88 13 ∧ σ137 88 13 ≤ 400 := hIσ137 88 13
                  have y148 : σ140 88 17 = σ137 88 17 := (tw_ne1 eσ140 (by omega))
                  have y149 : σ140 88 15 = σ137 88 15 := (tw_ne1 eσ140 (by omega))
                  have f150 : (-2147483648 : Int) ≤ σ137 88 15 ∧ σ137 88 15 ≤ 2147483647 := hIσ137 88 15
                  have y151 : σ140 88 13 = σ137 88 13 := (tw_ne1 eσ140 (by omega))
                  exact ih h ⟨by omega, by omega⟩ z101 ⟨by omega, by omega⟩ σ140 hIσ140 hFσ140 (show DQ σ140 from (by first | exact DQ_put (DQ_F i0 (fun j => ((((hGσ137 93 j (show ¬ ((93 = 88 ∧ (j = 13 ∨ j = 14 ∨ j = 15 ∨ j = 16 ∨ j = 17 ∨ j = 18))) from by omega))).trans (hGσ103 93 j (show ¬ ((93 = 88 ∧ (j = 13 ∨ j = 14 ∨ j = 15 ∨ j = 16 ∨ j = 17 ∨ j = 18))) from by omega))).trans (hGσ97 93 j (show ¬ ((93 = 88 ∧ (j = 17 ∨ j = 18))) from by omega))).trans (hGσ82 93 j (show ¬ ((93 = 88 ∧ (j = 17 ∨ j = 18))) from by omega))) (fun j => ((((hGσ137 94 j (show ¬ ((94 = 88 ∧ (j = 13 ∨ j = 14 ∨ j = 15 ∨ j = 16 ∨ j = 17 ∨ j = 18))) from by omega))).trans (hGσ103 94 j (show ¬ ((94 = 88 ∧ (j = 13 ∨ j = 14 ∨ j = 15 ∨ j = 16 ∨ j = 17 ∨ j = 18))) from by omega))).trans (hGσ97 94 j (show ¬ ((94 = 88 ∧ (j = 17 ∨ j = 18))) from by omega))).trans (hGσ82 94 j (show ¬ ((94 = 88 ∧ (j = 17 ∨ j = 18))) from by omega))) (by omega)) eσ140 (by first | exact Or.inr (w92 (by omega) (by omega) (by omega)) | (rcases q138_0 with q | q; exact Or.inl (by omega); (first | exact Or.inr (w92 (by omega) (by omega) (by omega)) | exact Or.inr (w92 (h := 0) (k := 0) (by omega) (by omega) (by omega))))) | exact DQ_F i0 (fun j => (((((tw_ne1 eσ140 (by omega))).trans (hGσ137 93 j (show ¬ ((93 = 88 ∧ (j = 13 ∨ j = 14 ∨ j = 15 ∨ j = 16 ∨ j = 17 ∨ j = 18))) from by omega))).trans (hGσ103 93 j (show ¬ ((93 = 88 ∧ (j = 13 ∨ j = 14 ∨ j = 15 ∨ j = 16 ∨ j = 17 ∨ j = 18))) from by omega))).trans (hGσ97 93 j (show ¬ ((93 = 88 ∧ (j = 17 ∨ j = 18))) from by omega))).trans (hGσ82 93 j (show ¬ ((93 = 88 ∧ (j = 17 ∨ j = 18))) from by omega))) (fun j => rfl) (by omega))) (show ¬ σ140 88 17 = 0 ∨ σ 88 17 = 0 from by omega) (show σ 88 13 ≤ σ140 88 13 from by omega) (show (mMu (σ140 88 17) (σ140 88 15) (σ140 88 13)).toNat < N_ from by omega)
              · refine j_aload_n (pc := 182) dX12_readAt_182 rfl rfl ?_
                refine j_getR (pc := 183) (r := 94) fl_X12_26 dX12_readAt_183 (a_88 hM) rfl ?_
                refine j_iconst (pc := 186) dX12_readAt_186 ?_
                refine j_iload_n (pc := 187) dX12_readAt_187 rfl rfl ?_
                refine j_imul (pc := 188) dX12_readAt_188 ?_
                refine j_iconst (pc := 189) dX12_readAt_189 ?_
                refine j_iadd (pc := 190) dX12_readAt_190 ?_
                refine j_aload_n (pc := 191) dX12_readAt_191 rfl rfl ?_
                refine j_iconst (pc := 192) dX12_readAt_192 ?_
                refine j_bipush (pc := 193) dX12_readAt_193 rfl ?_
                refine j_callV (pc := 195) (As := [vI 1, vI 10]) (st := [vI ((5 * h) + 1), vR 94]) (c_X12_readNumber hM 1 ⟨by omega, by omega⟩ 10 ⟨by omega, by omega⟩ σ103 hIσ103) mv_X12_140 rfl rfl rfl (a_88 hM) dX12_readAt_195 ⟨Nat.le_of_ble_eq_true rfl, Nat.le_of_ble_eq_true rfl⟩ ⟨Nat.le_refl _, Nat.le_refl _⟩ rfl (Nat.le_of_ble_eq_true rfl) rfl (fun z152 σ153 hz152 => ?_)
                obtain ⟨r155, rfl, hr155, hIσ153, hGσ153, q154_0, q154_1, q154_2⟩ := hz152
                replace q154_0 : ¬ σ153 88 17 = 0 ∨ (σ103 88 17 = 0 ∧ (1 : Int) ≤ r155 ∧ r155 ≤ (10 : Int)) := q154_0
                replace q154_1 : σ103 88 13 ≤ σ153 88 13 := q154_1
                replace q154_2 : ¬ σ153 88 17 = 0 ∨ σ153 88 15 = 0 ∨ σ103 88 13 < σ153 88 13 := q154_2
                have hFσ153 : tw_F (fun c j => (c = 88 ∧ (j = 10 ∨ j = 13 ∨ j = 14 ∨ j = 15 ∨ j = 16 ∨ j = 17 ∨ j = 18)) ∨ c = 94 ∨ c = 96) σ σ153 := tw_F_tr hFσ103 hGσ153 (fun c j q => (show (c = 88 ∧ (j = 10 ∨ j = 13 ∨ j = 14 ∨ j = 15 ∨ j = 16 ∨ j = 17 ∨ j = 18)) ∨ c = 94 ∨ c = 96 from by replace q : (c = 88 ∧ (j = 13 ∨ j = 14 ∨ j = 15 ∨ j = 16 ∨ j = 17 ∨ j = 18)) := q; omega))
                refine j_st (st' := [vI r155, vI ((5 * h) + 1), vR 94]) rfl ?_
                refine j_iast (pc := 198) dX12_readAt_198 (a_94 hM) (by omega) (by omega) (by decide) (j_nm (fun σ156 (eσ156 : σ156 = tw_up σ153 94 (((5 * h) + 1).toNat) r155) => ?_))
                have hIσ156 : tw_I σ156 := tw_I_up hIσ153 eσ156 (show (-2147483648 : Int) ≤ r155 ∧ r155 ≤ 2147483647 from ⟨by omega, by omega⟩)
                have hFσ156 : tw_F (fun c j => (c = 88 ∧ (j = 10 ∨ j = 13 ∨ j = 14 ∨ j = 15 ∨ j = 16 ∨ j = 17 ∨ j = 18)) ∨ c = 94 ∨ c = 96) σ σ156 := tw_F_up hFσ153 eσ156 (show (94 = 88 ∧ (((5 * h) + 1).toNat = 10 ∨ ((5 * h) + 1).toNat = 13 ∨ ((5 * h) + 1).toNat = 14 ∨ ((5 * h) + 1).toNat = 15 ∨ ((5 * h) + 1).toNat = 16 ∨ ((5 * h) + 1).toNat = 17 ∨ ((5 * h) + 1).toNat = 18)) ∨ 94 = 94 ∨ 94 = 96 from by omega)
                refine j_goto (pc := 199) (tgt := 249) dX12_readAt_199 rfl ?_
                have y157 : σ156 88 13 = σ153 88 13 := (tw_ne1 eσ156 (by omega))
                have y158 : σ156 88 17 = σ153 88 17 := (tw_ne1 eσ156 (by omega))
                have y159 : σ156 88 15 = σ153 88 15 := (tw_ne1 eσ156 (by omega))
                have y1 : σ156 88 17 = σ153 88 17 := by first | rfl | exact tw_ne1 eσ156 (by omega)
                have y2 : σ156 88 15 = σ153 88 15 := by first | rfl | exact tw_ne1 eσ156 (by omega)
                have y3 : σ156 88 13 = σ153 88 13 := by first | rfl | exact tw_ne1 eσ156 (by omega)
                have y4 : (0 : Int) ≤ σ156 88 13 ∧ σ156 88 13 ≤ 400 := hIσ156 88 13
                have lt9 := mMu_lt (f := τ 88 17) (s := τ 88 15) (p := τ 88 13) (f2 := σ156 88 17) (s2 := σ156 88 15) (p2 := σ156 88 13) (by omega) (by omega) (by omega) (by omega) (by omega)
                refine j_goto (pc := 249) (tgt := 99) dX12_readAt_249 rfl ?_
                refine j_ls (ls' := [(0, vR 88), (1, vI h), (2, vI z101)]) [0, 1, 2] rfl ?_
                have y160 : σ156 88 17 = σ153 88 17 := (tw_ne1 eσ156 (by omega))
                have f161 : (0 : Int) ≤ σ153 88 17 ∧ σ153 88 17 ≤ 5 := hIσ153 88 17
                have y162 : σ156 88 13 = σ153 88 13 := (tw_ne1 eσ156 (by omega))
                have f163 : (0 : Int) ≤ σ153 88 13 ∧ σ153 88 13 ≤ 400 := hIσ153 88 13
                have y164 : σ156 88 17 = σ153 88 17 := (tw_ne1 eσ156 (by omega))
                have y165 : σ156 88 15 = σ153 88 15 := (tw_ne1 eσ156 (by omega))
                have f166 : (-2147483648 : Int) ≤ σ153 88 15 ∧ σ153 88 15 ≤ 2147483647 := hIσ153 88 15
                have y167 : σ156 88 13 = σ153 88 13 := (tw_ne1 eσ156 (by omega))
                exact ih h ⟨by omega, by omega⟩ z101 ⟨by omega, by omega⟩ σ156 hIσ156 hFσ156 (show DQ σ156 from (by first | exact DQ_put (DQ_F i0 (fun j => ((((hGσ153 93 j (show ¬ ((93 = 88 ∧ (j = 13 ∨ j = 14 ∨ j = 15 ∨ j = 16 ∨ j = 17 ∨ j = 18))) from by omega))).trans (hGσ103 93 j (show ¬ ((93 = 88 ∧ (j = 13 ∨ j = 14 ∨ j = 15 ∨ j = 16 ∨ j = 17 ∨ j = 18))) from by omega))).trans (hGσ97 93 j (show ¬ ((93 = 88 ∧ (j = 17 ∨ j = 18))) from by omega))).trans (hGσ82 93 j (show ¬ ((93 = 88 ∧ (j = 17 ∨ j = 18))) from by omega))) (fun j => ((((hGσ153 94 j (show ¬ ((94 = 88 ∧ (j = 13 ∨ j = 14 ∨ j = 15 ∨ j = 16 ∨ j = 17 ∨ j = 18))) from by omega))).trans (hGσ103 94 j (show ¬ ((94 = 88 ∧ (j = 13 ∨ j = 14 ∨ j = 15 ∨ j = 16 ∨ j = 17 ∨ j = 18))) from by omega))).trans (hGσ97 94 j (show ¬ ((94 = 88 ∧ (j = 17 ∨ j = 18))) from by omega))).trans (hGσ82 94 j (show ¬ ((94 = 88 ∧ (j = 17 ∨ j = 18))) from by omega))) (by omega)) eσ156 (by first | exact Or.inr (w92 (by omega) (by omega) (by omega)) | (rcases q154_0 with q | q; exact Or.inl (by omega); (first | exact Or.inr (w92 (by omega) (by omega) (by omega)) | exact Or.inr (w92 (h := 0) (k := 0) (by omega) (by omega) (by omega))))) | exact DQ_F i0 (fun j => (((((tw_ne1 eσ156 (by omega))).trans (hGσ153 93 j (show ¬ ((93 = 88 ∧ (j = 13 ∨ j = 14 ∨ j = 15 ∨ j = 16 ∨ j = 17 ∨ j = 18))) from by omega))).trans (hGσ103 93 j (show ¬ ((93 = 88 ∧ (j = 13 ∨ j = 14 ∨ j = 15 ∨ j = 16 ∨ j = 17 ∨ j = 18))) from by omega))).trans (hGσ97 93 j (show ¬ ((93 = 88 ∧ (j = 17 ∨ j = 18))) from by omega))).trans (hGσ82 93 j (show ¬ ((93 = 88 ∧ (j = 17 ∨ j = 18))) from by omega))) (fun j => rfl) (by omega))) (show ¬ σ156 88 17 = 0 ∨ σ 88 17 = 0 from by omega) (show σ 88 13 ≤ σ156 88 13 from by omega) (show (mMu (σ156 88 17) (σ156 88 15) (σ156 88 13)).toNat < N_ from by omega)
            · refine j_iconst (pc := 154) dX12_readAt_154 ?_
              refine j_goto (pc := 155) (tgt := 159) dX12_readAt_155 rfl ?_
              refine j_iconst (pc := 159) dX12_readAt_159 ?_
              refine j_callV (pc := 160) (As := [vI 1, vI 4]) (st := []) (c_X12_needs hM 1 ⟨by omega, by omega⟩ 4 ⟨by omega, by omega⟩ σ82 hIσ82) mv_X12_129 rfl rfl rfl (a_88 hM) dX12_readAt_160 ⟨Nat.le_of_ble_eq_true rfl, Nat.le_of_ble_eq_true rfl⟩ ⟨Nat.le_refl _, Nat.le_refl _⟩ rfl (Nat.le_of_ble_eq_true rfl) rfl (fun z168 σ169 hz168 => ?_)
              obtain ⟨rfl, hIσ169, hGσ169, q170_0⟩ := hz168
              replace q170_0 : (¬ (1 : Int) = 0 ∧ σ169 88 17 = σ82 88 17) ∨ ((1 : Int) = 0 ∧ σ82 88 17 = 0 ∧ σ169 88 17 = (4 : Int)) ∨ ((1 : Int) = 0 ∧ ¬ σ82 88 17 = 0 ∧ σ169 88 17 = σ82 88 17) := q170_0
              have hFσ169 : tw_F (fun c j => (c = 88 ∧ (j = 10 ∨ j = 13 ∨ j = 14 ∨ j = 15 ∨ j = 16 ∨ j = 17 ∨ j = 18)) ∨ c = 94 ∨ c = 96) σ σ169 := tw_F_tr hFσ82 hGσ169 (fun c j q => (show (c = 88 ∧ (j = 10 ∨ j = 13 ∨ j = 14 ∨ j = 15 ∨ j = 16 ∨ j = 17 ∨ j = 18)) ∨ c = 94 ∨ c = 96 from by replace q : (c = 88 ∧ (j = 17 ∨ j = 18)) := q; omega))
              refine j_st (st' := []) rfl ?_
              refine j_iload_n (pc := 163) dX12_readAt_163 rfl rfl ?_
              refine j_iconst (pc := 164) dX12_readAt_164 ?_
              refine j_iload_n (pc := 165) dX12_readAt_165 rfl rfl ?_
              refine j_bipush (pc := 166) dX12_readAt_166 rfl ?_
              refine j_isub (pc := 168) dX12_readAt_168 ?_
              refine j_ishl (pc := 169) dX12_readAt_169 (fun z172 ez172 => ?_)
              have hz172 : (-2147483648 : Int) ≤ z172 ∧ z172 ≤ 2147483647 := by rw [ez172]; exact shl_in _ _
              refine j_ior (pc := 170) dX12_readAt_170 (fun z173 ez173 => ?_)
              have hz173 : (-2147483648 : Int) ≤ z173 ∧ z173 ≤ 2147483647 := by rw [ez173]; exact or_in _ _
              refine j_istore_n (pc := 171) (i := 2) (ls' := [(0, vR 88), (1, vI h), (2, vI z173), (3, vI r8)]) [1, 2, 0, 3] dX12_readAt_171 rfl (Nat.le_of_ble_eq_true rfl) rfl rfl ?_
              refine j_aload_n (pc := 172) dX12_readAt_172 rfl rfl ?_
              refine j_callV (pc := 173) (As := []) (st := []) (c_X12_next hM σ169 hIσ169) mv_X12_137 rfl rfl rfl (a_88 hM) dX12_readAt_173 ⟨Nat.le_of_ble_eq_true rfl, Nat.le_of_ble_eq_true rfl⟩ ⟨Nat.le_refl _, Nat.le_refl _⟩ rfl (Nat.le_of_ble_eq_true rfl) rfl (fun z174 σ175 hz174 => ?_)
              obtain ⟨rfl, hIσ175, hGσ175, q176_0, q176_1, q176_2⟩ := hz174
              replace q176_0 : ¬ σ175 88 17 = 0 ∨ σ169 88 17 = 0 := q176_0
              replace q176_1 : σ169 88 13 ≤ σ175 88 13 := q176_1
              have y178 : σ169 88 13 = τ 88 13 := ((hGσ169 88 13 (show ¬ ((88 = 88 ∧ (13 = 17 ∨ 13 = 18))) from by omega))).trans (hGσ82 88 13 (show ¬ ((88 = 88 ∧ (13 = 17 ∨ 13 = 18))) from by omega))
              have f179 : (0 : Int) ≤ τ 88 13 ∧ τ 88 13 ≤ 400 := hIτ 88 13
              replace q176_2 : ¬ σ175 88 17 = 0 ∨ σ175 88 15 = 0 ∨ σ169 88 13 < σ175 88 13 := q176_2
              have y180 : σ169 88 13 = τ 88 13 := ((hGσ169 88 13 (show ¬ ((88 = 88 ∧ (13 = 17 ∨ 13 = 18))) from by omega))).trans (hGσ82 88 13 (show ¬ ((88 = 88 ∧ (13 = 17 ∨ 13 = 18))) from by omega))
              have hFσ175 : tw_F (fun c j => (c = 88 ∧ (j = 10 ∨ j = 13 ∨ j = 14 ∨ j = 15 ∨ j = 16 ∨ j = 17 ∨ j = 18)) ∨ c = 94 ∨ c = 96) σ σ175 := tw_F_tr hFσ169 hGσ175 (fun c j q => (show (c = 88 ∧ (j = 10 ∨ j = 13 ∨ j = 14 ∨ j = 15 ∨ j = 16 ∨ j = 17 ∨ j = 18)) ∨ c = 94 ∨ c = 96 from by replace q : (c = 88 ∧ (j = 13 ∨ j = 14 ∨ j = 15 ∨ j = 16 ∨ j = 17 ∨ j = 18)) := q; omega))
              refine j_st (st' := []) rfl ?_
              refine j_iload_n (pc := 176) dX12_readAt_176 rfl rfl ?_
              refine j_bipush (pc := 177) dX12_readAt_177 rfl ?_
              refine j_icmpR_ne (pc := 179) (tgt := 202) ⟨by omega, by omega⟩ ⟨by omega, by omega⟩ dX12_readAt_179 rfl (fun h181 => ?_) (fun h181 => ?_)
              · refine j_iload_n (pc := 202) dX12_readAt_202 rfl rfl ?_
                refine j_bipush (pc := 203) dX12_readAt_203 rfl ?_
                refine j_icmpR_ne (pc := 205) (tgt := 228) ⟨by omega, by omega⟩ ⟨by omega, by omega⟩ dX12_readAt_205 rfl (fun h182 => ?_) (fun h182 => ?_)
                · refine j_aload_n (pc := 228) dX12_readAt_228 rfl rfl ?_
                  refine j_getR (pc := 229) (r := 94) fl_X12_26 dX12_readAt_229 (a_88 hM) rfl ?_
                  refine j_iconst (pc := 232) dX12_readAt_232 ?_
                  refine j_iload_n (pc := 233) dX12_readAt_233 rfl rfl ?_
                  refine j_imul (pc := 234) dX12_readAt_234 ?_
                  refine j_iload_n (pc := 235) dX12_readAt_235 rfl rfl ?_
                  refine j_bipush (pc := 236) dX12_readAt_236 rfl ?_
                  refine j_icmpR_ne (pc := 238) (tgt := 245) ⟨by omega, by omega⟩ ⟨by omega, by omega⟩ dX12_readAt_238 rfl (fun h183 => ?_) (fun h183 => ?_)
                  · refine j_iconst (pc := 245) dX12_readAt_245 ?_
                    refine j_iadd (pc := 246) dX12_readAt_246 ?_
                    refine j_iconst (pc := 247) dX12_readAt_247 ?_
                    refine j_iast (pc := 248) dX12_readAt_248 (a_94 hM) (by omega) (by omega) (by decide) (j_nm (fun σ184 (eσ184 : σ184 = tw_up σ175 94 (((5 * h) + 3).toNat) 1) => ?_))
                    have hIσ184 : tw_I σ184 := tw_I_up hIσ175 eσ184 (show (-2147483648 : Int) ≤ 1 ∧ 1 ≤ 2147483647 from ⟨by omega, by omega⟩)
                    have hFσ184 : tw_F (fun c j => (c = 88 ∧ (j = 10 ∨ j = 13 ∨ j = 14 ∨ j = 15 ∨ j = 16 ∨ j = 17 ∨ j = 18)) ∨ c = 94 ∨ c = 96) σ σ184 := tw_F_up hFσ175 eσ184 (show (94 = 88 ∧ (((5 * h) + 3).toNat = 10 ∨ ((5 * h) + 3).toNat = 13 ∨ ((5 * h) + 3).toNat = 14 ∨ ((5 * h) + 3).toNat = 15 ∨ ((5 * h) + 3).toNat = 16 ∨ ((5 * h) + 3).toNat = 17 ∨ ((5 * h) + 3).toNat = 18)) ∨ 94 = 94 ∨ 94 = 96 from by omega)
                    have y185 : σ184 88 13 = σ175 88 13 := (tw_ne1 eσ184 (by omega))
                    have y186 : σ184 88 17 = σ175 88 17 := (tw_ne1 eσ184 (by omega))
                    have y187 : σ184 88 15 = σ175 88 15 := (tw_ne1 eσ184 (by omega))
                    have y1 : σ184 88 17 = σ175 88 17 := by first | rfl | exact tw_ne1 eσ184 (by omega)
                    have y2 : σ184 88 15 = σ175 88 15 := by first | rfl | exact tw_ne1 eσ184 (by omega)
                    have y3 : σ184 88 13 = σ175 88 13 := by first | rfl | exact tw_ne1 eσ184 (by omega)
                    have y4 : (0 : Int) ≤ σ184 88 13 ∧ σ184 88 13 ≤ 400 := hIσ184 88 13
                    have lt9 := mMu_lt (f := τ 88 17) (s := τ 88 15) (p := τ 88 13) (f2 := σ184 88 17) (s2 := σ184 88 15) (p2 := σ184 88 13) (by omega) (by omega) (by omega) (by omega) (by omega)
                    refine j_goto (pc := 249) (tgt := 99) dX12_readAt_249 rfl ?_
                    refine j_ls (ls' := [(0, vR 88), (1, vI h), (2, vI z173)]) [0, 1, 2] rfl ?_
                    have y188 : σ184 88 17 = σ175 88 17 := (tw_ne1 eσ184 (by omega))
                    have f189 : (0 : Int) ≤ σ175 88 17 ∧ σ175 88 17 ≤ 5 := hIσ175 88 17
                    have y190 : σ184 88 13 = σ175 88 13 := (tw_ne1 eσ184 (by omega))
                    have f191 : (0 : Int) ≤ σ175 88 13 ∧ σ175 88 13 ≤ 400 := hIσ175 88 13
                    have y192 : σ184 88 17 = σ175 88 17 := (tw_ne1 eσ184 (by omega))
                    have y193 : σ184 88 15 = σ175 88 15 := (tw_ne1 eσ184 (by omega))
                    have f194 : (-2147483648 : Int) ≤ σ175 88 15 ∧ σ175 88 15 ≤ 2147483647 := hIσ175 88 15
                    have y195 : σ184 88 13 = σ175 88 13 := (tw_ne1 eσ184 (by omega))
                    exact ih h ⟨by omega, by omega⟩ z173 ⟨by omega, by omega⟩ σ184 hIσ184 hFσ184 (show DQ σ184 from (by first | exact DQ_put (DQ_F i0 (fun j => (((hGσ175 93 j (show ¬ ((93 = 88 ∧ (j = 13 ∨ j = 14 ∨ j = 15 ∨ j = 16 ∨ j = 17 ∨ j = 18))) from by omega))).trans (hGσ169 93 j (show ¬ ((93 = 88 ∧ (j = 17 ∨ j = 18))) from by omega))).trans (hGσ82 93 j (show ¬ ((93 = 88 ∧ (j = 17 ∨ j = 18))) from by omega))) (fun j => (((hGσ175 94 j (show ¬ ((94 = 88 ∧ (j = 13 ∨ j = 14 ∨ j = 15 ∨ j = 16 ∨ j = 17 ∨ j = 18))) from by omega))).trans (hGσ169 94 j (show ¬ ((94 = 88 ∧ (j = 17 ∨ j = 18))) from by omega))).trans (hGσ82 94 j (show ¬ ((94 = 88 ∧ (j = 17 ∨ j = 18))) from by omega))) (by omega)) eσ184 (by first | exact Or.inr (w92 (by omega) (by omega) (by omega)) | (rcases q176_0 with q | q; exact Or.inl (by omega); (first | exact Or.inr (w92 (by omega) (by omega) (by omega)) | exact Or.inr (w92 (h := 0) (k := 0) (by omega) (by omega) (by omega))))) | exact DQ_F i0 (fun j => ((((tw_ne1 eσ184 (by omega))).trans (hGσ175 93 j (show ¬ ((93 = 88 ∧ (j = 13 ∨ j = 14 ∨ j = 15 ∨ j = 16 ∨ j = 17 ∨ j = 18))) from by omega))).trans (hGσ169 93 j (show ¬ ((93 = 88 ∧ (j = 17 ∨ j = 18))) from by omega))).trans (hGσ82 93 j (show ¬ ((93 = 88 ∧ (j = 17 ∨ j = 18))) from by omega))) (fun j => rfl) (by omega))) (show ¬ σ184 88 17 = 0 ∨ σ 88 17 = 0 from by omega) (show σ 88 13 ≤ σ184 88 13 from by omega) (show (mMu (σ184 88 17) (σ184 88 15) (σ184 88 13)).toNat < N_ from by omega)
                  · refine j_iconst (pc := 241) dX12_readAt_241 ?_
                    refine j_goto (pc := 242) (tgt := 246) dX12_readAt_242 rfl ?_
                    refine j_iadd (pc := 246) dX12_readAt_246 ?_
                    refine j_iconst (pc := 247) dX12_readAt_247 ?_
                    refine j_iast (pc := 248) dX12_readAt_248 (a_94 hM) (by omega) (by omega) (by decide) (j_nm (fun σ196 (eσ196 : σ196 = tw_up σ175 94 (((5 * h) + 2).toNat) 1) => ?_))
                    have hIσ196 : tw_I σ196 := tw_I_up hIσ175 eσ196 (show (-2147483648 : Int) ≤ 1 ∧ 1 ≤ 2147483647 from ⟨by omega, by omega⟩)
                    have hFσ196 : tw_F (fun c j => (c = 88 ∧ (j = 10 ∨ j = 13 ∨ j = 14 ∨ j = 15 ∨ j = 16 ∨ j = 17 ∨ j = 18)) ∨ c = 94 ∨ c = 96) σ σ196 := tw_F_up hFσ175 eσ196 (show (94 = 88 ∧ (((5 * h) + 2).toNat = 10 ∨ ((5 * h) + 2).toNat = 13 ∨ ((5 * h) + 2).toNat = 14 ∨ ((5 * h) + 2).toNat = 15 ∨ ((5 * h) + 2).toNat = 16 ∨ ((5 * h) + 2).toNat = 17 ∨ ((5 * h) + 2).toNat = 18)) ∨ 94 = 94 ∨ 94 = 96 from by omega)
                    have y197 : σ196 88 13 = σ175 88 13 := (tw_ne1 eσ196 (by omega))
                    have y198 : σ196 88 17 = σ175 88 17 := (tw_ne1 eσ196 (by omega))
                    have y199 : σ196 88 15 = σ175 88 15 := (tw_ne1 eσ196 (by omega))
                    have y1 : σ196 88 17 = σ175 88 17 := by first | rfl | exact tw_ne1 eσ196 (by omega)
                    have y2 : σ196 88 15 = σ175 88 15 := by first | rfl | exact tw_ne1 eσ196 (by omega)
                    have y3 : σ196 88 13 = σ175 88 13 := by first | rfl | exact tw_ne1 eσ196 (by omega)
                    have y4 : (0 : Int) ≤ σ196 88 13 ∧ σ196 88 13 ≤ 400 := hIσ196 88 13
                    have lt9 := mMu_lt (f := τ 88 17) (s := τ 88 15) (p := τ 88 13) (f2 := σ196 88 17) (s2 := σ196 88 15) (p2 := σ196 88 13) (by omega) (by omega) (by omega) (by omega) (by omega)
                    refine j_goto (pc := 249) (tgt := 99) dX12_readAt_249 rfl ?_
                    refine j_ls (ls' := [(0, vR 88), (1, vI h), (2, vI z173)]) [0, 1, 2] rfl ?_
                    have y200 : σ196 88 17 = σ175 88 17 := (tw_ne1 eσ196 (by omega))
                    have f201 : (0 : Int) ≤ σ175 88 17 ∧ σ175 88 17 ≤ 5 := hIσ175 88 17
                    have y202 : σ196 88 13 = σ175 88 13 := (tw_ne1 eσ196 (by omega))
                    have f203 : (0 : Int) ≤ σ175 88 13 ∧ σ175 88 13 ≤ 400 := hIσ175 88 13
                    have y204 : σ196 88 17 = σ175 88 17 := (tw_ne1 eσ196 (by omega))
                    have y205 : σ196 88 15 = σ175 88 15 := (tw_ne1 eσ196 (by omega))
                    have f206 : (-2147483648 : Int) ≤ σ175 88 15 ∧ σ175 88 15 ≤ 2147483647 := hIσ175 88 15
                    have y207 : σ196 88 13 = σ175 88 13 := (tw_ne1 eσ196 (by omega))
                    exact ih h ⟨by omega, by omega⟩ z173 ⟨by omega, by omega⟩ σ196 hIσ196 hFσ196 (show DQ σ196 from (by first | exact DQ_put (DQ_F i0 (fun j => (((hGσ175 93 j (show ¬ ((93 = 88 ∧ (j = 13 ∨ j = 14 ∨ j = 15 ∨ j = 16 ∨ j = 17 ∨ j = 18))) from by omega))).trans (hGσ169 93 j (show ¬ ((93 = 88 ∧ (j = 17 ∨ j = 18))) from by omega))).trans (hGσ82 93 j (show ¬ ((93 = 88 ∧ (j = 17 ∨ j = 18))) from by omega))) (fun j => (((hGσ175 94 j (show ¬ ((94 = 88 ∧ (j = 13 ∨ j = 14 ∨ j = 15 ∨ j = 16 ∨ j = 17 ∨ j = 18))) from by omega))).trans (hGσ169 94 j (show ¬ ((94 = 88 ∧ (j = 17 ∨ j = 18))) from by omega))).trans (hGσ82 94 j (show ¬ ((94 = 88 ∧ (j = 17 ∨ j = 18))) from by omega))) (by omega)) eσ196 (by first | exact Or.inr (w92 (by omega) (by omega) (by omega)) | (rcases q176_0 with q | q; exact Or.inl (by omega); (first | exact Or.inr (w92 (by omega) (by omega) (by omega)) | exact Or.inr (w92 (h := 0) (k := 0) (by omega) (by omega) (by omega))))) | exact DQ_F i0 (fun j => ((((tw_ne1 eσ196 (by omega))).trans (hGσ175 93 j (show ¬ ((93 = 88 ∧ (j = 13 ∨ j = 14 ∨ j = 15 ∨ j = 16 ∨ j = 17 ∨ j = 18))) from by omega))).trans (hGσ169 93 j (show ¬ ((93 = 88 ∧ (j = 17 ∨ j = 18))) from by omega))).trans (hGσ82 93 j (show ¬ ((93 = 88 ∧ (j = 17 ∨ j = 18))) from by omega))) (fun j => rfl) (by omega))) (show ¬ σ196 88 17 = 0 ∨ σ 88 17 = 0 from by omega) (show σ 88 13 ≤ σ196 88 13 from by omega) (show (mMu (σ196 88 17) (σ196 88 15) (σ196 88 13)).toNat < N_ from by omega)
                · refine j_aload_n (pc := 208) dX12_readAt_208 rfl rfl ?_
                  refine j_getR (pc := 209) (r := 94) fl_X12_26 dX12_readAt_209 (a_88 hM) rfl ?_
                  refine j_iconst (pc := 212) dX12_readAt_212 ?_
                  refine j_iload_n (pc := 213) dX12_readAt_213 rfl rfl ?_
                  refine j_imul (pc := 214) dX12_readAt_214 ?_
                  refine j_iconst (pc := 215) dX12_readAt_215 ?_
                  refine j_iadd (pc := 216) dX12_readAt_216 ?_
                  refine j_aload_n (pc := 217) dX12_readAt_217 rfl rfl ?_
                  refine j_iconst (pc := 218) dX12_readAt_218 ?_
                  refine j_bipush (pc := 219) dX12_readAt_219 rfl ?_
                  refine j_callV (pc := 221) (As := [vI 0, vI 9]) (st := [vI ((5 * h) + 4), vR 94]) (c_X12_readNumber hM 0 ⟨by omega, by omega⟩ 9 ⟨by omega, by omega⟩ σ175 hIσ175) mv_X12_140 rfl rfl rfl (a_88 hM) dX12_readAt_221 ⟨Nat.le_of_ble_eq_true rfl, Nat.le_of_ble_eq_true rfl⟩ ⟨Nat.le_refl _, Nat.le_refl _⟩ rfl (Nat.le_of_ble_eq_true rfl) rfl (fun z208 σ209 hz208 => ?_)
                  obtain ⟨r211, rfl, hr211, hIσ209, hGσ209, q210_0, q210_1, q210_2⟩ := hz208
                  replace q210_0 : ¬ σ209 88 17 = 0 ∨ (σ175 88 17 = 0 ∧ (0 : Int) ≤ r211 ∧ r211 ≤ (9 : Int)) := q210_0
                  replace q210_1 : σ175 88 13 ≤ σ209 88 13 := q210_1
                  replace q210_2 : ¬ σ209 88 17 = 0 ∨ σ209 88 15 = 0 ∨ σ175 88 13 < σ209 88 13 := q210_2
                  have hFσ209 : tw_F (fun c j => (c = 88 ∧ (j = 10 ∨ j = 13 ∨ j = 14 ∨ j = 15 ∨ j = 16 ∨ j = 17 ∨ j = 18)) ∨ c = 94 ∨ c = 96) σ σ209 := tw_F_tr hFσ175 hGσ209 (fun c j q => (show (c = 88 ∧ (j = 10 ∨ j = 13 ∨ j = 14 ∨ j = 15 ∨ j = 16 ∨ j = 17 ∨ j = 18)) ∨ c = 94 ∨ c = 96 from by replace q : (c = 88 ∧ (j = 13 ∨ j = 14 ∨ j = 15 ∨ j = 16 ∨ j = 17 ∨ j = 18)) := q; omega))
                  refine j_st (st' := [vI r211, vI ((5 * h) + 4), vR 94]) rfl ?_
                  refine j_iast (pc := 224) dX12_readAt_224 (a_94 hM) (by omega) (by omega) (by decide) (j_nm (fun σ212 (eσ212 : σ212 = tw_up σ209 94 (((5 * h) + 4).toNat) r211) => ?_))
                  have hIσ212 : tw_I σ212 := tw_I_up hIσ209 eσ212 (show (-2147483648 : Int) ≤ r211 ∧ r211 ≤ 2147483647 from ⟨by omega, by omega⟩)
                  have hFσ212 : tw_F (fun c j => (c = 88 ∧ (j = 10 ∨ j = 13 ∨ j = 14 ∨ j = 15 ∨ j = 16 ∨ j = 17 ∨ j = 18)) ∨ c = 94 ∨ c = 96) σ σ212 := tw_F_up hFσ209 eσ212 (show (94 = 88 ∧ (((5 * h) + 4).toNat = 10 ∨ ((5 * h) + 4).toNat = 13 ∨ ((5 * h) + 4).toNat = 14 ∨ ((5 * h) + 4).toNat = 15 ∨ ((5 * h) + 4).toNat = 16 ∨ ((5 * h) + 4).toNat = 17 ∨ ((5 * h) + 4).toNat = 18)) ∨ 94 = 94 ∨ 94 = 96 from by omega)
                  refine j_goto (pc := 225) (tgt := 249) dX12_readAt_225 rfl ?_
                  have y213 : σ212 88 13 = σ209 88 13 := (tw_ne1 eσ212 (by omega))
                  have y214 : σ212 88 17 = σ209 88 17 := (tw_ne1 eσ212 (by omega))
                  have y215 : σ212 88 15 = σ209 88 15 := (tw_ne1 eσ212 (by omega))
                  have y1 : σ212 88 17 = σ209 88 17 := by first | rfl | exact tw_ne1 eσ212 (by omega)
                  have y2 : σ212 88 15 = σ209 88 15 := by first | rfl | exact tw_ne1 eσ212 (by omega)
                  have y3 : σ212 88 13 = σ209 88 13 := by first | rfl | exact tw_ne1 eσ212 (by omega)
                  have y4 : (0 : Int) ≤ σ212 88 13 ∧ σ212 88 13 ≤ 400 := hIσ212 88 13
                  have lt9 := mMu_lt (f := τ 88 17) (s := τ 88 15) (p := τ 88 13) (f2 := σ212 88 17) (s2 := σ212 88 15) (p2 := σ212 88 13) (by omega) (by omega) (by omega) (by omega) (by omega)
                  refine j_goto (pc := 249) (tgt := 99) dX12_readAt_249 rfl ?_
                  refine j_ls (ls' := [(0, vR 88), (1, vI h), (2, vI z173)]) [0, 1, 2] rfl ?_
                  have y216 : σ212 88 17 = σ209 88 17 := (tw_ne1 eσ212 (by omega))
                  have f217 : (0 : Int) ≤ σ209 88 17 ∧ σ209 88 17 ≤ 5 := hIσ209 88 17
                  have y218 : σ212 88 13 = σ209 88 13 := (tw_ne1 eσ212 (by omega))
                  have f219 : (0 : Int) ≤ σ209 88 13 ∧ σ209 88 13 ≤ 400 := hIσ209 88 13
                  have y220 : σ212 88 17 = σ209 88 17 := (tw_ne1 eσ212 (by omega))
                  have y221 : σ212 88 15 = σ209 88 15 := (tw_ne1 eσ212 (by omega))
                  have f222 : (-2147483648 : Int) ≤ σ209 88 15 ∧ σ209 88 15 ≤ 2147483647 := hIσ209 88 15
                  have y223 : σ212 88 13 = σ209 88 13 := (tw_ne1 eσ212 (by omega))
                  exact ih h ⟨by omega, by omega⟩ z173 ⟨by omega, by omega⟩ σ212 hIσ212 hFσ212 (show DQ σ212 from (by first | exact DQ_put (DQ_F i0 (fun j => ((((hGσ209 93 j (show ¬ ((93 = 88 ∧ (j = 13 ∨ j = 14 ∨ j = 15 ∨ j = 16 ∨ j = 17 ∨ j = 18))) from by omega))).trans (hGσ175 93 j (show ¬ ((93 = 88 ∧ (j = 13 ∨ j = 14 ∨ j = 15 ∨ j = 16 ∨ j = 17 ∨ j = 18))) from by omega))).trans (hGσ169 93 j (show ¬ ((93 = 88 ∧ (j = 17 ∨ j = 18))) from by omega))).trans (hGσ82 93 j (show ¬ ((93 = 88 ∧ (j = 17 ∨ j = 18))) from by omega))) (fun j => ((((hGσ209 94 j (show ¬ ((94 = 88 ∧ (j = 13 ∨ j = 14 ∨ j = 15 ∨ j = 16 ∨ j = 17 ∨ j = 18))) from by omega))).trans (hGσ175 94 j (show ¬ ((94 = 88 ∧ (j = 13 ∨ j = 14 ∨ j = 15 ∨ j = 16 ∨ j = 17 ∨ j = 18))) from by omega))).trans (hGσ169 94 j (show ¬ ((94 = 88 ∧ (j = 17 ∨ j = 18))) from by omega))).trans (hGσ82 94 j (show ¬ ((94 = 88 ∧ (j = 17 ∨ j = 18))) from by omega))) (by omega)) eσ212 (by first | exact Or.inr (w92 (by omega) (by omega) (by omega)) | (rcases q210_0 with q | q; exact Or.inl (by omega); (first | exact Or.inr (w92 (by omega) (by omega) (by omega)) | exact Or.inr (w92 (h := 0) (k := 0) (by omega) (by omega) (by omega))))) | exact DQ_F i0 (fun j => (((((tw_ne1 eσ212 (by omega))).trans (hGσ209 93 j (show ¬ ((93 = 88 ∧ (j = 13 ∨ j = 14 ∨ j = 15 ∨ j = 16 ∨ j = 17 ∨ j = 18))) from by omega))).trans (hGσ175 93 j (show ¬ ((93 = 88 ∧ (j = 13 ∨ j = 14 ∨ j = 15 ∨ j = 16 ∨ j = 17 ∨ j = 18))) from by omega))).trans (hGσ169 93 j (show ¬ ((93 = 88 ∧ (j = 17 ∨ j = 18))) from by omega))).trans (hGσ82 93 j (show ¬ ((93 = 88 ∧ (j = 17 ∨ j = 18))) from by omega))) (fun j => rfl) (by omega))) (show ¬ σ212 88 17 = 0 ∨ σ 88 17 = 0 from by omega) (show σ 88 13 ≤ σ212 88 13 from by omega) (show (mMu (σ212 88 17) (σ212 88 15) (σ212 88 13)).toNat < N_ from by omega)
              · refine j_aload_n (pc := 182) dX12_readAt_182 rfl rfl ?_
                refine j_getR (pc := 183) (r := 94) fl_X12_26 dX12_readAt_183 (a_88 hM) rfl ?_
                refine j_iconst (pc := 186) dX12_readAt_186 ?_
                refine j_iload_n (pc := 187) dX12_readAt_187 rfl rfl ?_
                refine j_imul (pc := 188) dX12_readAt_188 ?_
                refine j_iconst (pc := 189) dX12_readAt_189 ?_
                refine j_iadd (pc := 190) dX12_readAt_190 ?_
                refine j_aload_n (pc := 191) dX12_readAt_191 rfl rfl ?_
                refine j_iconst (pc := 192) dX12_readAt_192 ?_
                refine j_bipush (pc := 193) dX12_readAt_193 rfl ?_
                refine j_callV (pc := 195) (As := [vI 1, vI 10]) (st := [vI ((5 * h) + 1), vR 94]) (c_X12_readNumber hM 1 ⟨by omega, by omega⟩ 10 ⟨by omega, by omega⟩ σ175 hIσ175) mv_X12_140 rfl rfl rfl (a_88 hM) dX12_readAt_195 ⟨Nat.le_of_ble_eq_true rfl, Nat.le_of_ble_eq_true rfl⟩ ⟨Nat.le_refl _, Nat.le_refl _⟩ rfl (Nat.le_of_ble_eq_true rfl) rfl (fun z224 σ225 hz224 => ?_)
                obtain ⟨r227, rfl, hr227, hIσ225, hGσ225, q226_0, q226_1, q226_2⟩ := hz224
                replace q226_0 : ¬ σ225 88 17 = 0 ∨ (σ175 88 17 = 0 ∧ (1 : Int) ≤ r227 ∧ r227 ≤ (10 : Int)) := q226_0
                replace q226_1 : σ175 88 13 ≤ σ225 88 13 := q226_1
                replace q226_2 : ¬ σ225 88 17 = 0 ∨ σ225 88 15 = 0 ∨ σ175 88 13 < σ225 88 13 := q226_2
                have hFσ225 : tw_F (fun c j => (c = 88 ∧ (j = 10 ∨ j = 13 ∨ j = 14 ∨ j = 15 ∨ j = 16 ∨ j = 17 ∨ j = 18)) ∨ c = 94 ∨ c = 96) σ σ225 := tw_F_tr hFσ175 hGσ225 (fun c j q => (show (c = 88 ∧ (j = 10 ∨ j = 13 ∨ j = 14 ∨ j = 15 ∨ j = 16 ∨ j = 17 ∨ j = 18)) ∨ c = 94 ∨ c = 96 from by replace q : (c = 88 ∧ (j = 13 ∨ j = 14 ∨ j = 15 ∨ j = 16 ∨ j = 17 ∨ j = 18)) := q; omega))
                refine j_st (st' := [vI r227, vI ((5 * h) + 1), vR 94]) rfl ?_
                refine j_iast (pc := 198) dX12_readAt_198 (a_94 hM) (by omega) (by omega) (by decide) (j_nm (fun σ228 (eσ228 : σ228 = tw_up σ225 94 (((5 * h) + 1).toNat) r227) => ?_))
                have hIσ228 : tw_I σ228 := tw_I_up hIσ225 eσ228 (show (-2147483648 : Int) ≤ r227 ∧ r227 ≤ 2147483647 from ⟨by omega, by omega⟩)
                have hFσ228 : tw_F (fun c j => (c = 88 ∧ (j = 10 ∨ j = 13 ∨ j = 14 ∨ j = 15 ∨ j = 16 ∨ j = 17 ∨ j = 18)) ∨ c = 94 ∨ c = 96) σ σ228 := tw_F_up hFσ225 eσ228 (show (94 = 88 ∧ (((5 * h) + 1).toNat = 10 ∨ ((5 * h) + 1).toNat = 13 ∨ ((5 * h) + 1).toNat = 14 ∨ ((5 * h) + 1).toNat = 15 ∨ ((5 * h) + 1).toNat = 16 ∨ ((5 * h) + 1).toNat = 17 ∨ ((5 * h) + 1).toNat = 18)) ∨ 94 = 94 ∨ 94 = 96 from by omega)
                refine j_goto (pc := 199) (tgt := 249) dX12_readAt_199 rfl ?_
                have y229 : σ228 88 13 = σ225 88 13 := (tw_ne1 eσ228 (by omega))
                have y230 : σ228 88 17 = σ225 88 17 := (tw_ne1 eσ228 (by omega))
                have y231 : σ228 88 15 = σ225 88 15 := (tw_ne1 eσ228 (by omega))
                have y1 : σ228 88 17 = σ225 88 17 := by first | rfl | exact tw_ne1 eσ228 (by omega)
                have y2 : σ228 88 15 = σ225 88 15 := by first | rfl | exact tw_ne1 eσ228 (by omega)
                have y3 : σ228 88 13 = σ225 88 13 := by first | rfl | exact tw_ne1 eσ228 (by omega)
                have y4 : (0 : Int) ≤ σ228 88 13 ∧ σ228 88 13 ≤ 400 := hIσ228 88 13
                have lt9 := mMu_lt (f := τ 88 17) (s := τ 88 15) (p := τ 88 13) (f2 := σ228 88 17) (s2 := σ228 88 15) (p2 := σ228 88 13) (by omega) (by omega) (by omega) (by omega) (by omega)
                refine j_goto (pc := 249) (tgt := 99) dX12_readAt_249 rfl ?_
                refine j_ls (ls' := [(0, vR 88), (1, vI h), (2, vI z173)]) [0, 1, 2] rfl ?_
                have y232 : σ228 88 17 = σ225 88 17 := (tw_ne1 eσ228 (by omega))
                have f233 : (0 : Int) ≤ σ225 88 17 ∧ σ225 88 17 ≤ 5 := hIσ225 88 17
                have y234 : σ228 88 13 = σ225 88 13 := (tw_ne1 eσ228 (by omega))
                have f235 : (0 : Int) ≤ σ225 88 13 ∧ σ225 88 13 ≤ 400 := hIσ225 88 13
                have y236 : σ228 88 17 = σ225 88 17 := (tw_ne1 eσ228 (by omega))
                have y237 : σ228 88 15 = σ225 88 15 := (tw_ne1 eσ228 (by omega))
                have f238 : (-2147483648 : Int) ≤ σ225 88 15 ∧ σ225 88 15 ≤ 2147483647 := hIσ225 88 15
                have y239 : σ228 88 13 = σ225 88 13 := (tw_ne1 eσ228 (by omega))
                exact ih h ⟨by omega, by omega⟩ z173 ⟨by omega, by omega⟩ σ228 hIσ228 hFσ228 (show DQ σ228 from (by first | exact DQ_put (DQ_F i0 (fun j => ((((hGσ225 93 j (show ¬ ((93 = 88 ∧ (j = 13 ∨ j = 14 ∨ j = 15 ∨ j = 16 ∨ j = 17 ∨ j = 18))) from by omega))).trans (hGσ175 93 j (show ¬ ((93 = 88 ∧ (j = 13 ∨ j = 14 ∨ j = 15 ∨ j = 16 ∨ j = 17 ∨ j = 18))) from by omega))).trans (hGσ169 93 j (show ¬ ((93 = 88 ∧ (j = 17 ∨ j = 18))) from by omega))).trans (hGσ82 93 j (show ¬ ((93 = 88 ∧ (j = 17 ∨ j = 18))) from by omega))) (fun j => ((((hGσ225 94 j (show ¬ ((94 = 88 ∧ (j = 13 ∨ j = 14 ∨ j = 15 ∨ j = 16 ∨ j = 17 ∨ j = 18))) from by omega))).trans (hGσ175 94 j (show ¬ ((94 = 88 ∧ (j = 13 ∨ j = 14 ∨ j = 15 ∨ j = 16 ∨ j = 17 ∨ j = 18))) from by omega))).trans (hGσ169 94 j (show ¬ ((94 = 88 ∧ (j = 17 ∨ j = 18))) from by omega))).trans (hGσ82 94 j (show ¬ ((94 = 88 ∧ (j = 17 ∨ j = 18))) from by omega))) (by omega)) eσ228 (by first | exact Or.inr (w92 (by omega) (by omega) (by omega)) | (rcases q226_0 with q | q; exact Or.inl (by omega); (first | exact Or.inr (w92 (by omega) (by omega) (by omega)) | exact Or.inr (w92 (h := 0) (k := 0) (by omega) (by omega) (by omega))))) | exact DQ_F i0 (fun j => (((((tw_ne1 eσ228 (by omega))).trans (hGσ225 93 j (show ¬ ((93 = 88 ∧ (j = 13 ∨ j = 14 ∨ j = 15 ∨ j = 16 ∨ j = 17 ∨ j = 18))) from by omega))).trans (hGσ175 93 j (show ¬ ((93 = 88 ∧ (j = 13 ∨ j = 14 ∨ j = 15 ∨ j = 16 ∨ j = 17 ∨ j = 18))) from by omega))).trans (hGσ169 93 j (show ¬ ((93 = 88 ∧ (j = 17 ∨ j = 18))) from by omega))).trans (hGσ82 93 j (show ¬ ((93 = 88 ∧ (j = 17 ∨ j = 18))) from by omega))) (fun j => rfl) (by omega))) (show ¬ σ228 88 17 = 0 ∨ σ 88 17 = 0 from by omega) (show σ 88 13 ≤ σ228 88 13 from by omega) (show (mMu (σ228 88 17) (σ228 88 15) (σ228 88 13)).toNat < N_ from by omega)
set_option maxHeartbeats 4000000 in
set_option maxRecDepth 100000 in
theorem c_X12_readAt {G : tw_G} (hM : tw_isM G) (σ : tw_M) (hI : tw_I σ) (hq0 : DQ σ) : tw_C G yX12_readAt cX12_readAt 4 none 3 [vR 88] σ (q_X12_readAt σ) := by
  refine tw_met [(0, vR 88)] (by decide +kernel) rfl (Nat.le_of_ble_eq_true rfl) ?_
  refine j_aload_n (pc := 0) dX12_readAt_0 rfl rfl ?_
  refine j_iconst (pc := 1) dX12_readAt_1 ?_
  refine j_bipush (pc := 2) dX12_readAt_2 rfl ?_
  refine j_callV (pc := 4) (As := [vI 1, vI 40]) (st := []) (c_X12_isNumber hM 1 ⟨by omega, by omega⟩ 40 ⟨by omega, by omega⟩ σ hI) mv_X12_133 rfl rfl rfl (a_88 hM) dX12_readAt_4 ⟨Nat.le_of_ble_eq_true rfl, Nat.le_of_ble_eq_true rfl⟩ ⟨Nat.le_refl _, Nat.le_refl _⟩ rfl (Nat.le_of_ble_eq_true rfl) rfl (fun z240 σ241 hz240 => ?_)
  obtain ⟨rfl, hIσ241, hGσ241, q242_0⟩ := hz240
  replace q242_0 : ¬ σ241 88 17 = 0 ∨ (σ 88 17 = 0 ∧ (1 : Int) ≤ σ 88 16 ∧ σ 88 16 ≤ (40 : Int)) := q242_0
  have hFσ241 : tw_F (fun c j => (c = 88 ∧ (j = 10 ∨ j = 13 ∨ j = 14 ∨ j = 15 ∨ j = 16 ∨ j = 17 ∨ j = 18)) ∨ c = 94 ∨ c = 96) σ σ241 := tw_F_tr (tw_F_rf) hGσ241 (fun c j q => (show (c = 88 ∧ (j = 10 ∨ j = 13 ∨ j = 14 ∨ j = 15 ∨ j = 16 ∨ j = 17 ∨ j = 18)) ∨ c = 94 ∨ c = 96 from by replace q : (c = 88 ∧ (j = 17 ∨ j = 18)) := q; omega))
  refine j_st (st' := []) rfl ?_
  refine j_aload_n (pc := 7) dX12_readAt_7 rfl rfl ?_
  refine j_getI (pc := 8) fl_X12_91 dX12_readAt_8 (a_88 hM) rfl ?_
  have f244 : (0 : Int) ≤ σ241 88 17 ∧ σ241 88 17 ≤ 5 := hIσ241 88 17
  refine j_ifR_ne (pc := 11) (tgt := 21) ⟨by omega, by omega⟩ dX12_readAt_11 rfl (fun h245 => ?_) (fun h245 => ?_)
  · refine j_iconst (pc := 21) dX12_readAt_21 ?_
    refine j_istore_n (pc := 22) (i := 1) (ls' := [(0, vR 88), (1, vI 0)]) [1, 0] dX12_readAt_22 rfl (Nat.le_of_ble_eq_true rfl) rfl rfl ?_
    refine j_aload_n (pc := 23) dX12_readAt_23 rfl rfl ?_
    refine j_getI (pc := 24) fl_X12_91 dX12_readAt_24 (a_88 hM) rfl ?_
    refine j_ifR_ne (pc := 27) (tgt := 76) ⟨by omega, by omega⟩ dX12_readAt_27 rfl (fun h246 => ?_) (fun h246 => by exfalso; omega)
    refine j_aload_n (pc := 76) dX12_readAt_76 rfl rfl ?_
    refine j_callV (pc := 77) (As := []) (st := []) (c_X12_next hM σ241 hIσ241) mv_X12_137 rfl rfl rfl (a_88 hM) dX12_readAt_77 ⟨Nat.le_of_ble_eq_true rfl, Nat.le_of_ble_eq_true rfl⟩ ⟨Nat.le_refl _, Nat.le_refl _⟩ rfl (Nat.le_of_ble_eq_true rfl) rfl (fun z247 σ248 hz247 => ?_)
    obtain ⟨rfl, hIσ248, hGσ248, q249_0, q249_1, q249_2⟩ := hz247
    replace q249_0 : ¬ σ248 88 17 = 0 ∨ σ241 88 17 = 0 := q249_0
    replace q249_1 : σ241 88 13 ≤ σ248 88 13 := q249_1
    have y251 : σ241 88 13 = σ 88 13 := (hGσ241 88 13 (show ¬ ((88 = 88 ∧ (13 = 17 ∨ 13 = 18))) from by omega))
    have f252 : (0 : Int) ≤ σ 88 13 ∧ σ 88 13 ≤ 400 := hI 88 13
    replace q249_2 : ¬ σ248 88 17 = 0 ∨ σ248 88 15 = 0 ∨ σ241 88 13 < σ248 88 13 := q249_2
    have y253 : σ241 88 13 = σ 88 13 := (hGσ241 88 13 (show ¬ ((88 = 88 ∧ (13 = 17 ∨ 13 = 18))) from by omega))
    have hFσ248 : tw_F (fun c j => (c = 88 ∧ (j = 10 ∨ j = 13 ∨ j = 14 ∨ j = 15 ∨ j = 16 ∨ j = 17 ∨ j = 18)) ∨ c = 94 ∨ c = 96) σ σ248 := tw_F_tr hFσ241 hGσ248 (fun c j q => (show (c = 88 ∧ (j = 10 ∨ j = 13 ∨ j = 14 ∨ j = 15 ∨ j = 16 ∨ j = 17 ∨ j = 18)) ∨ c = 94 ∨ c = 96 from by replace q : (c = 88 ∧ (j = 13 ∨ j = 14 ∨ j = 15 ∨ j = 16 ∨ j = 17 ∨ j = 18)) := q; omega))
    refine j_st (st' := []) rfl ?_
    refine j_aload_n (pc := 80) dX12_readAt_80 rfl rfl ?_
    refine j_getR (pc := 81) (r := 94) fl_X12_26 dX12_readAt_81 (a_88 hM) rfl ?_
    refine j_iconst (pc := 84) dX12_readAt_84 ?_
    refine j_iload_n (pc := 85) dX12_readAt_85 rfl rfl ?_
    refine j_imul (pc := 86) dX12_readAt_86 ?_
    refine j_topV (show (5 * 0 : Int) = 0 from by decide) ?_
    refine j_iconst (pc := 87) dX12_readAt_87 ?_
    refine j_iadd (pc := 88) dX12_readAt_88 ?_
    refine j_topV (show (0 + 0 : Int) = 0 from by decide) ?_
    refine j_aload_n (pc := 89) dX12_readAt_89 rfl rfl ?_
    refine j_iconst (pc := 90) dX12_readAt_90 ?_
    refine j_bipush (pc := 91) dX12_readAt_91 rfl ?_
    refine j_callV (pc := 93) (As := [vI 0, vI 9]) (st := [vI 0, vR 94]) (c_X12_readNumber hM 0 ⟨by omega, by omega⟩ 9 ⟨by omega, by omega⟩ σ248 hIσ248) mv_X12_140 rfl rfl rfl (a_88 hM) dX12_readAt_93 ⟨Nat.le_of_ble_eq_true rfl, Nat.le_of_ble_eq_true rfl⟩ ⟨Nat.le_refl _, Nat.le_refl _⟩ rfl (Nat.le_of_ble_eq_true rfl) rfl (fun z254 σ255 hz254 => ?_)
    obtain ⟨r257, rfl, hr257, hIσ255, hGσ255, q256_0, q256_1, q256_2⟩ := hz254
    replace q256_0 : ¬ σ255 88 17 = 0 ∨ (σ248 88 17 = 0 ∧ (0 : Int) ≤ r257 ∧ r257 ≤ (9 : Int)) := q256_0
    replace q256_1 : σ248 88 13 ≤ σ255 88 13 := q256_1
    replace q256_2 : ¬ σ255 88 17 = 0 ∨ σ255 88 15 = 0 ∨ σ248 88 13 < σ255 88 13 := q256_2
    have hFσ255 : tw_F (fun c j => (c = 88 ∧ (j = 10 ∨ j = 13 ∨ j = 14 ∨ j = 15 ∨ j = 16 ∨ j = 17 ∨ j = 18)) ∨ c = 94 ∨ c = 96) σ σ255 := tw_F_tr hFσ248 hGσ255 (fun c j q => (show (c = 88 ∧ (j = 10 ∨ j = 13 ∨ j = 14 ∨ j = 15 ∨ j = 16 ∨ j = 17 ∨ j = 18)) ∨ c = 94 ∨ c = 96 from by replace q : (c = 88 ∧ (j = 13 ∨ j = 14 ∨ j = 15 ∨ j = 16 ∨ j = 17 ∨ j = 18)) := q; omega))
    refine j_st (st' := [vI r257, vI 0, vR 94]) rfl ?_
    refine j_iast (pc := 96) dX12_readAt_96 (a_94 hM) (by omega) (by omega) (by decide) (j_nm (fun σ258 (eσ258 : σ258 = tw_up σ255 94 0 r257) => ?_))
    have hIσ258 : tw_I σ258 := tw_I_up hIσ255 eσ258 (show (-2147483648 : Int) ≤ r257 ∧ r257 ≤ 2147483647 from ⟨by omega, by omega⟩)
    have hFσ258 : tw_F (fun c j => (c = 88 ∧ (j = 10 ∨ j = 13 ∨ j = 14 ∨ j = 15 ∨ j = 16 ∨ j = 17 ∨ j = 18)) ∨ c = 94 ∨ c = 96) σ σ258 := tw_F_up hFσ255 eσ258 (show (94 = 88 ∧ (0 = 10 ∨ 0 = 13 ∨ 0 = 14 ∨ 0 = 15 ∨ 0 = 16 ∨ 0 = 17 ∨ 0 = 18)) ∨ 94 = 94 ∨ 94 = 96 from by omega)
    refine j_iconst (pc := 97) dX12_readAt_97 ?_
    refine j_istore_n (pc := 98) (i := 2) (ls' := [(0, vR 88), (1, vI 0), (2, vI 0)]) [1, 2, 0] dX12_readAt_98 rfl (Nat.le_of_ble_eq_true rfl) rfl rfl ?_
    refine j_ls (ls' := [(0, vR 88), (1, vI 0), (2, vI 0)]) [0, 1, 2] rfl ?_
    have y259 : σ258 88 17 = σ255 88 17 := (tw_ne1 eσ258 (by omega))
    have f260 : (0 : Int) ≤ σ255 88 17 ∧ σ255 88 17 ≤ 5 := hIσ255 88 17
    have y261 : σ258 88 13 = σ255 88 13 := (tw_ne1 eσ258 (by omega))
    have f262 : (0 : Int) ≤ σ255 88 13 ∧ σ255 88 13 ≤ 400 := hIσ255 88 13
    have y263 : σ258 88 17 = σ255 88 17 := (tw_ne1 eσ258 (by omega))
    have y264 : σ258 88 15 = σ255 88 15 := (tw_ne1 eσ258 (by omega))
    have f265 : (-2147483648 : Int) ≤ σ255 88 15 ∧ σ255 88 15 ≤ 2147483647 := hIσ255 88 15
    have y266 : σ258 88 13 = σ255 88 13 := (tw_ne1 eσ258 (by omega))
    exact (l_X12_readAt hM σ hI hq0 (((mMu (σ258 88 17) (σ258 88 15) (σ258 88 13)).toNat) + 1)) 0 ⟨by omega, by omega⟩ 0 ⟨by omega, by omega⟩ σ258 hIσ258 hFσ258 (show DQ σ258 from DQ_put (DQ_F hq0 (fun j => (((hGσ255 93 j (show ¬ ((93 = 88 ∧ (j = 13 ∨ j = 14 ∨ j = 15 ∨ j = 16 ∨ j = 17 ∨ j = 18))) from by omega))).trans (hGσ248 93 j (show ¬ ((93 = 88 ∧ (j = 13 ∨ j = 14 ∨ j = 15 ∨ j = 16 ∨ j = 17 ∨ j = 18))) from by omega))).trans (hGσ241 93 j (show ¬ ((93 = 88 ∧ (j = 17 ∨ j = 18))) from by omega))) (fun j => (((hGσ255 94 j (show ¬ ((94 = 88 ∧ (j = 13 ∨ j = 14 ∨ j = 15 ∨ j = 16 ∨ j = 17 ∨ j = 18))) from by omega))).trans (hGσ248 94 j (show ¬ ((94 = 88 ∧ (j = 13 ∨ j = 14 ∨ j = 15 ∨ j = 16 ∨ j = 17 ∨ j = 18))) from by omega))).trans (hGσ241 94 j (show ¬ ((94 = 88 ∧ (j = 17 ∨ j = 18))) from by omega))) (by omega)) eσ258 (by first | exact Or.inr (w92 (by omega) (by omega) (by omega)) | (rcases q256_0 with q | q; exact Or.inl (by omega); (first | exact Or.inr (w92 (by omega) (by omega) (by omega)) | exact Or.inr (w92 (h := 0) (k := 0) (by omega) (by omega) (by omega)))))) (show ¬ σ258 88 17 = 0 ∨ σ 88 17 = 0 from by omega) (show σ 88 13 ≤ σ258 88 13 from by omega) (Nat.lt_succ_self _)
  · refine j_aload_n (pc := 14) dX12_readAt_14 rfl rfl ?_
    refine j_getI (pc := 15) fl_X12_126 dX12_readAt_15 (a_88 hM) rfl ?_
    refine j_topV (show σ241 88 16 = σ 88 16 from (hGσ241 88 16 (show ¬ ((88 = 88 ∧ (16 = 17 ∨ 16 = 18))) from by omega))) ?_
    have f267 : (-2147483648 : Int) ≤ σ 88 16 ∧ σ 88 16 ≤ 2147483647 := hI 88 16
    have g268 : (0 : Int) ≤ σ 88 16 ∧ σ 88 16 ≤ 40 := (by omega)
    refine j_goto (pc := 18) (tgt := 22) dX12_readAt_18 rfl ?_
    refine j_istore_n (pc := 22) (i := 1) (ls' := [(0, vR 88), (1, vI (σ 88 16))]) [1, 0] dX12_readAt_22 rfl (Nat.le_of_ble_eq_true rfl) rfl rfl ?_
    refine j_aload_n (pc := 23) dX12_readAt_23 rfl rfl ?_
    refine j_getI (pc := 24) fl_X12_91 dX12_readAt_24 (a_88 hM) rfl ?_
    refine j_ifR_ne (pc := 27) (tgt := 76) ⟨by omega, by omega⟩ dX12_readAt_27 rfl (fun h269 => by exfalso; omega) (fun h269 => ?_)
    refine j_aload_n (pc := 30) dX12_readAt_30 rfl rfl ?_
    refine j_aload_n (pc := 31) dX12_readAt_31 rfl rfl ?_
    refine j_getR (pc := 32) (r := 96) fl_X12_32 dX12_readAt_32 (a_88 hM) rfl ?_
    refine j_iload_n (pc := 35) dX12_readAt_35 rfl rfl ?_
    refine j_zald (pc := 36) dX12_readAt_36 (a_96 hM) (by omega) (by omega) (by decide) ?_
    refine j_topV (show σ241 96 ((σ 88 16).toNat) = σ 96 ((σ 88 16).toNat) from (hGσ241 96 ((σ 88 16).toNat) (show ¬ ((96 = 88 ∧ ((σ 88 16).toNat = 17 ∨ (σ 88 16).toNat = 18))) from by omega))) ?_
    have f270 : (0 : Int) ≤ σ 96 ((σ 88 16).toNat) ∧ σ 96 ((σ 88 16).toNat) ≤ 1 := hI 96 ((σ 88 16).toNat)
    refine j_ifR_ne (pc := 37) (tgt := 44) ⟨by omega, by omega⟩ dX12_readAt_37 rfl (fun h271 => ?_) (fun h271 => ?_)
    · refine j_iconst (pc := 44) dX12_readAt_44 ?_
      refine j_iconst (pc := 45) dX12_readAt_45 ?_
      refine j_callV (pc := 46) (As := [vI 0, vI 4]) (st := []) (c_X12_needs hM 0 ⟨by omega, by omega⟩ 4 ⟨by omega, by omega⟩ σ241 hIσ241) mv_X12_129 rfl rfl rfl (a_88 hM) dX12_readAt_46 ⟨Nat.le_of_ble_eq_true rfl, Nat.le_of_ble_eq_true rfl⟩ ⟨Nat.le_refl _, Nat.le_refl _⟩ rfl (Nat.le_of_ble_eq_true rfl) rfl (fun z272 σ273 hz272 => ?_)
      obtain ⟨rfl, hIσ273, hGσ273, q274_0⟩ := hz272
      replace q274_0 : (¬ (0 : Int) = 0 ∧ σ273 88 17 = σ241 88 17) ∨ ((0 : Int) = 0 ∧ σ241 88 17 = 0 ∧ σ273 88 17 = (4 : Int)) ∨ ((0 : Int) = 0 ∧ ¬ σ241 88 17 = 0 ∧ σ273 88 17 = σ241 88 17) := q274_0
      have hFσ273 : tw_F (fun c j => (c = 88 ∧ (j = 10 ∨ j = 13 ∨ j = 14 ∨ j = 15 ∨ j = 16 ∨ j = 17 ∨ j = 18)) ∨ c = 94 ∨ c = 96) σ σ273 := tw_F_tr hFσ241 hGσ273 (fun c j q => (show (c = 88 ∧ (j = 10 ∨ j = 13 ∨ j = 14 ∨ j = 15 ∨ j = 16 ∨ j = 17 ∨ j = 18)) ∨ c = 94 ∨ c = 96 from by replace q : (c = 88 ∧ (j = 17 ∨ j = 18)) := q; omega))
      refine j_st (st' := []) rfl ?_
      refine j_aload_n (pc := 49) dX12_readAt_49 rfl rfl ?_
      refine j_getR (pc := 50) (r := 96) fl_X12_32 dX12_readAt_50 (a_88 hM) rfl ?_
      refine j_iload_n (pc := 53) dX12_readAt_53 rfl rfl ?_
      refine j_iconst (pc := 54) dX12_readAt_54 ?_
      refine j_zast (pc := 55) (by omega) dX12_readAt_55 (a_96 hM) (by omega) (by omega) (by decide) (j_nm (fun σ276 (eσ276 : σ276 = tw_up σ273 96 ((σ 88 16).toNat) 1) => ?_))
      have hIσ276 : tw_I σ276 := tw_I_up hIσ273 eσ276 (show (0 : Int) ≤ 1 ∧ 1 ≤ 1 from ⟨by omega, by omega⟩)
      have hFσ276 : tw_F (fun c j => (c = 88 ∧ (j = 10 ∨ j = 13 ∨ j = 14 ∨ j = 15 ∨ j = 16 ∨ j = 17 ∨ j = 18)) ∨ c = 94 ∨ c = 96) σ σ276 := tw_F_up hFσ273 eσ276 (show (96 = 88 ∧ ((σ 88 16).toNat = 10 ∨ (σ 88 16).toNat = 13 ∨ (σ 88 16).toNat = 14 ∨ (σ 88 16).toNat = 15 ∨ (σ 88 16).toNat = 16 ∨ (σ 88 16).toNat = 17 ∨ (σ 88 16).toNat = 18)) ∨ 96 = 94 ∨ 96 = 96 from by omega)
      refine j_aload_n (pc := 56) dX12_readAt_56 rfl rfl ?_
      refine j_iload_n (pc := 57) dX12_readAt_57 rfl rfl ?_
      refine j_aload_n (pc := 58) dX12_readAt_58 rfl rfl ?_
      refine j_getI (pc := 59) fl_X12_75 dX12_readAt_59 (a_88 hM) rfl ?_
      refine j_topV (show σ276 88 10 = σ 88 10 from (((tw_ne1 eσ276 (by omega))).trans (hGσ273 88 10 (show ¬ ((88 = 88 ∧ (10 = 17 ∨ 10 = 18))) from by omega))).trans (hGσ241 88 10 (show ¬ ((88 = 88 ∧ (10 = 17 ∨ 10 = 18))) from by omega))) ?_
      have f277 : (0 : Int) ≤ σ 88 10 ∧ σ 88 10 ≤ 40 := hI 88 10
      refine j_icmpR_le (pc := 62) (tgt := 69) ⟨by omega, by omega⟩ ⟨by omega, by omega⟩ dX12_readAt_62 rfl (fun h278 => ?_) (fun h278 => ?_)
      · refine j_aload_n (pc := 69) dX12_readAt_69 rfl rfl ?_
        refine j_getI (pc := 70) fl_X12_75 dX12_readAt_70 (a_88 hM) rfl ?_
        refine j_topV (show σ276 88 10 = σ 88 10 from (((tw_ne1 eσ276 (by omega))).trans (hGσ273 88 10 (show ¬ ((88 = 88 ∧ (10 = 17 ∨ 10 = 18))) from by omega))).trans (hGσ241 88 10 (show ¬ ((88 = 88 ∧ (10 = 17 ∨ 10 = 18))) from by omega))) ?_
        refine j_putI (pc := 73) fl_X12_75 fp_X12_10 dX12_readAt_73 (a_88 hM) rfl (j_nm (fun σ279 (eσ279 : σ279 = tw_up σ276 88 10 (σ 88 10)) => ?_))
        have hIσ279 : tw_I σ279 := tw_I_up hIσ276 eσ279 (show (0 : Int) ≤ σ 88 10 ∧ σ 88 10 ≤ 40 from ⟨by omega, by omega⟩)
        have hFσ279 : tw_F (fun c j => (c = 88 ∧ (j = 10 ∨ j = 13 ∨ j = 14 ∨ j = 15 ∨ j = 16 ∨ j = 17 ∨ j = 18)) ∨ c = 94 ∨ c = 96) σ σ279 := tw_F_up hFσ276 eσ279 (show (88 = 88 ∧ (10 = 10 ∨ 10 = 13 ∨ 10 = 14 ∨ 10 = 15 ∨ 10 = 16 ∨ 10 = 17 ∨ 10 = 18)) ∨ 88 = 94 ∨ 88 = 96 from by omega)
        refine j_aload_n (pc := 76) dX12_readAt_76 rfl rfl ?_
        refine j_callV (pc := 77) (As := []) (st := []) (c_X12_next hM σ279 hIσ279) mv_X12_137 rfl rfl rfl (a_88 hM) dX12_readAt_77 ⟨Nat.le_of_ble_eq_true rfl, Nat.le_of_ble_eq_true rfl⟩ ⟨Nat.le_refl _, Nat.le_refl _⟩ rfl (Nat.le_of_ble_eq_true rfl) rfl (fun z280 σ281 hz280 => ?_)
        obtain ⟨rfl, hIσ281, hGσ281, q282_0, q282_1, q282_2⟩ := hz280
        replace q282_0 : ¬ σ281 88 17 = 0 ∨ σ279 88 17 = 0 := q282_0
        have y284 : σ279 88 17 = σ273 88 17 := ((tw_ne1 eσ279 (by omega))).trans (tw_ne1 eσ276 (by omega))
        have f285 : (0 : Int) ≤ σ273 88 17 ∧ σ273 88 17 ≤ 5 := hIσ273 88 17
        replace q282_1 : σ279 88 13 ≤ σ281 88 13 := q282_1
        have y286 : σ279 88 13 = σ 88 13 := ((((tw_ne1 eσ279 (by omega))).trans (tw_ne1 eσ276 (by omega))).trans (hGσ273 88 13 (show ¬ ((88 = 88 ∧ (13 = 17 ∨ 13 = 18))) from by omega))).trans (hGσ241 88 13 (show ¬ ((88 = 88 ∧ (13 = 17 ∨ 13 = 18))) from by omega))
        have f287 : (0 : Int) ≤ σ 88 13 ∧ σ 88 13 ≤ 400 := hI 88 13
        replace q282_2 : ¬ σ281 88 17 = 0 ∨ σ281 88 15 = 0 ∨ σ279 88 13 < σ281 88 13 := q282_2
        have y288 : σ279 88 13 = σ 88 13 := ((((tw_ne1 eσ279 (by omega))).trans (tw_ne1 eσ276 (by omega))).trans (hGσ273 88 13 (show ¬ ((88 = 88 ∧ (13 = 17 ∨ 13 = 18))) from by omega))).trans (hGσ241 88 13 (show ¬ ((88 = 88 ∧ (13 = 17 ∨ 13 = 18))) from by omega))
        have hFσ281 : tw_F (fun c j => (c = 88 ∧ (j = 10 ∨ j = 13 ∨ j = 14 ∨ j = 15 ∨ j = 16 ∨ j = 17 ∨ j = 18)) ∨ c = 94 ∨ c = 96) σ σ281 := tw_F_tr hFσ279 hGσ281 (fun c j q => (show (c = 88 ∧ (j = 10 ∨ j = 13 ∨ j = 14 ∨ j = 15 ∨ j = 16 ∨ j = 17 ∨ j = 18)) ∨ c = 94 ∨ c = 96 from by replace q : (c = 88 ∧ (j = 13 ∨ j = 14 ∨ j = 15 ∨ j = 16 ∨ j = 17 ∨ j = 18)) := q; omega))
        refine j_st (st' := []) rfl ?_
        refine j_aload_n (pc := 80) dX12_readAt_80 rfl rfl ?_
        refine j_getR (pc := 81) (r := 94) fl_X12_26 dX12_readAt_81 (a_88 hM) rfl ?_
        refine j_iconst (pc := 84) dX12_readAt_84 ?_
        refine j_iload_n (pc := 85) dX12_readAt_85 rfl rfl ?_
        refine j_imul (pc := 86) dX12_readAt_86 ?_
        refine j_iconst (pc := 87) dX12_readAt_87 ?_
        refine j_iadd (pc := 88) dX12_readAt_88 ?_
        refine j_aload_n (pc := 89) dX12_readAt_89 rfl rfl ?_
        refine j_iconst (pc := 90) dX12_readAt_90 ?_
        refine j_bipush (pc := 91) dX12_readAt_91 rfl ?_
        refine j_callV (pc := 93) (As := [vI 0, vI 9]) (st := [vI ((5 * (σ 88 16)) + 0), vR 94]) (c_X12_readNumber hM 0 ⟨by omega, by omega⟩ 9 ⟨by omega, by omega⟩ σ281 hIσ281) mv_X12_140 rfl rfl rfl (a_88 hM) dX12_readAt_93 ⟨Nat.le_of_ble_eq_true rfl, Nat.le_of_ble_eq_true rfl⟩ ⟨Nat.le_refl _, Nat.le_refl _⟩ rfl (Nat.le_of_ble_eq_true rfl) rfl (fun z289 σ290 hz289 => ?_)
        obtain ⟨r292, rfl, hr292, hIσ290, hGσ290, q291_0, q291_1, q291_2⟩ := hz289
        replace q291_0 : ¬ σ290 88 17 = 0 ∨ (σ281 88 17 = 0 ∧ (0 : Int) ≤ r292 ∧ r292 ≤ (9 : Int)) := q291_0
        replace q291_1 : σ281 88 13 ≤ σ290 88 13 := q291_1
        replace q291_2 : ¬ σ290 88 17 = 0 ∨ σ290 88 15 = 0 ∨ σ281 88 13 < σ290 88 13 := q291_2
        have hFσ290 : tw_F (fun c j => (c = 88 ∧ (j = 10 ∨ j = 13 ∨ j = 14 ∨ j = 15 ∨ j = 16 ∨ j = 17 ∨ j = 18)) ∨ c = 94 ∨ c = 96) σ σ290 := tw_F_tr hFσ281 hGσ290 (fun c j q => (show (c = 88 ∧ (j = 10 ∨ j = 13 ∨ j = 14 ∨ j = 15 ∨ j = 16 ∨ j = 17 ∨ j = 18)) ∨ c = 94 ∨ c = 96 from by replace q : (c = 88 ∧ (j = 13 ∨ j = 14 ∨ j = 15 ∨ j = 16 ∨ j = 17 ∨ j = 18)) := q; omega))
        refine j_st (st' := [vI r292, vI ((5 * (σ 88 16)) + 0), vR 94]) rfl ?_
        refine j_iast (pc := 96) dX12_readAt_96 (a_94 hM) (by omega) (by omega) (by decide) (j_nm (fun σ293 (eσ293 : σ293 = tw_up σ290 94 (((5 * (σ 88 16)) + 0).toNat) r292) => ?_))
        have hIσ293 : tw_I σ293 := tw_I_up hIσ290 eσ293 (show (-2147483648 : Int) ≤ r292 ∧ r292 ≤ 2147483647 from ⟨by omega, by omega⟩)
        have hFσ293 : tw_F (fun c j => (c = 88 ∧ (j = 10 ∨ j = 13 ∨ j = 14 ∨ j = 15 ∨ j = 16 ∨ j = 17 ∨ j = 18)) ∨ c = 94 ∨ c = 96) σ σ293 := tw_F_up hFσ290 eσ293 (show (94 = 88 ∧ (((5 * (σ 88 16)) + 0).toNat = 10 ∨ ((5 * (σ 88 16)) + 0).toNat = 13 ∨ ((5 * (σ 88 16)) + 0).toNat = 14 ∨ ((5 * (σ 88 16)) + 0).toNat = 15 ∨ ((5 * (σ 88 16)) + 0).toNat = 16 ∨ ((5 * (σ 88 16)) + 0).toNat = 17 ∨ ((5 * (σ 88 16)) + 0).toNat = 18)) ∨ 94 = 94 ∨ 94 = 96 from by omega)
        refine j_iconst (pc := 97) dX12_readAt_97 ?_
        refine j_istore_n (pc := 98) (i := 2) (ls' := [(0, vR 88), (1, vI (σ 88 16)), (2, vI 0)]) [1, 2, 0] dX12_readAt_98 rfl (Nat.le_of_ble_eq_true rfl) rfl rfl ?_
        refine j_ls (ls' := [(0, vR 88), (1, vI (σ 88 16)), (2, vI 0)]) [0, 1, 2] rfl ?_
        have y294 : σ293 88 17 = σ290 88 17 := (tw_ne1 eσ293 (by omega))
        have f295 : (0 : Int) ≤ σ290 88 17 ∧ σ290 88 17 ≤ 5 := hIσ290 88 17
        have y296 : σ293 88 13 = σ290 88 13 := (tw_ne1 eσ293 (by omega))
        have f297 : (0 : Int) ≤ σ290 88 13 ∧ σ290 88 13 ≤ 400 := hIσ290 88 13
        have y298 : σ293 88 17 = σ290 88 17 := (tw_ne1 eσ293 (by omega))
        have y299 : σ293 88 15 = σ290 88 15 := (tw_ne1 eσ293 (by omega))
        have f300 : (-2147483648 : Int) ≤ σ290 88 15 ∧ σ290 88 15 ≤ 2147483647 := hIσ290 88 15
        have y301 : σ293 88 13 = σ290 88 13 := (tw_ne1 eσ293 (by omega))
        exact (l_X12_readAt hM σ hI hq0 (((mMu (σ293 88 17) (σ293 88 15) (σ293 88 13)).toNat) + 1)) (σ 88 16) ⟨by omega, by omega⟩ 0 ⟨by omega, by omega⟩ σ293 hIσ293 hFσ293 (show DQ σ293 from DQ_put (DQ_F hq0 (fun j => ((((((hGσ290 93 j (show ¬ ((93 = 88 ∧ (j = 13 ∨ j = 14 ∨ j = 15 ∨ j = 16 ∨ j = 17 ∨ j = 18))) from by omega))).trans (hGσ281 93 j (show ¬ ((93 = 88 ∧ (j = 13 ∨ j = 14 ∨ j = 15 ∨ j = 16 ∨ j = 17 ∨ j = 18))) from by omega))).trans (tw_ne1 eσ279 (by omega))).trans (tw_ne1 eσ276 (by omega))).trans (hGσ273 93 j (show ¬ ((93 = 88 ∧ (j = 17 ∨ j = 18))) from by omega))).trans (hGσ241 93 j (show ¬ ((93 = 88 ∧ (j = 17 ∨ j = 18))) from by omega))) (fun j => ((((((hGσ290 94 j (show ¬ ((94 = 88 ∧ (j = 13 ∨ j = 14 ∨ j = 15 ∨ j = 16 ∨ j = 17 ∨ j = 18))) from by omega))).trans (hGσ281 94 j (show ¬ ((94 = 88 ∧ (j = 13 ∨ j = 14 ∨ j = 15 ∨ j = 16 ∨ j = 17 ∨ j = 18))) from by omega))).trans (tw_ne1 eσ279 (by omega))).trans (tw_ne1 eσ276 (by omega))).trans (hGσ273 94 j (show ¬ ((94 = 88 ∧ (j = 17 ∨ j = 18))) from by omega))).trans (hGσ241 94 j (show ¬ ((94 = 88 ∧ (j = 17 ∨ j = 18))) from by omega))) (by omega)) eσ293 (by first | exact Or.inr (w92 (by omega) (by omega) (by omega)) | (rcases q291_0 with q | q; exact Or.inl (by omega); (first | exact Or.inr (w92 (by omega) (by omega) (by omega)) | exact Or.inr (w92 (h := 0) (k := 0) (by omega) (by omega) (by omega)))))) (show ¬ σ293 88 17 = 0 ∨ σ 88 17 = 0 from by omega) (show σ 88 13 ≤ σ293 88 13 from by omega) (Nat.lt_succ_self _)
      · refine j_iload_n (pc := 65) dX12_readAt_65 rfl rfl ?_
        refine j_goto (pc := 66) (tgt := 73) dX12_readAt_66 rfl ?_
        refine j_putI (pc := 73) fl_X12_75 fp_X12_10 dX12_readAt_73 (a_88 hM) rfl (j_nm (fun σ302 (eσ302 : σ302 = tw_up σ276 88 10 (σ 88 16)) => ?_))
        have hIσ302 : tw_I σ302 := tw_I_up hIσ276 eσ302 (show (0 : Int) ≤ σ 88 16 ∧ σ 88 16 ≤ 40 from ⟨by omega, by omega⟩)
        have hFσ302 : tw_F (fun c j => (c = 88 ∧ (j = 10 ∨ j = 13 ∨ j = 14 ∨ j = 15 ∨ j = 16 ∨ j = 17 ∨ j = 18)) ∨ c = 94 ∨ c = 96) σ σ302 := tw_F_up hFσ276 eσ302 (show (88 = 88 ∧ (10 = 10 ∨ 10 = 13 ∨ 10 = 14 ∨ 10 = 15 ∨ 10 = 16 ∨ 10 = 17 ∨ 10 = 18)) ∨ 88 = 94 ∨ 88 = 96 from by omega)
        refine j_aload_n (pc := 76) dX12_readAt_76 rfl rfl ?_
        refine j_callV (pc := 77) (As := []) (st := []) (c_X12_next hM σ302 hIσ302) mv_X12_137 rfl rfl rfl (a_88 hM) dX12_readAt_77 ⟨Nat.le_of_ble_eq_true rfl, Nat.le_of_ble_eq_true rfl⟩ ⟨Nat.le_refl _, Nat.le_refl _⟩ rfl (Nat.le_of_ble_eq_true rfl) rfl (fun z303 σ304 hz303 => ?_)
        obtain ⟨rfl, hIσ304, hGσ304, q305_0, q305_1, q305_2⟩ := hz303
        replace q305_0 : ¬ σ304 88 17 = 0 ∨ σ302 88 17 = 0 := q305_0
        have y307 : σ302 88 17 = σ273 88 17 := ((tw_ne1 eσ302 (by omega))).trans (tw_ne1 eσ276 (by omega))
        have f308 : (0 : Int) ≤ σ273 88 17 ∧ σ273 88 17 ≤ 5 := hIσ273 88 17
        replace q305_1 : σ302 88 13 ≤ σ304 88 13 := q305_1
        have y309 : σ302 88 13 = σ 88 13 := ((((tw_ne1 eσ302 (by omega))).trans (tw_ne1 eσ276 (by omega))).trans (hGσ273 88 13 (show ¬ ((88 = 88 ∧ (13 = 17 ∨ 13 = 18))) from by omega))).trans (hGσ241 88 13 (show ¬ ((88 = 88 ∧ (13 = 17 ∨ 13 = 18))) from by omega))
        have f310 : (0 : Int) ≤ σ 88 13 ∧ σ 88 13 ≤ 400 := hI 88 13
        replace q305_2 : ¬ σ304 88 17 = 0 ∨ σ304 88 15 = 0 ∨ σ302 88 13 < σ304 88 13 := q305_2
        have y311 : σ302 88 13 = σ 88 13 := ((((tw_ne1 eσ302 (by omega))).trans (tw_ne1 eσ276 (by omega))).trans (hGσ273 88 13 (show ¬ ((88 = 88 ∧ (13 = 17 ∨ 13 = 18))) from by omega))).trans (hGσ241 88 13 (show ¬ ((88 = 88 ∧ (13 = 17 ∨ 13 = 18))) from by omega))
        have hFσ304 : tw_F (fun c j => (c = 88 ∧ (j = 10 ∨ j = 13 ∨ j = 14 ∨ j = 15 ∨ j = 16 ∨ j = 17 ∨ j = 18)) ∨ c = 94 ∨ c = 96) σ σ304 := tw_F_tr hFσ302 hGσ304 (fun c j q => (show (c = 88 ∧ (j = 10 ∨ j = 13 ∨ j = 14 ∨ j = 15 ∨ j = 16 ∨ j = 17 ∨ j = 18)) ∨ c = 94 ∨ c = 96 from by replace q : (c = 88 ∧ (j = 13 ∨ j = 14 ∨ j = 15 ∨ j = 16 ∨ j = 17 ∨ j = 18)) := q; omega))
        refine j_st (st' := []) rfl ?_
        refine j_aload_n (pc := 80) dX12_readAt_80 rfl rfl ?_
        refine j_getR (pc := 81) (r := 94) fl_X12_26 dX12_readAt_81 (a_88 hM) rfl ?_
        refine j_iconst (pc := 84) dX12_readAt_84 ?_
        refine j_iload_n (pc := 85) dX12_readAt_85 rfl rfl ?_
        refine j_imul (pc := 86) dX12_readAt_86 ?_
        refine j_iconst (pc := 87) dX12_readAt_87 ?_
        refine j_iadd (pc := 88) dX12_readAt_88 ?_
        refine j_aload_n (pc := 89) dX12_readAt_89 rfl rfl ?_
        refine j_iconst (pc := 90) dX12_readAt_90 ?_
        refine j_bipush (pc := 91) dX12_readAt_91 rfl ?_
        refine j_callV (pc := 93) (As := [vI 0, vI 9]) (st := [vI ((5 * (σ 88 16)) + 0), vR 94]) (c_X12_readNumber hM 0 ⟨by omega, by omega⟩ 9 ⟨by omega, by omega⟩ σ304 hIσ304) mv_X12_140 rfl rfl rfl (a_88 hM) dX12_readAt_93 ⟨Nat.le_of_ble_eq_true rfl, Nat.le_of_ble_eq_true rfl⟩ ⟨Nat.le_refl _, Nat.le_refl _⟩ rfl (Nat.le_of_ble_eq_true rfl) rfl (fun z312 σ313 hz312 => ?_)
        obtain ⟨r315, rfl, hr315, hIσ313, hGσ313, q314_0, q314_1, q314_2⟩ := hz312
        replace q314_0 : ¬ σ313 88 17 = 0 ∨ (σ304 88 17 = 0 ∧ (0 : Int) ≤ r315 ∧ r315 ≤ (9 : Int)) := q314_0
        replace q314_1 : σ304 88 13 ≤ σ313 88 13 := q314_1
        replace q314_2 : ¬ σ313 88 17 = 0 ∨ σ313 88 15 = 0 ∨ σ304 88 13 < σ313 88 13 := q314_2
        have hFσ313 : tw_F (fun c j => (c = 88 ∧ (j = 10 ∨ j = 13 ∨ j = 14 ∨ j = 15 ∨ j = 16 ∨ j = 17 ∨ j = 18)) ∨ c = 94 ∨ c = 96) σ σ313 := tw_F_tr hFσ304 hGσ313 (fun c j q => (show (c = 88 ∧ (j = 10 ∨ j = 13 ∨ j = 14 ∨ j = 15 ∨ j = 16 ∨ j = 17 ∨ j = 18)) ∨ c = 94 ∨ c = 96 from by replace q : (c = 88 ∧ (j = 13 ∨ j = 14 ∨ j = 15 ∨ j = 16 ∨ j = 17 ∨ j = 18)) := q; omega))
        refine j_st (st' := [vI r315, vI ((5 * (σ 88 16)) + 0), vR 94]) rfl ?_
        refine j_iast (pc := 96) dX12_readAt_96 (a_94 hM) (by omega) (by omega) (by decide) (j_nm (fun σ316 (eσ316 : σ316 = tw_up σ313 94 (((5 * (σ 88 16)) + 0).toNat) r315) => ?_))
        have hIσ316 : tw_I σ316 := tw_I_up hIσ313 eσ316 (show (-2147483648 : Int) ≤ r315 ∧ r315 ≤ 2147483647 from ⟨by omega, by omega⟩)
        have hFσ316 : tw_F (fun c j => (c = 88 ∧ (j = 10 ∨ j = 13 ∨ j = 14 ∨ j = 15 ∨ j = 16 ∨ j = 17 ∨ j = 18)) ∨ c = 94 ∨ c = 96) σ σ316 := tw_F_up hFσ313 eσ316 (show (94 = 88 ∧ (((5 * (σ 88 16)) + 0).toNat = 10 ∨ ((5 * (σ 88 16)) + 0).toNat = 13 ∨ ((5 * (σ 88 16)) + 0).toNat = 14 ∨ ((5 * (σ 88 16)) + 0).toNat = 15 ∨ ((5 * (σ 88 16)) + 0).toNat = 16 ∨ ((5 * (σ 88 16)) + 0).toNat = 17 ∨ ((5 * (σ 88 16)) + 0).toNat = 18)) ∨ 94 = 94 ∨ 94 = 96 from by omega)
        refine j_iconst (pc := 97) dX12_readAt_97 ?_
        refine j_istore_n (pc := 98) (i := 2) (ls' := [(0, vR 88), (1, vI (σ 88 16)), (2, vI 0)]) [1, 2, 0] dX12_readAt_98 rfl (Nat.le_of_ble_eq_true rfl) rfl rfl ?_
        refine j_ls (ls' := [(0, vR 88), (1, vI (σ 88 16)), (2, vI 0)]) [0, 1, 2] rfl ?_
        have y317 : σ316 88 17 = σ313 88 17 := (tw_ne1 eσ316 (by omega))
        have f318 : (0 : Int) ≤ σ313 88 17 ∧ σ313 88 17 ≤ 5 := hIσ313 88 17
        have y319 : σ316 88 13 = σ313 88 13 := (tw_ne1 eσ316 (by omega))
        have f320 : (0 : Int) ≤ σ313 88 13 ∧ σ313 88 13 ≤ 400 := hIσ313 88 13
        have y321 : σ316 88 17 = σ313 88 17 := (tw_ne1 eσ316 (by omega))
        have y322 : σ316 88 15 = σ313 88 15 := (tw_ne1 eσ316 (by omega))
        have f323 : (-2147483648 : Int) ≤ σ313 88 15 ∧ σ313 88 15 ≤ 2147483647 := hIσ313 88 15
        have y324 : σ316 88 13 = σ313 88 13 := (tw_ne1 eσ316 (by omega))
        exact (l_X12_readAt hM σ hI hq0 (((mMu (σ316 88 17) (σ316 88 15) (σ316 88 13)).toNat) + 1)) (σ 88 16) ⟨by omega, by omega⟩ 0 ⟨by omega, by omega⟩ σ316 hIσ316 hFσ316 (show DQ σ316 from DQ_put (DQ_F hq0 (fun j => ((((((hGσ313 93 j (show ¬ ((93 = 88 ∧ (j = 13 ∨ j = 14 ∨ j = 15 ∨ j = 16 ∨ j = 17 ∨ j = 18))) from by omega))).trans (hGσ304 93 j (show ¬ ((93 = 88 ∧ (j = 13 ∨ j = 14 ∨ j = 15 ∨ j = 16 ∨ j = 17 ∨ j = 18))) from by omega))).trans (tw_ne1 eσ302 (by omega))).trans (tw_ne1 eσ276 (by omega))).trans (hGσ273 93 j (show ¬ ((93 = 88 ∧ (j = 17 ∨ j = 18))) from by omega))).trans (hGσ241 93 j (show ¬ ((93 = 88 ∧ (j = 17 ∨ j = 18))) from by omega))) (fun j => ((((((hGσ313 94 j (show ¬ ((94 = 88 ∧ (j = 13 ∨ j = 14 ∨ j = 15 ∨ j = 16 ∨ j = 17 ∨ j = 18))) from by omega))).trans (hGσ304 94 j (show ¬ ((94 = 88 ∧ (j = 13 ∨ j = 14 ∨ j = 15 ∨ j = 16 ∨ j = 17 ∨ j = 18))) from by omega))).trans (tw_ne1 eσ302 (by omega))).trans (tw_ne1 eσ276 (by omega))).trans (hGσ273 94 j (show ¬ ((94 = 88 ∧ (j = 17 ∨ j = 18))) from by omega))).trans (hGσ241 94 j (show ¬ ((94 = 88 ∧ (j = 17 ∨ j = 18))) from by omega))) (by omega)) eσ316 (by first | exact Or.inr (w92 (by omega) (by omega) (by omega)) | (rcases q314_0 with q | q; exact Or.inl (by omega); (first | exact Or.inr (w92 (by omega) (by omega) (by omega)) | exact Or.inr (w92 (h := 0) (k := 0) (by omega) (by omega) (by omega)))))) (show ¬ σ316 88 17 = 0 ∨ σ 88 17 = 0 from by omega) (show σ 88 13 ≤ σ316 88 13 from by omega) (Nat.lt_succ_self _)
    · refine j_iconst (pc := 40) dX12_readAt_40 ?_
      refine j_goto (pc := 41) (tgt := 45) dX12_readAt_41 rfl ?_
      refine j_iconst (pc := 45) dX12_readAt_45 ?_
      refine j_callV (pc := 46) (As := [vI 1, vI 4]) (st := []) (c_X12_needs hM 1 ⟨by omega, by omega⟩ 4 ⟨by omega, by omega⟩ σ241 hIσ241) mv_X12_129 rfl rfl rfl (a_88 hM) dX12_readAt_46 ⟨Nat.le_of_ble_eq_true rfl, Nat.le_of_ble_eq_true rfl⟩ ⟨Nat.le_refl _, Nat.le_refl _⟩ rfl (Nat.le_of_ble_eq_true rfl) rfl (fun z325 σ326 hz325 => ?_)
      obtain ⟨rfl, hIσ326, hGσ326, q327_0⟩ := hz325
      replace q327_0 : (¬ (1 : Int) = 0 ∧ σ326 88 17 = σ241 88 17) ∨ ((1 : Int) = 0 ∧ σ241 88 17 = 0 ∧ σ326 88 17 = (4 : Int)) ∨ ((1 : Int) = 0 ∧ ¬ σ241 88 17 = 0 ∧ σ326 88 17 = σ241 88 17) := q327_0
      have hFσ326 : tw_F (fun c j => (c = 88 ∧ (j = 10 ∨ j = 13 ∨ j = 14 ∨ j = 15 ∨ j = 16 ∨ j = 17 ∨ j = 18)) ∨ c = 94 ∨ c = 96) σ σ326 := tw_F_tr hFσ241 hGσ326 (fun c j q => (show (c = 88 ∧ (j = 10 ∨ j = 13 ∨ j = 14 ∨ j = 15 ∨ j = 16 ∨ j = 17 ∨ j = 18)) ∨ c = 94 ∨ c = 96 from by replace q : (c = 88 ∧ (j = 17 ∨ j = 18)) := q; omega))
      refine j_st (st' := []) rfl ?_
      refine j_aload_n (pc := 49) dX12_readAt_49 rfl rfl ?_
      refine j_getR (pc := 50) (r := 96) fl_X12_32 dX12_readAt_50 (a_88 hM) rfl ?_
      refine j_iload_n (pc := 53) dX12_readAt_53 rfl rfl ?_
      refine j_iconst (pc := 54) dX12_readAt_54 ?_
      refine j_zast (pc := 55) (by omega) dX12_readAt_55 (a_96 hM) (by omega) (by omega) (by decide) (j_nm (fun σ329 (eσ329 : σ329 = tw_up σ326 96 ((σ 88 16).toNat) 1) => ?_))
      have hIσ329 : tw_I σ329 := tw_I_up hIσ326 eσ329 (show (0 : Int) ≤ 1 ∧ 1 ≤ 1 from ⟨by omega, by omega⟩)
      have hFσ329 : tw_F (fun c j => (c = 88 ∧ (j = 10 ∨ j = 13 ∨ j = 14 ∨ j = 15 ∨ j = 16 ∨ j = 17 ∨ j = 18)) ∨ c = 94 ∨ c = 96) σ σ329 := tw_F_up hFσ326 eσ329 (show (96 = 88 ∧ ((σ 88 16).toNat = 10 ∨ (σ 88 16).toNat = 13 ∨ (σ 88 16).toNat = 14 ∨ (σ 88 16).toNat = 15 ∨ (σ 88 16).toNat = 16 ∨ (σ 88 16).toNat = 17 ∨ (σ 88 16).toNat = 18)) ∨ 96 = 94 ∨ 96 = 96 from by omega)
      refine j_aload_n (pc := 56) dX12_readAt_56 rfl rfl ?_
      refine j_iload_n (pc := 57) dX12_readAt_57 rfl rfl ?_
      refine j_aload_n (pc := 58) dX12_readAt_58 rfl rfl ?_
      refine j_getI (pc := 59) fl_X12_75 dX12_readAt_59 (a_88 hM) rfl ?_
      refine j_topV (show σ329 88 10 = σ 88 10 from (((tw_ne1 eσ329 (by omega))).trans (hGσ326 88 10 (show ¬ ((88 = 88 ∧ (10 = 17 ∨ 10 = 18))) from by omega))).trans (hGσ241 88 10 (show ¬ ((88 = 88 ∧ (10 = 17 ∨ 10 = 18))) from by omega))) ?_
      have f330 : (0 : Int) ≤ σ 88 10 ∧ σ 88 10 ≤ 40 := hI 88 10
      refine j_icmpR_le (pc := 62) (tgt := 69) ⟨by omega, by omega⟩ ⟨by omega, by omega⟩ dX12_readAt_62 rfl (fun h331 => ?_) (fun h331 => ?_)
      · refine j_aload_n (pc := 69) dX12_readAt_69 rfl rfl ?_
        refine j_getI (pc := 70) fl_X12_75 dX12_readAt_70 (a_88 hM) rfl ?_
        refine j_topV (show σ329 88 10 = σ 88 10 from (((tw_ne1 eσ329 (by omega))).trans (hGσ326 88 10 (show ¬ ((88 = 88 ∧ (10 = 17 ∨ 10 = 18))) from by omega))).trans (hGσ241 88 10 (show ¬ ((88 = 88 ∧ (10 = 17 ∨ 10 = 18))) from by omega))) ?_
        refine j_putI (pc := 73) fl_X12_75 fp_X12_10 dX12_readAt_73 (a_88 hM) rfl (j_nm (fun σ332 (eσ332 : σ332 = tw_up σ329 88 10 (σ 88 10)) => ?_))
        have hIσ332 : tw_I σ332 := tw_I_up hIσ329 eσ332 (show (0 : Int) ≤ σ 88 10 ∧ σ 88 10 ≤ 40 from ⟨by omega, by omega⟩)
        have hFσ332 : tw_F (fun c j => (c = 88 ∧ (j = 10 ∨ j = 13 ∨ j = 14 ∨ j = 15 ∨ j = 16 ∨ j = 17 ∨ j = 18)) ∨ c = 94 ∨ c = 96) σ σ332 := tw_F_up hFσ329 eσ332 (show (88 = 88 ∧ (10 = 10 ∨ 10 = 13 ∨ 10 = 14 ∨ 10 = 15 ∨ 10 = 16 ∨ 10 = 17 ∨ 10 = 18)) ∨ 88 = 94 ∨ 88 = 96 from by omega)
        refine j_aload_n (pc := 76) dX12_readAt_76 rfl rfl ?_
        refine j_callV (pc := 77) (As := []) (st := []) (c_X12_next hM σ332 hIσ332) mv_X12_137 rfl rfl rfl (a_88 hM) dX12_readAt_77 ⟨Nat.le_of_ble_eq_true rfl, Nat.le_of_ble_eq_true rfl⟩ ⟨Nat.le_refl _, Nat.le_refl _⟩ rfl (Nat.le_of_ble_eq_true rfl) rfl (fun z333 σ334 hz333 => ?_)
        obtain ⟨rfl, hIσ334, hGσ334, q335_0, q335_1, q335_2⟩ := hz333
        replace q335_0 : ¬ σ334 88 17 = 0 ∨ σ332 88 17 = 0 := q335_0
        have y337 : σ332 88 17 = σ326 88 17 := ((tw_ne1 eσ332 (by omega))).trans (tw_ne1 eσ329 (by omega))
        have f338 : (0 : Int) ≤ σ326 88 17 ∧ σ326 88 17 ≤ 5 := hIσ326 88 17
        replace q335_1 : σ332 88 13 ≤ σ334 88 13 := q335_1
        have y339 : σ332 88 13 = σ 88 13 := ((((tw_ne1 eσ332 (by omega))).trans (tw_ne1 eσ329 (by omega))).trans (hGσ326 88 13 (show ¬ ((88 = 88 ∧ (13 = 17 ∨ 13 = 18))) from by omega))).trans (hGσ241 88 13 (show ¬ ((88 = 88 ∧ (13 = 17 ∨ 13 = 18))) from by omega))
        have f340 : (0 : Int) ≤ σ 88 13 ∧ σ 88 13 ≤ 400 := hI 88 13
        replace q335_2 : ¬ σ334 88 17 = 0 ∨ σ334 88 15 = 0 ∨ σ332 88 13 < σ334 88 13 := q335_2
        have y341 : σ332 88 13 = σ 88 13 := ((((tw_ne1 eσ332 (by omega))).trans (tw_ne1 eσ329 (by omega))).trans (hGσ326 88 13 (show ¬ ((88 = 88 ∧ (13 = 17 ∨ 13 = 18))) from by omega))).trans (hGσ241 88 13 (show ¬ ((88 = 88 ∧ (13 = 17 ∨ 13 = 18))) from by omega))
        have hFσ334 : tw_F (fun c j => (c = 88 ∧ (j = 10 ∨ j = 13 ∨ j = 14 ∨ j = 15 ∨ j = 16 ∨ j = 17 ∨ j = 18)) ∨ c = 94 ∨ c = 96) σ σ334 := tw_F_tr hFσ332 hGσ334 (fun c j q => (show (c = 88 ∧ (j = 10 ∨ j = 13 ∨ j = 14 ∨ j = 15 ∨ j = 16 ∨ j = 17 ∨ j = 18)) ∨ c = 94 ∨ c = 96 from by replace q : (c = 88 ∧ (j = 13 ∨ j = 14 ∨ j = 15 ∨ j = 16 ∨ j = 17 ∨ j = 18)) := q; omega))
        refine j_st (st' := []) rfl ?_
        refine j_aload_n (pc := 80) dX12_readAt_80 rfl rfl ?_
        refine j_getR (pc := 81) (r := 94) fl_X12_26 dX12_readAt_81 (a_88 hM) rfl ?_
        refine j_iconst (pc := 84) dX12_readAt_84 ?_
        refine j_iload_n (pc := 85) dX12_readAt_85 rfl rfl ?_
        refine j_imul (pc := 86) dX12_readAt_86 ?_
        refine j_iconst (pc := 87) dX12_readAt_87 ?_
        refine j_iadd (pc := 88) dX12_readAt_88 ?_
        refine j_aload_n (pc := 89) dX12_readAt_89 rfl rfl ?_
        refine j_iconst (pc := 90) dX12_readAt_90 ?_
        refine j_bipush (pc := 91) dX12_readAt_91 rfl ?_
        refine j_callV (pc := 93) (As := [vI 0, vI 9]) (st := [vI ((5 * (σ 88 16)) + 0), vR 94]) (c_X12_readNumber hM 0 ⟨by omega, by omega⟩ 9 ⟨by omega, by omega⟩ σ334 hIσ334) mv_X12_140 rfl rfl rfl (a_88 hM) dX12_readAt_93 ⟨Nat.le_of_ble_eq_true rfl, Nat.le_of_ble_eq_true rfl⟩ ⟨Nat.le_refl _, Nat.le_refl _⟩ rfl (Nat.le_of_ble_eq_true rfl) rfl (fun z342 σ343 hz342 => ?_)
        obtain ⟨r345, rfl, hr345, hIσ343, hGσ343, q344_0, q344_1, q344_2⟩ := hz342
        replace q344_0 : ¬ σ343 88 17 = 0 ∨ (σ334 88 17 = 0 ∧ (0 : Int) ≤ r345 ∧ r345 ≤ (9 : Int)) := q344_0
        replace q344_1 : σ334 88 13 ≤ σ343 88 13 := q344_1
        replace q344_2 : ¬ σ343 88 17 = 0 ∨ σ343 88 15 = 0 ∨ σ334 88 13 < σ343 88 13 := q344_2
        have hFσ343 : tw_F (fun c j => (c = 88 ∧ (j = 10 ∨ j = 13 ∨ j = 14 ∨ j = 15 ∨ j = 16 ∨ j = 17 ∨ j = 18)) ∨ c = 94 ∨ c = 96) σ σ343 := tw_F_tr hFσ334 hGσ343 (fun c j q => (show (c = 88 ∧ (j = 10 ∨ j = 13 ∨ j = 14 ∨ j = 15 ∨ j = 16 ∨ j = 17 ∨ j = 18)) ∨ c = 94 ∨ c = 96 from by replace q : (c = 88 ∧ (j = 13 ∨ j = 14 ∨ j = 15 ∨ j = 16 ∨ j = 17 ∨ j = 18)) := q; omega))
        refine j_st (st' := [vI r345, vI ((5 * (σ 88 16)) + 0), vR 94]) rfl ?_
        refine j_iast (pc := 96) dX12_readAt_96 (a_94 hM) (by omega) (by omega) (by decide) (j_nm (fun σ346 (eσ346 : σ346 = tw_up σ343 94 (((5 * (σ 88 16)) + 0).toNat) r345) => ?_))
        have hIσ346 : tw_I σ346 := tw_I_up hIσ343 eσ346 (show (-2147483648 : Int) ≤ r345 ∧ r345 ≤ 2147483647 from ⟨by omega, by omega⟩)
        have hFσ346 : tw_F (fun c j => (c = 88 ∧ (j = 10 ∨ j = 13 ∨ j = 14 ∨ j = 15 ∨ j = 16 ∨ j = 17 ∨ j = 18)) ∨ c = 94 ∨ c = 96) σ σ346 := tw_F_up hFσ343 eσ346 (show (94 = 88 ∧ (((5 * (σ 88 16)) + 0).toNat = 10 ∨ ((5 * (σ 88 16)) + 0).toNat = 13 ∨ ((5 * (σ 88 16)) + 0).toNat = 14 ∨ ((5 * (σ 88 16)) + 0).toNat = 15 ∨ ((5 * (σ 88 16)) + 0).toNat = 16 ∨ ((5 * (σ 88 16)) + 0).toNat = 17 ∨ ((5 * (σ 88 16)) + 0).toNat = 18)) ∨ 94 = 94 ∨ 94 = 96 from by omega)
        refine j_iconst (pc := 97) dX12_readAt_97 ?_
        refine j_istore_n (pc := 98) (i := 2) (ls' := [(0, vR 88), (1, vI (σ 88 16)), (2, vI 0)]) [1, 2, 0] dX12_readAt_98 rfl (Nat.le_of_ble_eq_true rfl) rfl rfl ?_
        refine j_ls (ls' := [(0, vR 88), (1, vI (σ 88 16)), (2, vI 0)]) [0, 1, 2] rfl ?_
        have y347 : σ346 88 17 = σ343 88 17 := (tw_ne1 eσ346 (by omega))
        have f348 : (0 : Int) ≤ σ343 88 17 ∧ σ343 88 17 ≤ 5 := hIσ343 88 17
        have y349 : σ346 88 13 = σ343 88 13 := (tw_ne1 eσ346 (by omega))
        have f350 : (0 : Int) ≤ σ343 88 13 ∧ σ343 88 13 ≤ 400 := hIσ343 88 13
        have y351 : σ346 88 17 = σ343 88 17 := (tw_ne1 eσ346 (by omega))
        have y352 : σ346 88 15 = σ343 88 15 := (tw_ne1 eσ346 (by omega))
        have f353 : (-2147483648 : Int) ≤ σ343 88 15 ∧ σ343 88 15 ≤ 2147483647 := hIσ343 88 15
        have y354 : σ346 88 13 = σ343 88 13 := (tw_ne1 eσ346 (by omega))
        exact (l_X12_readAt hM σ hI hq0 (((mMu (σ346 88 17) (σ346 88 15) (σ346 88 13)).toNat) + 1)) (σ 88 16) ⟨by omega, by omega⟩ 0 ⟨by omega, by omega⟩ σ346 hIσ346 hFσ346 (show DQ σ346 from DQ_put (DQ_F hq0 (fun j => ((((((hGσ343 93 j (show ¬ ((93 = 88 ∧ (j = 13 ∨ j = 14 ∨ j = 15 ∨ j = 16 ∨ j = 17 ∨ j = 18))) from by omega))).trans (hGσ334 93 j (show ¬ ((93 = 88 ∧ (j = 13 ∨ j = 14 ∨ j = 15 ∨ j = 16 ∨ j = 17 ∨ j = 18))) from by omega))).trans (tw_ne1 eσ332 (by omega))).trans (tw_ne1 eσ329 (by omega))).trans (hGσ326 93 j (show ¬ ((93 = 88 ∧ (j = 17 ∨ j = 18))) from by omega))).trans (hGσ241 93 j (show ¬ ((93 = 88 ∧ (j = 17 ∨ j = 18))) from by omega))) (fun j => ((((((hGσ343 94 j (show ¬ ((94 = 88 ∧ (j = 13 ∨ j = 14 ∨ j = 15 ∨ j = 16 ∨ j = 17 ∨ j = 18))) from by omega))).trans (hGσ334 94 j (show ¬ ((94 = 88 ∧ (j = 13 ∨ j = 14 ∨ j = 15 ∨ j = 16 ∨ j = 17 ∨ j = 18))) from by omega))).trans (tw_ne1 eσ332 (by omega))).trans (tw_ne1 eσ329 (by omega))).trans (hGσ326 94 j (show ¬ ((94 = 88 ∧ (j = 17 ∨ j = 18))) from by omega))).trans (hGσ241 94 j (show ¬ ((94 = 88 ∧ (j = 17 ∨ j = 18))) from by omega))) (by omega)) eσ346 (by first | exact Or.inr (w92 (by omega) (by omega) (by omega)) | (rcases q344_0 with q | q; exact Or.inl (by omega); (first | exact Or.inr (w92 (by omega) (by omega) (by omega)) | exact Or.inr (w92 (h := 0) (k := 0) (by omega) (by omega) (by omega)))))) (show ¬ σ346 88 17 = 0 ∨ σ 88 17 = 0 from by omega) (show σ 88 13 ≤ σ346 88 13 from by omega) (Nat.lt_succ_self _)
      · refine j_iload_n (pc := 65) dX12_readAt_65 rfl rfl ?_
        refine j_goto (pc := 66) (tgt := 73) dX12_readAt_66 rfl ?_
        refine j_putI (pc := 73) fl_X12_75 fp_X12_10 dX12_readAt_73 (a_88 hM) rfl (j_nm (fun σ355 (eσ355 : σ355 = tw_up σ329 88 10 (σ 88 16)) => ?_))
        have hIσ355 : tw_I σ355 := tw_I_up hIσ329 eσ355 (show (0 : Int) ≤ σ 88 16 ∧ σ 88 16 ≤ 40 from ⟨by omega, by omega⟩)
        have hFσ355 : tw_F (fun c j => (c = 88 ∧ (j = 10 ∨ j = 13 ∨ j = 14 ∨ j = 15 ∨ j = 16 ∨ j = 17 ∨ j = 18)) ∨ c = 94 ∨ c = 96) σ σ355 := tw_F_up hFσ329 eσ355 (show (88 = 88 ∧ (10 = 10 ∨ 10 = 13 ∨ 10 = 14 ∨ 10 = 15 ∨ 10 = 16 ∨ 10 = 17 ∨ 10 = 18)) ∨ 88 = 94 ∨ 88 = 96 from by omega)
        refine j_aload_n (pc := 76) dX12_readAt_76 rfl rfl ?_
        refine j_callV (pc := 77) (As := []) (st := []) (c_X12_next hM σ355 hIσ355) mv_X12_137 rfl rfl rfl (a_88 hM) dX12_readAt_77 ⟨Nat.le_of_ble_eq_true rfl, Nat.le_of_ble_eq_true rfl⟩ ⟨Nat.le_refl _, Nat.le_refl _⟩ rfl (Nat.le_of_ble_eq_true rfl) rfl (fun z356 σ357 hz356 => ?_)
        obtain ⟨rfl, hIσ357, hGσ357, q358_0, q358_1, q358_2⟩ := hz356
        replace q358_0 : ¬ σ357 88 17 = 0 ∨ σ355 88 17 = 0 := q358_0
        have y360 : σ355 88 17 = σ326 88 17 := ((tw_ne1 eσ355 (by omega))).trans (tw_ne1 eσ329 (by omega))
        have f361 : (0 : Int) ≤ σ326 88 17 ∧ σ326 88 17 ≤ 5 := hIσ326 88 17
        replace q358_1 : σ355 88 13 ≤ σ357 88 13 := q358_1
        have y362 : σ355 88 13 = σ 88 13 := ((((tw_ne1 eσ355 (by omega))).trans (tw_ne1 eσ329 (by omega))).trans (hGσ326 88 13 (show ¬ ((88 = 88 ∧ (13 = 17 ∨ 13 = 18))) from by omega))).trans (hGσ241 88 13 (show ¬ ((88 = 88 ∧ (13 = 17 ∨ 13 = 18))) from by omega))
        have f363 : (0 : Int) ≤ σ 88 13 ∧ σ 88 13 ≤ 400 := hI 88 13
        replace q358_2 : ¬ σ357 88 17 = 0 ∨ σ357 88 15 = 0 ∨ σ355 88 13 < σ357 88 13 := q358_2
        have y364 : σ355 88 13 = σ 88 13 := ((((tw_ne1 eσ355 (by omega))).trans (tw_ne1 eσ329 (by omega))).trans (hGσ326 88 13 (show ¬ ((88 = 88 ∧ (13 = 17 ∨ 13 = 18))) from by omega))).trans (hGσ241 88 13 (show ¬ ((88 = 88 ∧ (13 = 17 ∨ 13 = 18))) from by omega))
        have hFσ357 : tw_F (fun c j => (c = 88 ∧ (j = 10 ∨ j = 13 ∨ j = 14 ∨ j = 15 ∨ j = 16 ∨ j = 17 ∨ j = 18)) ∨ c = 94 ∨ c = 96) σ σ357 := tw_F_tr hFσ355 hGσ357 (fun c j q => (show (c = 88 ∧ (j = 10 ∨ j = 13 ∨ j = 14 ∨ j = 15 ∨ j = 16 ∨ j = 17 ∨ j = 18)) ∨ c = 94 ∨ c = 96 from by replace q : (c = 88 ∧ (j = 13 ∨ j = 14 ∨ j = 15 ∨ j = 16 ∨ j = 17 ∨ j = 18)) := q; omega))
        refine j_st (st' := []) rfl ?_
        refine j_aload_n (pc := 80) dX12_readAt_80 rfl rfl ?_
        refine j_getR (pc := 81) (r := 94) fl_X12_26 dX12_readAt_81 (a_88 hM) rfl ?_
        refine j_iconst (pc := 84) dX12_readAt_84 ?_
        refine j_iload_n (pc := 85) dX12_readAt_85 rfl rfl ?_
        refine j_imul (pc := 86) dX12_readAt_86 ?_
        refine j_iconst (pc := 87) dX12_readAt_87 ?_
        refine j_iadd (pc := 88) dX12_readAt_88 ?_
        refine j_aload_n (pc := 89) dX12_readAt_89 rfl rfl ?_
        refine j_iconst (pc := 90) dX12_readAt_90 ?_
        refine j_bipush (pc := 91) dX12_readAt_91 rfl ?_
        refine j_callV (pc := 93) (As := [vI 0, vI 9]) (st := [vI ((5 * (σ 88 16)) + 0), vR 94]) (c_X12_readNumber hM 0 ⟨by omega, by omega⟩ 9 ⟨by omega, by omega⟩ σ357 hIσ357) mv_X12_140 rfl rfl rfl (a_88 hM) dX12_readAt_93 ⟨Nat.le_of_ble_eq_true rfl, Nat.le_of_ble_eq_true rfl⟩ ⟨Nat.le_refl _, Nat.le_refl _⟩ rfl (Nat.le_of_ble_eq_true rfl) rfl (fun z365 σ366 hz365 => ?_)
        obtain ⟨r368, rfl, hr368, hIσ366, hGσ366, q367_0, q367_1, q367_2⟩ := hz365
        replace q367_0 : ¬ σ366 88 17 = 0 ∨ (σ357 88 17 = 0 ∧ (0 : Int) ≤ r368 ∧ r368 ≤ (9 : Int)) := q367_0
        replace q367_1 : σ357 88 13 ≤ σ366 88 13 := q367_1
        replace q367_2 : ¬ σ366 88 17 = 0 ∨ σ366 88 15 = 0 ∨ σ357 88 13 < σ366 88 13 := q367_2
        have hFσ366 : tw_F (fun c j => (c = 88 ∧ (j = 10 ∨ j = 13 ∨ j = 14 ∨ j = 15 ∨ j = 16 ∨ j = 17 ∨ j = 18)) ∨ c = 94 ∨ c = 96) σ σ366 := tw_F_tr hFσ357 hGσ366 (fun c j q => (show (c = 88 ∧ (j = 10 ∨ j = 13 ∨ j = 14 ∨ j = 15 ∨ j = 16 ∨ j = 17 ∨ j = 18)) ∨ c = 94 ∨ c = 96 from by replace q : (c = 88 ∧ (j = 13 ∨ j = 14 ∨ j = 15 ∨ j = 16 ∨ j = 17 ∨ j = 18)) := q; omega))
        refine j_st (st' := [vI r368, vI ((5 * (σ 88 16)) + 0), vR 94]) rfl ?_
        refine j_iast (pc := 96) dX12_readAt_96 (a_94 hM) (by omega) (by omega) (by decide) (j_nm (fun σ369 (eσ369 : σ369 = tw_up σ366 94 (((5 * (σ 88 16)) + 0).toNat) r368) => ?_))
        have hIσ369 : tw_I σ369 := tw_I_up hIσ366 eσ369 (show (-2147483648 : Int) ≤ r368 ∧ r368 ≤ 2147483647 from ⟨by omega, by omega⟩)
        have hFσ369 : tw_F (fun c j => (c = 88 ∧ (j = 10 ∨ j = 13 ∨ j = 14 ∨ j = 15 ∨ j = 16 ∨ j = 17 ∨ j = 18)) ∨ c = 94 ∨ c = 96) σ σ369 := tw_F_up hFσ366 eσ369 (show (94 = 88 ∧ (((5 * (σ 88 16)) + 0).toNat = 10 ∨ ((5 * (σ 88 16)) + 0).toNat = 13 ∨ ((5 * (σ 88 16)) + 0).toNat = 14 ∨ ((5 * (σ 88 16)) + 0).toNat = 15 ∨ ((5 * (σ 88 16)) + 0).toNat = 16 ∨ ((5 * (σ 88 16)) + 0).toNat = 17 ∨ ((5 * (σ 88 16)) + 0).toNat = 18)) ∨ 94 = 94 ∨ 94 = 96 from by omega)
        refine j_iconst (pc := 97) dX12_readAt_97 ?_
        refine j_istore_n (pc := 98) (i := 2) (ls' := [(0, vR 88), (1, vI (σ 88 16)), (2, vI 0)]) [1, 2, 0] dX12_readAt_98 rfl (Nat.le_of_ble_eq_true rfl) rfl rfl ?_
        refine j_ls (ls' := [(0, vR 88), (1, vI (σ 88 16)), (2, vI 0)]) [0, 1, 2] rfl ?_
        have y370 : σ369 88 17 = σ366 88 17 := (tw_ne1 eσ369 (by omega))
        have f371 : (0 : Int) ≤ σ366 88 17 ∧ σ366 88 17 ≤ 5 := hIσ366 88 17
        have y372 : σ369 88 13 = σ366 88 13 := (tw_ne1 eσ369 (by omega))
        have f373 : (0 : Int) ≤ σ366 88 13 ∧ σ366 88 13 ≤ 400 := hIσ366 88 13
        have y374 : σ369 88 17 = σ366 88 17 := (tw_ne1 eσ369 (by omega))
        have y375 : σ369 88 15 = σ366 88 15 := (tw_ne1 eσ369 (by omega))
        have f376 : (-2147483648 : Int) ≤ σ366 88 15 ∧ σ366 88 15 ≤ 2147483647 := hIσ366 88 15
        have y377 : σ369 88 13 = σ366 88 13 := (tw_ne1 eσ369 (by omega))
        exact (l_X12_readAt hM σ hI hq0 (((mMu (σ369 88 17) (σ369 88 15) (σ369 88 13)).toNat) + 1)) (σ 88 16) ⟨by omega, by omega⟩ 0 ⟨by omega, by omega⟩ σ369 hIσ369 hFσ369 (show DQ σ369 from DQ_put (DQ_F hq0 (fun j => ((((((hGσ366 93 j (show ¬ ((93 = 88 ∧ (j = 13 ∨ j = 14 ∨ j = 15 ∨ j = 16 ∨ j = 17 ∨ j = 18))) from by omega))).trans (hGσ357 93 j (show ¬ ((93 = 88 ∧ (j = 13 ∨ j = 14 ∨ j = 15 ∨ j = 16 ∨ j = 17 ∨ j = 18))) from by omega))).trans (tw_ne1 eσ355 (by omega))).trans (tw_ne1 eσ329 (by omega))).trans (hGσ326 93 j (show ¬ ((93 = 88 ∧ (j = 17 ∨ j = 18))) from by omega))).trans (hGσ241 93 j (show ¬ ((93 = 88 ∧ (j = 17 ∨ j = 18))) from by omega))) (fun j => ((((((hGσ366 94 j (show ¬ ((94 = 88 ∧ (j = 13 ∨ j = 14 ∨ j = 15 ∨ j = 16 ∨ j = 17 ∨ j = 18))) from by omega))).trans (hGσ357 94 j (show ¬ ((94 = 88 ∧ (j = 13 ∨ j = 14 ∨ j = 15 ∨ j = 16 ∨ j = 17 ∨ j = 18))) from by omega))).trans (tw_ne1 eσ355 (by omega))).trans (tw_ne1 eσ329 (by omega))).trans (hGσ326 94 j (show ¬ ((94 = 88 ∧ (j = 17 ∨ j = 18))) from by omega))).trans (hGσ241 94 j (show ¬ ((94 = 88 ∧ (j = 17 ∨ j = 18))) from by omega))) (by omega)) eσ369 (by first | exact Or.inr (w92 (by omega) (by omega) (by omega)) | (rcases q367_0 with q | q; exact Or.inl (by omega); (first | exact Or.inr (w92 (by omega) (by omega) (by omega)) | exact Or.inr (w92 (h := 0) (k := 0) (by omega) (by omega) (by omega)))))) (show ¬ σ369 88 17 = 0 ∨ σ 88 17 = 0 from by omega) (show σ 88 13 ≤ σ369 88 13 from by omega) (Nat.lt_succ_self _)
abbrev q_X12_readRack  (σ : tw_M) : Option tw_V → tw_M → Prop := fun z τ => z = none ∧ tw_I τ ∧ tw_F (fun c j => (c = 88 ∧ (j = 13 ∨ j = 14 ∨ j = 15 ∨ j = 16 ∨ j = 17 ∨ j = 18)) ∨ c = 95 ∨ c = 97) σ τ ∧ (¬ τ 88 17 = 0 ∨ σ 88 17 = 0) ∧ (σ 88 13 ≤ τ 88 13)
set_option maxHeartbeats 4000000 in
set_option maxRecDepth 100000 in
theorem c_X12_readRack {G : tw_G} (hM : tw_isM G) (σ : tw_M) (hI : tw_I σ) : tw_C G yX12_readRack cX12_readRack 2 none 3 [vR 88] σ (q_X12_readRack σ) := by
  refine tw_met [(0, vR 88)] (by decide +kernel) rfl (Nat.le_of_ble_eq_true rfl) ?_
  refine j_aload_n (pc := 0) dX12_readRack_0 rfl rfl ?_
  refine j_iconst (pc := 1) dX12_readRack_1 ?_
  refine j_bipush (pc := 2) dX12_readRack_2 rfl ?_
  refine j_callV (pc := 4) (As := [vI 1, vI 10]) (st := []) (c_X12_isNumber hM 1 ⟨by omega, by omega⟩ 10 ⟨by omega, by omega⟩ σ hI) mv_X12_133 rfl rfl rfl (a_88 hM) dX12_readRack_4 ⟨Nat.le_of_ble_eq_true rfl, Nat.le_of_ble_eq_true rfl⟩ ⟨Nat.le_refl _, Nat.le_refl _⟩ rfl (Nat.le_of_ble_eq_true rfl) rfl (fun z1 σ2 hz1 => ?_)
  obtain ⟨rfl, hIσ2, hGσ2, q3_0⟩ := hz1
  replace q3_0 : ¬ σ2 88 17 = 0 ∨ (σ 88 17 = 0 ∧ (1 : Int) ≤ σ 88 16 ∧ σ 88 16 ≤ (10 : Int)) := q3_0
  have hFσ2 : tw_F (fun c j => (c = 88 ∧ (j = 13 ∨ j = 14 ∨ j = 15 ∨ j = 16 ∨ j = 17 ∨ j = 18)) ∨ c = 95 ∨ c = 97) σ σ2 := tw_F_tr (tw_F_rf) hGσ2 (fun c j q => (show (c = 88 ∧ (j = 13 ∨ j = 14 ∨ j = 15 ∨ j = 16 ∨ j = 17 ∨ j = 18)) ∨ c = 95 ∨ c = 97 from by replace q : (c = 88 ∧ (j = 17 ∨ j = 18)) := q; omega))
  refine j_st (st' := []) rfl ?_
  refine j_aload_n (pc := 7) dX12_readRack_7 rfl rfl ?_
  refine j_getI (pc := 8) fl_X12_91 dX12_readRack_8 (a_88 hM) rfl ?_
  have f5 : (0 : Int) ≤ σ2 88 17 ∧ σ2 88 17 ≤ 5 := hIσ2 88 17
  refine j_ifR_ne (pc := 11) (tgt := 21) ⟨by omega, by omega⟩ dX12_readRack_11 rfl (fun h6 => ?_) (fun h6 => ?_)
  · refine j_iconst (pc := 21) dX12_readRack_21 ?_
    refine j_istore_n (pc := 22) (i := 1) (ls' := [(0, vR 88), (1, vI 0)]) [1, 0] dX12_readRack_22 rfl (Nat.le_of_ble_eq_true rfl) rfl rfl ?_
    refine j_aload_n (pc := 23) dX12_readRack_23 rfl rfl ?_
    refine j_getI (pc := 24) fl_X12_91 dX12_readRack_24 (a_88 hM) rfl ?_
    refine j_ifR_ne (pc := 27) (tgt := 56) ⟨by omega, by omega⟩ dX12_readRack_27 rfl (fun h7 => ?_) (fun h7 => by exfalso; omega)
    refine j_aload_n (pc := 56) dX12_readRack_56 rfl rfl ?_
    refine j_callV (pc := 57) (As := []) (st := []) (c_X12_next hM σ2 hIσ2) mv_X12_137 rfl rfl rfl (a_88 hM) dX12_readRack_57 ⟨Nat.le_of_ble_eq_true rfl, Nat.le_of_ble_eq_true rfl⟩ ⟨Nat.le_refl _, Nat.le_refl _⟩ rfl (Nat.le_of_ble_eq_true rfl) rfl (fun z8 σ9 hz8 => ?_)
    obtain ⟨rfl, hIσ9, hGσ9, q10_0, q10_1, q10_2⟩ := hz8
    replace q10_0 : ¬ σ9 88 17 = 0 ∨ σ2 88 17 = 0 := q10_0
    replace q10_1 : σ2 88 13 ≤ σ9 88 13 := q10_1
    have y12 : σ2 88 13 = σ 88 13 := (hGσ2 88 13 (show ¬ ((88 = 88 ∧ (13 = 17 ∨ 13 = 18))) from by omega))
    have f13 : (0 : Int) ≤ σ 88 13 ∧ σ 88 13 ≤ 400 := hI 88 13
    replace q10_2 : ¬ σ9 88 17 = 0 ∨ σ9 88 15 = 0 ∨ σ2 88 13 < σ9 88 13 := q10_2
    have y14 : σ2 88 13 = σ 88 13 := (hGσ2 88 13 (show ¬ ((88 = 88 ∧ (13 = 17 ∨ 13 = 18))) from by omega))
    have hFσ9 : tw_F (fun c j => (c = 88 ∧ (j = 13 ∨ j = 14 ∨ j = 15 ∨ j = 16 ∨ j = 17 ∨ j = 18)) ∨ c = 95 ∨ c = 97) σ σ9 := tw_F_tr hFσ2 hGσ9 (fun c j q => (show (c = 88 ∧ (j = 13 ∨ j = 14 ∨ j = 15 ∨ j = 16 ∨ j = 17 ∨ j = 18)) ∨ c = 95 ∨ c = 97 from by replace q : (c = 88 ∧ (j = 13 ∨ j = 14 ∨ j = 15 ∨ j = 16 ∨ j = 17 ∨ j = 18)) := q; omega))
    refine j_st (st' := []) rfl ?_
    refine j_aload_n (pc := 60) dX12_readRack_60 rfl rfl ?_
    refine j_getR (pc := 61) (r := 95) fl_X12_29 dX12_readRack_61 (a_88 hM) rfl ?_
    refine j_iload_n (pc := 64) dX12_readRack_64 rfl rfl ?_
    refine j_aload_n (pc := 65) dX12_readRack_65 rfl rfl ?_
    refine j_iconst (pc := 66) dX12_readRack_66 ?_
    refine j_iconst (pc := 67) dX12_readRack_67 ?_
    refine j_callV (pc := 68) (As := [vI 0, vI 5]) (st := [vI 0, vR 95]) (c_X12_readNumber hM 0 ⟨by omega, by omega⟩ 5 ⟨by omega, by omega⟩ σ9 hIσ9) mv_X12_140 rfl rfl rfl (a_88 hM) dX12_readRack_68 ⟨Nat.le_of_ble_eq_true rfl, Nat.le_of_ble_eq_true rfl⟩ ⟨Nat.le_refl _, Nat.le_refl _⟩ rfl (Nat.le_of_ble_eq_true rfl) rfl (fun z15 σ16 hz15 => ?_)
    obtain ⟨r18, rfl, hr18, hIσ16, hGσ16, q17_0, q17_1, q17_2⟩ := hz15
    replace q17_0 : ¬ σ16 88 17 = 0 ∨ (σ9 88 17 = 0 ∧ (0 : Int) ≤ r18 ∧ r18 ≤ (5 : Int)) := q17_0
    replace q17_1 : σ9 88 13 ≤ σ16 88 13 := q17_1
    replace q17_2 : ¬ σ16 88 17 = 0 ∨ σ16 88 15 = 0 ∨ σ9 88 13 < σ16 88 13 := q17_2
    have hFσ16 : tw_F (fun c j => (c = 88 ∧ (j = 13 ∨ j = 14 ∨ j = 15 ∨ j = 16 ∨ j = 17 ∨ j = 18)) ∨ c = 95 ∨ c = 97) σ σ16 := tw_F_tr hFσ9 hGσ16 (fun c j q => (show (c = 88 ∧ (j = 13 ∨ j = 14 ∨ j = 15 ∨ j = 16 ∨ j = 17 ∨ j = 18)) ∨ c = 95 ∨ c = 97 from by replace q : (c = 88 ∧ (j = 13 ∨ j = 14 ∨ j = 15 ∨ j = 16 ∨ j = 17 ∨ j = 18)) := q; omega))
    refine j_st (st' := [vI r18, vI 0, vR 95]) rfl ?_
    refine j_iast (pc := 71) dX12_readRack_71 (a_95 hM) (by omega) (by omega) (by decide) (j_nm (fun σ19 (eσ19 : σ19 = tw_up σ16 95 0 r18) => ?_))
    have hIσ19 : tw_I σ19 := tw_I_up hIσ16 eσ19 (show (-2147483648 : Int) ≤ r18 ∧ r18 ≤ 2147483647 from ⟨by omega, by omega⟩)
    have hFσ19 : tw_F (fun c j => (c = 88 ∧ (j = 13 ∨ j = 14 ∨ j = 15 ∨ j = 16 ∨ j = 17 ∨ j = 18)) ∨ c = 95 ∨ c = 97) σ σ19 := tw_F_up hFσ16 eσ19 (show (95 = 88 ∧ (0 = 13 ∨ 0 = 14 ∨ 0 = 15 ∨ 0 = 16 ∨ 0 = 17 ∨ 0 = 18)) ∨ 95 = 95 ∨ 95 = 97 from by omega)
    have y20 : σ19 88 17 = σ16 88 17 := (tw_ne1 eσ19 (by omega))
    have f21 : (0 : Int) ≤ σ16 88 17 ∧ σ16 88 17 ≤ 5 := hIσ16 88 17
    have y22 : σ19 88 13 = σ16 88 13 := (tw_ne1 eσ19 (by omega))
    have f23 : (0 : Int) ≤ σ16 88 13 ∧ σ16 88 13 ≤ 400 := hIσ16 88 13
    exact j_vret (pc := 72) ⟨rfl, rfl⟩ dX12_readRack_72 rfl ⟨rfl, hIσ19, hFσ19, by omega, by omega⟩
  · refine j_aload_n (pc := 14) dX12_readRack_14 rfl rfl ?_
    refine j_getI (pc := 15) fl_X12_126 dX12_readRack_15 (a_88 hM) rfl ?_
    refine j_topV (show σ2 88 16 = σ 88 16 from (hGσ2 88 16 (show ¬ ((88 = 88 ∧ (16 = 17 ∨ 16 = 18))) from by omega))) ?_
    have f24 : (-2147483648 : Int) ≤ σ 88 16 ∧ σ 88 16 ≤ 2147483647 := hI 88 16
    have g25 : (0 : Int) ≤ σ 88 16 ∧ σ 88 16 ≤ 10 := (by omega)
    refine j_goto (pc := 18) (tgt := 22) dX12_readRack_18 rfl ?_
    refine j_istore_n (pc := 22) (i := 1) (ls' := [(0, vR 88), (1, vI (σ 88 16))]) [1, 0] dX12_readRack_22 rfl (Nat.le_of_ble_eq_true rfl) rfl rfl ?_
    refine j_aload_n (pc := 23) dX12_readRack_23 rfl rfl ?_
    refine j_getI (pc := 24) fl_X12_91 dX12_readRack_24 (a_88 hM) rfl ?_
    refine j_ifR_ne (pc := 27) (tgt := 56) ⟨by omega, by omega⟩ dX12_readRack_27 rfl (fun h26 => by exfalso; omega) (fun h26 => ?_)
    refine j_aload_n (pc := 30) dX12_readRack_30 rfl rfl ?_
    refine j_aload_n (pc := 31) dX12_readRack_31 rfl rfl ?_
    refine j_getR (pc := 32) (r := 97) fl_X12_35 dX12_readRack_32 (a_88 hM) rfl ?_
    refine j_iload_n (pc := 35) dX12_readRack_35 rfl rfl ?_
    refine j_zald (pc := 36) dX12_readRack_36 (a_97 hM) (by omega) (by omega) (by decide) ?_
    refine j_topV (show σ2 97 ((σ 88 16).toNat) = σ 97 ((σ 88 16).toNat) from (hGσ2 97 ((σ 88 16).toNat) (show ¬ ((97 = 88 ∧ ((σ 88 16).toNat = 17 ∨ (σ 88 16).toNat = 18))) from by omega))) ?_
    have f27 : (0 : Int) ≤ σ 97 ((σ 88 16).toNat) ∧ σ 97 ((σ 88 16).toNat) ≤ 1 := hI 97 ((σ 88 16).toNat)
    refine j_ifR_ne (pc := 37) (tgt := 44) ⟨by omega, by omega⟩ dX12_readRack_37 rfl (fun h28 => ?_) (fun h28 => ?_)
    · refine j_iconst (pc := 44) dX12_readRack_44 ?_
      refine j_iconst (pc := 45) dX12_readRack_45 ?_
      refine j_callV (pc := 46) (As := [vI 0, vI 4]) (st := []) (c_X12_needs hM 0 ⟨by omega, by omega⟩ 4 ⟨by omega, by omega⟩ σ2 hIσ2) mv_X12_129 rfl rfl rfl (a_88 hM) dX12_readRack_46 ⟨Nat.le_of_ble_eq_true rfl, Nat.le_of_ble_eq_true rfl⟩ ⟨Nat.le_refl _, Nat.le_refl _⟩ rfl (Nat.le_of_ble_eq_true rfl) rfl (fun z29 σ30 hz29 => ?_)
      obtain ⟨rfl, hIσ30, hGσ30, q31_0⟩ := hz29
      replace q31_0 : (¬ (0 : Int) = 0 ∧ σ30 88 17 = σ2 88 17) ∨ ((0 : Int) = 0 ∧ σ2 88 17 = 0 ∧ σ30 88 17 = (4 : Int)) ∨ ((0 : Int) = 0 ∧ ¬ σ2 88 17 = 0 ∧ σ30 88 17 = σ2 88 17) := q31_0
      have hFσ30 : tw_F (fun c j => (c = 88 ∧ (j = 13 ∨ j = 14 ∨ j = 15 ∨ j = 16 ∨ j = 17 ∨ j = 18)) ∨ c = 95 ∨ c = 97) σ σ30 := tw_F_tr hFσ2 hGσ30 (fun c j q => (show (c = 88 ∧ (j = 13 ∨ j = 14 ∨ j = 15 ∨ j = 16 ∨ j = 17 ∨ j = 18)) ∨ c = 95 ∨ c = 97 from by replace q : (c = 88 ∧ (j = 17 ∨ j = 18)) := q; omega))
      refine j_st (st' := []) rfl ?_
      refine j_aload_n (pc := 49) dX12_readRack_49 rfl rfl ?_
      refine j_getR (pc := 50) (r := 97) fl_X12_35 dX12_readRack_50 (a_88 hM) rfl ?_
      refine j_iload_n (pc := 53) dX12_readRack_53 rfl rfl ?_
      refine j_iconst (pc := 54) dX12_readRack_54 ?_
      refine j_zast (pc := 55) (by omega) dX12_readRack_55 (a_97 hM) (by omega) (by omega) (by decide) (j_nm (fun σ33 (eσ33 : σ33 = tw_up σ30 97 ((σ 88 16).toNat) 1) => ?_))
      have hIσ33 : tw_I σ33 := tw_I_up hIσ30 eσ33 (show (0 : Int) ≤ 1 ∧ 1 ≤ 1 from ⟨by omega, by omega⟩)
      have hFσ33 : tw_F (fun c j => (c = 88 ∧ (j = 13 ∨ j = 14 ∨ j = 15 ∨ j = 16 ∨ j = 17 ∨ j = 18)) ∨ c = 95 ∨ c = 97) σ σ33 := tw_F_up hFσ30 eσ33 (show (97 = 88 ∧ ((σ 88 16).toNat = 13 ∨ (σ 88 16).toNat = 14 ∨ (σ 88 16).toNat = 15 ∨ (σ 88 16).toNat = 16 ∨ (σ 88 16).toNat = 17 ∨ (σ 88 16).toNat = 18)) ∨ 97 = 95 ∨ 97 = 97 from by omega)
      refine j_aload_n (pc := 56) dX12_readRack_56 rfl rfl ?_
      refine j_callV (pc := 57) (As := []) (st := []) (c_X12_next hM σ33 hIσ33) mv_X12_137 rfl rfl rfl (a_88 hM) dX12_readRack_57 ⟨Nat.le_of_ble_eq_true rfl, Nat.le_of_ble_eq_true rfl⟩ ⟨Nat.le_refl _, Nat.le_refl _⟩ rfl (Nat.le_of_ble_eq_true rfl) rfl (fun z34 σ35 hz34 => ?_)
      obtain ⟨rfl, hIσ35, hGσ35, q36_0, q36_1, q36_2⟩ := hz34
      replace q36_0 : ¬ σ35 88 17 = 0 ∨ σ33 88 17 = 0 := q36_0
      have y38 : σ33 88 17 = σ30 88 17 := (tw_ne1 eσ33 (by omega))
      have f39 : (0 : Int) ≤ σ30 88 17 ∧ σ30 88 17 ≤ 5 := hIσ30 88 17
      replace q36_1 : σ33 88 13 ≤ σ35 88 13 := q36_1
      have y40 : σ33 88 13 = σ 88 13 := (((tw_ne1 eσ33 (by omega))).trans (hGσ30 88 13 (show ¬ ((88 = 88 ∧ (13 = 17 ∨ 13 = 18))) from by omega))).trans (hGσ2 88 13 (show ¬ ((88 = 88 ∧ (13 = 17 ∨ 13 = 18))) from by omega))
      have f41 : (0 : Int) ≤ σ 88 13 ∧ σ 88 13 ≤ 400 := hI 88 13
      replace q36_2 : ¬ σ35 88 17 = 0 ∨ σ35 88 15 = 0 ∨ σ33 88 13 < σ35 88 13 := q36_2
      have y42 : σ33 88 13 = σ 88 13 := (((tw_ne1 eσ33 (by omega))).trans (hGσ30 88 13 (show ¬ ((88 = 88 ∧ (13 = 17 ∨ 13 = 18))) from by omega))).trans (hGσ2 88 13 (show ¬ ((88 = 88 ∧ (13 = 17 ∨ 13 = 18))) from by omega))
      have hFσ35 : tw_F (fun c j => (c = 88 ∧ (j = 13 ∨ j = 14 ∨ j = 15 ∨ j = 16 ∨ j = 17 ∨ j = 18)) ∨ c = 95 ∨ c = 97) σ σ35 := tw_F_tr hFσ33 hGσ35 (fun c j q => (show (c = 88 ∧ (j = 13 ∨ j = 14 ∨ j = 15 ∨ j = 16 ∨ j = 17 ∨ j = 18)) ∨ c = 95 ∨ c = 97 from by replace q : (c = 88 ∧ (j = 13 ∨ j = 14 ∨ j = 15 ∨ j = 16 ∨ j = 17 ∨ j = 18)) := q; omega))
      refine j_st (st' := []) rfl ?_
      refine j_aload_n (pc := 60) dX12_readRack_60 rfl rfl ?_
      refine j_getR (pc := 61) (r := 95) fl_X12_29 dX12_readRack_61 (a_88 hM) rfl ?_
      refine j_iload_n (pc := 64) dX12_readRack_64 rfl rfl ?_
      refine j_aload_n (pc := 65) dX12_readRack_65 rfl rfl ?_
      refine j_iconst (pc := 66) dX12_readRack_66 ?_
      refine j_iconst (pc := 67) dX12_readRack_67 ?_
      refine j_callV (pc := 68) (As := [vI 0, vI 5]) (st := [vI (σ 88 16), vR 95]) (c_X12_readNumber hM 0 ⟨by omega, by omega⟩ 5 ⟨by omega, by omega⟩ σ35 hIσ35) mv_X12_140 rfl rfl rfl (a_88 hM) dX12_readRack_68 ⟨Nat.le_of_ble_eq_true rfl, Nat.le_of_ble_eq_true rfl⟩ ⟨Nat.le_refl _, Nat.le_refl _⟩ rfl (Nat.le_of_ble_eq_true rfl) rfl (fun z43 σ44 hz43 => ?_)
      obtain ⟨r46, rfl, hr46, hIσ44, hGσ44, q45_0, q45_1, q45_2⟩ := hz43
      replace q45_0 : ¬ σ44 88 17 = 0 ∨ (σ35 88 17 = 0 ∧ (0 : Int) ≤ r46 ∧ r46 ≤ (5 : Int)) := q45_0
      replace q45_1 : σ35 88 13 ≤ σ44 88 13 := q45_1
      replace q45_2 : ¬ σ44 88 17 = 0 ∨ σ44 88 15 = 0 ∨ σ35 88 13 < σ44 88 13 := q45_2
      have hFσ44 : tw_F (fun c j => (c = 88 ∧ (j = 13 ∨ j = 14 ∨ j = 15 ∨ j = 16 ∨ j = 17 ∨ j = 18)) ∨ c = 95 ∨ c = 97) σ σ44 := tw_F_tr hFσ35 hGσ44 (fun c j q => (show (c = 88 ∧ (j = 13 ∨ j = 14 ∨ j = 15 ∨ j = 16 ∨ j = 17 ∨ j = 18)) ∨ c = 95 ∨ c = 97 from by replace q : (c = 88 ∧ (j = 13 ∨ j = 14 ∨ j = 15 ∨ j = 16 ∨ j = 17 ∨ j = 18)) := q; omega))
      refine j_st (st' := [vI r46, vI (σ 88 16), vR 95]) rfl ?_
      refine j_iast (pc := 71) dX12_readRack_71 (a_95 hM) (by omega) (by omega) (by decide) (j_nm (fun σ47 (eσ47 : σ47 = tw_up σ44 95 ((σ 88 16).toNat) r46) => ?_))
      have hIσ47 : tw_I σ47 := tw_I_up hIσ44 eσ47 (show (-2147483648 : Int) ≤ r46 ∧ r46 ≤ 2147483647 from ⟨by omega, by omega⟩)
      have hFσ47 : tw_F (fun c j => (c = 88 ∧ (j = 13 ∨ j = 14 ∨ j = 15 ∨ j = 16 ∨ j = 17 ∨ j = 18)) ∨ c = 95 ∨ c = 97) σ σ47 := tw_F_up hFσ44 eσ47 (show (95 = 88 ∧ ((σ 88 16).toNat = 13 ∨ (σ 88 16).toNat = 14 ∨ (σ 88 16).toNat = 15 ∨ (σ 88 16).toNat = 16 ∨ (σ 88 16).toNat = 17 ∨ (σ 88 16).toNat = 18)) ∨ 95 = 95 ∨ 95 = 97 from by omega)
      have y48 : σ47 88 17 = σ44 88 17 := (tw_ne1 eσ47 (by omega))
      have f49 : (0 : Int) ≤ σ44 88 17 ∧ σ44 88 17 ≤ 5 := hIσ44 88 17
      have y50 : σ47 88 13 = σ44 88 13 := (tw_ne1 eσ47 (by omega))
      have f51 : (0 : Int) ≤ σ44 88 13 ∧ σ44 88 13 ≤ 400 := hIσ44 88 13
      exact j_vret (pc := 72) ⟨rfl, rfl⟩ dX12_readRack_72 rfl ⟨rfl, hIσ47, hFσ47, by omega, by omega⟩
    · refine j_iconst (pc := 40) dX12_readRack_40 ?_
      refine j_goto (pc := 41) (tgt := 45) dX12_readRack_41 rfl ?_
      refine j_iconst (pc := 45) dX12_readRack_45 ?_
      refine j_callV (pc := 46) (As := [vI 1, vI 4]) (st := []) (c_X12_needs hM 1 ⟨by omega, by omega⟩ 4 ⟨by omega, by omega⟩ σ2 hIσ2) mv_X12_129 rfl rfl rfl (a_88 hM) dX12_readRack_46 ⟨Nat.le_of_ble_eq_true rfl, Nat.le_of_ble_eq_true rfl⟩ ⟨Nat.le_refl _, Nat.le_refl _⟩ rfl (Nat.le_of_ble_eq_true rfl) rfl (fun z52 σ53 hz52 => ?_)
      obtain ⟨rfl, hIσ53, hGσ53, q54_0⟩ := hz52
      replace q54_0 : (¬ (1 : Int) = 0 ∧ σ53 88 17 = σ2 88 17) ∨ ((1 : Int) = 0 ∧ σ2 88 17 = 0 ∧ σ53 88 17 = (4 : Int)) ∨ ((1 : Int) = 0 ∧ ¬ σ2 88 17 = 0 ∧ σ53 88 17 = σ2 88 17) := q54_0
      have hFσ53 : tw_F (fun c j => (c = 88 ∧ (j = 13 ∨ j = 14 ∨ j = 15 ∨ j = 16 ∨ j = 17 ∨ j = 18)) ∨ c = 95 ∨ c = 97) σ σ53 := tw_F_tr hFσ2 hGσ53 (fun c j q => (show (c = 88 ∧ (j = 13 ∨ j = 14 ∨ j = 15 ∨ j = 16 ∨ j = 17 ∨ j = 18)) ∨ c = 95 ∨ c = 97 from by replace q : (c = 88 ∧ (j = 17 ∨ j = 18)) := q; omega))
      refine j_st (st' := []) rfl ?_
      refine j_aload_n (pc := 49) dX12_readRack_49 rfl rfl ?_
      refine j_getR (pc := 50) (r := 97) fl_X12_35 dX12_readRack_50 (a_88 hM) rfl ?_
      refine j_iload_n (pc := 53) dX12_readRack_53 rfl rfl ?_
      refine j_iconst (pc := 54) dX12_readRack_54 ?_
      refine j_zast (pc := 55) (by omega) dX12_readRack_55 (a_97 hM) (by omega) (by omega) (by decide) (j_nm (fun σ56 (eσ56 : σ56 = tw_up σ53 97 ((σ 88 16).toNat) 1) => ?_))
      have hIσ56 : tw_I σ56 := tw_I_up hIσ53 eσ56 (show (0 : Int) ≤ 1 ∧ 1 ≤ 1 from ⟨by omega, by omega⟩)
      have hFσ56 : tw_F (fun c j => (c = 88 ∧ (j = 13 ∨ j = 14 ∨ j = 15 ∨ j = 16 ∨ j = 17 ∨ j = 18)) ∨ c = 95 ∨ c = 97) σ σ56 := tw_F_up hFσ53 eσ56 (show (97 = 88 ∧ ((σ 88 16).toNat = 13 ∨ (σ 88 16).toNat = 14 ∨ (σ 88 16).toNat = 15 ∨ (σ 88 16).toNat = 16 ∨ (σ 88 16).toNat = 17 ∨ (σ 88 16).toNat = 18)) ∨ 97 = 95 ∨ 97 = 97 from by omega)
      refine j_aload_n (pc := 56) dX12_readRack_56 rfl rfl ?_
      refine j_callV (pc := 57) (As := []) (st := []) (c_X12_next hM σ56 hIσ56) mv_X12_137 rfl rfl rfl (a_88 hM) dX12_readRack_57 ⟨Nat.le_of_ble_eq_true rfl, Nat.le_of_ble_eq_true rfl⟩ ⟨Nat.le_refl _, Nat.le_refl _⟩ rfl (Nat.le_of_ble_eq_true rfl) rfl (fun z57 σ58 hz57 => ?_)
      obtain ⟨rfl, hIσ58, hGσ58, q59_0, q59_1, q59_2⟩ := hz57
      replace q59_0 : ¬ σ58 88 17 = 0 ∨ σ56 88 17 = 0 := q59_0
      have y61 : σ56 88 17 = σ53 88 17 := (tw_ne1 eσ56 (by omega))
      have f62 : (0 : Int) ≤ σ53 88 17 ∧ σ53 88 17 ≤ 5 := hIσ53 88 17
      replace q59_1 : σ56 88 13 ≤ σ58 88 13 := q59_1
      have y63 : σ56 88 13 = σ 88 13 := (((tw_ne1 eσ56 (by omega))).trans (hGσ53 88 13 (show ¬ ((88 = 88 ∧ (13 = 17 ∨ 13 = 18))) from by omega))).trans (hGσ2 88 13 (show ¬ ((88 = 88 ∧ (13 = 17 ∨ 13 = 18))) from by omega))
      have f64 : (0 : Int) ≤ σ 88 13 ∧ σ 88 13 ≤ 400 := hI 88 13
      replace q59_2 : ¬ σ58 88 17 = 0 ∨ σ58 88 15 = 0 ∨ σ56 88 13 < σ58 88 13 := q59_2
      have y65 : σ56 88 13 = σ 88 13 := (((tw_ne1 eσ56 (by omega))).trans (hGσ53 88 13 (show ¬ ((88 = 88 ∧ (13 = 17 ∨ 13 = 18))) from by omega))).trans (hGσ2 88 13 (show ¬ ((88 = 88 ∧ (13 = 17 ∨ 13 = 18))) from by omega))
      have hFσ58 : tw_F (fun c j => (c = 88 ∧ (j = 13 ∨ j = 14 ∨ j = 15 ∨ j = 16 ∨ j = 17 ∨ j = 18)) ∨ c = 95 ∨ c = 97) σ σ58 := tw_F_tr hFσ56 hGσ58 (fun c j q => (show (c = 88 ∧ (j = 13 ∨ j = 14 ∨ j = 15 ∨ j = 16 ∨ j = 17 ∨ j = 18)) ∨ c = 95 ∨ c = 97 from by replace q : (c = 88 ∧ (j = 13 ∨ j = 14 ∨ j = 15 ∨ j = 16 ∨ j = 17 ∨ j = 18)) := q; omega))
      refine j_st (st' := []) rfl ?_
      refine j_aload_n (pc := 60) dX12_readRack_60 rfl rfl ?_
      refine j_getR (pc := 61) (r := 95) fl_X12_29 dX12_readRack_61 (a_88 hM) rfl ?_
      refine j_iload_n (pc := 64) dX12_readRack_64 rfl rfl ?_
      refine j_aload_n (pc := 65) dX12_readRack_65 rfl rfl ?_
      refine j_iconst (pc := 66) dX12_readRack_66 ?_
      refine j_iconst (pc := 67) dX12_readRack_67 ?_
      refine j_callV (pc := 68) (As := [vI 0, vI 5]) (st := [vI (σ 88 16), vR 95]) (c_X12_readNumber hM 0 ⟨by omega, by omega⟩ 5 ⟨by omega, by omega⟩ σ58 hIσ58) mv_X12_140 rfl rfl rfl (a_88 hM) dX12_readRack_68 ⟨Nat.le_of_ble_eq_true rfl, Nat.le_of_ble_eq_true rfl⟩ ⟨Nat.le_refl _, Nat.le_refl _⟩ rfl (Nat.le_of_ble_eq_true rfl) rfl (fun z66 σ67 hz66 => ?_)
      obtain ⟨r69, rfl, hr69, hIσ67, hGσ67, q68_0, q68_1, q68_2⟩ := hz66
      replace q68_0 : ¬ σ67 88 17 = 0 ∨ (σ58 88 17 = 0 ∧ (0 : Int) ≤ r69 ∧ r69 ≤ (5 : Int)) := q68_0
      replace q68_1 : σ58 88 13 ≤ σ67 88 13 := q68_1
      replace q68_2 : ¬ σ67 88 17 = 0 ∨ σ67 88 15 = 0 ∨ σ58 88 13 < σ67 88 13 := q68_2
      have hFσ67 : tw_F (fun c j => (c = 88 ∧ (j = 13 ∨ j = 14 ∨ j = 15 ∨ j = 16 ∨ j = 17 ∨ j = 18)) ∨ c = 95 ∨ c = 97) σ σ67 := tw_F_tr hFσ58 hGσ67 (fun c j q => (show (c = 88 ∧ (j = 13 ∨ j = 14 ∨ j = 15 ∨ j = 16 ∨ j = 17 ∨ j = 18)) ∨ c = 95 ∨ c = 97 from by replace q : (c = 88 ∧ (j = 13 ∨ j = 14 ∨ j = 15 ∨ j = 16 ∨ j = 17 ∨ j = 18)) := q; omega))
      refine j_st (st' := [vI r69, vI (σ 88 16), vR 95]) rfl ?_
      refine j_iast (pc := 71) dX12_readRack_71 (a_95 hM) (by omega) (by omega) (by decide) (j_nm (fun σ70 (eσ70 : σ70 = tw_up σ67 95 ((σ 88 16).toNat) r69) => ?_))
      have hIσ70 : tw_I σ70 := tw_I_up hIσ67 eσ70 (show (-2147483648 : Int) ≤ r69 ∧ r69 ≤ 2147483647 from ⟨by omega, by omega⟩)
      have hFσ70 : tw_F (fun c j => (c = 88 ∧ (j = 13 ∨ j = 14 ∨ j = 15 ∨ j = 16 ∨ j = 17 ∨ j = 18)) ∨ c = 95 ∨ c = 97) σ σ70 := tw_F_up hFσ67 eσ70 (show (95 = 88 ∧ ((σ 88 16).toNat = 13 ∨ (σ 88 16).toNat = 14 ∨ (σ 88 16).toNat = 15 ∨ (σ 88 16).toNat = 16 ∨ (σ 88 16).toNat = 17 ∨ (σ 88 16).toNat = 18)) ∨ 95 = 95 ∨ 95 = 97 from by omega)
      have y71 : σ70 88 17 = σ67 88 17 := (tw_ne1 eσ70 (by omega))
      have f72 : (0 : Int) ≤ σ67 88 17 ∧ σ67 88 17 ≤ 5 := hIσ67 88 17
      have y73 : σ70 88 13 = σ67 88 13 := (tw_ne1 eσ70 (by omega))
      have f74 : (0 : Int) ≤ σ67 88 13 ∧ σ67 88 13 ≤ 400 := hIσ67 88 13
      exact j_vret (pc := 72) ⟨rfl, rfl⟩ dX12_readRack_72 rfl ⟨rfl, hIσ70, hFσ70, by omega, by omega⟩
abbrev q_X12_lowest (k : Int) (σ : tw_M) : Option tw_V → tw_M → Prop := fun z τ => ∃ r : Int, z = some (vI r) ∧ (-2147483648 ≤ r ∧ r ≤ 2147483647) ∧ σ = τ ∧ (((k = 0 ∨ k = 1 ∨ k = 3) ∧ r = 1) ∨ (¬ (k = 0 ∨ k = 1 ∨ k = 3) ∧ r = 0))
set_option maxHeartbeats 4000000 in
set_option maxRecDepth 100000 in
theorem c_X12_lowest {G : tw_G} (hM : tw_isM G) (k : Int) (hk : -2147483648 ≤ k ∧ k ≤ 2147483647) (σ : tw_M) (hI : tw_I σ) : tw_C G yX12_lowest cX12_lowest 2 (some .int) 0 [vR 88, vI k] σ (q_X12_lowest k σ) := by
  refine tw_met [(0, vR 88), (1, vI k)] (by decide +kernel) rfl (Nat.le_of_ble_eq_true rfl) ?_
  refine j_iload_n (pc := 0) dX12_lowest_0 rfl rfl ?_
  refine j_ifR_eq (pc := 1) (tgt := 14) ⟨by omega, by omega⟩ dX12_lowest_1 rfl (fun h1 => ?_) (fun h1 => ?_)
  · refine j_iconst (pc := 14) dX12_lowest_14 ?_
    refine j_goto (pc := 15) (tgt := 19) dX12_lowest_15 rfl ?_
    exact j_iret (pc := 19) ⟨rfl, rfl⟩ dX12_lowest_19 rfl ⟨_, rfl, ⟨by omega, by omega⟩, rfl, by omega⟩
  · refine j_iload_n (pc := 4) dX12_lowest_4 rfl rfl ?_
    refine j_iconst (pc := 5) dX12_lowest_5 ?_
    refine j_icmpR_eq (pc := 6) (tgt := 14) ⟨by omega, by omega⟩ ⟨by omega, by omega⟩ dX12_lowest_6 rfl (fun h2 => ?_) (fun h2 => ?_)
    · refine j_iconst (pc := 14) dX12_lowest_14 ?_
      refine j_goto (pc := 15) (tgt := 19) dX12_lowest_15 rfl ?_
      exact j_iret (pc := 19) ⟨rfl, rfl⟩ dX12_lowest_19 rfl ⟨_, rfl, ⟨by omega, by omega⟩, rfl, by omega⟩
    · refine j_iload_n (pc := 9) dX12_lowest_9 rfl rfl ?_
      refine j_iconst (pc := 10) dX12_lowest_10 ?_
      refine j_icmpR_ne (pc := 11) (tgt := 18) ⟨by omega, by omega⟩ ⟨by omega, by omega⟩ dX12_lowest_11 rfl (fun h3 => ?_) (fun h3 => ?_)
      · refine j_iconst (pc := 18) dX12_lowest_18 ?_
        exact j_iret (pc := 19) ⟨rfl, rfl⟩ dX12_lowest_19 rfl ⟨_, rfl, ⟨by omega, by omega⟩, rfl, by omega⟩
      · refine j_iconst (pc := 14) dX12_lowest_14 ?_
        refine j_goto (pc := 15) (tgt := 19) dX12_lowest_15 rfl ?_
        exact j_iret (pc := 19) ⟨rfl, rfl⟩ dX12_lowest_19 rfl ⟨_, rfl, ⟨by omega, by omega⟩, rfl, by omega⟩
abbrev q_X12_highest (k : Int) (σ : tw_M) : Option tw_V → tw_M → Prop := fun z τ => ∃ r : Int, z = some (vI r) ∧ (-2147483648 ≤ r ∧ r ≤ 2147483647) ∧ σ = τ ∧ ((k = 0 ∧ r = 40) ∨ (k = 1 ∧ r = 999) ∨ (k = 2 ∧ r = 99) ∨ (k = 3 ∧ r = 60) ∨ (k = 7 ∧ r = 60) ∨ (k = 4 ∧ r = 50) ∨ (k = 5 ∧ r = 20) ∨ ((k < 0 ∨ k = 6 ∨ 7 < k) ∧ r = 9))
set_option maxHeartbeats 4000000 in
set_option maxRecDepth 100000 in
theorem c_X12_highest {G : tw_G} (hM : tw_isM G) (k : Int) (hk : -2147483648 ≤ k ∧ k ≤ 2147483647) (σ : tw_M) (hI : tw_I σ) : tw_C G yX12_highest cX12_highest 2 (some .int) 0 [vR 88, vI k] σ (q_X12_highest k σ) := by
  refine tw_met [(0, vR 88), (1, vI k)] (by decide +kernel) rfl (Nat.le_of_ble_eq_true rfl) ?_
  refine j_iload_n (pc := 0) dX12_highest_0 rfl rfl ?_
  refine j_ifR_ne (pc := 1) (tgt := 9) ⟨by omega, by omega⟩ dX12_highest_1 rfl (fun h1 => ?_) (fun h1 => ?_)
  · refine j_iload_n (pc := 9) dX12_highest_9 rfl rfl ?_
    refine j_iconst (pc := 10) dX12_highest_10 ?_
    refine j_icmpR_ne (pc := 11) (tgt := 20) ⟨by omega, by omega⟩ ⟨by omega, by omega⟩ dX12_highest_11 rfl (fun h2 => ?_) (fun h2 => ?_)
    · refine j_iload_n (pc := 20) dX12_highest_20 rfl rfl ?_
      refine j_iconst (pc := 21) dX12_highest_21 ?_
      refine j_icmpR_ne (pc := 22) (tgt := 30) ⟨by omega, by omega⟩ ⟨by omega, by omega⟩ dX12_highest_22 rfl (fun h3 => ?_) (fun h3 => ?_)
      · refine j_iload_n (pc := 30) dX12_highest_30 rfl rfl ?_
        refine j_iconst (pc := 31) dX12_highest_31 ?_
        refine j_icmpR_eq (pc := 32) (tgt := 41) ⟨by omega, by omega⟩ ⟨by omega, by omega⟩ dX12_highest_32 rfl (fun h4 => ?_) (fun h4 => ?_)
        · refine j_bipush (pc := 41) dX12_highest_41 rfl ?_
          refine j_goto (pc := 43) (tgt := 68) dX12_highest_43 rfl ?_
          exact j_iret (pc := 68) ⟨rfl, rfl⟩ dX12_highest_68 rfl ⟨_, rfl, ⟨by omega, by omega⟩, rfl, by omega⟩
        · refine j_iload_n (pc := 35) dX12_highest_35 rfl rfl ?_
          refine j_bipush (pc := 36) dX12_highest_36 rfl ?_
          refine j_icmpR_ne (pc := 38) (tgt := 46) ⟨by omega, by omega⟩ ⟨by omega, by omega⟩ dX12_highest_38 rfl (fun h5 => ?_) (fun h5 => ?_)
          · refine j_iload_n (pc := 46) dX12_highest_46 rfl rfl ?_
            refine j_iconst (pc := 47) dX12_highest_47 ?_
            refine j_icmpR_ne (pc := 48) (tgt := 56) ⟨by omega, by omega⟩ ⟨by omega, by omega⟩ dX12_highest_48 rfl (fun h6 => ?_) (fun h6 => ?_)
            · refine j_iload_n (pc := 56) dX12_highest_56 rfl rfl ?_
              refine j_iconst (pc := 57) dX12_highest_57 ?_
              refine j_icmpR_ne (pc := 58) (tgt := 66) ⟨by omega, by omega⟩ ⟨by omega, by omega⟩ dX12_highest_58 rfl (fun h7 => ?_) (fun h7 => ?_)
              · refine j_bipush (pc := 66) dX12_highest_66 rfl ?_
                exact j_iret (pc := 68) ⟨rfl, rfl⟩ dX12_highest_68 rfl ⟨_, rfl, ⟨by omega, by omega⟩, rfl, by omega⟩
              · refine j_bipush (pc := 61) dX12_highest_61 rfl ?_
                refine j_goto (pc := 63) (tgt := 68) dX12_highest_63 rfl ?_
                exact j_iret (pc := 68) ⟨rfl, rfl⟩ dX12_highest_68 rfl ⟨_, rfl, ⟨by omega, by omega⟩, rfl, by omega⟩
            · refine j_bipush (pc := 51) dX12_highest_51 rfl ?_
              refine j_goto (pc := 53) (tgt := 68) dX12_highest_53 rfl ?_
              exact j_iret (pc := 68) ⟨rfl, rfl⟩ dX12_highest_68 rfl ⟨_, rfl, ⟨by omega, by omega⟩, rfl, by omega⟩
          · refine j_bipush (pc := 41) dX12_highest_41 rfl ?_
            refine j_goto (pc := 43) (tgt := 68) dX12_highest_43 rfl ?_
            exact j_iret (pc := 68) ⟨rfl, rfl⟩ dX12_highest_68 rfl ⟨_, rfl, ⟨by omega, by omega⟩, rfl, by omega⟩
      · refine j_bipush (pc := 25) dX12_highest_25 rfl ?_
        refine j_goto (pc := 27) (tgt := 68) dX12_highest_27 rfl ?_
        exact j_iret (pc := 68) ⟨rfl, rfl⟩ dX12_highest_68 rfl ⟨_, rfl, ⟨by omega, by omega⟩, rfl, by omega⟩
    · refine j_sipush (pc := 14) dX12_highest_14 rfl ?_
      refine j_goto (pc := 17) (tgt := 68) dX12_highest_17 rfl ?_
      exact j_iret (pc := 68) ⟨rfl, rfl⟩ dX12_highest_68 rfl ⟨_, rfl, ⟨by omega, by omega⟩, rfl, by omega⟩
  · refine j_bipush (pc := 4) dX12_highest_4 rfl ?_
    refine j_goto (pc := 6) (tgt := 68) dX12_highest_6 rfl ?_
    exact j_iret (pc := 68) ⟨rfl, rfl⟩ dX12_highest_68 rfl ⟨_, rfl, ⟨by omega, by omega⟩, rfl, by omega⟩
