/-! 10.wall -/
theorem dX10_begin_0 : decode cX10_begin 0 = .ok (.iconst 0, 1) := by decide +kernel
theorem dX10_begin_1 : decode cX10_begin 1 = .ok (.istore_n 1, 1) := by decide +kernel
theorem dX10_begin_2 : decode cX10_begin 2 = .ok (.iload_n 1, 1) := by decide +kernel
theorem dX10_begin_3 : decode cX10_begin 3 = .ok (.bipush 9, 2) := by decide +kernel
theorem dX10_begin_5 : decode cX10_begin 5 = .ok (.if_icmp .ge 20, 3) := by decide +kernel
theorem dX10_begin_8 : decode cX10_begin 8 = .ok (.aload_n 0, 1) := by decide +kernel
theorem dX10_begin_9 : decode cX10_begin 9 = .ok (.getfield 11, 3) := by decide +kernel
theorem dX10_begin_12 : decode cX10_begin 12 = .ok (.iload_n 1, 1) := by decide +kernel
theorem dX10_begin_13 : decode cX10_begin 13 = .ok (.getstatic 39, 3) := by decide +kernel
theorem dX10_begin_16 : decode cX10_begin 16 = .ok (.iload_n 1, 1) := by decide +kernel
theorem dX10_begin_17 : decode cX10_begin 17 = .ok (.iaload, 1) := by decide +kernel
theorem dX10_begin_18 : decode cX10_begin 18 = .ok (.iastore, 1) := by decide +kernel
theorem dX10_begin_19 : decode cX10_begin 19 = .ok (.iinc 1 1, 3) := by decide +kernel
theorem dX10_begin_22 : decode cX10_begin 22 = .ok (.goto (-20), 3) := by decide +kernel
theorem dX10_begin_25 : decode cX10_begin 25 = .ok (.iconst 0, 1) := by decide +kernel
theorem dX10_begin_26 : decode cX10_begin 26 = .ok (.istore_n 1, 1) := by decide +kernel
theorem dX10_begin_27 : decode cX10_begin 27 = .ok (.iload_n 1, 1) := by decide +kernel
theorem dX10_begin_28 : decode cX10_begin 28 = .ok (.bipush 10, 2) := by decide +kernel
theorem dX10_begin_30 : decode cX10_begin 30 = .ok (.if_icmp .gt 16, 3) := by decide +kernel
theorem dX10_begin_33 : decode cX10_begin 33 = .ok (.aload_n 0, 1) := by decide +kernel
theorem dX10_begin_34 : decode cX10_begin 34 = .ok (.getfield 15, 3) := by decide +kernel
theorem dX10_begin_37 : decode cX10_begin 37 = .ok (.iload_n 1, 1) := by decide +kernel
theorem dX10_begin_38 : decode cX10_begin 38 = .ok (.iconst 0, 1) := by decide +kernel
theorem dX10_begin_39 : decode cX10_begin 39 = .ok (.iastore, 1) := by decide +kernel
theorem dX10_begin_40 : decode cX10_begin 40 = .ok (.iinc 1 1, 3) := by decide +kernel
theorem dX10_begin_43 : decode cX10_begin 43 = .ok (.goto (-16), 3) := by decide +kernel
theorem dX10_begin_46 : decode cX10_begin 46 = .ok (.iconst 0, 1) := by decide +kernel
theorem dX10_begin_47 : decode cX10_begin 47 = .ok (.istore_n 1, 1) := by decide +kernel
theorem dX10_begin_48 : decode cX10_begin 48 = .ok (.iload_n 1, 1) := by decide +kernel
theorem dX10_begin_49 : decode cX10_begin 49 = .ok (.bipush 40, 2) := by decide +kernel
theorem dX10_begin_51 : decode cX10_begin 51 = .ok (.if_icmp .gt 51, 3) := by decide +kernel
theorem dX10_begin_54 : decode cX10_begin 54 = .ok (.aload_n 0, 1) := by decide +kernel
theorem dX10_begin_55 : decode cX10_begin 55 = .ok (.getfield 18, 3) := by decide +kernel
theorem dX10_begin_58 : decode cX10_begin 58 = .ok (.iload_n 1, 1) := by decide +kernel
theorem dX10_begin_59 : decode cX10_begin 59 = .ok (.iconst 1, 1) := by decide +kernel
theorem dX10_begin_60 : decode cX10_begin 60 = .ok (.iastore, 1) := by decide +kernel
theorem dX10_begin_61 : decode cX10_begin 61 = .ok (.aload_n 0, 1) := by decide +kernel
theorem dX10_begin_62 : decode cX10_begin 62 = .ok (.getfield 21, 3) := by decide +kernel
theorem dX10_begin_65 : decode cX10_begin 65 = .ok (.iload_n 1, 1) := by decide +kernel
theorem dX10_begin_66 : decode cX10_begin 66 = .ok (.iconst 0, 1) := by decide +kernel
theorem dX10_begin_67 : decode cX10_begin 67 = .ok (.iastore, 1) := by decide +kernel
theorem dX10_begin_68 : decode cX10_begin 68 = .ok (.aload_n 0, 1) := by decide +kernel
theorem dX10_begin_69 : decode cX10_begin 69 = .ok (.getfield 24, 3) := by decide +kernel
theorem dX10_begin_72 : decode cX10_begin 72 = .ok (.iload_n 1, 1) := by decide +kernel
theorem dX10_begin_73 : decode cX10_begin 73 = .ok (.iconst 0, 1) := by decide +kernel
theorem dX10_begin_74 : decode cX10_begin 74 = .ok (.iastore, 1) := by decide +kernel
theorem dX10_begin_75 : decode cX10_begin 75 = .ok (.aload_n 0, 1) := by decide +kernel
theorem dX10_begin_76 : decode cX10_begin 76 = .ok (.getfield 27, 3) := by decide +kernel
theorem dX10_begin_79 : decode cX10_begin 79 = .ok (.iload_n 1, 1) := by decide +kernel
theorem dX10_begin_80 : decode cX10_begin 80 = .ok (.iconst 0, 1) := by decide +kernel
theorem dX10_begin_81 : decode cX10_begin 81 = .ok (.iastore, 1) := by decide +kernel
theorem dX10_begin_82 : decode cX10_begin 82 = .ok (.aload_n 0, 1) := by decide +kernel
theorem dX10_begin_83 : decode cX10_begin 83 = .ok (.getfield 30, 3) := by decide +kernel
theorem dX10_begin_86 : decode cX10_begin 86 = .ok (.iload_n 1, 1) := by decide +kernel
theorem dX10_begin_87 : decode cX10_begin 87 = .ok (.iconst 5, 1) := by decide +kernel
theorem dX10_begin_88 : decode cX10_begin 88 = .ok (.iastore, 1) := by decide +kernel
theorem dX10_begin_89 : decode cX10_begin 89 = .ok (.aload_n 0, 1) := by decide +kernel
theorem dX10_begin_90 : decode cX10_begin 90 = .ok (.getfield 33, 3) := by decide +kernel
theorem dX10_begin_93 : decode cX10_begin 93 = .ok (.iload_n 1, 1) := by decide +kernel
theorem dX10_begin_94 : decode cX10_begin 94 = .ok (.iconst 0, 1) := by decide +kernel
theorem dX10_begin_95 : decode cX10_begin 95 = .ok (.iastore, 1) := by decide +kernel
theorem dX10_begin_96 : decode cX10_begin 96 = .ok (.iinc 1 1, 3) := by decide +kernel
theorem dX10_begin_99 : decode cX10_begin 99 = .ok (.goto (-51), 3) := by decide +kernel
theorem dX10_begin_102 : decode cX10_begin 102 = .ok (.return_, 1) := by decide +kernel
theorem dX10_copyOf_0 : decode cX10_copyOf 0 = .ok (.iconst 0, 1) := by decide +kernel
theorem dX10_copyOf_1 : decode cX10_copyOf 1 = .ok (.istore_n 2, 1) := by decide +kernel
theorem dX10_copyOf_2 : decode cX10_copyOf 2 = .ok (.iload_n 2, 1) := by decide +kernel
theorem dX10_copyOf_3 : decode cX10_copyOf 3 = .ok (.bipush 9, 2) := by decide +kernel
theorem dX10_copyOf_5 : decode cX10_copyOf 5 = .ok (.if_icmp .ge 21, 3) := by decide +kernel
theorem dX10_copyOf_8 : decode cX10_copyOf 8 = .ok (.aload_n 0, 1) := by decide +kernel
theorem dX10_copyOf_9 : decode cX10_copyOf 9 = .ok (.getfield 11, 3) := by decide +kernel
theorem dX10_copyOf_12 : decode cX10_copyOf 12 = .ok (.iload_n 2, 1) := by decide +kernel
theorem dX10_copyOf_13 : decode cX10_copyOf 13 = .ok (.aload_n 1, 1) := by decide +kernel
theorem dX10_copyOf_14 : decode cX10_copyOf 14 = .ok (.getfield 11, 3) := by decide +kernel
theorem dX10_copyOf_17 : decode cX10_copyOf 17 = .ok (.iload_n 2, 1) := by decide +kernel
theorem dX10_copyOf_18 : decode cX10_copyOf 18 = .ok (.iaload, 1) := by decide +kernel
theorem dX10_copyOf_19 : decode cX10_copyOf 19 = .ok (.iastore, 1) := by decide +kernel
theorem dX10_copyOf_20 : decode cX10_copyOf 20 = .ok (.iinc 2 1, 3) := by decide +kernel
theorem dX10_copyOf_23 : decode cX10_copyOf 23 = .ok (.goto (-21), 3) := by decide +kernel
theorem dX10_copyOf_26 : decode cX10_copyOf 26 = .ok (.iconst 0, 1) := by decide +kernel
theorem dX10_copyOf_27 : decode cX10_copyOf 27 = .ok (.istore_n 2, 1) := by decide +kernel
theorem dX10_copyOf_28 : decode cX10_copyOf 28 = .ok (.iload_n 2, 1) := by decide +kernel
theorem dX10_copyOf_29 : decode cX10_copyOf 29 = .ok (.bipush 10, 2) := by decide +kernel
theorem dX10_copyOf_31 : decode cX10_copyOf 31 = .ok (.if_icmp .gt 21, 3) := by decide +kernel
theorem dX10_copyOf_34 : decode cX10_copyOf 34 = .ok (.aload_n 0, 1) := by decide +kernel
theorem dX10_copyOf_35 : decode cX10_copyOf 35 = .ok (.getfield 15, 3) := by decide +kernel
theorem dX10_copyOf_38 : decode cX10_copyOf 38 = .ok (.iload_n 2, 1) := by decide +kernel
theorem dX10_copyOf_39 : decode cX10_copyOf 39 = .ok (.aload_n 1, 1) := by decide +kernel
theorem dX10_copyOf_40 : decode cX10_copyOf 40 = .ok (.getfield 15, 3) := by decide +kernel
theorem dX10_copyOf_43 : decode cX10_copyOf 43 = .ok (.iload_n 2, 1) := by decide +kernel
theorem dX10_copyOf_44 : decode cX10_copyOf 44 = .ok (.iaload, 1) := by decide +kernel
theorem dX10_copyOf_45 : decode cX10_copyOf 45 = .ok (.iastore, 1) := by decide +kernel
theorem dX10_copyOf_46 : decode cX10_copyOf 46 = .ok (.iinc 2 1, 3) := by decide +kernel
theorem dX10_copyOf_49 : decode cX10_copyOf 49 = .ok (.goto (-21), 3) := by decide +kernel
theorem dX10_copyOf_52 : decode cX10_copyOf 52 = .ok (.iconst 0, 1) := by decide +kernel
theorem dX10_copyOf_53 : decode cX10_copyOf 53 = .ok (.istore_n 2, 1) := by decide +kernel
theorem dX10_copyOf_54 : decode cX10_copyOf 54 = .ok (.iconst 0, 1) := by decide +kernel
theorem dX10_copyOf_55 : decode cX10_copyOf 55 = .ok (.istore_n 3, 1) := by decide +kernel
theorem dX10_copyOf_56 : decode cX10_copyOf 56 = .ok (.iload_n 3, 1) := by decide +kernel
theorem dX10_copyOf_57 : decode cX10_copyOf 57 = .ok (.bipush 40, 2) := by decide +kernel
theorem dX10_copyOf_59 : decode cX10_copyOf 59 = .ok (.if_icmp .gt 87, 3) := by decide +kernel
theorem dX10_copyOf_62 : decode cX10_copyOf 62 = .ok (.aload_n 0, 1) := by decide +kernel
theorem dX10_copyOf_63 : decode cX10_copyOf 63 = .ok (.getfield 18, 3) := by decide +kernel
theorem dX10_copyOf_66 : decode cX10_copyOf 66 = .ok (.iload_n 3, 1) := by decide +kernel
theorem dX10_copyOf_67 : decode cX10_copyOf 67 = .ok (.aload_n 1, 1) := by decide +kernel
theorem dX10_copyOf_68 : decode cX10_copyOf 68 = .ok (.getfield 18, 3) := by decide +kernel
theorem dX10_copyOf_71 : decode cX10_copyOf 71 = .ok (.iload_n 3, 1) := by decide +kernel
theorem dX10_copyOf_72 : decode cX10_copyOf 72 = .ok (.iaload, 1) := by decide +kernel
theorem dX10_copyOf_73 : decode cX10_copyOf 73 = .ok (.iastore, 1) := by decide +kernel
theorem dX10_copyOf_74 : decode cX10_copyOf 74 = .ok (.aload_n 0, 1) := by decide +kernel
theorem dX10_copyOf_75 : decode cX10_copyOf 75 = .ok (.getfield 21, 3) := by decide +kernel
theorem dX10_copyOf_78 : decode cX10_copyOf 78 = .ok (.iload_n 3, 1) := by decide +kernel
theorem dX10_copyOf_79 : decode cX10_copyOf 79 = .ok (.aload_n 1, 1) := by decide +kernel
theorem dX10_copyOf_80 : decode cX10_copyOf 80 = .ok (.getfield 21, 3) := by decide +kernel
theorem dX10_copyOf_83 : decode cX10_copyOf 83 = .ok (.iload_n 3, 1) := by decide +kernel
theorem dX10_copyOf_84 : decode cX10_copyOf 84 = .ok (.iaload, 1) := by decide +kernel
theorem dX10_copyOf_85 : decode cX10_copyOf 85 = .ok (.iastore, 1) := by decide +kernel
theorem dX10_copyOf_86 : decode cX10_copyOf 86 = .ok (.aload_n 0, 1) := by decide +kernel
theorem dX10_copyOf_87 : decode cX10_copyOf 87 = .ok (.getfield 24, 3) := by decide +kernel
theorem dX10_copyOf_90 : decode cX10_copyOf 90 = .ok (.iload_n 3, 1) := by decide +kernel
theorem dX10_copyOf_91 : decode cX10_copyOf 91 = .ok (.aload_n 1, 1) := by decide +kernel
theorem dX10_copyOf_92 : decode cX10_copyOf 92 = .ok (.getfield 24, 3) := by decide +kernel
theorem dX10_copyOf_95 : decode cX10_copyOf 95 = .ok (.iload_n 3, 1) := by decide +kernel
theorem dX10_copyOf_96 : decode cX10_copyOf 96 = .ok (.iaload, 1) := by decide +kernel
theorem dX10_copyOf_97 : decode cX10_copyOf 97 = .ok (.iastore, 1) := by decide +kernel
theorem dX10_copyOf_98 : decode cX10_copyOf 98 = .ok (.aload_n 0, 1) := by decide +kernel
theorem dX10_copyOf_99 : decode cX10_copyOf 99 = .ok (.getfield 27, 3) := by decide +kernel
theorem dX10_copyOf_102 : decode cX10_copyOf 102 = .ok (.iload_n 3, 1) := by decide +kernel
theorem dX10_copyOf_103 : decode cX10_copyOf 103 = .ok (.aload_n 1, 1) := by decide +kernel
theorem dX10_copyOf_104 : decode cX10_copyOf 104 = .ok (.getfield 27, 3) := by decide +kernel
theorem dX10_copyOf_107 : decode cX10_copyOf 107 = .ok (.iload_n 3, 1) := by decide +kernel
theorem dX10_copyOf_108 : decode cX10_copyOf 108 = .ok (.iaload, 1) := by decide +kernel
theorem dX10_copyOf_109 : decode cX10_copyOf 109 = .ok (.iastore, 1) := by decide +kernel
theorem dX10_copyOf_110 : decode cX10_copyOf 110 = .ok (.aload_n 0, 1) := by decide +kernel
theorem dX10_copyOf_111 : decode cX10_copyOf 111 = .ok (.getfield 30, 3) := by decide +kernel
theorem dX10_copyOf_114 : decode cX10_copyOf 114 = .ok (.iload_n 3, 1) := by decide +kernel
theorem dX10_copyOf_115 : decode cX10_copyOf 115 = .ok (.aload_n 1, 1) := by decide +kernel
theorem dX10_copyOf_116 : decode cX10_copyOf 116 = .ok (.getfield 30, 3) := by decide +kernel
theorem dX10_copyOf_119 : decode cX10_copyOf 119 = .ok (.iload_n 3, 1) := by decide +kernel
theorem dX10_copyOf_120 : decode cX10_copyOf 120 = .ok (.iaload, 1) := by decide +kernel
theorem dX10_copyOf_121 : decode cX10_copyOf 121 = .ok (.iastore, 1) := by decide +kernel
theorem dX10_copyOf_122 : decode cX10_copyOf 122 = .ok (.aload_n 0, 1) := by decide +kernel
theorem dX10_copyOf_123 : decode cX10_copyOf 123 = .ok (.getfield 33, 3) := by decide +kernel
theorem dX10_copyOf_126 : decode cX10_copyOf 126 = .ok (.iload_n 3, 1) := by decide +kernel
theorem dX10_copyOf_127 : decode cX10_copyOf 127 = .ok (.iload_n 2, 1) := by decide +kernel
theorem dX10_copyOf_128 : decode cX10_copyOf 128 = .ok (.iastore, 1) := by decide +kernel
theorem dX10_copyOf_129 : decode cX10_copyOf 129 = .ok (.aload_n 0, 1) := by decide +kernel
theorem dX10_copyOf_130 : decode cX10_copyOf 130 = .ok (.getfield 24, 3) := by decide +kernel
theorem dX10_copyOf_133 : decode cX10_copyOf 133 = .ok (.iload_n 3, 1) := by decide +kernel
theorem dX10_copyOf_134 : decode cX10_copyOf 134 = .ok (.iaload, 1) := by decide +kernel
theorem dX10_copyOf_135 : decode cX10_copyOf 135 = .ok (.ifCond .eq 5, 3) := by decide +kernel
theorem dX10_copyOf_138 : decode cX10_copyOf 138 = .ok (.iload_n 3, 1) := by decide +kernel
theorem dX10_copyOf_139 : decode cX10_copyOf 139 = .ok (.istore_n 2, 1) := by decide +kernel
theorem dX10_copyOf_140 : decode cX10_copyOf 140 = .ok (.iinc 3 1, 3) := by decide +kernel
theorem dX10_copyOf_143 : decode cX10_copyOf 143 = .ok (.goto (-87), 3) := by decide +kernel
theorem dX10_copyOf_146 : decode cX10_copyOf 146 = .ok (.return_, 1) := by decide +kernel
theorem dX10_top_0 : decode cX10_top 0 = .ok (.aload_n 0, 1) := by decide +kernel
theorem dX10_top_1 : decode cX10_top 1 = .ok (.getfield 11, 3) := by decide +kernel
theorem dX10_top_4 : decode cX10_top 4 = .ok (.iconst 0, 1) := by decide +kernel
theorem dX10_top_5 : decode cX10_top 5 = .ok (.iaload, 1) := by decide +kernel
theorem dX10_top_6 : decode cX10_top 6 = .ok (.ireturn, 1) := by decide +kernel
theorem dX10_isFoot_0 : decode cX10_isFoot 0 = .ok (.iload_n 1, 1) := by decide +kernel
theorem dX10_isFoot_1 : decode cX10_isFoot 1 = .ok (.iconst 1, 1) := by decide +kernel
theorem dX10_isFoot_2 : decode cX10_isFoot 2 = .ok (.if_icmp .lt 17, 3) := by decide +kernel
theorem dX10_isFoot_5 : decode cX10_isFoot 5 = .ok (.iload_n 1, 1) := by decide +kernel
theorem dX10_isFoot_6 : decode cX10_isFoot 6 = .ok (.aload_n 0, 1) := by decide +kernel
theorem dX10_isFoot_7 : decode cX10_isFoot 7 = .ok (.getfield 11, 3) := by decide +kernel
theorem dX10_isFoot_10 : decode cX10_isFoot 10 = .ok (.iconst 0, 1) := by decide +kernel
theorem dX10_isFoot_11 : decode cX10_isFoot 11 = .ok (.iaload, 1) := by decide +kernel
theorem dX10_isFoot_12 : decode cX10_isFoot 12 = .ok (.if_icmp .gt 7, 3) := by decide +kernel
theorem dX10_isFoot_15 : decode cX10_isFoot 15 = .ok (.iconst 1, 1) := by decide +kernel
theorem dX10_isFoot_16 : decode cX10_isFoot 16 = .ok (.goto 4, 3) := by decide +kernel
theorem dX10_isFoot_19 : decode cX10_isFoot 19 = .ok (.iconst 0, 1) := by decide +kernel
theorem dX10_isFoot_20 : decode cX10_isFoot 20 = .ok (.ireturn, 1) := by decide +kernel
theorem dX10_isStance_0 : decode cX10_isStance 0 = .ok (.aload_n 0, 1) := by decide +kernel
theorem dX10_isStance_1 : decode cX10_isStance 1 = .ok (.iload_n 1, 1) := by decide +kernel
theorem dX10_isStance_2 : decode cX10_isStance 2 = .ok (.invokevirtual 42, 3) := by decide +kernel
theorem dX10_isStance_5 : decode cX10_isStance 5 = .ok (.ifCond .eq 35, 3) := by decide +kernel
theorem dX10_isStance_8 : decode cX10_isStance 8 = .ok (.iload_n 1, 1) := by decide +kernel
theorem dX10_isStance_9 : decode cX10_isStance 9 = .ok (.aload_n 0, 1) := by decide +kernel
theorem dX10_isStance_10 : decode cX10_isStance 10 = .ok (.getfield 11, 3) := by decide +kernel
theorem dX10_isStance_13 : decode cX10_isStance 13 = .ok (.iconst 0, 1) := by decide +kernel
theorem dX10_isStance_14 : decode cX10_isStance 14 = .ok (.iaload, 1) := by decide +kernel
theorem dX10_isStance_15 : decode cX10_isStance 15 = .ok (.if_icmp .eq 21, 3) := by decide +kernel
theorem dX10_isStance_18 : decode cX10_isStance 18 = .ok (.aload_n 0, 1) := by decide +kernel
theorem dX10_isStance_19 : decode cX10_isStance 19 = .ok (.getfield 24, 3) := by decide +kernel
theorem dX10_isStance_22 : decode cX10_isStance 22 = .ok (.iload_n 1, 1) := by decide +kernel
theorem dX10_isStance_23 : decode cX10_isStance 23 = .ok (.iaload, 1) := by decide +kernel
theorem dX10_isStance_24 : decode cX10_isStance 24 = .ok (.ifCond .ne 12, 3) := by decide +kernel
theorem dX10_isStance_27 : decode cX10_isStance 27 = .ok (.aload_n 0, 1) := by decide +kernel
theorem dX10_isStance_28 : decode cX10_isStance 28 = .ok (.getfield 27, 3) := by decide +kernel
theorem dX10_isStance_31 : decode cX10_isStance 31 = .ok (.iload_n 1, 1) := by decide +kernel
theorem dX10_isStance_32 : decode cX10_isStance 32 = .ok (.iaload, 1) := by decide +kernel
theorem dX10_isStance_33 : decode cX10_isStance 33 = .ok (.ifCond .eq 7, 3) := by decide +kernel
theorem dX10_isStance_36 : decode cX10_isStance 36 = .ok (.iconst 1, 1) := by decide +kernel
theorem dX10_isStance_37 : decode cX10_isStance 37 = .ok (.goto 4, 3) := by decide +kernel
theorem dX10_isStance_40 : decode cX10_isStance 40 = .ok (.iconst 0, 1) := by decide +kernel
theorem dX10_isStance_41 : decode cX10_isStance 41 = .ok (.ireturn, 1) := by decide +kernel
theorem dX10_countOf_0 : decode cX10_countOf 0 = .ok (.iconst 0, 1) := by decide +kernel
theorem dX10_countOf_1 : decode cX10_countOf 1 = .ok (.istore_n 2, 1) := by decide +kernel
theorem dX10_countOf_2 : decode cX10_countOf 2 = .ok (.iconst 1, 1) := by decide +kernel
theorem dX10_countOf_3 : decode cX10_countOf 3 = .ok (.istore_n 3, 1) := by decide +kernel
theorem dX10_countOf_4 : decode cX10_countOf 4 = .ok (.iload_n 3, 1) := by decide +kernel
theorem dX10_countOf_5 : decode cX10_countOf 5 = .ok (.aload_n 0, 1) := by decide +kernel
theorem dX10_countOf_6 : decode cX10_countOf 6 = .ok (.getfield 11, 3) := by decide +kernel
theorem dX10_countOf_9 : decode cX10_countOf 9 = .ok (.iconst 0, 1) := by decide +kernel
theorem dX10_countOf_10 : decode cX10_countOf 10 = .ok (.iaload, 1) := by decide +kernel
theorem dX10_countOf_11 : decode cX10_countOf 11 = .ok (.if_icmp .gt 24, 3) := by decide +kernel
theorem dX10_countOf_14 : decode cX10_countOf 14 = .ok (.iload_n 3, 1) := by decide +kernel
theorem dX10_countOf_15 : decode cX10_countOf 15 = .ok (.aload_n 1, 1) := by decide +kernel
theorem dX10_countOf_16 : decode cX10_countOf 16 = .ok (.arraylength, 1) := by decide +kernel
theorem dX10_countOf_17 : decode cX10_countOf 17 = .ok (.if_icmp .ge 18, 3) := by decide +kernel
theorem dX10_countOf_20 : decode cX10_countOf 20 = .ok (.aload_n 1, 1) := by decide +kernel
theorem dX10_countOf_21 : decode cX10_countOf 21 = .ok (.iload_n 3, 1) := by decide +kernel
theorem dX10_countOf_22 : decode cX10_countOf 22 = .ok (.iaload, 1) := by decide +kernel
theorem dX10_countOf_23 : decode cX10_countOf 23 = .ok (.ifCond .eq 6, 3) := by decide +kernel
theorem dX10_countOf_26 : decode cX10_countOf 26 = .ok (.iinc 2 1, 3) := by decide +kernel
theorem dX10_countOf_29 : decode cX10_countOf 29 = .ok (.iinc 3 1, 3) := by decide +kernel
theorem dX10_countOf_32 : decode cX10_countOf 32 = .ok (.goto (-28), 3) := by decide +kernel
theorem dX10_countOf_35 : decode cX10_countOf 35 = .ok (.iload_n 2, 1) := by decide +kernel
theorem dX10_countOf_36 : decode cX10_countOf 36 = .ok (.ireturn, 1) := by decide +kernel
theorem dX10_dropOf_0 : decode cX10_dropOf 0 = .ok (.iconst 2, 1) := by decide +kernel
theorem dX10_dropOf_1 : decode cX10_dropOf 1 = .ok (.iload_n 1, 1) := by decide +kernel
theorem dX10_dropOf_2 : decode cX10_dropOf 2 = .ok (.iload_n 2, 1) := by decide +kernel
theorem dX10_dropOf_3 : decode cX10_dropOf 3 = .ok (.isub, 1) := by decide +kernel
theorem dX10_dropOf_4 : decode cX10_dropOf 4 = .ok (.imul, 1) := by decide +kernel
theorem dX10_dropOf_5 : decode cX10_dropOf 5 = .ok (.aload_n 0, 1) := by decide +kernel
theorem dX10_dropOf_6 : decode cX10_dropOf 6 = .ok (.getfield 11, 3) := by decide +kernel
theorem dX10_dropOf_9 : decode cX10_dropOf 9 = .ok (.iconst 4, 1) := by decide +kernel
theorem dX10_dropOf_10 : decode cX10_dropOf 10 = .ok (.iaload, 1) := by decide +kernel
theorem dX10_dropOf_11 : decode cX10_dropOf 11 = .ok (.iload_n 1, 1) := by decide +kernel
theorem dX10_dropOf_12 : decode cX10_dropOf 12 = .ok (.imul, 1) := by decide +kernel
theorem dX10_dropOf_13 : decode cX10_dropOf 13 = .ok (.bipush 100, 2) := by decide +kernel
theorem dX10_dropOf_15 : decode cX10_dropOf 15 = .ok (.idiv, 1) := by decide +kernel
theorem dX10_dropOf_16 : decode cX10_dropOf 16 = .ok (.iadd, 1) := by decide +kernel
theorem dX10_dropOf_17 : decode cX10_dropOf 17 = .ok (.ireturn, 1) := by decide +kernel
theorem dX10_pullOf_0 : decode cX10_pullOf 0 = .ok (.iload_n 1, 1) := by decide +kernel
theorem dX10_pullOf_1 : decode cX10_pullOf 1 = .ok (.iconst 1, 1) := by decide +kernel
theorem dX10_pullOf_2 : decode cX10_pullOf 2 = .ok (.if_icmp .ge 7, 3) := by decide +kernel
theorem dX10_pullOf_5 : decode cX10_pullOf 5 = .ok (.iconst 2, 1) := by decide +kernel
theorem dX10_pullOf_6 : decode cX10_pullOf 6 = .ok (.goto 11, 3) := by decide +kernel
theorem dX10_pullOf_9 : decode cX10_pullOf 9 = .ok (.iconst 2, 1) := by decide +kernel
theorem dX10_pullOf_10 : decode cX10_pullOf 10 = .ok (.bipush 10, 2) := by decide +kernel
theorem dX10_pullOf_12 : decode cX10_pullOf 12 = .ok (.iload_n 2, 1) := by decide +kernel
theorem dX10_pullOf_13 : decode cX10_pullOf 13 = .ok (.imul, 1) := by decide +kernel
theorem dX10_pullOf_14 : decode cX10_pullOf 14 = .ok (.iload_n 1, 1) := by decide +kernel
theorem dX10_pullOf_15 : decode cX10_pullOf 15 = .ok (.idiv, 1) := by decide +kernel
theorem dX10_pullOf_16 : decode cX10_pullOf 16 = .ok (.iadd, 1) := by decide +kernel
theorem dX10_pullOf_17 : decode cX10_pullOf 17 = .ok (.ireturn, 1) := by decide +kernel
theorem dX10_holds_0 : decode cX10_holds 0 = .ok (.iload_n 2, 1) := by decide +kernel
theorem dX10_holds_1 : decode cX10_holds 1 = .ok (.iload_n 1, 1) := by decide +kernel
theorem dX10_holds_2 : decode cX10_holds 2 = .ok (.aload_n 0, 1) := by decide +kernel
theorem dX10_holds_3 : decode cX10_holds 3 = .ok (.getfield 11, 3) := by decide +kernel
theorem dX10_holds_6 : decode cX10_holds 6 = .ok (.bipush 7, 2) := by decide +kernel
theorem dX10_holds_8 : decode cX10_holds 8 = .ok (.iaload, 1) := by decide +kernel
theorem dX10_holds_9 : decode cX10_holds 9 = .ok (.iadd, 1) := by decide +kernel
theorem dX10_holds_10 : decode cX10_holds 10 = .ok (.if_icmp .gt 7, 3) := by decide +kernel
theorem dX10_holds_13 : decode cX10_holds 13 = .ok (.iconst 1, 1) := by decide +kernel
theorem dX10_holds_14 : decode cX10_holds 14 = .ok (.goto 4, 3) := by decide +kernel
theorem dX10_holds_17 : decode cX10_holds 17 = .ok (.iconst 0, 1) := by decide +kernel
theorem dX10_holds_18 : decode cX10_holds 18 = .ok (.ireturn, 1) := by decide +kernel
theorem dX10_struckOf_0 : decode cX10_struckOf 0 = .ok (.aload_n 0, 1) := by decide +kernel
theorem dX10_struckOf_1 : decode cX10_struckOf 1 = .ok (.getfield 33, 3) := by decide +kernel
theorem dX10_struckOf_4 : decode cX10_struckOf 4 = .ok (.iload_n 1, 1) := by decide +kernel
theorem dX10_struckOf_5 : decode cX10_struckOf 5 = .ok (.iaload, 1) := by decide +kernel
theorem dX10_struckOf_6 : decode cX10_struckOf 6 = .ok (.iload_n 2, 1) := by decide +kernel
theorem dX10_struckOf_7 : decode cX10_struckOf 7 = .ok (.if_icmp .lt 12, 3) := by decide +kernel
theorem dX10_struckOf_10 : decode cX10_struckOf 10 = .ok (.aload_n 0, 1) := by decide +kernel
theorem dX10_struckOf_11 : decode cX10_struckOf 11 = .ok (.getfield 33, 3) := by decide +kernel
theorem dX10_struckOf_14 : decode cX10_struckOf 14 = .ok (.iload_n 1, 1) := by decide +kernel
theorem dX10_struckOf_15 : decode cX10_struckOf 15 = .ok (.iaload, 1) := by decide +kernel
theorem dX10_struckOf_16 : decode cX10_struckOf 16 = .ok (.goto 5, 3) := by decide +kernel
theorem dX10_struckOf_19 : decode cX10_struckOf 19 = .ok (.bipush (-4), 2) := by decide +kernel
theorem dX10_struckOf_21 : decode cX10_struckOf 21 = .ok (.ireturn, 1) := by decide +kernel
theorem dX10_harmOf_0 : decode cX10_harmOf 0 = .ok (.aload_n 0, 1) := by decide +kernel
theorem dX10_harmOf_1 : decode cX10_harmOf 1 = .ok (.getfield 33, 3) := by decide +kernel
theorem dX10_harmOf_4 : decode cX10_harmOf 4 = .ok (.iload_n 1, 1) := by decide +kernel
theorem dX10_harmOf_5 : decode cX10_harmOf 5 = .ok (.iaload, 1) := by decide +kernel
theorem dX10_harmOf_6 : decode cX10_harmOf 6 = .ok (.iload_n 2, 1) := by decide +kernel
theorem dX10_harmOf_7 : decode cX10_harmOf 7 = .ok (.if_icmp .lt 14, 3) := by decide +kernel
theorem dX10_harmOf_10 : decode cX10_harmOf 10 = .ok (.iload_n 1, 1) := by decide +kernel
theorem dX10_harmOf_11 : decode cX10_harmOf 11 = .ok (.aload_n 0, 1) := by decide +kernel
theorem dX10_harmOf_12 : decode cX10_harmOf 12 = .ok (.getfield 33, 3) := by decide +kernel
theorem dX10_harmOf_15 : decode cX10_harmOf 15 = .ok (.iload_n 1, 1) := by decide +kernel
theorem dX10_harmOf_16 : decode cX10_harmOf 16 = .ok (.iaload, 1) := by decide +kernel
theorem dX10_harmOf_17 : decode cX10_harmOf 17 = .ok (.isub, 1) := by decide +kernel
theorem dX10_harmOf_18 : decode cX10_harmOf 18 = .ok (.goto 4, 3) := by decide +kernel
theorem dX10_harmOf_21 : decode cX10_harmOf 21 = .ok (.iconst 0, 1) := by decide +kernel
theorem dX10_harmOf_22 : decode cX10_harmOf 22 = .ok (.ireturn, 1) := by decide +kernel
abbrev q_X10_begin (w : Nat) (σ : tw_M) : Option tw_V → tw_M → Prop := fun z τ => z = none ∧ tw_I τ ∧ tw_F (fun c j => (w + 1 ≤ c ∧ c < w + 9)) σ τ ∧ (Cn (w + 1) (fun j => (tw_first.getD j 0).toInt) τ 9) ∧ (Cn (w + 2) (fun _ => 0) τ 11) ∧ (Cn (w + 3) (fun _ => 1) τ 41) ∧ (Cn (w + 4) (fun _ => 0) τ 41) ∧ (Cn (w + 5) (fun _ => 0) τ 41) ∧ (Cn (w + 6) (fun _ => 0) τ 41) ∧ (Cn (w + 7) (fun _ => 5) τ 41)
set_option maxHeartbeats 4000000 in
set_option maxRecDepth 100000 in
theorem l_X10_begin {G : tw_G} (w : Nat) (hw : IsWall G w) (σ : tw_M) (hI : tw_I σ) : ∀ N_ : Nat, (∀ (i : Int) (hi : 0 ≤ i ∧ i ≤ 9) (τ : tw_M) (hIτ : tw_I τ) (hFτ : tw_F (fun c j => (w + 1 ≤ c ∧ c < w + 9)) σ τ) (i0 : Cn (w + 1) (fun j => (tw_first.getD j 0).toInt) τ i) (hm : (1000 - i).toNat < N_), tw_J G (tw_mt RX10 cX10_begin 2 none 0) (tw_E G (q_X10_begin w σ)) 2 [(0, vR w), (1, vI i)] [] τ) ∧ (∀ (i : Int) (hi : 0 ≤ i ∧ i ≤ 11) (τ : tw_M) (hIτ : tw_I τ) (hFτ : tw_F (fun c j => (w + 1 ≤ c ∧ c < w + 9)) σ τ) (i0 : Cn (w + 1) (fun j => (tw_first.getD j 0).toInt) τ 9) (i1 : Cn (w + 2) (fun _ => 0) τ i) (hm : (500 - i).toNat < N_), tw_J G (tw_mt RX10 cX10_begin 2 none 0) (tw_E G (q_X10_begin w σ)) 27 [(0, vR w), (1, vI i)] [] τ) ∧ (∀ (i : Int) (hi : 0 ≤ i ∧ i ≤ 41) (τ : tw_M) (hIτ : tw_I τ) (hFτ : tw_F (fun c j => (w + 1 ≤ c ∧ c < w + 9)) σ τ) (i0 : Cn (w + 1) (fun j => (tw_first.getD j 0).toInt) τ 9) (i1 : Cn (w + 2) (fun _ => 0) τ 11) (i2 : Cn (w + 3) (fun _ => 1) τ i) (i3 : Cn (w + 4) (fun _ => 0) τ i) (i4 : Cn (w + 5) (fun _ => 0) τ i) (i5 : Cn (w + 6) (fun _ => 0) τ i) (i6 : Cn (w + 7) (fun _ => 5) τ i) (hm : (100 - i).toNat < N_), tw_J G (tw_mt RX10 cX10_begin 2 none 0) (tw_E G (q_X10_begin w σ)) 48 [(0, vR w), (1, vI i)] [] τ) := by
  intro N_
  induction N_ with
  | zero => exact ⟨fun i hi τ hIτ hFτ i0 hm => absurd hm (Nat.not_lt_zero _), fun i hi τ hIτ hFτ i0 i1 hm => absurd hm (Nat.not_lt_zero _), fun i hi τ hIτ hFτ i0 i1 i2 i3 i4 i5 i6 hm => absurd hm (Nat.not_lt_zero _)⟩
  | succ N_ ih =>
    refine ⟨?_, ?_, ?_⟩
    · intro i hi τ hIτ hFτ i0 hm
      refine j_iload_n (pc := 2) dX10_begin_2 rfl rfl ?_
      refine j_bipush (pc := 3) dX10_begin_3 rfl ?_
      refine j_icmpR_ge (pc := 5) (tgt := 25) ⟨by omega, by omega⟩ ⟨by omega, by omega⟩ dX10_begin_5 rfl (fun h1 => ?_) (fun h1 => ?_)
      · refine j_iconst (pc := 25) dX10_begin_25 ?_
        refine j_istore_n (pc := 26) (i := 1) (ls' := [(0, vR w), (1, vI 0)]) [1, 0] dX10_begin_26 rfl (Nat.le_of_ble_eq_true rfl) rfl rfl ?_
        refine j_ls (ls' := [(0, vR w), (1, vI 0)]) [0, 1] rfl ?_
        exact ih.2.1 0 (by (first | decide | exact ⟨by omega, by omega⟩)) τ hIτ hFτ (show Cn (w + 1) (fun j => (tw_first.getD j 0).toInt) τ 9 from (by first | exact Cn_F (fun j => rfl) i0 | (rw [show (9 : Int) = i from by omega]; exact i0))) (show Cn (w + 2) (fun _ => 0) τ (0 : Int) from (by first | exact Cn_up _ (by omega) i1 rfl (by omega) | exact Cn_0)) (show (500 - (0 : Int)).toNat < N_ from by omega)
      · refine j_aload_n (pc := 8) dX10_begin_8 rfl rfl ?_
        refine j_getR (pc := 9) (r := w + 1) fl_X10_11 dX10_begin_9 hw.1.1 rfl ?_
        refine j_iload_n (pc := 12) dX10_begin_12 rfl rfl ?_
        refine j_getsFirst (pc := 13) (tw_inc tm_1 (i := 37) rfl rfl) dX10_begin_13 ?_
        refine j_iload_n (pc := 16) dX10_begin_16 rfl rfl ?_
        refine j_tFirst (pc := 17) dX10_begin_17 (by omega) (by omega) ?_
        have f2 : (-2147483648 : Int) ≤ (tw_first.getD i.toNat 0).toInt ∧ (tw_first.getD i.toNat 0).toInt ≤ 2147483647 := i32_in _
        refine j_iast (pc := 18) dX10_begin_18 hw.1.2.1 (by omega) (by omega) (by decide) (j_nm (fun σ3 (eσ3 : σ3 = tw_up τ (w + 1) (i.toNat) ((tw_first.getD i.toNat 0).toInt)) => ?_))
        have hIσ3 : tw_I σ3 := tw_I_upg hIτ eσ3 hw.2.2.1 (first_in _ (by omega))
        have hFσ3 : tw_F (fun c j => (w + 1 ≤ c ∧ c < w + 9)) σ σ3 := tw_F_up hFτ eσ3 (show (w + 1 ≤ w + 1 ∧ w + 1 < w + 9) from ⟨Nat.le_refl _, (Nat.add_lt_add_left (by decide) _)⟩)
        refine j_iinc (pc := 19) (i := 1) (n := 1) (ls' := [(0, vR w), (1, vI (i + 1))]) [1, 0] dX10_begin_19 rfl (Nat.le_of_ble_eq_true rfl) rfl rfl ?_
        refine j_goto (pc := 22) (tgt := 2) dX10_begin_22 rfl ?_
        refine j_ls (ls' := [(0, vR w), (1, vI (i + 1))]) [0, 1] rfl ?_
        exact ih.1 (i + 1) ⟨by omega, by omega⟩ σ3 hIσ3 hFσ3 (show Cn (w + 1) (fun j => (tw_first.getD j 0).toInt) σ3 (i + 1) from (by first | exact Cn_up eσ3 (by omega) i0 rfl (by omega) | exact Cn_0)) (show (1000 - (i + 1)).toNat < N_ from by omega)
    · intro i hi τ hIτ hFτ i0 i1 hm
      refine j_iload_n (pc := 27) dX10_begin_27 rfl rfl ?_
      refine j_bipush (pc := 28) dX10_begin_28 rfl ?_
      refine j_icmpR_gt (pc := 30) (tgt := 46) ⟨by omega, by omega⟩ ⟨by omega, by omega⟩ dX10_begin_30 rfl (fun h4 => ?_) (fun h4 => ?_)
      · refine j_iconst (pc := 46) dX10_begin_46 ?_
        refine j_istore_n (pc := 47) (i := 1) (ls' := [(0, vR w), (1, vI 0)]) [1, 0] dX10_begin_47 rfl (Nat.le_of_ble_eq_true rfl) rfl rfl ?_
        refine j_ls (ls' := [(0, vR w), (1, vI 0)]) [0, 1] rfl ?_
        exact ih.2.2 0 (by (first | decide | exact ⟨by omega, by omega⟩)) τ hIτ hFτ (show Cn (w + 1) (fun j => (tw_first.getD j 0).toInt) τ 9 from Cn_F (fun j => rfl) i0) (show Cn (w + 2) (fun _ => 0) τ 11 from (by first | exact Cn_F (fun j => rfl) i1 | (rw [show (11 : Int) = i from by omega]; exact i1))) (show Cn (w + 3) (fun _ => 1) τ (0 : Int) from (by first | exact Cn_0 | exact Cn_F (fun j => (tw_ne1 _ (by omega)).trans ((tw_ne1 _ (by omega)).trans ((tw_ne1 _ (by omega)).trans ((tw_ne1 _ (by omega)).trans (tw_ne1 _ (by omega)))))) (Cn_up _ (by omega) i2 rfl (by omega)))) (show Cn (w + 4) (fun _ => 0) τ (0 : Int) from (by first | exact Cn_0 | exact Cn_F (fun j => (tw_ne1 _ (by omega)).trans ((tw_ne1 _ (by omega)).trans ((tw_ne1 _ (by omega)).trans (tw_ne1 _ (by omega))))) (Cn_up _ (by omega) (Cn_F (fun j => tw_ne1 _ (by omega)) i3) rfl (by omega)))) (show Cn (w + 5) (fun _ => 0) τ (0 : Int) from (by first | exact Cn_0 | exact Cn_F (fun j => (tw_ne1 _ (by omega)).trans ((tw_ne1 _ (by omega)).trans (tw_ne1 _ (by omega)))) (Cn_up _ (by omega) (Cn_F (fun j => (tw_ne1 _ (by omega)).trans (tw_ne1 _ (by omega))) i4) rfl (by omega)))) (show Cn (w + 6) (fun _ => 0) τ (0 : Int) from (by first | exact Cn_0 | exact Cn_F (fun j => (tw_ne1 _ (by omega)).trans (tw_ne1 _ (by omega))) (Cn_up _ (by omega) (Cn_F (fun j => (tw_ne1 _ (by omega)).trans ((tw_ne1 _ (by omega)).trans (tw_ne1 _ (by omega)))) i5) rfl (by omega)))) (show Cn (w + 7) (fun _ => 5) τ (0 : Int) from (by first | exact Cn_0 | exact Cn_F (fun j => tw_ne1 _ (by omega)) (Cn_up _ (by omega) (Cn_F (fun j => (tw_ne1 _ (by omega)).trans ((tw_ne1 _ (by omega)).trans ((tw_ne1 _ (by omega)).trans (tw_ne1 _ (by omega))))) i6) rfl (by omega)))) (show (100 - (0 : Int)).toNat < N_ from by omega)
      · refine j_aload_n (pc := 33) dX10_begin_33 rfl rfl ?_
        refine j_getR (pc := 34) (r := w + 2) fl_X10_15 dX10_begin_34 hw.1.1 rfl ?_
        refine j_iload_n (pc := 37) dX10_begin_37 rfl rfl ?_
        refine j_iconst (pc := 38) dX10_begin_38 ?_
        refine j_iast (pc := 39) dX10_begin_39 hw.1.2.2.1 (by omega) (by omega) (by decide) (j_nm (fun σ5 (eσ5 : σ5 = tw_up τ (w + 2) (i.toNat) 0) => ?_))
        have hIσ5 : tw_I σ5 := tw_I_upg hIτ eσ5 hw.2.2.2.1 (show (0 : Int) ≤ 0 ∧ 0 ≤ 5 from by decide)
        have hFσ5 : tw_F (fun c j => (w + 1 ≤ c ∧ c < w + 9)) σ σ5 := tw_F_up hFτ eσ5 (show (w + 1 ≤ w + 2 ∧ w + 2 < w + 9) from ⟨Nat.add_le_add_left (by decide) _, (Nat.add_lt_add_left (by decide) _)⟩)
        refine j_iinc (pc := 40) (i := 1) (n := 1) (ls' := [(0, vR w), (1, vI (i + 1))]) [1, 0] dX10_begin_40 rfl (Nat.le_of_ble_eq_true rfl) rfl rfl ?_
        refine j_goto (pc := 43) (tgt := 27) dX10_begin_43 rfl ?_
        refine j_ls (ls' := [(0, vR w), (1, vI (i + 1))]) [0, 1] rfl ?_
        exact ih.2.1 (i + 1) ⟨by omega, by omega⟩ σ5 hIσ5 hFσ5 (show Cn (w + 1) (fun j => (tw_first.getD j 0).toInt) σ5 9 from (by first | exact Cn_F (fun j => (tw_ne1 eσ5 (by (first | decide | omega)))) i0 | (rw [show (9 : Int) = i from by omega]; exact i0))) (show Cn (w + 2) (fun _ => 0) σ5 (i + 1) from (by first | exact Cn_up eσ5 (by omega) i1 rfl (by omega) | exact Cn_0)) (show (500 - (i + 1)).toNat < N_ from by omega)
    · intro i hi τ hIτ hFτ i0 i1 i2 i3 i4 i5 i6 hm
      refine j_iload_n (pc := 48) dX10_begin_48 rfl rfl ?_
      refine j_bipush (pc := 49) dX10_begin_49 rfl ?_
      refine j_icmpR_gt (pc := 51) (tgt := 102) ⟨by omega, by omega⟩ ⟨by omega, by omega⟩ dX10_begin_51 rfl (fun h6 => ?_) (fun h6 => ?_)
      · exact j_vret (pc := 102) ⟨rfl, rfl⟩ dX10_begin_102 rfl ⟨rfl, hIτ, hFτ, i0, i1, (by rw [show (41 : Int) = i from by omega]; exact i2), (by rw [show (41 : Int) = i from by omega]; exact i3), (by rw [show (41 : Int) = i from by omega]; exact i4), (by rw [show (41 : Int) = i from by omega]; exact i5), (by rw [show (41 : Int) = i from by omega]; exact i6)⟩
      · refine j_aload_n (pc := 54) dX10_begin_54 rfl rfl ?_
        refine j_getR (pc := 55) (r := w + 3) fl_X10_18 dX10_begin_55 hw.1.1 rfl ?_
        refine j_iload_n (pc := 58) dX10_begin_58 rfl rfl ?_
        refine j_iconst (pc := 59) dX10_begin_59 ?_
        refine j_iast (pc := 60) dX10_begin_60 hw.1.2.2.2.1 (by omega) (by omega) (by decide) (j_nm (fun σ7 (eσ7 : σ7 = tw_up τ (w + 3) (i.toNat) 1) => ?_))
        have hIσ7 : tw_I σ7 := tw_I_upg hIτ eσ7 hw.2.2.2.2.1 (show (0 : Int) ≤ 1 ∧ 1 ≤ 9 from by decide)
        have hFσ7 : tw_F (fun c j => (w + 1 ≤ c ∧ c < w + 9)) σ σ7 := tw_F_up hFτ eσ7 (show (w + 1 ≤ w + 3 ∧ w + 3 < w + 9) from ⟨Nat.add_le_add_left (by decide) _, (Nat.add_lt_add_left (by decide) _)⟩)
        refine j_aload_n (pc := 61) dX10_begin_61 rfl rfl ?_
        refine j_getR (pc := 62) (r := w + 4) fl_X10_21 dX10_begin_62 hw.1.1 rfl ?_
        refine j_iload_n (pc := 65) dX10_begin_65 rfl rfl ?_
        refine j_iconst (pc := 66) dX10_begin_66 ?_
        refine j_iast (pc := 67) dX10_begin_67 hw.1.2.2.2.2.1 (by omega) (by omega) (by decide) (j_nm (fun σ8 (eσ8 : σ8 = tw_up σ7 (w + 4) (i.toNat) 0) => ?_))
        have hIσ8 : tw_I σ8 := tw_I_upg hIσ7 eσ8 hw.2.2.2.2.2.1 (show (0 : Int) ≤ 0 ∧ 0 ≤ 10 from by decide)
        have hFσ8 : tw_F (fun c j => (w + 1 ≤ c ∧ c < w + 9)) σ σ8 := tw_F_up hFσ7 eσ8 (show (w + 1 ≤ w + 4 ∧ w + 4 < w + 9) from ⟨Nat.add_le_add_left (by decide) _, (Nat.add_lt_add_left (by decide) _)⟩)
        refine j_aload_n (pc := 68) dX10_begin_68 rfl rfl ?_
        refine j_getR (pc := 69) (r := w + 5) fl_X10_24 dX10_begin_69 hw.1.1 rfl ?_
        refine j_iload_n (pc := 72) dX10_begin_72 rfl rfl ?_
        refine j_iconst (pc := 73) dX10_begin_73 ?_
        refine j_iast (pc := 74) dX10_begin_74 hw.1.2.2.2.2.2.1 (by omega) (by omega) (by decide) (j_nm (fun σ9 (eσ9 : σ9 = tw_up σ8 (w + 5) (i.toNat) 0) => ?_))
        have hIσ9 : tw_I σ9 := tw_I_upg hIσ8 eσ9 hw.2.2.2.2.2.2.1 (show (0 : Int) ≤ 0 ∧ 0 ≤ 1 from by decide)
        have hFσ9 : tw_F (fun c j => (w + 1 ≤ c ∧ c < w + 9)) σ σ9 := tw_F_up hFσ8 eσ9 (show (w + 1 ≤ w + 5 ∧ w + 5 < w + 9) from ⟨Nat.add_le_add_left (by decide) _, (Nat.add_lt_add_left (by decide) _)⟩)
        refine j_aload_n (pc := 75) dX10_begin_75 rfl rfl ?_
        refine j_getR (pc := 76) (r := w + 6) fl_X10_27 dX10_begin_76 hw.1.1 rfl ?_
        refine j_iload_n (pc := 79) dX10_begin_79 rfl rfl ?_
        refine j_iconst (pc := 80) dX10_begin_80 ?_
        refine j_iast (pc := 81) dX10_begin_81 hw.1.2.2.2.2.2.2.1 (by omega) (by omega) (by decide) (j_nm (fun σ10 (eσ10 : σ10 = tw_up σ9 (w + 6) (i.toNat) 0) => ?_))
        have hIσ10 : tw_I σ10 := tw_I_upg hIσ9 eσ10 hw.2.2.2.2.2.2.2.1 (show (0 : Int) ≤ 0 ∧ 0 ≤ 1 from by decide)
        have hFσ10 : tw_F (fun c j => (w + 1 ≤ c ∧ c < w + 9)) σ σ10 := tw_F_up hFσ9 eσ10 (show (w + 1 ≤ w + 6 ∧ w + 6 < w + 9) from ⟨Nat.add_le_add_left (by decide) _, (Nat.add_lt_add_left (by decide) _)⟩)
        refine j_aload_n (pc := 82) dX10_begin_82 rfl rfl ?_
        refine j_getR (pc := 83) (r := w + 7) fl_X10_30 dX10_begin_83 hw.1.1 rfl ?_
        refine j_iload_n (pc := 86) dX10_begin_86 rfl rfl ?_
        refine j_iconst (pc := 87) dX10_begin_87 ?_
        refine j_iast (pc := 88) dX10_begin_88 hw.1.2.2.2.2.2.2.2.1 (by omega) (by omega) (by decide) (j_nm (fun σ11 (eσ11 : σ11 = tw_up σ10 (w + 7) (i.toNat) 5) => ?_))
        have hIσ11 : tw_I σ11 := tw_I_upg hIσ10 eσ11 hw.2.2.2.2.2.2.2.2.1 (show (0 : Int) ≤ 5 ∧ 5 ≤ 9 from by decide)
        have hFσ11 : tw_F (fun c j => (w + 1 ≤ c ∧ c < w + 9)) σ σ11 := tw_F_up hFσ10 eσ11 (show (w + 1 ≤ w + 7 ∧ w + 7 < w + 9) from ⟨Nat.add_le_add_left (by decide) _, (Nat.add_lt_add_left (by decide) _)⟩)
        refine j_aload_n (pc := 89) dX10_begin_89 rfl rfl ?_
        refine j_getR (pc := 90) (r := w + 8) fl_X10_33 dX10_begin_90 hw.1.1 rfl ?_
        refine j_iload_n (pc := 93) dX10_begin_93 rfl rfl ?_
        refine j_iconst (pc := 94) dX10_begin_94 ?_
        refine j_iast (pc := 95) dX10_begin_95 hw.1.2.2.2.2.2.2.2.2 (by omega) (by omega) (by decide) (j_nm (fun σ12 (eσ12 : σ12 = tw_up σ11 (w + 8) (i.toNat) 0) => ?_))
        have hIσ12 : tw_I σ12 := tw_I_upg hIσ11 eσ12 hw.2.2.2.2.2.2.2.2.2 (show (0 : Int) ≤ 0 ∧ 0 ≤ 40 from by decide)
        have hFσ12 : tw_F (fun c j => (w + 1 ≤ c ∧ c < w + 9)) σ σ12 := tw_F_up hFσ11 eσ12 (show (w + 1 ≤ w + 8 ∧ w + 8 < w + 9) from ⟨Nat.add_le_add_left (by decide) _, (Nat.add_lt_add_left (by decide) _)⟩)
        refine j_iinc (pc := 96) (i := 1) (n := 1) (ls' := [(0, vR w), (1, vI (i + 1))]) [1, 0] dX10_begin_96 rfl (Nat.le_of_ble_eq_true rfl) rfl rfl ?_
        refine j_goto (pc := 99) (tgt := 48) dX10_begin_99 rfl ?_
        refine j_ls (ls' := [(0, vR w), (1, vI (i + 1))]) [0, 1] rfl ?_
        exact ih.2.2 (i + 1) ⟨by omega, by omega⟩ σ12 hIσ12 hFσ12 (show Cn (w + 1) (fun j => (tw_first.getD j 0).toInt) σ12 9 from Cn_F (fun j => ((((((tw_ne1 eσ12 (by (first | decide | omega)))).trans (tw_ne1 eσ11 (by (first | decide | omega)))).trans (tw_ne1 eσ10 (by (first | decide | omega)))).trans (tw_ne1 eσ9 (by (first | decide | omega)))).trans (tw_ne1 eσ8 (by (first | decide | omega)))).trans (tw_ne1 eσ7 (by (first | decide | omega)))) i0) (show Cn (w + 2) (fun _ => 0) σ12 11 from (by first | exact Cn_F (fun j => ((((((tw_ne1 eσ12 (by (first | decide | omega)))).trans (tw_ne1 eσ11 (by (first | decide | omega)))).trans (tw_ne1 eσ10 (by (first | decide | omega)))).trans (tw_ne1 eσ9 (by (first | decide | omega)))).trans (tw_ne1 eσ8 (by (first | decide | omega)))).trans (tw_ne1 eσ7 (by (first | decide | omega)))) i1 | (rw [show (11 : Int) = i from by omega]; exact i1))) (show Cn (w + 3) (fun _ => 1) σ12 (i + 1) from (by first | exact Cn_0 | exact Cn_F (fun j => (tw_ne1 eσ12 (by (first | decide | omega))).trans ((tw_ne1 eσ11 (by (first | decide | omega))).trans ((tw_ne1 eσ10 (by (first | decide | omega))).trans ((tw_ne1 eσ9 (by (first | decide | omega))).trans (tw_ne1 eσ8 (by (first | decide | omega))))))) (Cn_up eσ7 (by omega) i2 rfl (by omega)))) (show Cn (w + 4) (fun _ => 0) σ12 (i + 1) from (by first | exact Cn_0 | exact Cn_F (fun j => (tw_ne1 eσ12 (by (first | decide | omega))).trans ((tw_ne1 eσ11 (by (first | decide | omega))).trans ((tw_ne1 eσ10 (by (first | decide | omega))).trans (tw_ne1 eσ9 (by (first | decide | omega)))))) (Cn_up eσ8 (by omega) (Cn_F (fun j => tw_ne1 eσ7 (by (first | decide | omega))) i3) rfl (by omega)))) (show Cn (w + 5) (fun _ => 0) σ12 (i + 1) from (by first | exact Cn_0 | exact Cn_F (fun j => (tw_ne1 eσ12 (by (first | decide | omega))).trans ((tw_ne1 eσ11 (by (first | decide | omega))).trans (tw_ne1 eσ10 (by (first | decide | omega))))) (Cn_up eσ9 (by omega) (Cn_F (fun j => (tw_ne1 eσ8 (by (first | decide | omega))).trans (tw_ne1 eσ7 (by (first | decide | omega)))) i4) rfl (by omega)))) (show Cn (w + 6) (fun _ => 0) σ12 (i + 1) from (by first | exact Cn_0 | exact Cn_F (fun j => (tw_ne1 eσ12 (by (first | decide | omega))).trans (tw_ne1 eσ11 (by (first | decide | omega)))) (Cn_up eσ10 (by omega) (Cn_F (fun j => (tw_ne1 eσ9 (by (first | decide | omega))).trans ((tw_ne1 eσ8 (by (first | decide | omega))).trans (tw_ne1 eσ7 (by (first | decide | omega))))) i5) rfl (by omega)))) (show Cn (w + 7) (fun _ => 5) σ12 (i + 1) from (by first | exact Cn_0 | exact Cn_F (fun j => tw_ne1 eσ12 (by (first | decide | omega))) (Cn_up eσ11 (by omega) (Cn_F (fun j => (tw_ne1 eσ10 (by (first | decide | omega))).trans ((tw_ne1 eσ9 (by (first | decide | omega))).trans ((tw_ne1 eσ8 (by (first | decide | omega))).trans (tw_ne1 eσ7 (by (first | decide | omega)))))) i6) rfl (by omega)))) (show (100 - (i + 1)).toNat < N_ from by omega)
set_option maxHeartbeats 4000000 in
set_option maxRecDepth 100000 in
theorem c_X10_begin {G : tw_G} (w : Nat) (hw : IsWall G w) (σ : tw_M) (hI : tw_I σ) : tw_C G yX10_begin cX10_begin 2 none 0 [vR w] σ (q_X10_begin w σ) := by
  refine tw_met [(0, vR w)] (by decide +kernel) rfl (Nat.le_of_ble_eq_true rfl) ?_
  refine j_iconst (pc := 0) dX10_begin_0 ?_
  refine j_istore_n (pc := 1) (i := 1) (ls' := [(0, vR w), (1, vI 0)]) [1, 0] dX10_begin_1 rfl (Nat.le_of_ble_eq_true rfl) rfl rfl ?_
  refine j_ls (ls' := [(0, vR w), (1, vI 0)]) [0, 1] rfl ?_
  exact (l_X10_begin w hw σ hI (((1000 - (0 : Int)).toNat) + 1)).1 0 (by (first | decide | exact ⟨by omega, by omega⟩)) σ hI (tw_F_rf) (show Cn (w + 1) (fun j => (tw_first.getD j 0).toInt) σ (0 : Int) from (by first | exact Cn_up _ (by omega) i0 rfl (by omega) | exact Cn_0)) (Nat.lt_succ_self _)
abbrev q_X10_copyOf (w : Nat) (v : Nat) (σ : tw_M) : Option tw_V → tw_M → Prop := fun z τ => z = none ∧ tw_I τ ∧ tw_F (fun c j => (w + 1 ≤ c ∧ c < w + 9)) σ τ ∧ (Cn (w + 1) (σ (v + 1)) τ 9) ∧ (Cn (w + 2) (σ (v + 2)) τ 11) ∧ (Cn (w + 3) (σ (v + 3)) τ 41) ∧ (Cn (w + 4) (σ (v + 4)) τ 41) ∧ (Cn (w + 5) (σ (v + 5)) τ 41) ∧ (Cn (w + 6) (σ (v + 6)) τ 41) ∧ (Cn (w + 7) (σ (v + 7)) τ 41) ∧ (Cn (w + 8) (hiL (σ (v + 5))) τ 41)
set_option maxHeartbeats 4000000 in
set_option maxRecDepth 100000 in
theorem l_X10_copyOf {G : tw_G} (w : Nat) (hw : IsWall G w) (v : Nat) (hv : IsWall G v) (σ : tw_M) (hI : tw_I σ) (hq0 : w + 9 ≤ v ∨ v + 9 ≤ w) : ∀ N_ : Nat, (∀ (i : Int) (hi : 0 ≤ i ∧ i ≤ 9) (τ : tw_M) (hIτ : tw_I τ) (hFτ : tw_F (fun c j => (w + 1 ≤ c ∧ c < w + 9)) σ τ) (i0 : Cn (w + 1) (σ (v + 1)) τ i) (hm : (1000 - i).toNat < N_), tw_J G (tw_mt RX10 cX10_copyOf 4 none 0) (tw_E G (q_X10_copyOf w v σ)) 2 [(0, vR w), (1, vR v), (2, vI i)] [] τ) ∧ (∀ (i : Int) (hi : 0 ≤ i ∧ i ≤ 11) (τ : tw_M) (hIτ : tw_I τ) (hFτ : tw_F (fun c j => (w + 1 ≤ c ∧ c < w + 9)) σ τ) (i0 : Cn (w + 1) (σ (v + 1)) τ 9) (i1 : Cn (w + 2) (σ (v + 2)) τ i) (hm : (500 - i).toNat < N_), tw_J G (tw_mt RX10 cX10_copyOf 4 none 0) (tw_E G (q_X10_copyOf w v σ)) 28 [(0, vR w), (1, vR v), (2, vI i)] [] τ) ∧ (∀ (g : Int) (hg : 0 ≤ g ∧ g ≤ 40) (i : Int) (hi : 0 ≤ i ∧ i ≤ 41) (τ : tw_M) (hIτ : tw_I τ) (hFτ : tw_F (fun c j => (w + 1 ≤ c ∧ c < w + 9)) σ τ) (i0 : Cn (w + 1) (σ (v + 1)) τ 9) (i1 : Cn (w + 2) (σ (v + 2)) τ 11) (i2 : Cn (w + 3) (σ (v + 3)) τ i) (i3 : Cn (w + 4) (σ (v + 4)) τ i) (i4 : Cn (w + 5) (σ (v + 5)) τ i) (i5 : Cn (w + 6) (σ (v + 6)) τ i) (i6 : Cn (w + 7) (σ (v + 7)) τ i) (i7 : Cn (w + 8) (hiL (σ (v + 5))) τ i) (i8 : g = hiL (σ (v + 5)) i.toNat) (hm : (100 - i).toNat < N_), tw_J G (tw_mt RX10 cX10_copyOf 4 none 0) (tw_E G (q_X10_copyOf w v σ)) 56 [(0, vR w), (1, vR v), (2, vI g), (3, vI i)] [] τ) := by
  intro N_
  induction N_ with
  | zero => exact ⟨fun i hi τ hIτ hFτ i0 hm => absurd hm (Nat.not_lt_zero _), fun i hi τ hIτ hFτ i0 i1 hm => absurd hm (Nat.not_lt_zero _), fun g hg i hi τ hIτ hFτ i0 i1 i2 i3 i4 i5 i6 i7 i8 hm => absurd hm (Nat.not_lt_zero _)⟩
  | succ N_ ih =>
    refine ⟨?_, ?_, ?_⟩
    · intro i hi τ hIτ hFτ i0 hm
      refine j_iload_n (pc := 2) dX10_copyOf_2 rfl rfl ?_
      refine j_bipush (pc := 3) dX10_copyOf_3 rfl ?_
      refine j_icmpR_ge (pc := 5) (tgt := 26) ⟨by omega, by omega⟩ ⟨by omega, by omega⟩ dX10_copyOf_5 rfl (fun h1 => ?_) (fun h1 => ?_)
      · refine j_iconst (pc := 26) dX10_copyOf_26 ?_
        refine j_istore_n (pc := 27) (i := 2) (ls' := [(0, vR w), (1, vR v), (2, vI 0)]) [1, 2, 0] dX10_copyOf_27 rfl (Nat.le_of_ble_eq_true rfl) rfl rfl ?_
        refine j_ls (ls' := [(0, vR w), (1, vR v), (2, vI 0)]) [0, 1, 2] rfl ?_
        exact ih.2.1 0 (by (first | decide | exact ⟨by omega, by omega⟩)) τ hIτ hFτ (show Cn (w + 1) (σ (v + 1)) τ 9 from (by first | exact Cn_F (fun j => rfl) i0 | (rw [show (9 : Int) = i from by omega]; exact i0))) (show Cn (w + 2) (σ (v + 2)) τ (0 : Int) from (by first | exact Cn_up _ (by omega) i1 (hFτ (v + 2) _ (show ¬ ((w + 1 ≤ v + 2 ∧ v + 2 < w + 9)) from by omega)) (by omega) | exact Cn_0)) (show (500 - (0 : Int)).toNat < N_ from by omega)
      · refine j_aload_n (pc := 8) dX10_copyOf_8 rfl rfl ?_
        refine j_getR (pc := 9) (r := w + 1) fl_X10_11 dX10_copyOf_9 hw.1.1 rfl ?_
        refine j_iload_n (pc := 12) dX10_copyOf_12 rfl rfl ?_
        refine j_aload_n (pc := 13) dX10_copyOf_13 rfl rfl ?_
        refine j_getR (pc := 14) (r := v + 1) fl_X10_11 dX10_copyOf_14 hv.1.1 rfl ?_
        refine j_iload_n (pc := 17) dX10_copyOf_17 rfl rfl ?_
        refine j_iald (pc := 18) dX10_copyOf_18 hv.1.2.1 (by omega) (by omega) (by decide) ?_
        have f2 : (-2147483648 : Int) ≤ τ (v + 1) (i.toNat) ∧ τ (v + 1) (i.toNat) ≤ 2147483647 := rb_D (tw_Ig hv.2.2.1 hIτ (i.toNat))
        refine j_iast (pc := 19) dX10_copyOf_19 hw.1.2.1 (by omega) (by omega) (by decide) (j_nm (fun σ3 (eσ3 : σ3 = tw_up τ (w + 1) (i.toNat) (τ (v + 1) (i.toNat))) => ?_))
        have hIσ3 : tw_I σ3 := tw_I_upg hIτ eσ3 hw.2.2.1 (tw_Ig hv.2.2.1 hIτ _)
        have hFσ3 : tw_F (fun c j => (w + 1 ≤ c ∧ c < w + 9)) σ σ3 := tw_F_up hFτ eσ3 (show (w + 1 ≤ w + 1 ∧ w + 1 < w + 9) from ⟨Nat.le_refl _, (Nat.add_lt_add_left (by decide) _)⟩)
        refine j_iinc (pc := 20) (i := 2) (n := 1) (ls' := [(0, vR w), (1, vR v), (2, vI (i + 1))]) [1, 2, 0] dX10_copyOf_20 rfl (Nat.le_of_ble_eq_true rfl) rfl rfl ?_
        refine j_goto (pc := 23) (tgt := 2) dX10_copyOf_23 rfl ?_
        refine j_ls (ls' := [(0, vR w), (1, vR v), (2, vI (i + 1))]) [0, 1, 2] rfl ?_
        exact ih.1 (i + 1) ⟨by omega, by omega⟩ σ3 hIσ3 hFσ3 (show Cn (w + 1) (σ (v + 1)) σ3 (i + 1) from (by first | exact Cn_up eσ3 (by omega) i0 (hFτ (v + 1) _ (show ¬ ((w + 1 ≤ v + 1 ∧ v + 1 < w + 9)) from by omega)) (by omega) | exact Cn_0)) (show (1000 - (i + 1)).toNat < N_ from by omega)
    · intro i hi τ hIτ hFτ i0 i1 hm
      refine j_iload_n (pc := 28) dX10_copyOf_28 rfl rfl ?_
      refine j_bipush (pc := 29) dX10_copyOf_29 rfl ?_
      refine j_icmpR_gt (pc := 31) (tgt := 52) ⟨by omega, by omega⟩ ⟨by omega, by omega⟩ dX10_copyOf_31 rfl (fun h4 => ?_) (fun h4 => ?_)
      · refine j_iconst (pc := 52) dX10_copyOf_52 ?_
        refine j_istore_n (pc := 53) (i := 2) (ls' := [(0, vR w), (1, vR v), (2, vI 0)]) [1, 2, 0] dX10_copyOf_53 rfl (Nat.le_of_ble_eq_true rfl) rfl rfl ?_
        refine j_iconst (pc := 54) dX10_copyOf_54 ?_
        refine j_istore_n (pc := 55) (i := 3) (ls' := [(0, vR w), (1, vR v), (2, vI 0), (3, vI 0)]) [1, 2, 3, 0] dX10_copyOf_55 rfl (Nat.le_of_ble_eq_true rfl) rfl rfl ?_
        refine j_ls (ls' := [(0, vR w), (1, vR v), (2, vI 0), (3, vI 0)]) [0, 1, 2, 3] rfl ?_
        exact ih.2.2 0 (by (first | decide | exact ⟨by omega, by omega⟩)) 0 (by (first | decide | exact ⟨by omega, by omega⟩)) τ hIτ hFτ (show Cn (w + 1) (σ (v + 1)) τ 9 from Cn_F (fun j => rfl) i0) (show Cn (w + 2) (σ (v + 2)) τ 11 from (by first | exact Cn_F (fun j => rfl) i1 | (rw [show (11 : Int) = i from by omega]; exact i1))) (show Cn (w + 3) (σ (v + 3)) τ (0 : Int) from (by first | exact Cn_0 | exact Cn_F (fun j => (tw_ne1 _ (by omega)).trans ((tw_ne1 _ (by omega)).trans ((tw_ne1 _ (by omega)).trans ((tw_ne1 _ (by omega)).trans (tw_ne1 _ (by omega)))))) (Cn_up _ (by omega) i2 (hFτ (v + 3) _ (show ¬ ((w + 1 ≤ v + 3 ∧ v + 3 < w + 9)) from by omega)) (by omega)))) (show Cn (w + 4) (σ (v + 4)) τ (0 : Int) from (by first | exact Cn_0 | exact Cn_F (fun j => (tw_ne1 _ (by omega)).trans ((tw_ne1 _ (by omega)).trans ((tw_ne1 _ (by omega)).trans (tw_ne1 _ (by omega))))) (Cn_up _ (by omega) (Cn_F (fun j => tw_ne1 _ (by omega)) i3) (hFτ (v + 4) _ (show ¬ ((w + 1 ≤ v + 4 ∧ v + 4 < w + 9)) from by omega)) (by omega)))) (show Cn (w + 5) (σ (v + 5)) τ (0 : Int) from (by first | exact Cn_0 | exact Cn_F (fun j => (tw_ne1 _ (by omega)).trans ((tw_ne1 _ (by omega)).trans (tw_ne1 _ (by omega)))) (Cn_up _ (by omega) (Cn_F (fun j => (tw_ne1 _ (by omega)).trans (tw_ne1 _ (by omega))) i4) (hFτ (v + 5) _ (show ¬ ((w + 1 ≤ v + 5 ∧ v + 5 < w + 9)) from by omega)) (by omega)))) (show Cn (w + 6) (σ (v + 6)) τ (0 : Int) from (by first | exact Cn_0 | exact Cn_F (fun j => (tw_ne1 _ (by omega)).trans (tw_ne1 _ (by omega))) (Cn_up _ (by omega) (Cn_F (fun j => (tw_ne1 _ (by omega)).trans ((tw_ne1 _ (by omega)).trans (tw_ne1 _ (by omega)))) i5) (hFτ (v + 6) _ (show ¬ ((w + 1 ≤ v + 6 ∧ v + 6 < w + 9)) from by omega)) (by omega)))) (show Cn (w + 7) (σ (v + 7)) τ (0 : Int) from (by first | exact Cn_0 | exact Cn_F (fun j => tw_ne1 _ (by omega)) (Cn_up _ (by omega) (Cn_F (fun j => (tw_ne1 _ (by omega)).trans ((tw_ne1 _ (by omega)).trans ((tw_ne1 _ (by omega)).trans (tw_ne1 _ (by omega))))) i6) (hFτ (v + 7) _ (show ¬ ((w + 1 ≤ v + 7 ∧ v + 7 < w + 9)) from by omega)) (by omega)))) (show Cn (w + 8) (hiL (σ (v + 5))) τ (0 : Int) from (by first | exact Cn_0 | exact Cn_up _ (by omega) (Cn_F (fun j => (tw_ne1 _ (by omega)).trans ((tw_ne1 _ (by omega)).trans ((tw_ne1 _ (by omega)).trans ((tw_ne1 _ (by omega)).trans (tw_ne1 _ (by omega)))))) i7) i8 (by omega))) (show (0 : Int) = hiL (σ (v + 5)) (0 : Int).toNat from (by first | rfl | (have s9 := hiL_s (L := σ (v + 5)) (h := i) (by omega); omega))) (show (100 - (0 : Int)).toNat < N_ from by omega)
      · refine j_aload_n (pc := 34) dX10_copyOf_34 rfl rfl ?_
        refine j_getR (pc := 35) (r := w + 2) fl_X10_15 dX10_copyOf_35 hw.1.1 rfl ?_
        refine j_iload_n (pc := 38) dX10_copyOf_38 rfl rfl ?_
        refine j_aload_n (pc := 39) dX10_copyOf_39 rfl rfl ?_
        refine j_getR (pc := 40) (r := v + 2) fl_X10_15 dX10_copyOf_40 hv.1.1 rfl ?_
        refine j_iload_n (pc := 43) dX10_copyOf_43 rfl rfl ?_
        refine j_iald (pc := 44) dX10_copyOf_44 hv.1.2.2.1 (by omega) (by omega) (by decide) ?_
        have f5 : (0 : Int) ≤ τ (v + 2) (i.toNat) ∧ τ (v + 2) (i.toNat) ≤ 5 := tw_Ig hv.2.2.2.1 hIτ (i.toNat)
        refine j_iast (pc := 45) dX10_copyOf_45 hw.1.2.2.1 (by omega) (by omega) (by decide) (j_nm (fun σ6 (eσ6 : σ6 = tw_up τ (w + 2) (i.toNat) (τ (v + 2) (i.toNat))) => ?_))
        have hIσ6 : tw_I σ6 := tw_I_upg hIτ eσ6 hw.2.2.2.1 (show (0 : Int) ≤ τ (v + 2) (i.toNat) ∧ τ (v + 2) (i.toNat) ≤ 5 from ⟨by omega, by omega⟩)
        have hFσ6 : tw_F (fun c j => (w + 1 ≤ c ∧ c < w + 9)) σ σ6 := tw_F_up hFτ eσ6 (show (w + 1 ≤ w + 2 ∧ w + 2 < w + 9) from ⟨Nat.add_le_add_left (by decide) _, (Nat.add_lt_add_left (by decide) _)⟩)
        refine j_iinc (pc := 46) (i := 2) (n := 1) (ls' := [(0, vR w), (1, vR v), (2, vI (i + 1))]) [1, 2, 0] dX10_copyOf_46 rfl (Nat.le_of_ble_eq_true rfl) rfl rfl ?_
        refine j_goto (pc := 49) (tgt := 28) dX10_copyOf_49 rfl ?_
        refine j_ls (ls' := [(0, vR w), (1, vR v), (2, vI (i + 1))]) [0, 1, 2] rfl ?_
        exact ih.2.1 (i + 1) ⟨by omega, by omega⟩ σ6 hIσ6 hFσ6 (show Cn (w + 1) (σ (v + 1)) σ6 9 from (by first | exact Cn_F (fun j => (tw_ne1 eσ6 (by (first | decide | omega)))) i0 | (rw [show (9 : Int) = i from by omega]; exact i0))) (show Cn (w + 2) (σ (v + 2)) σ6 (i + 1) from (by first | exact Cn_up eσ6 (by omega) i1 (hFτ (v + 2) _ (show ¬ ((w + 1 ≤ v + 2 ∧ v + 2 < w + 9)) from by omega)) (by omega) | exact Cn_0)) (show (500 - (i + 1)).toNat < N_ from by omega)
    · intro g hg i hi τ hIτ hFτ i0 i1 i2 i3 i4 i5 i6 i7 i8 hm
      have v5 : τ (v + 5) i.toNat = σ (v + 5) i.toNat := hFτ (v + 5) _ (show ¬ ((w + 1 ≤ v + 5 ∧ v + 5 < w + 9)) from by omega)
      refine j_iload_n (pc := 56) dX10_copyOf_56 rfl rfl ?_
      refine j_bipush (pc := 57) dX10_copyOf_57 rfl ?_
      refine j_icmpR_gt (pc := 59) (tgt := 146) ⟨by omega, by omega⟩ ⟨by omega, by omega⟩ dX10_copyOf_59 rfl (fun h7 => ?_) (fun h7 => ?_)
      · exact j_vret (pc := 146) ⟨rfl, rfl⟩ dX10_copyOf_146 rfl ⟨rfl, hIτ, hFτ, i0, i1, (by rw [show (41 : Int) = i from by omega]; exact i2), (by rw [show (41 : Int) = i from by omega]; exact i3), (by rw [show (41 : Int) = i from by omega]; exact i4), (by rw [show (41 : Int) = i from by omega]; exact i5), (by rw [show (41 : Int) = i from by omega]; exact i6), (by rw [show (41 : Int) = i from by omega]; exact i7)⟩
      · refine j_aload_n (pc := 62) dX10_copyOf_62 rfl rfl ?_
        refine j_getR (pc := 63) (r := w + 3) fl_X10_18 dX10_copyOf_63 hw.1.1 rfl ?_
        refine j_iload_n (pc := 66) dX10_copyOf_66 rfl rfl ?_
        refine j_aload_n (pc := 67) dX10_copyOf_67 rfl rfl ?_
        refine j_getR (pc := 68) (r := v + 3) fl_X10_18 dX10_copyOf_68 hv.1.1 rfl ?_
        refine j_iload_n (pc := 71) dX10_copyOf_71 rfl rfl ?_
        refine j_iald (pc := 72) dX10_copyOf_72 hv.1.2.2.2.1 (by omega) (by omega) (by decide) ?_
        have f8 : (0 : Int) ≤ τ (v + 3) (i.toNat) ∧ τ (v + 3) (i.toNat) ≤ 9 := tw_Ig hv.2.2.2.2.1 hIτ (i.toNat)
        refine j_iast (pc := 73) dX10_copyOf_73 hw.1.2.2.2.1 (by omega) (by omega) (by decide) (j_nm (fun σ9 (eσ9 : σ9 = tw_up τ (w + 3) (i.toNat) (τ (v + 3) (i.toNat))) => ?_))
        have hIσ9 : tw_I σ9 := tw_I_upg hIτ eσ9 hw.2.2.2.2.1 (show (0 : Int) ≤ τ (v + 3) (i.toNat) ∧ τ (v + 3) (i.toNat) ≤ 9 from ⟨by omega, by omega⟩)
        have hFσ9 : tw_F (fun c j => (w + 1 ≤ c ∧ c < w + 9)) σ σ9 := tw_F_up hFτ eσ9 (show (w + 1 ≤ w + 3 ∧ w + 3 < w + 9) from ⟨Nat.add_le_add_left (by decide) _, (Nat.add_lt_add_left (by decide) _)⟩)
        refine j_aload_n (pc := 74) dX10_copyOf_74 rfl rfl ?_
        refine j_getR (pc := 75) (r := w + 4) fl_X10_21 dX10_copyOf_75 hw.1.1 rfl ?_
        refine j_iload_n (pc := 78) dX10_copyOf_78 rfl rfl ?_
        refine j_aload_n (pc := 79) dX10_copyOf_79 rfl rfl ?_
        refine j_getR (pc := 80) (r := v + 4) fl_X10_21 dX10_copyOf_80 hv.1.1 rfl ?_
        refine j_iload_n (pc := 83) dX10_copyOf_83 rfl rfl ?_
        refine j_iald (pc := 84) dX10_copyOf_84 hv.1.2.2.2.2.1 (by omega) (by omega) (by decide) ?_
        refine j_topV (show σ9 (v + 4) (i.toNat) = τ (v + 4) (i.toNat) from (tw_ne1 eσ9 (by (first | decide | omega)))) ?_
        have f10 : (0 : Int) ≤ τ (v + 4) (i.toNat) ∧ τ (v + 4) (i.toNat) ≤ 10 := tw_Ig hv.2.2.2.2.2.1 hIτ (i.toNat)
        refine j_iast (pc := 85) dX10_copyOf_85 hw.1.2.2.2.2.1 (by omega) (by omega) (by decide) (j_nm (fun σ11 (eσ11 : σ11 = tw_up σ9 (w + 4) (i.toNat) (τ (v + 4) (i.toNat))) => ?_))
        have hIσ11 : tw_I σ11 := tw_I_upg hIσ9 eσ11 hw.2.2.2.2.2.1 (show (0 : Int) ≤ τ (v + 4) (i.toNat) ∧ τ (v + 4) (i.toNat) ≤ 10 from ⟨by omega, by omega⟩)
        have hFσ11 : tw_F (fun c j => (w + 1 ≤ c ∧ c < w + 9)) σ σ11 := tw_F_up hFσ9 eσ11 (show (w + 1 ≤ w + 4 ∧ w + 4 < w + 9) from ⟨Nat.add_le_add_left (by decide) _, (Nat.add_lt_add_left (by decide) _)⟩)
        refine j_aload_n (pc := 86) dX10_copyOf_86 rfl rfl ?_
        refine j_getR (pc := 87) (r := w + 5) fl_X10_24 dX10_copyOf_87 hw.1.1 rfl ?_
        refine j_iload_n (pc := 90) dX10_copyOf_90 rfl rfl ?_
        refine j_aload_n (pc := 91) dX10_copyOf_91 rfl rfl ?_
        refine j_getR (pc := 92) (r := v + 5) fl_X10_24 dX10_copyOf_92 hv.1.1 rfl ?_
        refine j_iload_n (pc := 95) dX10_copyOf_95 rfl rfl ?_
        refine j_iald (pc := 96) dX10_copyOf_96 hv.1.2.2.2.2.2.1 (by omega) (by omega) (by decide) ?_
        refine j_topV (show σ11 (v + 5) (i.toNat) = τ (v + 5) (i.toNat) from ((tw_ne1 eσ11 (by (first | decide | omega)))).trans (tw_ne1 eσ9 (by (first | decide | omega)))) ?_
        have f12 : (0 : Int) ≤ τ (v + 5) (i.toNat) ∧ τ (v + 5) (i.toNat) ≤ 1 := tw_Ig hv.2.2.2.2.2.2.1 hIτ (i.toNat)
        refine j_iast (pc := 97) dX10_copyOf_97 hw.1.2.2.2.2.2.1 (by omega) (by omega) (by decide) (j_nm (fun σ13 (eσ13 : σ13 = tw_up σ11 (w + 5) (i.toNat) (τ (v + 5) (i.toNat))) => ?_))
        have hIσ13 : tw_I σ13 := tw_I_upg hIσ11 eσ13 hw.2.2.2.2.2.2.1 (show (0 : Int) ≤ τ (v + 5) (i.toNat) ∧ τ (v + 5) (i.toNat) ≤ 1 from ⟨by omega, by omega⟩)
        have hFσ13 : tw_F (fun c j => (w + 1 ≤ c ∧ c < w + 9)) σ σ13 := tw_F_up hFσ11 eσ13 (show (w + 1 ≤ w + 5 ∧ w + 5 < w + 9) from ⟨Nat.add_le_add_left (by decide) _, (Nat.add_lt_add_left (by decide) _)⟩)
        refine j_aload_n (pc := 98) dX10_copyOf_98 rfl rfl ?_
        refine j_getR (pc := 99) (r := w + 6) fl_X10_27 dX10_copyOf_99 hw.1.1 rfl ?_
        refine j_iload_n (pc := 102) dX10_copyOf_102 rfl rfl ?_
        refine j_aload_n (pc := 103) dX10_copyOf_103 rfl rfl ?_
        refine j_getR (pc := 104) (r := v + 6) fl_X10_27 dX10_copyOf_104 hv.1.1 rfl ?_
        refine j_iload_n (pc := 107) dX10_copyOf_107 rfl rfl ?_
        refine j_iald (pc := 108) dX10_copyOf_108 hv.1.2.2.2.2.2.2.1 (by omega) (by omega) (by decide) ?_
        refine j_topV (show σ13 (v + 6) (i.toNat) = τ (v + 6) (i.toNat) from (((tw_ne1 eσ13 (by (first | decide | omega)))).trans (tw_ne1 eσ11 (by (first | decide | omega)))).trans (tw_ne1 eσ9 (by (first | decide | omega)))) ?_
        have f14 : (0 : Int) ≤ τ (v + 6) (i.toNat) ∧ τ (v + 6) (i.toNat) ≤ 1 := tw_Ig hv.2.2.2.2.2.2.2.1 hIτ (i.toNat)
        refine j_iast (pc := 109) dX10_copyOf_109 hw.1.2.2.2.2.2.2.1 (by omega) (by omega) (by decide) (j_nm (fun σ15 (eσ15 : σ15 = tw_up σ13 (w + 6) (i.toNat) (τ (v + 6) (i.toNat))) => ?_))
        have hIσ15 : tw_I σ15 := tw_I_upg hIσ13 eσ15 hw.2.2.2.2.2.2.2.1 (show (0 : Int) ≤ τ (v + 6) (i.toNat) ∧ τ (v + 6) (i.toNat) ≤ 1 from ⟨by omega, by omega⟩)
        have hFσ15 : tw_F (fun c j => (w + 1 ≤ c ∧ c < w + 9)) σ σ15 := tw_F_up hFσ13 eσ15 (show (w + 1 ≤ w + 6 ∧ w + 6 < w + 9) from ⟨Nat.add_le_add_left (by decide) _, (Nat.add_lt_add_left (by decide) _)⟩)
        refine j_aload_n (pc := 110) dX10_copyOf_110 rfl rfl ?_
        refine j_getR (pc := 111) (r := w + 7) fl_X10_30 dX10_copyOf_111 hw.1.1 rfl ?_
        refine j_iload_n (pc := 114) dX10_copyOf_114 rfl rfl ?_
        refine j_aload_n (pc := 115) dX10_copyOf_115 rfl rfl ?_
        refine j_getR (pc := 116) (r := v + 7) fl_X10_30 dX10_copyOf_116 hv.1.1 rfl ?_
        refine j_iload_n (pc := 119) dX10_copyOf_119 rfl rfl ?_
        refine j_iald (pc := 120) dX10_copyOf_120 hv.1.2.2.2.2.2.2.2.1 (by omega) (by omega) (by decide) ?_
        refine j_topV (show σ15 (v + 7) (i.toNat) = τ (v + 7) (i.toNat) from ((((tw_ne1 eσ15 (by (first | decide | omega)))).trans (tw_ne1 eσ13 (by (first | decide | omega)))).trans (tw_ne1 eσ11 (by (first | decide | omega)))).trans (tw_ne1 eσ9 (by (first | decide | omega)))) ?_
        have f16 : (0 : Int) ≤ τ (v + 7) (i.toNat) ∧ τ (v + 7) (i.toNat) ≤ 9 := tw_Ig hv.2.2.2.2.2.2.2.2.1 hIτ (i.toNat)
        refine j_iast (pc := 121) dX10_copyOf_121 hw.1.2.2.2.2.2.2.2.1 (by omega) (by omega) (by decide) (j_nm (fun σ17 (eσ17 : σ17 = tw_up σ15 (w + 7) (i.toNat) (τ (v + 7) (i.toNat))) => ?_))
        have hIσ17 : tw_I σ17 := tw_I_upg hIσ15 eσ17 hw.2.2.2.2.2.2.2.2.1 (show (0 : Int) ≤ τ (v + 7) (i.toNat) ∧ τ (v + 7) (i.toNat) ≤ 9 from ⟨by omega, by omega⟩)
        have hFσ17 : tw_F (fun c j => (w + 1 ≤ c ∧ c < w + 9)) σ σ17 := tw_F_up hFσ15 eσ17 (show (w + 1 ≤ w + 7 ∧ w + 7 < w + 9) from ⟨Nat.add_le_add_left (by decide) _, (Nat.add_lt_add_left (by decide) _)⟩)
        refine j_aload_n (pc := 122) dX10_copyOf_122 rfl rfl ?_
        refine j_getR (pc := 123) (r := w + 8) fl_X10_33 dX10_copyOf_123 hw.1.1 rfl ?_
        refine j_iload_n (pc := 126) dX10_copyOf_126 rfl rfl ?_
        refine j_iload_n (pc := 127) dX10_copyOf_127 rfl rfl ?_
        refine j_iast (pc := 128) dX10_copyOf_128 hw.1.2.2.2.2.2.2.2.2 (by omega) (by omega) (by decide) (j_nm (fun σ18 (eσ18 : σ18 = tw_up σ17 (w + 8) (i.toNat) g) => ?_))
        have hIσ18 : tw_I σ18 := tw_I_upg hIσ17 eσ18 hw.2.2.2.2.2.2.2.2.2 (show (0 : Int) ≤ g ∧ g ≤ 40 from ⟨by omega, by omega⟩)
        have hFσ18 : tw_F (fun c j => (w + 1 ≤ c ∧ c < w + 9)) σ σ18 := tw_F_up hFσ17 eσ18 (show (w + 1 ≤ w + 8 ∧ w + 8 < w + 9) from ⟨Nat.add_le_add_left (by decide) _, (Nat.add_lt_add_left (by decide) _)⟩)
        refine j_aload_n (pc := 129) dX10_copyOf_129 rfl rfl ?_
        refine j_getR (pc := 130) (r := w + 5) fl_X10_24 dX10_copyOf_130 hw.1.1 rfl ?_
        refine j_iload_n (pc := 133) dX10_copyOf_133 rfl rfl ?_
        refine j_iald (pc := 134) dX10_copyOf_134 hw.1.2.2.2.2.2.1 (by omega) (by omega) (by decide) ?_
        refine j_topV (show σ18 (w + 5) (i.toNat) = τ (v + 5) (i.toNat) from ((((tw_ne1 eσ18 (by (first | decide | omega)))).trans (tw_ne1 eσ17 (by (first | decide | omega)))).trans (tw_ne1 eσ15 (by (first | decide | omega)))).trans (tw_eq1 eσ13)) ?_
        refine j_ifR_eq (pc := 135) (tgt := 140) ⟨by omega, by omega⟩ dX10_copyOf_135 rfl (fun h19 => ?_) (fun h19 => ?_)
        · refine j_iinc (pc := 140) (i := 3) (n := 1) (ls' := [(0, vR w), (1, vR v), (2, vI g), (3, vI (i + 1))]) [1, 2, 3, 0] dX10_copyOf_140 rfl (Nat.le_of_ble_eq_true rfl) rfl rfl ?_
          refine j_goto (pc := 143) (tgt := 56) dX10_copyOf_143 rfl ?_
          refine j_ls (ls' := [(0, vR w), (1, vR v), (2, vI g), (3, vI (i + 1))]) [0, 1, 2, 3] rfl ?_
          exact ih.2.2 g ⟨by omega, by omega⟩ (i + 1) ⟨by omega, by omega⟩ σ18 hIσ18 hFσ18 (show Cn (w + 1) (σ (v + 1)) σ18 9 from Cn_F (fun j => ((((((tw_ne1 eσ18 (by (first | decide | omega)))).trans (tw_ne1 eσ17 (by (first | decide | omega)))).trans (tw_ne1 eσ15 (by (first | decide | omega)))).trans (tw_ne1 eσ13 (by (first | decide | omega)))).trans (tw_ne1 eσ11 (by (first | decide | omega)))).trans (tw_ne1 eσ9 (by (first | decide | omega)))) i0) (show Cn (w + 2) (σ (v + 2)) σ18 11 from (by first | exact Cn_F (fun j => ((((((tw_ne1 eσ18 (by (first | decide | omega)))).trans (tw_ne1 eσ17 (by (first | decide | omega)))).trans (tw_ne1 eσ15 (by (first | decide | omega)))).trans (tw_ne1 eσ13 (by (first | decide | omega)))).trans (tw_ne1 eσ11 (by (first | decide | omega)))).trans (tw_ne1 eσ9 (by (first | decide | omega)))) i1 | (rw [show (11 : Int) = i from by omega]; exact i1))) (show Cn (w + 3) (σ (v + 3)) σ18 (i + 1) from (by first | exact Cn_0 | exact Cn_F (fun j => (tw_ne1 eσ18 (by (first | decide | omega))).trans ((tw_ne1 eσ17 (by (first | decide | omega))).trans ((tw_ne1 eσ15 (by (first | decide | omega))).trans ((tw_ne1 eσ13 (by (first | decide | omega))).trans (tw_ne1 eσ11 (by (first | decide | omega))))))) (Cn_up eσ9 (by omega) i2 (hFτ (v + 3) _ (show ¬ ((w + 1 ≤ v + 3 ∧ v + 3 < w + 9)) from by omega)) (by omega)))) (show Cn (w + 4) (σ (v + 4)) σ18 (i + 1) from (by first | exact Cn_0 | exact Cn_F (fun j => (tw_ne1 eσ18 (by (first | decide | omega))).trans ((tw_ne1 eσ17 (by (first | decide | omega))).trans ((tw_ne1 eσ15 (by (first | decide | omega))).trans (tw_ne1 eσ13 (by (first | decide | omega)))))) (Cn_up eσ11 (by omega) (Cn_F (fun j => tw_ne1 eσ9 (by (first | decide | omega))) i3) (hFτ (v + 4) _ (show ¬ ((w + 1 ≤ v + 4 ∧ v + 4 < w + 9)) from by omega)) (by omega)))) (show Cn (w + 5) (σ (v + 5)) σ18 (i + 1) from (by first | exact Cn_0 | exact Cn_F (fun j => (tw_ne1 eσ18 (by (first | decide | omega))).trans ((tw_ne1 eσ17 (by (first | decide | omega))).trans (tw_ne1 eσ15 (by (first | decide | omega))))) (Cn_up eσ13 (by omega) (Cn_F (fun j => (tw_ne1 eσ11 (by (first | decide | omega))).trans (tw_ne1 eσ9 (by (first | decide | omega)))) i4) (hFτ (v + 5) _ (show ¬ ((w + 1 ≤ v + 5 ∧ v + 5 < w + 9)) from by omega)) (by omega)))) (show Cn (w + 6) (σ (v + 6)) σ18 (i + 1) from (by first | exact Cn_0 | exact Cn_F (fun j => (tw_ne1 eσ18 (by (first | decide | omega))).trans (tw_ne1 eσ17 (by (first | decide | omega)))) (Cn_up eσ15 (by omega) (Cn_F (fun j => (tw_ne1 eσ13 (by (first | decide | omega))).trans ((tw_ne1 eσ11 (by (first | decide | omega))).trans (tw_ne1 eσ9 (by (first | decide | omega))))) i5) (hFτ (v + 6) _ (show ¬ ((w + 1 ≤ v + 6 ∧ v + 6 < w + 9)) from by omega)) (by omega)))) (show Cn (w + 7) (σ (v + 7)) σ18 (i + 1) from (by first | exact Cn_0 | exact Cn_F (fun j => tw_ne1 eσ18 (by (first | decide | omega))) (Cn_up eσ17 (by omega) (Cn_F (fun j => (tw_ne1 eσ15 (by (first | decide | omega))).trans ((tw_ne1 eσ13 (by (first | decide | omega))).trans ((tw_ne1 eσ11 (by (first | decide | omega))).trans (tw_ne1 eσ9 (by (first | decide | omega)))))) i6) (hFτ (v + 7) _ (show ¬ ((w + 1 ≤ v + 7 ∧ v + 7 < w + 9)) from by omega)) (by omega)))) (show Cn (w + 8) (hiL (σ (v + 5))) σ18 (i + 1) from (by first | exact Cn_0 | exact Cn_up eσ18 (by omega) (Cn_F (fun j => (tw_ne1 eσ17 (by (first | decide | omega))).trans ((tw_ne1 eσ15 (by (first | decide | omega))).trans ((tw_ne1 eσ13 (by (first | decide | omega))).trans ((tw_ne1 eσ11 (by (first | decide | omega))).trans (tw_ne1 eσ9 (by (first | decide | omega))))))) i7) i8 (by omega))) (show g = hiL (σ (v + 5)) (i + 1).toNat from (by first | rfl | (have s9 := hiL_s (L := σ (v + 5)) (h := i) (by omega); omega))) (show (100 - (i + 1)).toNat < N_ from by omega)
        · refine j_iload_n (pc := 138) dX10_copyOf_138 rfl rfl ?_
          refine j_istore_n (pc := 139) (i := 2) (ls' := [(0, vR w), (1, vR v), (2, vI i), (3, vI i)]) [1, 2, 0, 3] dX10_copyOf_139 rfl (Nat.le_of_ble_eq_true rfl) rfl rfl ?_
          refine j_iinc (pc := 140) (i := 3) (n := 1) (ls' := [(0, vR w), (1, vR v), (2, vI i), (3, vI (i + 1))]) [1, 2, 3, 0] dX10_copyOf_140 rfl (Nat.le_of_ble_eq_true rfl) rfl rfl ?_
          refine j_goto (pc := 143) (tgt := 56) dX10_copyOf_143 rfl ?_
          refine j_ls (ls' := [(0, vR w), (1, vR v), (2, vI i), (3, vI (i + 1))]) [0, 1, 2, 3] rfl ?_
          exact ih.2.2 i ⟨by omega, by omega⟩ (i + 1) ⟨by omega, by omega⟩ σ18 hIσ18 hFσ18 (show Cn (w + 1) (σ (v + 1)) σ18 9 from Cn_F (fun j => ((((((tw_ne1 eσ18 (by (first | decide | omega)))).trans (tw_ne1 eσ17 (by (first | decide | omega)))).trans (tw_ne1 eσ15 (by (first | decide | omega)))).trans (tw_ne1 eσ13 (by (first | decide | omega)))).trans (tw_ne1 eσ11 (by (first | decide | omega)))).trans (tw_ne1 eσ9 (by (first | decide | omega)))) i0) (show Cn (w + 2) (σ (v + 2)) σ18 11 from (by first | exact Cn_F (fun j => ((((((tw_ne1 eσ18 (by (first | decide | omega)))).trans (tw_ne1 eσ17 (by (first | decide | omega)))).trans (tw_ne1 eσ15 (by (first | decide | omega)))).trans (tw_ne1 eσ13 (by (first | decide | omega)))).trans (tw_ne1 eσ11 (by (first | decide | omega)))).trans (tw_ne1 eσ9 (by (first | decide | omega)))) i1 | (rw [show (11 : Int) = i from by omega]; exact i1))) (show Cn (w + 3) (σ (v + 3)) σ18 (i + 1) from (by first | exact Cn_0 | exact Cn_F (fun j => (tw_ne1 eσ18 (by (first | decide | omega))).trans ((tw_ne1 eσ17 (by (first | decide | omega))).trans ((tw_ne1 eσ15 (by (first | decide | omega))).trans ((tw_ne1 eσ13 (by (first | decide | omega))).trans (tw_ne1 eσ11 (by (first | decide | omega))))))) (Cn_up eσ9 (by omega) i2 (hFτ (v + 3) _ (show ¬ ((w + 1 ≤ v + 3 ∧ v + 3 < w + 9)) from by omega)) (by omega)))) (show Cn (w + 4) (σ (v + 4)) σ18 (i + 1) from (by first | exact Cn_0 | exact Cn_F (fun j => (tw_ne1 eσ18 (by (first | decide | omega))).trans ((tw_ne1 eσ17 (by (first | decide | omega))).trans ((tw_ne1 eσ15 (by (first | decide | omega))).trans (tw_ne1 eσ13 (by (first | decide | omega)))))) (Cn_up eσ11 (by omega) (Cn_F (fun j => tw_ne1 eσ9 (by (first | decide | omega))) i3) (hFτ (v + 4) _ (show ¬ ((w + 1 ≤ v + 4 ∧ v + 4 < w + 9)) from by omega)) (by omega)))) (show Cn (w + 5) (σ (v + 5)) σ18 (i + 1) from (by first | exact Cn_0 | exact Cn_F (fun j => (tw_ne1 eσ18 (by (first | decide | omega))).trans ((tw_ne1 eσ17 (by (first | decide | omega))).trans (tw_ne1 eσ15 (by (first | decide | omega))))) (Cn_up eσ13 (by omega) (Cn_F (fun j => (tw_ne1 eσ11 (by (first | decide | omega))).trans (tw_ne1 eσ9 (by (first | decide | omega)))) i4) (hFτ (v + 5) _ (show ¬ ((w + 1 ≤ v + 5 ∧ v + 5 < w + 9)) from by omega)) (by omega)))) (show Cn (w + 6) (σ (v + 6)) σ18 (i + 1) from (by first | exact Cn_0 | exact Cn_F (fun j => (tw_ne1 eσ18 (by (first | decide | omega))).trans (tw_ne1 eσ17 (by (first | decide | omega)))) (Cn_up eσ15 (by omega) (Cn_F (fun j => (tw_ne1 eσ13 (by (first | decide | omega))).trans ((tw_ne1 eσ11 (by (first | decide | omega))).trans (tw_ne1 eσ9 (by (first | decide | omega))))) i5) (hFτ (v + 6) _ (show ¬ ((w + 1 ≤ v + 6 ∧ v + 6 < w + 9)) from by omega)) (by omega)))) (show Cn (w + 7) (σ (v + 7)) σ18 (i + 1) from (by first | exact Cn_0 | exact Cn_F (fun j => tw_ne1 eσ18 (by (first | decide | omega))) (Cn_up eσ17 (by omega) (Cn_F (fun j => (tw_ne1 eσ15 (by (first | decide | omega))).trans ((tw_ne1 eσ13 (by (first | decide | omega))).trans ((tw_ne1 eσ11 (by (first | decide | omega))).trans (tw_ne1 eσ9 (by (first | decide | omega)))))) i6) (hFτ (v + 7) _ (show ¬ ((w + 1 ≤ v + 7 ∧ v + 7 < w + 9)) from by omega)) (by omega)))) (show Cn (w + 8) (hiL (σ (v + 5))) σ18 (i + 1) from (by first | exact Cn_0 | exact Cn_up eσ18 (by omega) (Cn_F (fun j => (tw_ne1 eσ17 (by (first | decide | omega))).trans ((tw_ne1 eσ15 (by (first | decide | omega))).trans ((tw_ne1 eσ13 (by (first | decide | omega))).trans ((tw_ne1 eσ11 (by (first | decide | omega))).trans (tw_ne1 eσ9 (by (first | decide | omega))))))) i7) i8 (by omega))) (show i = hiL (σ (v + 5)) (i + 1).toNat from (by first | rfl | (have s9 := hiL_s (L := σ (v + 5)) (h := i) (by omega); omega))) (show (100 - (i + 1)).toNat < N_ from by omega)
set_option maxHeartbeats 4000000 in
set_option maxRecDepth 100000 in
theorem c_X10_copyOf {G : tw_G} (w : Nat) (hw : IsWall G w) (v : Nat) (hv : IsWall G v) (σ : tw_M) (hI : tw_I σ) (hq0 : w + 9 ≤ v ∨ v + 9 ≤ w) : tw_C G yX10_copyOf cX10_copyOf 4 none 0 [vR w, vR v] σ (q_X10_copyOf w v σ) := by
  refine tw_met [(0, vR w), (1, vR v)] (by decide +kernel) rfl (Nat.le_of_ble_eq_true rfl) ?_
  refine j_iconst (pc := 0) dX10_copyOf_0 ?_
  refine j_istore_n (pc := 1) (i := 2) (ls' := [(0, vR w), (1, vR v), (2, vI 0)]) [1, 2, 0] dX10_copyOf_1 rfl (Nat.le_of_ble_eq_true rfl) rfl rfl ?_
  refine j_ls (ls' := [(0, vR w), (1, vR v), (2, vI 0)]) [0, 1, 2] rfl ?_
  exact (l_X10_copyOf w hw v hv σ hI hq0 (((1000 - (0 : Int)).toNat) + 1)).1 0 (by (first | decide | exact ⟨by omega, by omega⟩)) σ hI (tw_F_rf) (show Cn (w + 1) (σ (v + 1)) σ (0 : Int) from (by first | exact Cn_up _ (by omega) i0 (hFτ (v + 1) _ (show ¬ ((w + 1 ≤ v + 1 ∧ v + 1 < w + 9)) from by omega)) (by omega) | exact Cn_0)) (Nat.lt_succ_self _)
abbrev q_X10_top (w : Nat) (σ : tw_M) : Option tw_V → tw_M → Prop := fun z τ => ∃ r : Int, z = some (vI r) ∧ (1 ≤ r ∧ r ≤ 40) ∧ σ = τ ∧ (r = σ (w + 1) 0)
set_option maxHeartbeats 4000000 in
set_option maxRecDepth 100000 in
theorem c_X10_top {G : tw_G} (w : Nat) (hw : IsWall G w) (σ : tw_M) (hI : tw_I σ) : tw_C G yX10_top cX10_top 1 (some .int) 0 [vR w] σ (q_X10_top w σ) := by
  refine tw_met [(0, vR w)] (by decide +kernel) rfl (Nat.le_of_ble_eq_true rfl) ?_
  refine j_aload_n (pc := 0) dX10_top_0 rfl rfl ?_
  refine j_getR (pc := 1) (r := w + 1) fl_X10_11 dX10_top_1 hw.1.1 rfl ?_
  refine j_iconst (pc := 4) dX10_top_4 ?_
  refine j_iald (pc := 5) dX10_top_5 hw.1.2.1 (by omega) (by omega) (by decide) ?_
  refine j_topV (show σ (w + 1) (Int.toNat 0) = σ (w + 1) 0 from rfl) ?_
  have f1 : (1 : Int) ≤ σ (w + 1) 0 ∧ σ (w + 1) 0 ≤ 40 := tw_Ig hw.2.2.1 hI 0
  exact j_iret (pc := 6) ⟨rfl, rfl⟩ dX10_top_6 rfl ⟨_, rfl, ⟨by omega, by omega⟩, rfl, by omega⟩
abbrev q_X10_isFoot (w : Nat) (h : Int) (σ : tw_M) : Option tw_V → tw_M → Prop := fun z τ => ∃ r : Int, z = some (vI r) ∧ (0 ≤ r ∧ r ≤ 1) ∧ σ = τ ∧ ((r = 1 ∧ 1 ≤ h ∧ h ≤ σ (w + 1) 0 ∧ h ≤ 40) ∨ (r = 0 ∧ ¬ (1 ≤ h ∧ h ≤ σ (w + 1) 0)))
set_option maxHeartbeats 4000000 in
set_option maxRecDepth 100000 in
theorem c_X10_isFoot {G : tw_G} (w : Nat) (hw : IsWall G w) (h : Int) (hh : -2147483648 ≤ h ∧ h ≤ 2147483647) (σ : tw_M) (hI : tw_I σ) : tw_C G yX10_isFoot cX10_isFoot 2 (some .boolean) 0 [vR w, vI h] σ (q_X10_isFoot w h σ) := by
  refine tw_met [(0, vR w), (1, vI h)] (by decide +kernel) rfl (Nat.le_of_ble_eq_true rfl) ?_
  refine j_iload_n (pc := 0) dX10_isFoot_0 rfl rfl ?_
  refine j_iconst (pc := 1) dX10_isFoot_1 ?_
  refine j_icmpR_lt (pc := 2) (tgt := 19) ⟨by omega, by omega⟩ ⟨by omega, by omega⟩ dX10_isFoot_2 rfl (fun h1 => ?_) (fun h1 => ?_)
  · refine j_iconst (pc := 19) dX10_isFoot_19 ?_
    exact j_zret (pc := 20) ⟨rfl, rfl⟩ dX10_isFoot_20 rfl (nar_bool (by omega) (by omega)) ⟨_, rfl, ⟨by omega, by omega⟩, rfl, by omega⟩
  · refine j_iload_n (pc := 5) dX10_isFoot_5 rfl rfl ?_
    refine j_aload_n (pc := 6) dX10_isFoot_6 rfl rfl ?_
    refine j_getR (pc := 7) (r := w + 1) fl_X10_11 dX10_isFoot_7 hw.1.1 rfl ?_
    refine j_iconst (pc := 10) dX10_isFoot_10 ?_
    refine j_iald (pc := 11) dX10_isFoot_11 hw.1.2.1 (by omega) (by omega) (by decide) ?_
    refine j_topV (show σ (w + 1) (Int.toNat 0) = σ (w + 1) 0 from rfl) ?_
    have f2 : (1 : Int) ≤ σ (w + 1) 0 ∧ σ (w + 1) 0 ≤ 40 := tw_Ig hw.2.2.1 hI 0
    refine j_icmpR_gt (pc := 12) (tgt := 19) ⟨by omega, by omega⟩ ⟨by omega, by omega⟩ dX10_isFoot_12 rfl (fun h3 => ?_) (fun h3 => ?_)
    · refine j_iconst (pc := 19) dX10_isFoot_19 ?_
      exact j_zret (pc := 20) ⟨rfl, rfl⟩ dX10_isFoot_20 rfl (nar_bool (by omega) (by omega)) ⟨_, rfl, ⟨by omega, by omega⟩, rfl, by omega⟩
    · refine j_iconst (pc := 15) dX10_isFoot_15 ?_
      refine j_goto (pc := 16) (tgt := 20) dX10_isFoot_16 rfl ?_
      exact j_zret (pc := 20) ⟨rfl, rfl⟩ dX10_isFoot_20 rfl (nar_bool (by omega) (by omega)) ⟨_, rfl, ⟨by omega, by omega⟩, rfl, by omega⟩
abbrev q_X10_isStance (w : Nat) (h : Int) (σ : tw_M) : Option tw_V → tw_M → Prop := fun z τ => ∃ r : Int, z = some (vI r) ∧ (0 ≤ r ∧ r ≤ 1) ∧ σ = τ ∧ (r = 0 ∨ (r = 1 ∧ 1 ≤ h ∧ h ≤ σ (w + 1) 0 ∧ h ≤ 40))
set_option maxHeartbeats 4000000 in
set_option maxRecDepth 100000 in
theorem c_X10_isStance {G : tw_G} (w : Nat) (hw : IsWall G w) (h : Int) (hh : -2147483648 ≤ h ∧ h ≤ 2147483647) (σ : tw_M) (hI : tw_I σ) : tw_C G yX10_isStance cX10_isStance 2 (some .boolean) 1 [vR w, vI h] σ (q_X10_isStance w h σ) := by
  refine tw_met [(0, vR w), (1, vI h)] (by decide +kernel) rfl (Nat.le_of_ble_eq_true rfl) ?_
  refine j_aload_n (pc := 0) dX10_isStance_0 rfl rfl ?_
  refine j_iload_n (pc := 1) dX10_isStance_1 rfl rfl ?_
  refine j_callV (pc := 2) (As := [vI h]) (st := []) (c_X10_isFoot w hw h ⟨by omega, by omega⟩ σ hI) mv_X10_42 rfl rfl rfl hw.1.1 dX10_isStance_2 ⟨Nat.le_of_ble_eq_true rfl, Nat.le_of_ble_eq_true rfl⟩ ⟨Nat.le_refl _, Nat.le_refl _⟩ rfl (Nat.le_of_ble_eq_true rfl) rfl (fun z1 σ2 hz1 => ?_)
  obtain ⟨r4, rfl, hr4, rfl, q3_0⟩ := hz1
  replace q3_0 : (r4 = 1 ∧ 1 ≤ h ∧ h ≤ σ (w + 1) 0 ∧ h ≤ 40) ∨ (r4 = 0 ∧ ¬ (1 ≤ h ∧ h ≤ σ (w + 1) 0)) := q3_0
  refine j_st (st' := [vI r4]) rfl ?_
  refine j_ifR_eq (pc := 5) (tgt := 40) ⟨by omega, by omega⟩ dX10_isStance_5 rfl (fun h5 => ?_) (fun h5 => ?_)
  · refine j_iconst (pc := 40) dX10_isStance_40 ?_
    exact j_zret (pc := 41) ⟨rfl, rfl⟩ dX10_isStance_41 rfl (nar_bool (by omega) (by omega)) ⟨_, rfl, ⟨by omega, by omega⟩, rfl, by omega⟩
  · refine j_iload_n (pc := 8) dX10_isStance_8 rfl rfl ?_
    refine j_aload_n (pc := 9) dX10_isStance_9 rfl rfl ?_
    refine j_getR (pc := 10) (r := w + 1) fl_X10_11 dX10_isStance_10 hw.1.1 rfl ?_
    refine j_iconst (pc := 13) dX10_isStance_13 ?_
    refine j_iald (pc := 14) dX10_isStance_14 hw.1.2.1 (by omega) (by omega) (by decide) ?_
    refine j_topV (show σ (w + 1) (Int.toNat 0) = σ (w + 1) 0 from rfl) ?_
    have f6 : (1 : Int) ≤ σ (w + 1) 0 ∧ σ (w + 1) 0 ≤ 40 := tw_Ig hw.2.2.1 hI 0
    refine j_icmpR_eq (pc := 15) (tgt := 36) ⟨by omega, by omega⟩ ⟨by omega, by omega⟩ dX10_isStance_15 rfl (fun h7 => ?_) (fun h7 => ?_)
    · refine j_iconst (pc := 36) dX10_isStance_36 ?_
      refine j_goto (pc := 37) (tgt := 41) dX10_isStance_37 rfl ?_
      exact j_zret (pc := 41) ⟨rfl, rfl⟩ dX10_isStance_41 rfl (nar_bool (by omega) (by omega)) ⟨_, rfl, ⟨by omega, by omega⟩, rfl, by omega⟩
    · refine j_aload_n (pc := 18) dX10_isStance_18 rfl rfl ?_
      refine j_getR (pc := 19) (r := w + 5) fl_X10_24 dX10_isStance_19 hw.1.1 rfl ?_
      refine j_iload_n (pc := 22) dX10_isStance_22 rfl rfl ?_
      refine j_iald (pc := 23) dX10_isStance_23 hw.1.2.2.2.2.2.1 (by omega) (by omega) (by decide) ?_
      have f8 : (0 : Int) ≤ σ (w + 5) (h.toNat) ∧ σ (w + 5) (h.toNat) ≤ 1 := tw_Ig hw.2.2.2.2.2.2.1 hI (h.toNat)
      refine j_ifR_ne (pc := 24) (tgt := 36) ⟨by omega, by omega⟩ dX10_isStance_24 rfl (fun h9 => ?_) (fun h9 => ?_)
      · refine j_iconst (pc := 36) dX10_isStance_36 ?_
        refine j_goto (pc := 37) (tgt := 41) dX10_isStance_37 rfl ?_
        exact j_zret (pc := 41) ⟨rfl, rfl⟩ dX10_isStance_41 rfl (nar_bool (by omega) (by omega)) ⟨_, rfl, ⟨by omega, by omega⟩, rfl, by omega⟩
      · refine j_aload_n (pc := 27) dX10_isStance_27 rfl rfl ?_
        refine j_getR (pc := 28) (r := w + 6) fl_X10_27 dX10_isStance_28 hw.1.1 rfl ?_
        refine j_iload_n (pc := 31) dX10_isStance_31 rfl rfl ?_
        refine j_iald (pc := 32) dX10_isStance_32 hw.1.2.2.2.2.2.2.1 (by omega) (by omega) (by decide) ?_
        have f10 : (0 : Int) ≤ σ (w + 6) (h.toNat) ∧ σ (w + 6) (h.toNat) ≤ 1 := tw_Ig hw.2.2.2.2.2.2.2.1 hI (h.toNat)
        refine j_ifR_eq (pc := 33) (tgt := 40) ⟨by omega, by omega⟩ dX10_isStance_33 rfl (fun h11 => ?_) (fun h11 => ?_)
        · refine j_iconst (pc := 40) dX10_isStance_40 ?_
          exact j_zret (pc := 41) ⟨rfl, rfl⟩ dX10_isStance_41 rfl (nar_bool (by omega) (by omega)) ⟨_, rfl, ⟨by omega, by omega⟩, rfl, by omega⟩
        · refine j_iconst (pc := 36) dX10_isStance_36 ?_
          refine j_goto (pc := 37) (tgt := 41) dX10_isStance_37 rfl ?_
          exact j_zret (pc := 41) ⟨rfl, rfl⟩ dX10_isStance_41 rfl (nar_bool (by omega) (by omega)) ⟨_, rfl, ⟨by omega, by omega⟩, rfl, by omega⟩
abbrev q_X10_countOf (w : Nat) (a : Nat) (σ : tw_M) : Option tw_V → tw_M → Prop := fun z τ => ∃ r : Int, z = some (vI r) ∧ (0 ≤ r ∧ r ≤ 40) ∧ σ = τ ∧ True
set_option maxHeartbeats 4000000 in
set_option maxRecDepth 100000 in
theorem l_X10_countOf {G : tw_G} (w : Nat) (hw : IsWall G w) (a : Nat) (ha : tw_ar G a .int 41) (σ : tw_M) (hI : tw_I σ) (hq0 : ∀ j : Nat, -2147483648 ≤ σ a j ∧ σ a j ≤ 2147483647) : ∀ N_ : Nat, (∀ (n : Int) (hn : 0 ≤ n ∧ n ≤ 40) (i : Int) (hi : 1 ≤ i ∧ i ≤ 41) (i0 : n ≤ i - 1) (hm : (41 - i).toNat < N_), tw_J G (tw_mt RX10 cX10_countOf 4 (some .int) 0) (tw_E G (q_X10_countOf w a σ)) 4 [(0, vR w), (1, vR a), (2, vI n), (3, vI i)] [] σ) := by
  intro N_
  induction N_ with
  | zero => exact fun n hn i hi i0 hm => absurd hm (Nat.not_lt_zero _)
  | succ N_ ih =>
    intro n hn i hi i0 hm
    refine j_iload_n (pc := 4) dX10_countOf_4 rfl rfl ?_
    refine j_aload_n (pc := 5) dX10_countOf_5 rfl rfl ?_
    refine j_getR (pc := 6) (r := w + 1) fl_X10_11 dX10_countOf_6 hw.1.1 rfl ?_
    refine j_iconst (pc := 9) dX10_countOf_9 ?_
    refine j_iald (pc := 10) dX10_countOf_10 hw.1.2.1 (by omega) (by omega) (by decide) ?_
    refine j_topV (show σ (w + 1) (Int.toNat 0) = σ (w + 1) 0 from rfl) ?_
    have f1 : (1 : Int) ≤ σ (w + 1) 0 ∧ σ (w + 1) 0 ≤ 40 := tw_Ig hw.2.2.1 hI 0
    refine j_icmpR_gt (pc := 11) (tgt := 35) ⟨by omega, by omega⟩ ⟨by omega, by omega⟩ dX10_countOf_11 rfl (fun h2 => ?_) (fun h2 => ?_)
    · refine j_iload_n (pc := 35) dX10_countOf_35 rfl rfl ?_
      exact j_iret (pc := 36) ⟨rfl, rfl⟩ dX10_countOf_36 rfl ⟨_, rfl, ⟨by omega, by omega⟩, rfl, trivial⟩
    · refine j_iload_n (pc := 14) dX10_countOf_14 rfl rfl ?_
      refine j_aload_n (pc := 15) dX10_countOf_15 rfl rfl ?_
      refine j_alen (pc := 16) dX10_countOf_16 ha ?_
      refine j_topV (show _ = (41 : Int) from rfl) ?_
      refine j_icmpR_ge (pc := 17) (tgt := 35) ⟨by omega, by omega⟩ ⟨by omega, by omega⟩ dX10_countOf_17 rfl (fun h3 => by exfalso; omega) (fun h3 => ?_)
      refine j_aload_n (pc := 20) dX10_countOf_20 rfl rfl ?_
      refine j_iload_n (pc := 21) dX10_countOf_21 rfl rfl ?_
      refine j_iald (pc := 22) dX10_countOf_22 ha (by omega) (by omega) (by decide) ?_
      have f4 : (-2147483648 : Int) ≤ σ a (i.toNat) ∧ σ a (i.toNat) ≤ 2147483647 := hq0 (i.toNat)
      refine j_ifR_eq (pc := 23) (tgt := 29) ⟨by omega, by omega⟩ dX10_countOf_23 rfl (fun h5 => ?_) (fun h5 => ?_)
      · refine j_iinc (pc := 29) (i := 3) (n := 1) (ls' := [(0, vR w), (1, vR a), (2, vI n), (3, vI (i + 1))]) [1, 2, 3, 0] dX10_countOf_29 rfl (Nat.le_of_ble_eq_true rfl) rfl rfl ?_
        refine j_goto (pc := 32) (tgt := 4) dX10_countOf_32 rfl ?_
        refine j_ls (ls' := [(0, vR w), (1, vR a), (2, vI n), (3, vI (i + 1))]) [0, 1, 2, 3] rfl ?_
        exact ih n ⟨by omega, by omega⟩ (i + 1) ⟨by omega, by omega⟩ (show n ≤ (i + 1) - 1 from by omega) (show (41 - (i + 1)).toNat < N_ from by omega)
      · refine j_iinc (pc := 26) (i := 2) (n := 1) (ls' := [(0, vR w), (1, vR a), (2, vI (n + 1)), (3, vI i)]) [1, 2, 0, 3] dX10_countOf_26 rfl (Nat.le_of_ble_eq_true rfl) rfl rfl ?_
        refine j_iinc (pc := 29) (i := 3) (n := 1) (ls' := [(0, vR w), (1, vR a), (2, vI (n + 1)), (3, vI (i + 1))]) [1, 2, 3, 0] dX10_countOf_29 rfl (Nat.le_of_ble_eq_true rfl) rfl rfl ?_
        refine j_goto (pc := 32) (tgt := 4) dX10_countOf_32 rfl ?_
        refine j_ls (ls' := [(0, vR w), (1, vR a), (2, vI (n + 1)), (3, vI (i + 1))]) [0, 1, 2, 3] rfl ?_
        exact ih (n + 1) ⟨by omega, by omega⟩ (i + 1) ⟨by omega, by omega⟩ (show (n + 1) ≤ (i + 1) - 1 from by omega) (show (41 - (i + 1)).toNat < N_ from by omega)
set_option maxHeartbeats 4000000 in
set_option maxRecDepth 100000 in
theorem c_X10_countOf {G : tw_G} (w : Nat) (hw : IsWall G w) (a : Nat) (ha : tw_ar G a .int 41) (σ : tw_M) (hI : tw_I σ) (hq0 : ∀ j : Nat, -2147483648 ≤ σ a j ∧ σ a j ≤ 2147483647) : tw_C G yX10_countOf cX10_countOf 4 (some .int) 0 [vR w, vR a] σ (q_X10_countOf w a σ) := by
  refine tw_met [(0, vR w), (1, vR a)] (by decide +kernel) rfl (Nat.le_of_ble_eq_true rfl) ?_
  refine j_iconst (pc := 0) dX10_countOf_0 ?_
  refine j_istore_n (pc := 1) (i := 2) (ls' := [(0, vR w), (1, vR a), (2, vI 0)]) [1, 2, 0] dX10_countOf_1 rfl (Nat.le_of_ble_eq_true rfl) rfl rfl ?_
  refine j_iconst (pc := 2) dX10_countOf_2 ?_
  refine j_istore_n (pc := 3) (i := 3) (ls' := [(0, vR w), (1, vR a), (2, vI 0), (3, vI 1)]) [1, 2, 3, 0] dX10_countOf_3 rfl (Nat.le_of_ble_eq_true rfl) rfl rfl ?_
  refine j_ls (ls' := [(0, vR w), (1, vR a), (2, vI 0), (3, vI 1)]) [0, 1, 2, 3] rfl ?_
  exact (l_X10_countOf w hw a ha σ hI hq0 (((41 - (1 : Int)).toNat) + 1)) 0 (by (first | decide | exact ⟨by omega, by omega⟩)) 1 (by (first | decide | exact ⟨by omega, by omega⟩)) (show (0 : Int) ≤ (1 : Int) - 1 from by omega) (Nat.lt_succ_self _)
abbrev q_X10_dropOf (w : Nat) (h : Int) (f : Int) (σ : tw_M) : Option tw_V → tw_M → Prop := fun z τ => ∃ r : Int, z = some (vI r) ∧ (-2147483648 ≤ r ∧ r ≤ 2147483647) ∧ σ = τ ∧ (r = dropS (wW w σ) h f)
set_option maxHeartbeats 4000000 in
set_option maxRecDepth 100000 in
theorem c_X10_dropOf {G : tw_G} (w : Nat) (hw : IsWall G w) (h : Int) (hh : 0 ≤ h ∧ h ≤ 41) (f : Int) (hf : 0 ≤ f ∧ f ≤ 41) (σ : tw_M) (hI : tw_I σ) : tw_C G yX10_dropOf cX10_dropOf 3 (some .int) 0 [vR w, vI h, vI f] σ (q_X10_dropOf w h f σ) := by
  refine tw_met [(0, vR w), (1, vI h), (2, vI f)] (by decide +kernel) rfl (Nat.le_of_ble_eq_true rfl) ?_
  refine j_iconst (pc := 0) dX10_dropOf_0 ?_
  refine j_iload_n (pc := 1) dX10_dropOf_1 rfl rfl ?_
  refine j_iload_n (pc := 2) dX10_dropOf_2 rfl rfl ?_
  refine j_isub (pc := 3) dX10_dropOf_3 ?_
  refine j_imul (pc := 4) dX10_dropOf_4 ?_
  refine j_aload_n (pc := 5) dX10_dropOf_5 rfl rfl ?_
  refine j_getR (pc := 6) (r := w + 1) fl_X10_11 dX10_dropOf_6 hw.1.1 rfl ?_
  refine j_iconst (pc := 9) dX10_dropOf_9 ?_
  refine j_iald (pc := 10) dX10_dropOf_10 hw.1.2.1 (by omega) (by omega) (by decide) ?_
  refine j_topV (show σ (w + 1) (Int.toNat 4) = σ (w + 1) 4 from rfl) ?_
  have f1 : (0 : Int) ≤ σ (w + 1) 4 ∧ σ (w + 1) 4 ≤ 50 := tw_Ig hw.2.2.1 hI 4
  refine j_iload_n (pc := 11) dX10_dropOf_11 rfl rfl ?_
  refine j_imul (pc := 12) dX10_dropOf_12 ?_
  refine j_top (fun z2 ez2 hz2 => ?_)
  have t1 := ez2
  refine j_bipush (pc := 13) dX10_dropOf_13 rfl ?_
  refine j_idiv (pc := 15) dX10_dropOf_15 (tw_nz ⟨by omega, by omega⟩ (by omega)) (fun z3 ez3 => ?_)
  have hz3 : (-2147483648 : Int) ≤ z3 ∧ z3 ≤ 2147483647 := by rw [ez3]; exact div_in _ _
  have t2 := ez3
  refine j_iadd (pc := 16) dX10_dropOf_16 ?_
  refine j_top (fun z4 ez4 hz4 => ?_)
  have t3 := ez4
  exact j_iret (pc := 17) ⟨rfl, rfl⟩ dX10_dropOf_17 rfl ⟨_, rfl, ⟨by omega, by omega⟩, rfl, (by (have e4 : wW w σ 104 = σ (w + 1) 4 := wW_r (j := 4) (by decide)); unfold dropS; rw [e4, ← t1, ← t2, ← t3])⟩
abbrev q_X10_pullOf (w : Nat) (h : Int) (d : Int) (σ : tw_M) : Option tw_V → tw_M → Prop := fun z τ => ∃ r : Int, z = some (vI r) ∧ (-2147483648 ≤ r ∧ r ≤ 2147483647) ∧ σ = τ ∧ (r = pullS h d)
set_option maxHeartbeats 4000000 in
set_option maxRecDepth 100000 in
theorem c_X10_pullOf {G : tw_G} (w : Nat) (hw : IsWall G w) (h : Int) (hh : 0 ≤ h ∧ h ≤ 41) (d : Int) (hd : -2147483648 ≤ d ∧ d ≤ 2147483647) (σ : tw_M) (hI : tw_I σ) : tw_C G yX10_pullOf cX10_pullOf 3 (some .int) 0 [vR w, vI h, vI d] σ (q_X10_pullOf w h d σ) := by
  refine tw_met [(0, vR w), (1, vI h), (2, vI d)] (by decide +kernel) rfl (Nat.le_of_ble_eq_true rfl) ?_
  refine j_iload_n (pc := 0) dX10_pullOf_0 rfl rfl ?_
  refine j_iconst (pc := 1) dX10_pullOf_1 ?_
  refine j_icmpR_ge (pc := 2) (tgt := 9) ⟨by omega, by omega⟩ ⟨by omega, by omega⟩ dX10_pullOf_2 rfl (fun h1 => ?_) (fun h1 => ?_)
  · refine j_iconst (pc := 9) dX10_pullOf_9 ?_
    refine j_bipush (pc := 10) dX10_pullOf_10 rfl ?_
    refine j_iload_n (pc := 12) dX10_pullOf_12 rfl rfl ?_
    refine j_imul (pc := 13) dX10_pullOf_13 ?_
    refine j_top (fun z2 ez2 hz2 => ?_)
    have t1 := ez2
    refine j_iload_n (pc := 14) dX10_pullOf_14 rfl rfl ?_
    refine j_idiv (pc := 15) dX10_pullOf_15 (tw_nz ⟨by omega, by omega⟩ (by omega)) (fun z3 ez3 => ?_)
    have hz3 : (-2147483648 : Int) ≤ z3 ∧ z3 ≤ 2147483647 := by rw [ez3]; exact div_in _ _
    have t2 := ez3
    refine j_iadd (pc := 16) dX10_pullOf_16 ?_
    refine j_top (fun z4 ez4 hz4 => ?_)
    have t3 := ez4
    exact j_iret (pc := 17) ⟨rfl, rfl⟩ dX10_pullOf_17 rfl ⟨_, rfl, ⟨by omega, by omega⟩, rfl, (by first | exact (if_pos (by omega)).symm | (unfold pullS; rw [if_neg (by omega), ← t1, ← t2, ← t3]))⟩
  · refine j_iconst (pc := 5) dX10_pullOf_5 ?_
    refine j_goto (pc := 6) (tgt := 17) dX10_pullOf_6 rfl ?_
    exact j_iret (pc := 17) ⟨rfl, rfl⟩ dX10_pullOf_17 rfl ⟨_, rfl, ⟨by omega, by omega⟩, rfl, (by first | exact (if_pos (by omega)).symm | (unfold pullS; rw [if_neg (by omega), ← t1, ← t2, ← t3]))⟩
abbrev q_X10_holds (w : Nat) (s : Int) (p : Int) (σ : tw_M) : Option tw_V → tw_M → Prop := fun z τ => ∃ r : Int, z = some (vI r) ∧ (0 ≤ r ∧ r ≤ 1) ∧ σ = τ ∧ ((r = 1 ∧ p ≤ s + σ (w + 1) 7) ∨ (r = 0 ∧ s + σ (w + 1) 7 < p))
set_option maxHeartbeats 4000000 in
set_option maxRecDepth 100000 in
theorem c_X10_holds {G : tw_G} (w : Nat) (hw : IsWall G w) (s : Int) (hs : 0 ≤ s ∧ s ≤ 10) (p : Int) (hp : -2147483648 ≤ p ∧ p ≤ 2147483647) (σ : tw_M) (hI : tw_I σ) : tw_C G yX10_holds cX10_holds 3 (some .boolean) 0 [vR w, vI s, vI p] σ (q_X10_holds w s p σ) := by
  refine tw_met [(0, vR w), (1, vI s), (2, vI p)] (by decide +kernel) rfl (Nat.le_of_ble_eq_true rfl) ?_
  refine j_iload_n (pc := 0) dX10_holds_0 rfl rfl ?_
  refine j_iload_n (pc := 1) dX10_holds_1 rfl rfl ?_
  refine j_aload_n (pc := 2) dX10_holds_2 rfl rfl ?_
  refine j_getR (pc := 3) (r := w + 1) fl_X10_11 dX10_holds_3 hw.1.1 rfl ?_
  refine j_bipush (pc := 6) dX10_holds_6 rfl ?_
  refine j_iald (pc := 8) dX10_holds_8 hw.1.2.1 (by omega) (by omega) (by decide) ?_
  refine j_topV (show σ (w + 1) (Int.toNat 7) = σ (w + 1) 7 from rfl) ?_
  have f1 : (0 : Int) ≤ σ (w + 1) 7 ∧ σ (w + 1) 7 ≤ 60 := tw_Ig hw.2.2.1 hI 7
  refine j_iadd (pc := 9) dX10_holds_9 ?_
  refine j_icmpR_gt (pc := 10) (tgt := 17) ⟨by omega, by omega⟩ ⟨by omega, by omega⟩ dX10_holds_10 rfl (fun h2 => ?_) (fun h2 => ?_)
  · refine j_iconst (pc := 17) dX10_holds_17 ?_
    exact j_zret (pc := 18) ⟨rfl, rfl⟩ dX10_holds_18 rfl (nar_bool (by omega) (by omega)) ⟨_, rfl, ⟨by omega, by omega⟩, rfl, by omega⟩
  · refine j_iconst (pc := 13) dX10_holds_13 ?_
    refine j_goto (pc := 14) (tgt := 18) dX10_holds_14 rfl ?_
    exact j_zret (pc := 18) ⟨rfl, rfl⟩ dX10_holds_18 rfl (nar_bool (by omega) (by omega)) ⟨_, rfl, ⟨by omega, by omega⟩, rfl, by omega⟩
abbrev q_X10_struckOf (w : Nat) (h : Int) (s : Int) (σ : tw_M) : Option tw_V → tw_M → Prop := fun z τ => ∃ r : Int, z = some (vI r) ∧ (-4 ≤ r ∧ r ≤ 40) ∧ σ = τ ∧ (r = strS (wW w σ) h s)
set_option maxHeartbeats 4000000 in
set_option maxRecDepth 100000 in
theorem c_X10_struckOf {G : tw_G} (w : Nat) (hw : IsWall G w) (h : Int) (hh : 0 ≤ h ∧ h ≤ 40) (s : Int) (hs : -2147483648 ≤ s ∧ s ≤ 2147483647) (σ : tw_M) (hI : tw_I σ) : tw_C G yX10_struckOf cX10_struckOf 3 (some .int) 0 [vR w, vI h, vI s] σ (q_X10_struckOf w h s σ) := by
  refine tw_met [(0, vR w), (1, vI h), (2, vI s)] (by decide +kernel) rfl (Nat.le_of_ble_eq_true rfl) ?_
  refine j_aload_n (pc := 0) dX10_struckOf_0 rfl rfl ?_
  refine j_getR (pc := 1) (r := w + 8) fl_X10_33 dX10_struckOf_1 hw.1.1 rfl ?_
  refine j_iload_n (pc := 4) dX10_struckOf_4 rfl rfl ?_
  refine j_iald (pc := 5) dX10_struckOf_5 hw.1.2.2.2.2.2.2.2.2 (by omega) (by omega) (by decide) ?_
  have f1 : (0 : Int) ≤ σ (w + 8) (h.toNat) ∧ σ (w + 8) (h.toNat) ≤ 40 := tw_Ig hw.2.2.2.2.2.2.2.2.2 hI (h.toNat)
  refine j_iload_n (pc := 6) dX10_struckOf_6 rfl rfl ?_
  refine j_icmpR_lt (pc := 7) (tgt := 19) ⟨by omega, by omega⟩ ⟨by omega, by omega⟩ dX10_struckOf_7 rfl (fun h2 => ?_) (fun h2 => ?_)
  · refine j_bipush (pc := 19) dX10_struckOf_19 rfl ?_
    exact j_iret (pc := 21) ⟨rfl, rfl⟩ dX10_struckOf_21 rfl ⟨_, rfl, ⟨by omega, by omega⟩, rfl, (by unfold strS; rw [wW_b (by omega)]; first | exact (if_pos (by omega)).symm | exact (if_neg (by omega)).symm)⟩
  · refine j_aload_n (pc := 10) dX10_struckOf_10 rfl rfl ?_
    refine j_getR (pc := 11) (r := w + 8) fl_X10_33 dX10_struckOf_11 hw.1.1 rfl ?_
    refine j_iload_n (pc := 14) dX10_struckOf_14 rfl rfl ?_
    refine j_iald (pc := 15) dX10_struckOf_15 hw.1.2.2.2.2.2.2.2.2 (by omega) (by omega) (by decide) ?_
    refine j_goto (pc := 16) (tgt := 21) dX10_struckOf_16 rfl ?_
    exact j_iret (pc := 21) ⟨rfl, rfl⟩ dX10_struckOf_21 rfl ⟨_, rfl, ⟨by omega, by omega⟩, rfl, (by unfold strS; rw [wW_b (by omega)]; first | exact (if_pos (by omega)).symm | exact (if_neg (by omega)).symm)⟩
abbrev q_X10_harmOf (w : Nat) (h : Int) (s : Int) (σ : tw_M) : Option tw_V → tw_M → Prop := fun z τ => ∃ r : Int, z = some (vI r) ∧ (-40 ≤ r ∧ r ≤ 40) ∧ σ = τ ∧ (r = harS (wW w σ) h s)
set_option maxHeartbeats 4000000 in
set_option maxRecDepth 100000 in
theorem c_X10_harmOf {G : tw_G} (w : Nat) (hw : IsWall G w) (h : Int) (hh : 0 ≤ h ∧ h ≤ 40) (s : Int) (hs : -2147483648 ≤ s ∧ s ≤ 2147483647) (σ : tw_M) (hI : tw_I σ) : tw_C G yX10_harmOf cX10_harmOf 3 (some .int) 0 [vR w, vI h, vI s] σ (q_X10_harmOf w h s σ) := by
  refine tw_met [(0, vR w), (1, vI h), (2, vI s)] (by decide +kernel) rfl (Nat.le_of_ble_eq_true rfl) ?_
  refine j_aload_n (pc := 0) dX10_harmOf_0 rfl rfl ?_
  refine j_getR (pc := 1) (r := w + 8) fl_X10_33 dX10_harmOf_1 hw.1.1 rfl ?_
  refine j_iload_n (pc := 4) dX10_harmOf_4 rfl rfl ?_
  refine j_iald (pc := 5) dX10_harmOf_5 hw.1.2.2.2.2.2.2.2.2 (by omega) (by omega) (by decide) ?_
  have f1 : (0 : Int) ≤ σ (w + 8) (h.toNat) ∧ σ (w + 8) (h.toNat) ≤ 40 := tw_Ig hw.2.2.2.2.2.2.2.2.2 hI (h.toNat)
  refine j_iload_n (pc := 6) dX10_harmOf_6 rfl rfl ?_
  refine j_icmpR_lt (pc := 7) (tgt := 21) ⟨by omega, by omega⟩ ⟨by omega, by omega⟩ dX10_harmOf_7 rfl (fun h2 => ?_) (fun h2 => ?_)
  · refine j_iconst (pc := 21) dX10_harmOf_21 ?_
    exact j_iret (pc := 22) ⟨rfl, rfl⟩ dX10_harmOf_22 rfl ⟨_, rfl, ⟨by omega, by omega⟩, rfl, (by unfold harS; rw [wW_b (by omega)]; first | exact (if_pos (by omega)).symm | exact (if_neg (by omega)).symm)⟩
  · refine j_iload_n (pc := 10) dX10_harmOf_10 rfl rfl ?_
    refine j_aload_n (pc := 11) dX10_harmOf_11 rfl rfl ?_
    refine j_getR (pc := 12) (r := w + 8) fl_X10_33 dX10_harmOf_12 hw.1.1 rfl ?_
    refine j_iload_n (pc := 15) dX10_harmOf_15 rfl rfl ?_
    refine j_iald (pc := 16) dX10_harmOf_16 hw.1.2.2.2.2.2.2.2.2 (by omega) (by omega) (by decide) ?_
    refine j_isub (pc := 17) dX10_harmOf_17 ?_
    refine j_goto (pc := 18) (tgt := 22) dX10_harmOf_18 rfl ?_
    exact j_iret (pc := 22) ⟨rfl, rfl⟩ dX10_harmOf_22 rfl ⟨_, rfl, ⟨by omega, by omega⟩, rfl, (by unfold harS; rw [wW_b (by omega)]; first | exact (if_pos (by omega)).symm | exact (if_neg (by omega)).symm)⟩
