/-! 29.model -/
theorem dX12_plan_0 : decode cX12_plan 0 = .ok (.iload_n 1, 1) := by decide +kernel
theorem dX12_plan_1 : decode cX12_plan 1 = .ok (.i2l, 1) := by decide +kernel
theorem dX12_plan_2 : decode cX12_plan 2 = .ok (.lconst 0, 1) := by decide +kernel
theorem dX12_plan_3 : decode cX12_plan 3 = .ok (.lconst 1, 1) := by decide +kernel
theorem dX12_plan_4 : decode cX12_plan 4 = .ok (.invokestatic 82, 3) := by decide +kernel
theorem dX12_plan_7 : decode cX12_plan 7 = .ok (.ifCond .ne 19, 3) := by decide +kernel
theorem dX12_plan_10 : decode cX12_plan 10 = .ok (.iload_n 1, 1) := by decide +kernel
theorem dX12_plan_11 : decode cX12_plan 11 = .ok (.i2l, 1) := by decide +kernel
theorem dX12_plan_12 : decode cX12_plan 12 = .ok (.ldc2_w 187, 3) := by decide +kernel
theorem dX12_plan_15 : decode cX12_plan 15 = .ok (.ldc2_w 307, 3) := by decide +kernel
theorem dX12_plan_18 : decode cX12_plan 18 = .ok (.invokestatic 82, 3) := by decide +kernel
theorem dX12_plan_21 : decode cX12_plan 21 = .ok (.ifCond .ne 5, 3) := by decide +kernel
theorem dX12_plan_24 : decode cX12_plan 24 = .ok (.iconst (-1), 1) := by decide +kernel
theorem dX12_plan_25 : decode cX12_plan 25 = .ok (.ireturn, 1) := by decide +kernel
theorem dX12_plan_26 : decode cX12_plan 26 = .ok (.aload_n 0, 1) := by decide +kernel
theorem dX12_plan_27 : decode cX12_plan 27 = .ok (.invokevirtual 309, 3) := by decide +kernel
theorem dX12_plan_30 : decode cX12_plan 30 = .ok (.aload_n 0, 1) := by decide +kernel
theorem dX12_plan_31 : decode cX12_plan 31 = .ok (.getfield 292, 3) := by decide +kernel
theorem dX12_plan_34 : decode cX12_plan 34 = .ok (.bipush (-4), 2) := by decide +kernel
theorem dX12_plan_36 : decode cX12_plan 36 = .ok (.if_icmp .ne 6, 3) := by decide +kernel
theorem dX12_plan_39 : decode cX12_plan 39 = .ok (.bipush (-4), 2) := by decide +kernel
theorem dX12_plan_41 : decode cX12_plan 41 = .ok (.ireturn, 1) := by decide +kernel
theorem dX12_plan_42 : decode cX12_plan 42 = .ok (.aload_n 0, 1) := by decide +kernel
theorem dX12_plan_43 : decode cX12_plan 43 = .ok (.aload_n 0, 1) := by decide +kernel
theorem dX12_plan_44 : decode cX12_plan 44 = .ok (.getfield 292, 3) := by decide +kernel
theorem dX12_plan_47 : decode cX12_plan 47 = .ok (.invokevirtual 301, 3) := by decide +kernel
theorem dX12_plan_50 : decode cX12_plan 50 = .ok (.pop, 1) := by decide +kernel
theorem dX12_plan_51 : decode cX12_plan 51 = .ok (.iload_n 1, 1) := by decide +kernel
theorem dX12_plan_52 : decode cX12_plan 52 = .ok (.ifCond .ne 10, 3) := by decide +kernel
theorem dX12_plan_55 : decode cX12_plan 55 = .ok (.aload_n 0, 1) := by decide +kernel
theorem dX12_plan_56 : decode cX12_plan 56 = .ok (.getfield 295, 3) := by decide +kernel
theorem dX12_plan_59 : decode cX12_plan 59 = .ok (.goto 47, 3) := by decide +kernel
theorem dX12_plan_62 : decode cX12_plan 62 = .ok (.iload_n 1, 1) := by decide +kernel
theorem dX12_plan_63 : decode cX12_plan 63 = .ok (.iconst 1, 1) := by decide +kernel
theorem dX12_plan_64 : decode cX12_plan 64 = .ok (.if_icmp .ne 13, 3) := by decide +kernel
theorem dX12_plan_67 : decode cX12_plan 67 = .ok (.aload_n 0, 1) := by decide +kernel
theorem dX12_plan_68 : decode cX12_plan 68 = .ok (.getfield 292, 3) := by decide +kernel
theorem dX12_plan_71 : decode cX12_plan 71 = .ok (.invokestatic 304, 3) := by decide +kernel
theorem dX12_plan_74 : decode cX12_plan 74 = .ok (.goto 32, 3) := by decide +kernel
theorem dX12_plan_77 : decode cX12_plan 77 = .ok (.iload_n 1, 1) := by decide +kernel
theorem dX12_plan_78 : decode cX12_plan 78 = .ok (.bipush 10, 2) := by decide +kernel
theorem dX12_plan_80 : decode cX12_plan 80 = .ok (.isub, 1) := by decide +kernel
theorem dX12_plan_81 : decode cX12_plan 81 = .ok (.aload_n 0, 1) := by decide +kernel
theorem dX12_plan_82 : decode cX12_plan 82 = .ok (.getfield 292, 3) := by decide +kernel
theorem dX12_plan_85 : decode cX12_plan 85 = .ok (.invokestatic 304, 3) := by decide +kernel
theorem dX12_plan_88 : decode cX12_plan 88 = .ok (.if_icmp .ge 17, 3) := by decide +kernel
theorem dX12_plan_91 : decode cX12_plan 91 = .ok (.aload_n 0, 1) := by decide +kernel
theorem dX12_plan_92 : decode cX12_plan 92 = .ok (.sipush 300, 3) := by decide +kernel
theorem dX12_plan_95 : decode cX12_plan 95 = .ok (.iload_n 1, 1) := by decide +kernel
theorem dX12_plan_96 : decode cX12_plan 96 = .ok (.bipush 10, 2) := by decide +kernel
theorem dX12_plan_98 : decode cX12_plan 98 = .ok (.isub, 1) := by decide +kernel
theorem dX12_plan_99 : decode cX12_plan 99 = .ok (.invokevirtual 198, 3) := by decide +kernel
theorem dX12_plan_102 : decode cX12_plan 102 = .ok (.goto 4, 3) := by decide +kernel
theorem dX12_plan_105 : decode cX12_plan 105 = .ok (.iconst (-1), 1) := by decide +kernel
theorem dX12_plan_106 : decode cX12_plan 106 = .ok (.ireturn, 1) := by decide +kernel
theorem dX12_follows_0 : decode cX12_follows 0 = .ok (.iconst 0, 1) := by decide +kernel
theorem dX12_follows_1 : decode cX12_follows 1 = .ok (.istore_n 2, 1) := by decide +kernel
theorem dX12_follows_2 : decode cX12_follows 2 = .ok (.iconst 0, 1) := by decide +kernel
theorem dX12_follows_3 : decode cX12_follows 3 = .ok (.istore_n 3, 1) := by decide +kernel
theorem dX12_follows_4 : decode cX12_follows 4 = .ok (.aload_n 0, 1) := by decide +kernel
theorem dX12_follows_5 : decode cX12_follows 5 = .ok (.invokevirtual 286, 3) := by decide +kernel
theorem dX12_follows_8 : decode cX12_follows 8 = .ok (.iconst 1, 1) := by decide +kernel
theorem dX12_follows_9 : decode cX12_follows 9 = .ok (.istore 4, 2) := by decide +kernel
theorem dX12_follows_11 : decode cX12_follows 11 = .ok (.iload 4, 2) := by decide +kernel
theorem dX12_follows_13 : decode cX12_follows 13 = .ok (.aload_n 0, 1) := by decide +kernel
theorem dX12_follows_14 : decode cX12_follows 14 = .ok (.getfield 17, 3) := by decide +kernel
theorem dX12_follows_17 : decode cX12_follows 17 = .ok (.iconst 0, 1) := by decide +kernel
theorem dX12_follows_18 : decode cX12_follows 18 = .ok (.iaload, 1) := by decide +kernel
theorem dX12_follows_19 : decode cX12_follows 19 = .ok (.if_icmp .gt 52, 3) := by decide +kernel
theorem dX12_follows_22 : decode cX12_follows 22 = .ok (.iload_n 3, 1) := by decide +kernel
theorem dX12_follows_23 : decode cX12_follows 23 = .ok (.bipush 10, 2) := by decide +kernel
theorem dX12_follows_25 : decode cX12_follows 25 = .ok (.if_icmp .ge 46, 3) := by decide +kernel
theorem dX12_follows_28 : decode cX12_follows 28 = .ok (.aload_n 0, 1) := by decide +kernel
theorem dX12_follows_29 : decode cX12_follows 29 = .ok (.iload 4, 2) := by decide +kernel
theorem dX12_follows_31 : decode cX12_follows 31 = .ok (.iconst 1, 1) := by decide +kernel
theorem dX12_follows_32 : decode cX12_follows 32 = .ok (.invokevirtual 184, 3) := by decide +kernel
theorem dX12_follows_35 : decode cX12_follows 35 = .ok (.ifCond .le 30, 3) := by decide +kernel
theorem dX12_follows_38 : decode cX12_follows 38 = .ok (.iload 4, 2) := by decide +kernel
theorem dX12_follows_40 : decode cX12_follows 40 = .ok (.iload_n 2, 1) := by decide +kernel
theorem dX12_follows_41 : decode cX12_follows 41 = .ok (.isub, 1) := by decide +kernel
theorem dX12_follows_42 : decode cX12_follows 42 = .ok (.iload_n 1, 1) := by decide +kernel
theorem dX12_follows_43 : decode cX12_follows 43 = .ok (.if_icmp .lt 17, 3) := by decide +kernel
theorem dX12_follows_46 : decode cX12_follows 46 = .ok (.aload_n 0, 1) := by decide +kernel
theorem dX12_follows_47 : decode cX12_follows 47 = .ok (.iload 4, 2) := by decide +kernel
theorem dX12_follows_49 : decode cX12_follows 49 = .ok (.invokevirtual 289, 3) := by decide +kernel
theorem dX12_follows_52 : decode cX12_follows 52 = .ok (.ifCond .eq 8, 3) := by decide +kernel
theorem dX12_follows_55 : decode cX12_follows 55 = .ok (.iload 4, 2) := by decide +kernel
theorem dX12_follows_57 : decode cX12_follows 57 = .ok (.goto 4, 3) := by decide +kernel
theorem dX12_follows_60 : decode cX12_follows 60 = .ok (.iload_n 2, 1) := by decide +kernel
theorem dX12_follows_61 : decode cX12_follows 61 = .ok (.istore_n 2, 1) := by decide +kernel
theorem dX12_follows_62 : decode cX12_follows 62 = .ok (.iinc 3 1, 3) := by decide +kernel
theorem dX12_follows_65 : decode cX12_follows 65 = .ok (.iinc 4 1, 3) := by decide +kernel
theorem dX12_follows_68 : decode cX12_follows 68 = .ok (.goto (-57), 3) := by decide +kernel
theorem dX12_follows_71 : decode cX12_follows 71 = .ok (.return_, 1) := by decide +kernel
theorem dX12_keep_0 : decode cX12_keep 0 = .ok (.iload_n 1, 1) := by decide +kernel
theorem dX12_keep_1 : decode cX12_keep 1 = .ok (.i2l, 1) := by decide +kernel
theorem dX12_keep_2 : decode cX12_keep 2 = .ok (.lconst 1, 1) := by decide +kernel
theorem dX12_keep_3 : decode cX12_keep 3 = .ok (.ldc2_w 255, 3) := by decide +kernel
theorem dX12_keep_6 : decode cX12_keep 6 = .ok (.invokestatic 82, 3) := by decide +kernel
theorem dX12_keep_9 : decode cX12_keep 9 = .ok (.ifCond .eq 15, 3) := by decide +kernel
theorem dX12_keep_12 : decode cX12_keep 12 = .ok (.iload_n 2, 1) := by decide +kernel
theorem dX12_keep_13 : decode cX12_keep 13 = .ok (.i2l, 1) := by decide +kernel
theorem dX12_keep_14 : decode cX12_keep 14 = .ok (.lconst 0, 1) := by decide +kernel
theorem dX12_keep_15 : decode cX12_keep 15 = .ok (.ldc2_w 312, 3) := by decide +kernel
theorem dX12_keep_18 : decode cX12_keep 18 = .ok (.invokestatic 82, 3) := by decide +kernel
theorem dX12_keep_21 : decode cX12_keep 21 = .ok (.ifCond .ne 5, 3) := by decide +kernel
theorem dX12_keep_24 : decode cX12_keep 24 = .ok (.iconst (-1), 1) := by decide +kernel
theorem dX12_keep_25 : decode cX12_keep 25 = .ok (.ireturn, 1) := by decide +kernel
theorem dX12_keep_26 : decode cX12_keep 26 = .ok (.aload_n 0, 1) := by decide +kernel
theorem dX12_keep_27 : decode cX12_keep 27 = .ok (.iload_n 1, 1) := by decide +kernel
theorem dX12_keep_28 : decode cX12_keep 28 = .ok (.invokevirtual 314, 3) := by decide +kernel
theorem dX12_keep_31 : decode cX12_keep 31 = .ok (.aload_n 0, 1) := by decide +kernel
theorem dX12_keep_32 : decode cX12_keep 32 = .ok (.sipush 300, 3) := by decide +kernel
theorem dX12_keep_35 : decode cX12_keep 35 = .ok (.invokevirtual 277, 3) := by decide +kernel
theorem dX12_keep_38 : decode cX12_keep 38 = .ok (.iload_n 2, 1) := by decide +kernel
theorem dX12_keep_39 : decode cX12_keep 39 = .ok (.ifCond .ne 13, 3) := by decide +kernel
theorem dX12_keep_42 : decode cX12_keep 42 = .ok (.aload_n 0, 1) := by decide +kernel
theorem dX12_keep_43 : decode cX12_keep 43 = .ok (.sipush 300, 3) := by decide +kernel
theorem dX12_keep_46 : decode cX12_keep 46 = .ok (.invokevirtual 280, 3) := by decide +kernel
theorem dX12_keep_49 : decode cX12_keep 49 = .ok (.goto 35, 3) := by decide +kernel
theorem dX12_keep_52 : decode cX12_keep 52 = .ok (.iload_n 2, 1) := by decide +kernel
theorem dX12_keep_53 : decode cX12_keep 53 = .ok (.iconst 1, 1) := by decide +kernel
theorem dX12_keep_54 : decode cX12_keep 54 = .ok (.if_icmp .ne 13, 3) := by decide +kernel
theorem dX12_keep_57 : decode cX12_keep 57 = .ok (.aload_n 0, 1) := by decide +kernel
theorem dX12_keep_58 : decode cX12_keep 58 = .ok (.sipush 300, 3) := by decide +kernel
theorem dX12_keep_61 : decode cX12_keep 61 = .ok (.invokevirtual 192, 3) := by decide +kernel
theorem dX12_keep_64 : decode cX12_keep 64 = .ok (.goto 20, 3) := by decide +kernel
theorem dX12_keep_67 : decode cX12_keep 67 = .ok (.aload_n 0, 1) := by decide +kernel
theorem dX12_keep_68 : decode cX12_keep 68 = .ok (.getfield 274, 3) := by decide +kernel
theorem dX12_keep_71 : decode cX12_keep 71 = .ok (.bipush (-4), 2) := by decide +kernel
theorem dX12_keep_73 : decode cX12_keep 73 = .ok (.if_icmp .eq 7, 3) := by decide +kernel
theorem dX12_keep_76 : decode cX12_keep 76 = .ok (.iconst 1, 1) := by decide +kernel
theorem dX12_keep_77 : decode cX12_keep 77 = .ok (.goto 4, 3) := by decide +kernel
theorem dX12_keep_80 : decode cX12_keep 80 = .ok (.iconst 0, 1) := by decide +kernel
theorem dX12_keep_81 : decode cX12_keep 81 = .ok (.invokestatic 168, 3) := by decide +kernel
theorem dX12_keep_84 : decode cX12_keep 84 = .ok (.ireturn, 1) := by decide +kernel
theorem dX12_best_0 : decode cX12_best 0 = .ok (.iload_n 1, 1) := by decide +kernel
theorem dX12_best_1 : decode cX12_best 1 = .ok (.i2l, 1) := by decide +kernel
theorem dX12_best_2 : decode cX12_best 2 = .ok (.lconst 0, 1) := by decide +kernel
theorem dX12_best_3 : decode cX12_best 3 = .ok (.ldc2_w 312, 3) := by decide +kernel
theorem dX12_best_6 : decode cX12_best 6 = .ok (.invokestatic 82, 3) := by decide +kernel
theorem dX12_best_9 : decode cX12_best 9 = .ok (.ifCond .ne 5, 3) := by decide +kernel
theorem dX12_best_12 : decode cX12_best 12 = .ok (.iconst (-1), 1) := by decide +kernel
theorem dX12_best_13 : decode cX12_best 13 = .ok (.ireturn, 1) := by decide +kernel
theorem dX12_best_14 : decode cX12_best 14 = .ok (.bipush (-4), 2) := by decide +kernel
theorem dX12_best_16 : decode cX12_best 16 = .ok (.istore_n 2, 1) := by decide +kernel
theorem dX12_best_17 : decode cX12_best 17 = .ok (.iconst 0, 1) := by decide +kernel
theorem dX12_best_18 : decode cX12_best 18 = .ok (.istore_n 3, 1) := by decide +kernel
theorem dX12_best_19 : decode cX12_best 19 = .ok (.iconst 1, 1) := by decide +kernel
theorem dX12_best_20 : decode cX12_best 20 = .ok (.istore 4, 2) := by decide +kernel
theorem dX12_best_22 : decode cX12_best 22 = .ok (.iload 4, 2) := by decide +kernel
theorem dX12_best_24 : decode cX12_best 24 = .ok (.bipush 40, 2) := by decide +kernel
theorem dX12_best_26 : decode cX12_best 26 = .ok (.if_icmp .gt 83, 3) := by decide +kernel
theorem dX12_best_29 : decode cX12_best 29 = .ok (.aload_n 0, 1) := by decide +kernel
theorem dX12_best_30 : decode cX12_best 30 = .ok (.iload 4, 2) := by decide +kernel
theorem dX12_best_32 : decode cX12_best 32 = .ok (.invokevirtual 314, 3) := by decide +kernel
theorem dX12_best_35 : decode cX12_best 35 = .ok (.aload_n 0, 1) := by decide +kernel
theorem dX12_best_36 : decode cX12_best 36 = .ok (.sipush 300, 3) := by decide +kernel
theorem dX12_best_39 : decode cX12_best 39 = .ok (.invokevirtual 277, 3) := by decide +kernel
theorem dX12_best_42 : decode cX12_best 42 = .ok (.aload_n 0, 1) := by decide +kernel
theorem dX12_best_43 : decode cX12_best 43 = .ok (.sipush 300, 3) := by decide +kernel
theorem dX12_best_46 : decode cX12_best 46 = .ok (.invokevirtual 280, 3) := by decide +kernel
theorem dX12_best_49 : decode cX12_best 49 = .ok (.istore 5, 2) := by decide +kernel
theorem dX12_best_51 : decode cX12_best 51 = .ok (.aload_n 0, 1) := by decide +kernel
theorem dX12_best_52 : decode cX12_best 52 = .ok (.getfield 274, 3) := by decide +kernel
theorem dX12_best_55 : decode cX12_best 55 = .ok (.bipush (-4), 2) := by decide +kernel
theorem dX12_best_57 : decode cX12_best 57 = .ok (.if_icmp .ne 19, 3) := by decide +kernel
theorem dX12_best_60 : decode cX12_best 60 = .ok (.iload_n 2, 1) := by decide +kernel
theorem dX12_best_61 : decode cX12_best 61 = .ok (.bipush (-4), 2) := by decide +kernel
theorem dX12_best_63 : decode cX12_best 63 = .ok (.if_icmp .eq 9, 3) := by decide +kernel
theorem dX12_best_66 : decode cX12_best 66 = .ok (.iload 5, 2) := by decide +kernel
theorem dX12_best_68 : decode cX12_best 68 = .ok (.iload_n 3, 1) := by decide +kernel
theorem dX12_best_69 : decode cX12_best 69 = .ok (.if_icmp .gt 7, 3) := by decide +kernel
theorem dX12_best_72 : decode cX12_best 72 = .ok (.iconst 1, 1) := by decide +kernel
theorem dX12_best_73 : decode cX12_best 73 = .ok (.goto 4, 3) := by decide +kernel
theorem dX12_best_76 : decode cX12_best 76 = .ok (.iconst 0, 1) := by decide +kernel
theorem dX12_best_77 : decode cX12_best 77 = .ok (.istore 6, 2) := by decide +kernel
theorem dX12_best_79 : decode cX12_best 79 = .ok (.iload 6, 2) := by decide +kernel
theorem dX12_best_81 : decode cX12_best 81 = .ok (.ifCond .eq 8, 3) := by decide +kernel
theorem dX12_best_84 : decode cX12_best 84 = .ok (.iload 4, 2) := by decide +kernel
theorem dX12_best_86 : decode cX12_best 86 = .ok (.goto 4, 3) := by decide +kernel
theorem dX12_best_89 : decode cX12_best 89 = .ok (.iload_n 2, 1) := by decide +kernel
theorem dX12_best_90 : decode cX12_best 90 = .ok (.istore_n 2, 1) := by decide +kernel
theorem dX12_best_91 : decode cX12_best 91 = .ok (.iload 6, 2) := by decide +kernel
theorem dX12_best_93 : decode cX12_best 93 = .ok (.ifCond .eq 8, 3) := by decide +kernel
theorem dX12_best_96 : decode cX12_best 96 = .ok (.iload 5, 2) := by decide +kernel
theorem dX12_best_98 : decode cX12_best 98 = .ok (.goto 4, 3) := by decide +kernel
theorem dX12_best_101 : decode cX12_best 101 = .ok (.iload_n 3, 1) := by decide +kernel
theorem dX12_best_102 : decode cX12_best 102 = .ok (.istore_n 3, 1) := by decide +kernel
theorem dX12_best_103 : decode cX12_best 103 = .ok (.iinc 4 1, 3) := by decide +kernel
theorem dX12_best_106 : decode cX12_best 106 = .ok (.goto (-84), 3) := by decide +kernel
theorem dX12_best_109 : decode cX12_best 109 = .ok (.aload_n 0, 1) := by decide +kernel
theorem dX12_best_110 : decode cX12_best 110 = .ok (.invokevirtual 309, 3) := by decide +kernel
theorem dX12_best_113 : decode cX12_best 113 = .ok (.iload_n 2, 1) := by decide +kernel
theorem dX12_best_114 : decode cX12_best 114 = .ok (.bipush (-4), 2) := by decide +kernel
theorem dX12_best_116 : decode cX12_best 116 = .ok (.if_icmp .eq 12, 3) := by decide +kernel
theorem dX12_best_119 : decode cX12_best 119 = .ok (.aload_n 0, 1) := by decide +kernel
theorem dX12_best_120 : decode cX12_best 120 = .ok (.getfield 292, 3) := by decide +kernel
theorem dX12_best_123 : decode cX12_best 123 = .ok (.bipush (-4), 2) := by decide +kernel
theorem dX12_best_125 : decode cX12_best 125 = .ok (.if_icmp .ne 8, 3) := by decide +kernel
theorem dX12_best_128 : decode cX12_best 128 = .ok (.bipush (-4), 2) := by decide +kernel
theorem dX12_best_130 : decode cX12_best 130 = .ok (.goto 26, 3) := by decide +kernel
theorem dX12_best_133 : decode cX12_best 133 = .ok (.iload_n 1, 1) := by decide +kernel
theorem dX12_best_134 : decode cX12_best 134 = .ok (.ifCond .ne 7, 3) := by decide +kernel
theorem dX12_best_137 : decode cX12_best 137 = .ok (.iload_n 2, 1) := by decide +kernel
theorem dX12_best_138 : decode cX12_best 138 = .ok (.goto 18, 3) := by decide +kernel
theorem dX12_best_141 : decode cX12_best 141 = .ok (.iload_n 1, 1) := by decide +kernel
theorem dX12_best_142 : decode cX12_best 142 = .ok (.iconst 1, 1) := by decide +kernel
theorem dX12_best_143 : decode cX12_best 143 = .ok (.if_icmp .ne 7, 3) := by decide +kernel
theorem dX12_best_146 : decode cX12_best 146 = .ok (.iload_n 3, 1) := by decide +kernel
theorem dX12_best_147 : decode cX12_best 147 = .ok (.goto 9, 3) := by decide +kernel
theorem dX12_best_150 : decode cX12_best 150 = .ok (.iload_n 3, 1) := by decide +kernel
theorem dX12_best_151 : decode cX12_best 151 = .ok (.aload_n 0, 1) := by decide +kernel
theorem dX12_best_152 : decode cX12_best 152 = .ok (.getfield 295, 3) := by decide +kernel
theorem dX12_best_155 : decode cX12_best 155 = .ok (.isub, 1) := by decide +kernel
theorem dX12_best_156 : decode cX12_best 156 = .ok (.ireturn, 1) := by decide +kernel
theorem dX12_adopt_0 : decode cX12_adopt 0 = .ok (.aload_n 0, 1) := by decide +kernel
theorem dX12_adopt_1 : decode cX12_adopt 1 = .ok (.invokevirtual 309, 3) := by decide +kernel
theorem dX12_adopt_4 : decode cX12_adopt 4 = .ok (.aload_n 0, 1) := by decide +kernel
theorem dX12_adopt_5 : decode cX12_adopt 5 = .ok (.getfield 292, 3) := by decide +kernel
theorem dX12_adopt_8 : decode cX12_adopt 8 = .ok (.bipush (-4), 2) := by decide +kernel
theorem dX12_adopt_10 : decode cX12_adopt 10 = .ok (.if_icmp .ne 6, 3) := by decide +kernel
theorem dX12_adopt_13 : decode cX12_adopt 13 = .ok (.bipush (-4), 2) := by decide +kernel
theorem dX12_adopt_15 : decode cX12_adopt 15 = .ok (.ireturn, 1) := by decide +kernel
theorem dX12_adopt_16 : decode cX12_adopt 16 = .ok (.aload_n 0, 1) := by decide +kernel
theorem dX12_adopt_17 : decode cX12_adopt 17 = .ok (.aload_n 0, 1) := by decide +kernel
theorem dX12_adopt_18 : decode cX12_adopt 18 = .ok (.getfield 292, 3) := by decide +kernel
theorem dX12_adopt_21 : decode cX12_adopt 21 = .ok (.invokevirtual 301, 3) := by decide +kernel
theorem dX12_adopt_24 : decode cX12_adopt 24 = .ok (.pop, 1) := by decide +kernel
theorem dX12_adopt_25 : decode cX12_adopt 25 = .ok (.aload_n 0, 1) := by decide +kernel
theorem dX12_adopt_26 : decode cX12_adopt 26 = .ok (.iconst 0, 1) := by decide +kernel
theorem dX12_adopt_27 : decode cX12_adopt 27 = .ok (.sipush 300, 3) := by decide +kernel
theorem dX12_adopt_30 : decode cX12_adopt 30 = .ok (.invokevirtual 283, 3) := by decide +kernel
theorem dX12_adopt_33 : decode cX12_adopt 33 = .ok (.aload_n 0, 1) := by decide +kernel
theorem dX12_adopt_34 : decode cX12_adopt 34 = .ok (.iconst 0, 1) := by decide +kernel
theorem dX12_adopt_35 : decode cX12_adopt 35 = .ok (.invokevirtual 192, 3) := by decide +kernel
theorem dX12_adopt_38 : decode cX12_adopt 38 = .ok (.ireturn, 1) := by decide +kernel
theorem dX12_dragBy_0 : decode cX12_dragBy 0 = .ok (.iconst 0, 1) := by decide +kernel
theorem dX12_dragBy_1 : decode cX12_dragBy 1 = .ok (.istore_n 2, 1) := by decide +kernel
theorem dX12_dragBy_2 : decode cX12_dragBy 2 = .ok (.iconst 0, 1) := by decide +kernel
theorem dX12_dragBy_3 : decode cX12_dragBy 3 = .ok (.istore_n 3, 1) := by decide +kernel
theorem dX12_dragBy_4 : decode cX12_dragBy 4 = .ok (.iload_n 3, 1) := by decide +kernel
theorem dX12_dragBy_5 : decode cX12_dragBy 5 = .ok (.aload_n 0, 1) := by decide +kernel
theorem dX12_dragBy_6 : decode cX12_dragBy 6 = .ok (.iconst 0, 1) := by decide +kernel
theorem dX12_dragBy_7 : decode cX12_dragBy 7 = .ok (.invokevirtual 192, 3) := by decide +kernel
theorem dX12_dragBy_10 : decode cX12_dragBy 10 = .ok (.if_icmp .ge 31, 3) := by decide +kernel
theorem dX12_dragBy_13 : decode cX12_dragBy 13 = .ok (.iload_n 2, 1) := by decide +kernel
theorem dX12_dragBy_14 : decode cX12_dragBy 14 = .ok (.aload_n 0, 1) := by decide +kernel
theorem dX12_dragBy_15 : decode cX12_dragBy 15 = .ok (.iload_n 3, 1) := by decide +kernel
theorem dX12_dragBy_16 : decode cX12_dragBy 16 = .ok (.iload_n 1, 1) := by decide +kernel
theorem dX12_dragBy_17 : decode cX12_dragBy 17 = .ok (.iload_n 3, 1) := by decide +kernel
theorem dX12_dragBy_18 : decode cX12_dragBy 18 = .ok (.ishr, 1) := by decide +kernel
theorem dX12_dragBy_19 : decode cX12_dragBy 19 = .ok (.iconst 1, 1) := by decide +kernel
theorem dX12_dragBy_20 : decode cX12_dragBy 20 = .ok (.iand, 1) := by decide +kernel
theorem dX12_dragBy_21 : decode cX12_dragBy 21 = .ok (.iconst 1, 1) := by decide +kernel
theorem dX12_dragBy_22 : decode cX12_dragBy 22 = .ok (.if_icmp .ne 7, 3) := by decide +kernel
theorem dX12_dragBy_25 : decode cX12_dragBy 25 = .ok (.iconst 1, 1) := by decide +kernel
theorem dX12_dragBy_26 : decode cX12_dragBy 26 = .ok (.goto 4, 3) := by decide +kernel
theorem dX12_dragBy_29 : decode cX12_dragBy 29 = .ok (.iconst 0, 1) := by decide +kernel
theorem dX12_dragBy_30 : decode cX12_dragBy 30 = .ok (.invokevirtual 213, 3) := by decide +kernel
theorem dX12_dragBy_33 : decode cX12_dragBy 33 = .ok (.iadd, 1) := by decide +kernel
theorem dX12_dragBy_34 : decode cX12_dragBy 34 = .ok (.istore_n 2, 1) := by decide +kernel
theorem dX12_dragBy_35 : decode cX12_dragBy 35 = .ok (.iinc 3 1, 3) := by decide +kernel
theorem dX12_dragBy_38 : decode cX12_dragBy 38 = .ok (.goto (-34), 3) := by decide +kernel
theorem dX12_dragBy_41 : decode cX12_dragBy 41 = .ok (.iload_n 2, 1) := by decide +kernel
theorem dX12_dragBy_42 : decode cX12_dragBy 42 = .ok (.ireturn, 1) := by decide +kernel
theorem dX12_slungNow_0 : decode cX12_slungNow 0 = .ok (.iconst 0, 1) := by decide +kernel
theorem dX12_slungNow_1 : decode cX12_slungNow 1 = .ok (.istore_n 1, 1) := by decide +kernel
theorem dX12_slungNow_2 : decode cX12_slungNow 2 = .ok (.iconst 0, 1) := by decide +kernel
theorem dX12_slungNow_3 : decode cX12_slungNow 3 = .ok (.istore_n 2, 1) := by decide +kernel
theorem dX12_slungNow_4 : decode cX12_slungNow 4 = .ok (.iload_n 2, 1) := by decide +kernel
theorem dX12_slungNow_5 : decode cX12_slungNow 5 = .ok (.aload_n 0, 1) := by decide +kernel
theorem dX12_slungNow_6 : decode cX12_slungNow 6 = .ok (.iconst 0, 1) := by decide +kernel
theorem dX12_slungNow_7 : decode cX12_slungNow 7 = .ok (.invokevirtual 192, 3) := by decide +kernel
theorem dX12_slungNow_10 : decode cX12_slungNow 10 = .ok (.if_icmp .ge 27, 3) := by decide +kernel
theorem dX12_slungNow_13 : decode cX12_slungNow 13 = .ok (.iload_n 1, 1) := by decide +kernel
theorem dX12_slungNow_14 : decode cX12_slungNow 14 = .ok (.aload_n 0, 1) := by decide +kernel
theorem dX12_slungNow_15 : decode cX12_slungNow 15 = .ok (.iload_n 2, 1) := by decide +kernel
theorem dX12_slungNow_16 : decode cX12_slungNow 16 = .ok (.invokevirtual 204, 3) := by decide +kernel
theorem dX12_slungNow_19 : decode cX12_slungNow 19 = .ok (.ifCond .eq 9, 3) := by decide +kernel
theorem dX12_slungNow_22 : decode cX12_slungNow 22 = .ok (.iconst 1, 1) := by decide +kernel
theorem dX12_slungNow_23 : decode cX12_slungNow 23 = .ok (.iload_n 2, 1) := by decide +kernel
theorem dX12_slungNow_24 : decode cX12_slungNow 24 = .ok (.ishl, 1) := by decide +kernel
theorem dX12_slungNow_25 : decode cX12_slungNow 25 = .ok (.goto 4, 3) := by decide +kernel
theorem dX12_slungNow_28 : decode cX12_slungNow 28 = .ok (.iconst 0, 1) := by decide +kernel
theorem dX12_slungNow_29 : decode cX12_slungNow 29 = .ok (.ior, 1) := by decide +kernel
theorem dX12_slungNow_30 : decode cX12_slungNow 30 = .ok (.istore_n 1, 1) := by decide +kernel
theorem dX12_slungNow_31 : decode cX12_slungNow 31 = .ok (.iinc 2 1, 3) := by decide +kernel
theorem dX12_slungNow_34 : decode cX12_slungNow 34 = .ok (.goto (-30), 3) := by decide +kernel
theorem dX12_slungNow_37 : decode cX12_slungNow 37 = .ok (.iload_n 1, 1) := by decide +kernel
theorem dX12_slungNow_38 : decode cX12_slungNow 38 = .ok (.ireturn, 1) := by decide +kernel
theorem dX12_drag_0 : decode cX12_drag 0 = .ok (.iconst 0, 1) := by decide +kernel
theorem dX12_drag_1 : decode cX12_drag 1 = .ok (.istore_n 2, 1) := by decide +kernel
theorem dX12_drag_2 : decode cX12_drag 2 = .ok (.iconst 0, 1) := by decide +kernel
theorem dX12_drag_3 : decode cX12_drag 3 = .ok (.istore_n 3, 1) := by decide +kernel
theorem dX12_drag_4 : decode cX12_drag 4 = .ok (.iload_n 3, 1) := by decide +kernel
theorem dX12_drag_5 : decode cX12_drag 5 = .ok (.aload_n 0, 1) := by decide +kernel
theorem dX12_drag_6 : decode cX12_drag 6 = .ok (.iconst 0, 1) := by decide +kernel
theorem dX12_drag_7 : decode cX12_drag 7 = .ok (.invokevirtual 192, 3) := by decide +kernel
theorem dX12_drag_10 : decode cX12_drag 10 = .ok (.if_icmp .ge 27, 3) := by decide +kernel
theorem dX12_drag_13 : decode cX12_drag 13 = .ok (.iload_n 2, 1) := by decide +kernel
theorem dX12_drag_14 : decode cX12_drag 14 = .ok (.aload_n 0, 1) := by decide +kernel
theorem dX12_drag_15 : decode cX12_drag 15 = .ok (.iload_n 3, 1) := by decide +kernel
theorem dX12_drag_16 : decode cX12_drag 16 = .ok (.invokevirtual 210, 3) := by decide +kernel
theorem dX12_drag_19 : decode cX12_drag 19 = .ok (.ifCond .eq 9, 3) := by decide +kernel
theorem dX12_drag_22 : decode cX12_drag 22 = .ok (.iconst 1, 1) := by decide +kernel
theorem dX12_drag_23 : decode cX12_drag 23 = .ok (.iload_n 3, 1) := by decide +kernel
theorem dX12_drag_24 : decode cX12_drag 24 = .ok (.ishl, 1) := by decide +kernel
theorem dX12_drag_25 : decode cX12_drag 25 = .ok (.goto 4, 3) := by decide +kernel
theorem dX12_drag_28 : decode cX12_drag 28 = .ok (.iconst 0, 1) := by decide +kernel
theorem dX12_drag_29 : decode cX12_drag 29 = .ok (.ior, 1) := by decide +kernel
theorem dX12_drag_30 : decode cX12_drag 30 = .ok (.istore_n 2, 1) := by decide +kernel
theorem dX12_drag_31 : decode cX12_drag 31 = .ok (.iinc 3 1, 3) := by decide +kernel
theorem dX12_drag_34 : decode cX12_drag 34 = .ok (.goto (-30), 3) := by decide +kernel
theorem dX12_drag_37 : decode cX12_drag 37 = .ok (.aload_n 0, 1) := by decide +kernel
theorem dX12_drag_38 : decode cX12_drag 38 = .ok (.aload_n 0, 1) := by decide +kernel
theorem dX12_drag_39 : decode cX12_drag 39 = .ok (.invokevirtual 317, 3) := by decide +kernel
theorem dX12_drag_42 : decode cX12_drag 42 = .ok (.invokevirtual 320, 3) := by decide +kernel
theorem dX12_drag_45 : decode cX12_drag 45 = .ok (.istore_n 3, 1) := by decide +kernel
theorem dX12_drag_46 : decode cX12_drag 46 = .ok (.iload_n 1, 1) := by decide +kernel
theorem dX12_drag_47 : decode cX12_drag 47 = .ok (.ifCond .ne 7, 3) := by decide +kernel
theorem dX12_drag_50 : decode cX12_drag 50 = .ok (.iload_n 3, 1) := by decide +kernel
theorem dX12_drag_51 : decode cX12_drag 51 = .ok (.goto 32, 3) := by decide +kernel
theorem dX12_drag_54 : decode cX12_drag 54 = .ok (.iload_n 1, 1) := by decide +kernel
theorem dX12_drag_55 : decode cX12_drag 55 = .ok (.iconst 1, 1) := by decide +kernel
theorem dX12_drag_56 : decode cX12_drag 56 = .ok (.if_icmp .ne 7, 3) := by decide +kernel
theorem dX12_drag_59 : decode cX12_drag 59 = .ok (.iload_n 2, 1) := by decide +kernel
theorem dX12_drag_60 : decode cX12_drag 60 = .ok (.goto 23, 3) := by decide +kernel
theorem dX12_drag_63 : decode cX12_drag 63 = .ok (.iload_n 1, 1) := by decide +kernel
theorem dX12_drag_64 : decode cX12_drag 64 = .ok (.iconst 2, 1) := by decide +kernel
theorem dX12_drag_65 : decode cX12_drag 65 = .ok (.if_icmp .ne 17, 3) := by decide +kernel
theorem dX12_drag_68 : decode cX12_drag 68 = .ok (.aload_n 0, 1) := by decide +kernel
theorem dX12_drag_69 : decode cX12_drag 69 = .ok (.getfield 17, 3) := by decide +kernel
theorem dX12_drag_72 : decode cX12_drag 72 = .ok (.iconst 0, 1) := by decide +kernel
theorem dX12_drag_73 : decode cX12_drag 73 = .ok (.iaload, 1) := by decide +kernel
theorem dX12_drag_74 : decode cX12_drag 74 = .ok (.iload_n 3, 1) := by decide +kernel
theorem dX12_drag_75 : decode cX12_drag 75 = .ok (.bipush 10, 2) := by decide +kernel
theorem dX12_drag_77 : decode cX12_drag 77 = .ok (.idiv, 1) := by decide +kernel
theorem dX12_drag_78 : decode cX12_drag 78 = .ok (.iadd, 1) := by decide +kernel
theorem dX12_drag_79 : decode cX12_drag 79 = .ok (.goto 4, 3) := by decide +kernel
theorem dX12_drag_82 : decode cX12_drag 82 = .ok (.iconst (-1), 1) := by decide +kernel
theorem dX12_drag_83 : decode cX12_drag 83 = .ok (.ireturn, 1) := by decide +kernel
theorem dX12_slings_0 : decode cX12_slings 0 = .ok (.iload_n 1, 1) := by decide +kernel
theorem dX12_slings_1 : decode cX12_slings 1 = .ok (.i2l, 1) := by decide +kernel
theorem dX12_slings_2 : decode cX12_slings 2 = .ok (.lconst 0, 1) := by decide +kernel
theorem dX12_slings_3 : decode cX12_slings 3 = .ok (.ldc2_w 187, 3) := by decide +kernel
theorem dX12_slings_6 : decode cX12_slings 6 = .ok (.invokestatic 82, 3) := by decide +kernel
theorem dX12_slings_9 : decode cX12_slings 9 = .ok (.ifCond .eq 13, 3) := by decide +kernel
theorem dX12_slings_12 : decode cX12_slings 12 = .ok (.iload_n 2, 1) := by decide +kernel
theorem dX12_slings_13 : decode cX12_slings 13 = .ok (.i2l, 1) := by decide +kernel
theorem dX12_slings_14 : decode cX12_slings 14 = .ok (.lconst 0, 1) := by decide +kernel
theorem dX12_slings_15 : decode cX12_slings 15 = .ok (.lconst 1, 1) := by decide +kernel
theorem dX12_slings_16 : decode cX12_slings 16 = .ok (.invokestatic 82, 3) := by decide +kernel
theorem dX12_slings_19 : decode cX12_slings 19 = .ok (.ifCond .ne 5, 3) := by decide +kernel
theorem dX12_slings_22 : decode cX12_slings 22 = .ok (.iconst (-1), 1) := by decide +kernel
theorem dX12_slings_23 : decode cX12_slings 23 = .ok (.ireturn, 1) := by decide +kernel
theorem dX12_slings_24 : decode cX12_slings 24 = .ok (.iconst 0, 1) := by decide +kernel
theorem dX12_slings_25 : decode cX12_slings 25 = .ok (.istore_n 3, 1) := by decide +kernel
theorem dX12_slings_26 : decode cX12_slings 26 = .ok (.aload_n 0, 1) := by decide +kernel
theorem dX12_slings_27 : decode cX12_slings 27 = .ok (.iconst 0, 1) := by decide +kernel
theorem dX12_slings_28 : decode cX12_slings 28 = .ok (.invokevirtual 320, 3) := by decide +kernel
theorem dX12_slings_31 : decode cX12_slings 31 = .ok (.istore 4, 2) := by decide +kernel
theorem dX12_slings_33 : decode cX12_slings 33 = .ok (.iconst 1, 1) := by decide +kernel
theorem dX12_slings_34 : decode cX12_slings 34 = .ok (.istore 5, 2) := by decide +kernel
theorem dX12_slings_36 : decode cX12_slings 36 = .ok (.iload 5, 2) := by decide +kernel
theorem dX12_slings_38 : decode cX12_slings 38 = .ok (.iconst 1, 1) := by decide +kernel
theorem dX12_slings_39 : decode cX12_slings 39 = .ok (.aload_n 0, 1) := by decide +kernel
theorem dX12_slings_40 : decode cX12_slings 40 = .ok (.iconst 0, 1) := by decide +kernel
theorem dX12_slings_41 : decode cX12_slings 41 = .ok (.invokevirtual 192, 3) := by decide +kernel
theorem dX12_slings_44 : decode cX12_slings 44 = .ok (.ishl, 1) := by decide +kernel
theorem dX12_slings_45 : decode cX12_slings 45 = .ok (.if_icmp .ge 85, 3) := by decide +kernel
theorem dX12_slings_48 : decode cX12_slings 48 = .ok (.iload 5, 2) := by decide +kernel
theorem dX12_slings_50 : decode cX12_slings 50 = .ok (.invokestatic 304, 3) := by decide +kernel
theorem dX12_slings_53 : decode cX12_slings 53 = .ok (.iload_n 1, 1) := by decide +kernel
theorem dX12_slings_54 : decode cX12_slings 54 = .ok (.if_icmp .gt 70, 3) := by decide +kernel
theorem dX12_slings_57 : decode cX12_slings 57 = .ok (.aload_n 0, 1) := by decide +kernel
theorem dX12_slings_58 : decode cX12_slings 58 = .ok (.iload 5, 2) := by decide +kernel
theorem dX12_slings_60 : decode cX12_slings 60 = .ok (.invokevirtual 320, 3) := by decide +kernel
theorem dX12_slings_63 : decode cX12_slings 63 = .ok (.istore 6, 2) := by decide +kernel
theorem dX12_slings_65 : decode cX12_slings 65 = .ok (.iload 6, 2) := by decide +kernel
theorem dX12_slings_67 : decode cX12_slings 67 = .ok (.iload 4, 2) := by decide +kernel
theorem dX12_slings_69 : decode cX12_slings 69 = .ok (.if_icmp .lt 22, 3) := by decide +kernel
theorem dX12_slings_72 : decode cX12_slings 72 = .ok (.iload 6, 2) := by decide +kernel
theorem dX12_slings_74 : decode cX12_slings 74 = .ok (.iload 4, 2) := by decide +kernel
theorem dX12_slings_76 : decode cX12_slings 76 = .ok (.if_icmp .ne 19, 3) := by decide +kernel
theorem dX12_slings_79 : decode cX12_slings 79 = .ok (.iload 5, 2) := by decide +kernel
theorem dX12_slings_81 : decode cX12_slings 81 = .ok (.invokestatic 304, 3) := by decide +kernel
theorem dX12_slings_84 : decode cX12_slings 84 = .ok (.iload_n 3, 1) := by decide +kernel
theorem dX12_slings_85 : decode cX12_slings 85 = .ok (.invokestatic 304, 3) := by decide +kernel
theorem dX12_slings_88 : decode cX12_slings 88 = .ok (.if_icmp .ge 7, 3) := by decide +kernel
theorem dX12_slings_91 : decode cX12_slings 91 = .ok (.iconst 1, 1) := by decide +kernel
theorem dX12_slings_92 : decode cX12_slings 92 = .ok (.goto 4, 3) := by decide +kernel
theorem dX12_slings_95 : decode cX12_slings 95 = .ok (.iconst 0, 1) := by decide +kernel
theorem dX12_slings_96 : decode cX12_slings 96 = .ok (.istore 7, 2) := by decide +kernel
theorem dX12_slings_98 : decode cX12_slings 98 = .ok (.iload 7, 2) := by decide +kernel
theorem dX12_slings_100 : decode cX12_slings 100 = .ok (.ifCond .eq 8, 3) := by decide +kernel
theorem dX12_slings_103 : decode cX12_slings 103 = .ok (.iload 5, 2) := by decide +kernel
theorem dX12_slings_105 : decode cX12_slings 105 = .ok (.goto 4, 3) := by decide +kernel
theorem dX12_slings_108 : decode cX12_slings 108 = .ok (.iload_n 3, 1) := by decide +kernel
theorem dX12_slings_109 : decode cX12_slings 109 = .ok (.istore_n 3, 1) := by decide +kernel
theorem dX12_slings_110 : decode cX12_slings 110 = .ok (.iload 7, 2) := by decide +kernel
theorem dX12_slings_112 : decode cX12_slings 112 = .ok (.ifCond .eq 8, 3) := by decide +kernel
theorem dX12_slings_115 : decode cX12_slings 115 = .ok (.iload 6, 2) := by decide +kernel
theorem dX12_slings_117 : decode cX12_slings 117 = .ok (.goto 5, 3) := by decide +kernel
theorem dX12_slings_120 : decode cX12_slings 120 = .ok (.iload 4, 2) := by decide +kernel
theorem dX12_slings_122 : decode cX12_slings 122 = .ok (.istore 4, 2) := by decide +kernel
theorem dX12_slings_124 : decode cX12_slings 124 = .ok (.iinc 5 1, 3) := by decide +kernel
theorem dX12_slings_127 : decode cX12_slings 127 = .ok (.goto (-91), 3) := by decide +kernel
theorem dX12_slings_130 : decode cX12_slings 130 = .ok (.iload_n 2, 1) := by decide +kernel
theorem dX12_slings_131 : decode cX12_slings 131 = .ok (.ifCond .ne 8, 3) := by decide +kernel
theorem dX12_slings_134 : decode cX12_slings 134 = .ok (.iload 4, 2) := by decide +kernel
theorem dX12_slings_136 : decode cX12_slings 136 = .ok (.goto 4, 3) := by decide +kernel
theorem dX12_slings_139 : decode cX12_slings 139 = .ok (.iload_n 3, 1) := by decide +kernel
theorem dX12_slings_140 : decode cX12_slings 140 = .ok (.ireturn, 1) := by decide +kernel
theorem dX12_isStance_0 : decode cX12_isStance 0 = .ok (.iload_n 1, 1) := by decide +kernel
theorem dX12_isStance_1 : decode cX12_isStance 1 = .ok (.aload_n 0, 1) := by decide +kernel
theorem dX12_isStance_2 : decode cX12_isStance 2 = .ok (.getfield 17, 3) := by decide +kernel
theorem dX12_isStance_5 : decode cX12_isStance 5 = .ok (.iconst 0, 1) := by decide +kernel
theorem dX12_isStance_6 : decode cX12_isStance 6 = .ok (.iaload, 1) := by decide +kernel
theorem dX12_isStance_7 : decode cX12_isStance 7 = .ok (.if_icmp .eq 23, 3) := by decide +kernel
theorem dX12_isStance_10 : decode cX12_isStance 10 = .ok (.aload_n 0, 1) := by decide +kernel
theorem dX12_isStance_11 : decode cX12_isStance 11 = .ok (.iload_n 1, 1) := by decide +kernel
theorem dX12_isStance_12 : decode cX12_isStance 12 = .ok (.iconst 2, 1) := by decide +kernel
theorem dX12_isStance_13 : decode cX12_isStance 13 = .ok (.invokevirtual 184, 3) := by decide +kernel
theorem dX12_isStance_16 : decode cX12_isStance 16 = .ok (.iconst 1, 1) := by decide +kernel
theorem dX12_isStance_17 : decode cX12_isStance 17 = .ok (.if_icmp .eq 13, 3) := by decide +kernel
theorem dX12_isStance_20 : decode cX12_isStance 20 = .ok (.aload_n 0, 1) := by decide +kernel
theorem dX12_isStance_21 : decode cX12_isStance 21 = .ok (.iload_n 1, 1) := by decide +kernel
theorem dX12_isStance_22 : decode cX12_isStance 22 = .ok (.iconst 3, 1) := by decide +kernel
theorem dX12_isStance_23 : decode cX12_isStance 23 = .ok (.invokevirtual 184, 3) := by decide +kernel
theorem dX12_isStance_26 : decode cX12_isStance 26 = .ok (.iconst 1, 1) := by decide +kernel
theorem dX12_isStance_27 : decode cX12_isStance 27 = .ok (.if_icmp .ne 7, 3) := by decide +kernel
theorem dX12_isStance_30 : decode cX12_isStance 30 = .ok (.iconst 1, 1) := by decide +kernel
theorem dX12_isStance_31 : decode cX12_isStance 31 = .ok (.goto 4, 3) := by decide +kernel
theorem dX12_isStance_34 : decode cX12_isStance 34 = .ok (.iconst 0, 1) := by decide +kernel
theorem dX12_isStance_35 : decode cX12_isStance 35 = .ok (.ireturn, 1) := by decide +kernel
theorem dX12_findPitches_0 : decode cX12_findPitches 0 = .ok (.aload_n 0, 1) := by decide +kernel
theorem dX12_findPitches_1 : decode cX12_findPitches 1 = .ok (.getfield 17, 3) := by decide +kernel
theorem dX12_findPitches_4 : decode cX12_findPitches 4 = .ok (.iconst 0, 1) := by decide +kernel
theorem dX12_findPitches_5 : decode cX12_findPitches 5 = .ok (.iaload, 1) := by decide +kernel
theorem dX12_findPitches_6 : decode cX12_findPitches 6 = .ok (.istore_n 1, 1) := by decide +kernel
theorem dX12_findPitches_7 : decode cX12_findPitches 7 = .ok (.iload_n 1, 1) := by decide +kernel
theorem dX12_findPitches_8 : decode cX12_findPitches 8 = .ok (.istore_n 2, 1) := by decide +kernel
theorem dX12_findPitches_9 : decode cX12_findPitches 9 = .ok (.iload_n 2, 1) := by decide +kernel
theorem dX12_findPitches_10 : decode cX12_findPitches 10 = .ok (.ifCond .lt 140, 3) := by decide +kernel
theorem dX12_findPitches_13 : decode cX12_findPitches 13 = .ok (.aload_n 0, 1) := by decide +kernel
theorem dX12_findPitches_14 : decode cX12_findPitches 14 = .ok (.getfield 41, 3) := by decide +kernel
theorem dX12_findPitches_17 : decode cX12_findPitches 17 = .ok (.iload_n 2, 1) := by decide +kernel
theorem dX12_findPitches_18 : decode cX12_findPitches 18 = .ok (.iload_n 2, 1) := by decide +kernel
theorem dX12_findPitches_19 : decode cX12_findPitches 19 = .ok (.iload_n 1, 1) := by decide +kernel
theorem dX12_findPitches_20 : decode cX12_findPitches 20 = .ok (.if_icmp .ne 7, 3) := by decide +kernel
theorem dX12_findPitches_23 : decode cX12_findPitches 23 = .ok (.iconst 0, 1) := by decide +kernel
theorem dX12_findPitches_24 : decode cX12_findPitches 24 = .ok (.goto 5, 3) := by decide +kernel
theorem dX12_findPitches_27 : decode cX12_findPitches 27 = .ok (.bipush (-4), 2) := by decide +kernel
theorem dX12_findPitches_29 : decode cX12_findPitches 29 = .ok (.iastore, 1) := by decide +kernel
theorem dX12_findPitches_30 : decode cX12_findPitches 30 = .ok (.iload_n 2, 1) := by decide +kernel
theorem dX12_findPitches_31 : decode cX12_findPitches 31 = .ok (.iconst 1, 1) := by decide +kernel
theorem dX12_findPitches_32 : decode cX12_findPitches 32 = .ok (.iadd, 1) := by decide +kernel
theorem dX12_findPitches_33 : decode cX12_findPitches 33 = .ok (.istore_n 3, 1) := by decide +kernel
theorem dX12_findPitches_34 : decode cX12_findPitches 34 = .ok (.iload_n 3, 1) := by decide +kernel
theorem dX12_findPitches_35 : decode cX12_findPitches 35 = .ok (.iload_n 1, 1) := by decide +kernel
theorem dX12_findPitches_36 : decode cX12_findPitches 36 = .ok (.if_icmp .gt 108, 3) := by decide +kernel
theorem dX12_findPitches_39 : decode cX12_findPitches 39 = .ok (.iload_n 3, 1) := by decide +kernel
theorem dX12_findPitches_40 : decode cX12_findPitches 40 = .ok (.iload_n 2, 1) := by decide +kernel
theorem dX12_findPitches_41 : decode cX12_findPitches 41 = .ok (.isub, 1) := by decide +kernel
theorem dX12_findPitches_42 : decode cX12_findPitches 42 = .ok (.aload_n 0, 1) := by decide +kernel
theorem dX12_findPitches_43 : decode cX12_findPitches 43 = .ok (.getfield 17, 3) := by decide +kernel
theorem dX12_findPitches_46 : decode cX12_findPitches 46 = .ok (.iconst 3, 1) := by decide +kernel
theorem dX12_findPitches_47 : decode cX12_findPitches 47 = .ok (.iaload, 1) := by decide +kernel
theorem dX12_findPitches_48 : decode cX12_findPitches 48 = .ok (.if_icmp .gt 96, 3) := by decide +kernel
theorem dX12_findPitches_51 : decode cX12_findPitches 51 = .ok (.iload_n 2, 1) := by decide +kernel
theorem dX12_findPitches_52 : decode cX12_findPitches 52 = .ok (.iload_n 1, 1) := by decide +kernel
theorem dX12_findPitches_53 : decode cX12_findPitches 53 = .ok (.if_icmp .ge 91, 3) := by decide +kernel
theorem dX12_findPitches_56 : decode cX12_findPitches 56 = .ok (.aload_n 0, 1) := by decide +kernel
theorem dX12_findPitches_57 : decode cX12_findPitches 57 = .ok (.iload_n 3, 1) := by decide +kernel
theorem dX12_findPitches_58 : decode cX12_findPitches 58 = .ok (.invokevirtual 323, 3) := by decide +kernel
theorem dX12_findPitches_61 : decode cX12_findPitches 61 = .ok (.ifCond .eq 18, 3) := by decide +kernel
theorem dX12_findPitches_64 : decode cX12_findPitches 64 = .ok (.aload_n 0, 1) := by decide +kernel
theorem dX12_findPitches_65 : decode cX12_findPitches 65 = .ok (.getfield 41, 3) := by decide +kernel
theorem dX12_findPitches_68 : decode cX12_findPitches 68 = .ok (.iload_n 3, 1) := by decide +kernel
theorem dX12_findPitches_69 : decode cX12_findPitches 69 = .ok (.iaload, 1) := by decide +kernel
theorem dX12_findPitches_70 : decode cX12_findPitches 70 = .ok (.bipush (-4), 2) := by decide +kernel
theorem dX12_findPitches_72 : decode cX12_findPitches 72 = .ok (.if_icmp .eq 7, 3) := by decide +kernel
theorem dX12_findPitches_75 : decode cX12_findPitches 75 = .ok (.iconst 1, 1) := by decide +kernel
theorem dX12_findPitches_76 : decode cX12_findPitches 76 = .ok (.goto 4, 3) := by decide +kernel
theorem dX12_findPitches_79 : decode cX12_findPitches 79 = .ok (.iconst 0, 1) := by decide +kernel
theorem dX12_findPitches_80 : decode cX12_findPitches 80 = .ok (.istore 4, 2) := by decide +kernel
theorem dX12_findPitches_82 : decode cX12_findPitches 82 = .ok (.aload_n 0, 1) := by decide +kernel
theorem dX12_findPitches_83 : decode cX12_findPitches 83 = .ok (.getfield 41, 3) := by decide +kernel
theorem dX12_findPitches_86 : decode cX12_findPitches 86 = .ok (.iload_n 2, 1) := by decide +kernel
theorem dX12_findPitches_87 : decode cX12_findPitches 87 = .ok (.iload 4, 2) := by decide +kernel
theorem dX12_findPitches_89 : decode cX12_findPitches 89 = .ok (.ifCond .eq 42, 3) := by decide +kernel
theorem dX12_findPitches_92 : decode cX12_findPitches 92 = .ok (.aload_n 0, 1) := by decide +kernel
theorem dX12_findPitches_93 : decode cX12_findPitches 93 = .ok (.getfield 41, 3) := by decide +kernel
theorem dX12_findPitches_96 : decode cX12_findPitches 96 = .ok (.iload_n 2, 1) := by decide +kernel
theorem dX12_findPitches_97 : decode cX12_findPitches 97 = .ok (.iaload, 1) := by decide +kernel
theorem dX12_findPitches_98 : decode cX12_findPitches 98 = .ok (.bipush (-4), 2) := by decide +kernel
theorem dX12_findPitches_100 : decode cX12_findPitches 100 = .ok (.if_icmp .eq 20, 3) := by decide +kernel
theorem dX12_findPitches_103 : decode cX12_findPitches 103 = .ok (.aload_n 0, 1) := by decide +kernel
theorem dX12_findPitches_104 : decode cX12_findPitches 104 = .ok (.getfield 41, 3) := by decide +kernel
theorem dX12_findPitches_107 : decode cX12_findPitches 107 = .ok (.iload_n 3, 1) := by decide +kernel
theorem dX12_findPitches_108 : decode cX12_findPitches 108 = .ok (.iaload, 1) := by decide +kernel
theorem dX12_findPitches_109 : decode cX12_findPitches 109 = .ok (.iconst 1, 1) := by decide +kernel
theorem dX12_findPitches_110 : decode cX12_findPitches 110 = .ok (.iadd, 1) := by decide +kernel
theorem dX12_findPitches_111 : decode cX12_findPitches 111 = .ok (.aload_n 0, 1) := by decide +kernel
theorem dX12_findPitches_112 : decode cX12_findPitches 112 = .ok (.getfield 41, 3) := by decide +kernel
theorem dX12_findPitches_115 : decode cX12_findPitches 115 = .ok (.iload_n 2, 1) := by decide +kernel
theorem dX12_findPitches_116 : decode cX12_findPitches 116 = .ok (.iaload, 1) := by decide +kernel
theorem dX12_findPitches_117 : decode cX12_findPitches 117 = .ok (.if_icmp .ge 14, 3) := by decide +kernel
theorem dX12_findPitches_120 : decode cX12_findPitches 120 = .ok (.aload_n 0, 1) := by decide +kernel
theorem dX12_findPitches_121 : decode cX12_findPitches 121 = .ok (.getfield 41, 3) := by decide +kernel
theorem dX12_findPitches_124 : decode cX12_findPitches 124 = .ok (.iload_n 3, 1) := by decide +kernel
theorem dX12_findPitches_125 : decode cX12_findPitches 125 = .ok (.iaload, 1) := by decide +kernel
theorem dX12_findPitches_126 : decode cX12_findPitches 126 = .ok (.iconst 1, 1) := by decide +kernel
theorem dX12_findPitches_127 : decode cX12_findPitches 127 = .ok (.iadd, 1) := by decide +kernel
theorem dX12_findPitches_128 : decode cX12_findPitches 128 = .ok (.goto 9, 3) := by decide +kernel
theorem dX12_findPitches_131 : decode cX12_findPitches 131 = .ok (.aload_n 0, 1) := by decide +kernel
theorem dX12_findPitches_132 : decode cX12_findPitches 132 = .ok (.getfield 41, 3) := by decide +kernel
theorem dX12_findPitches_135 : decode cX12_findPitches 135 = .ok (.iload_n 2, 1) := by decide +kernel
theorem dX12_findPitches_136 : decode cX12_findPitches 136 = .ok (.iaload, 1) := by decide +kernel
theorem dX12_findPitches_137 : decode cX12_findPitches 137 = .ok (.iastore, 1) := by decide +kernel
theorem dX12_findPitches_138 : decode cX12_findPitches 138 = .ok (.iinc 3 1, 3) := by decide +kernel
theorem dX12_findPitches_141 : decode cX12_findPitches 141 = .ok (.goto (-107), 3) := by decide +kernel
theorem dX12_findPitches_144 : decode cX12_findPitches 144 = .ok (.iinc 2 (-1), 3) := by decide +kernel
theorem dX12_findPitches_147 : decode cX12_findPitches 147 = .ok (.goto (-138), 3) := by decide +kernel
theorem dX12_findPitches_150 : decode cX12_findPitches 150 = .ok (.aload_n 0, 1) := by decide +kernel
theorem dX12_findPitches_151 : decode cX12_findPitches 151 = .ok (.aload_n 0, 1) := by decide +kernel
theorem dX12_findPitches_152 : decode cX12_findPitches 152 = .ok (.getfield 41, 3) := by decide +kernel
theorem dX12_findPitches_155 : decode cX12_findPitches 155 = .ok (.iconst 0, 1) := by decide +kernel
theorem dX12_findPitches_156 : decode cX12_findPitches 156 = .ok (.iaload, 1) := by decide +kernel
theorem dX12_findPitches_157 : decode cX12_findPitches 157 = .ok (.putfield 326, 3) := by decide +kernel
theorem dX12_findPitches_160 : decode cX12_findPitches 160 = .ok (.iconst 0, 1) := by decide +kernel
theorem dX12_findPitches_161 : decode cX12_findPitches 161 = .ok (.istore_n 2, 1) := by decide +kernel
theorem dX12_findPitches_162 : decode cX12_findPitches 162 = .ok (.iconst 0, 1) := by decide +kernel
theorem dX12_findPitches_163 : decode cX12_findPitches 163 = .ok (.istore_n 3, 1) := by decide +kernel
theorem dX12_findPitches_164 : decode cX12_findPitches 164 = .ok (.iload_n 3, 1) := by decide +kernel
theorem dX12_findPitches_165 : decode cX12_findPitches 165 = .ok (.aload_n 0, 1) := by decide +kernel
theorem dX12_findPitches_166 : decode cX12_findPitches 166 = .ok (.getfield 326, 3) := by decide +kernel
theorem dX12_findPitches_169 : decode cX12_findPitches 169 = .ok (.if_icmp .ge 70, 3) := by decide +kernel
theorem dX12_findPitches_172 : decode cX12_findPitches 172 = .ok (.iload_n 2, 1) := by decide +kernel
theorem dX12_findPitches_173 : decode cX12_findPitches 173 = .ok (.iconst 1, 1) := by decide +kernel
theorem dX12_findPitches_174 : decode cX12_findPitches 174 = .ok (.iadd, 1) := by decide +kernel
theorem dX12_findPitches_175 : decode cX12_findPitches 175 = .ok (.istore 4, 2) := by decide +kernel
theorem dX12_findPitches_177 : decode cX12_findPitches 177 = .ok (.aload_n 0, 1) := by decide +kernel
theorem dX12_findPitches_178 : decode cX12_findPitches 178 = .ok (.iload 4, 2) := by decide +kernel
theorem dX12_findPitches_180 : decode cX12_findPitches 180 = .ok (.invokevirtual 323, 3) := by decide +kernel
theorem dX12_findPitches_183 : decode cX12_findPitches 183 = .ok (.ifCond .eq 33, 3) := by decide +kernel
theorem dX12_findPitches_186 : decode cX12_findPitches 186 = .ok (.aload_n 0, 1) := by decide +kernel
theorem dX12_findPitches_187 : decode cX12_findPitches 187 = .ok (.getfield 41, 3) := by decide +kernel
theorem dX12_findPitches_190 : decode cX12_findPitches 190 = .ok (.iload 4, 2) := by decide +kernel
theorem dX12_findPitches_192 : decode cX12_findPitches 192 = .ok (.iaload, 1) := by decide +kernel
theorem dX12_findPitches_193 : decode cX12_findPitches 193 = .ok (.bipush (-4), 2) := by decide +kernel
theorem dX12_findPitches_195 : decode cX12_findPitches 195 = .ok (.if_icmp .eq 21, 3) := by decide +kernel
theorem dX12_findPitches_198 : decode cX12_findPitches 198 = .ok (.aload_n 0, 1) := by decide +kernel
theorem dX12_findPitches_199 : decode cX12_findPitches 199 = .ok (.getfield 41, 3) := by decide +kernel
theorem dX12_findPitches_202 : decode cX12_findPitches 202 = .ok (.iload 4, 2) := by decide +kernel
theorem dX12_findPitches_204 : decode cX12_findPitches 204 = .ok (.iaload, 1) := by decide +kernel
theorem dX12_findPitches_205 : decode cX12_findPitches 205 = .ok (.iconst 1, 1) := by decide +kernel
theorem dX12_findPitches_206 : decode cX12_findPitches 206 = .ok (.iadd, 1) := by decide +kernel
theorem dX12_findPitches_207 : decode cX12_findPitches 207 = .ok (.aload_n 0, 1) := by decide +kernel
theorem dX12_findPitches_208 : decode cX12_findPitches 208 = .ok (.getfield 41, 3) := by decide +kernel
theorem dX12_findPitches_211 : decode cX12_findPitches 211 = .ok (.iload_n 2, 1) := by decide +kernel
theorem dX12_findPitches_212 : decode cX12_findPitches 212 = .ok (.iaload, 1) := by decide +kernel
theorem dX12_findPitches_213 : decode cX12_findPitches 213 = .ok (.if_icmp .eq 9, 3) := by decide +kernel
theorem dX12_findPitches_216 : decode cX12_findPitches 216 = .ok (.iinc 4 1, 3) := by decide +kernel
theorem dX12_findPitches_219 : decode cX12_findPitches 219 = .ok (.goto (-42), 3) := by decide +kernel
theorem dX12_findPitches_222 : decode cX12_findPitches 222 = .ok (.aload_n 0, 1) := by decide +kernel
theorem dX12_findPitches_223 : decode cX12_findPitches 223 = .ok (.getfield 44, 3) := by decide +kernel
theorem dX12_findPitches_226 : decode cX12_findPitches 226 = .ok (.iload_n 3, 1) := by decide +kernel
theorem dX12_findPitches_227 : decode cX12_findPitches 227 = .ok (.iload 4, 2) := by decide +kernel
theorem dX12_findPitches_229 : decode cX12_findPitches 229 = .ok (.iastore, 1) := by decide +kernel
theorem dX12_findPitches_230 : decode cX12_findPitches 230 = .ok (.iload 4, 2) := by decide +kernel
theorem dX12_findPitches_232 : decode cX12_findPitches 232 = .ok (.istore_n 2, 1) := by decide +kernel
theorem dX12_findPitches_233 : decode cX12_findPitches 233 = .ok (.iinc 3 1, 3) := by decide +kernel
theorem dX12_findPitches_236 : decode cX12_findPitches 236 = .ok (.goto (-72), 3) := by decide +kernel
theorem dX12_findPitches_239 : decode cX12_findPitches 239 = .ok (.return_, 1) := by decide +kernel
abbrev q_X12_plan (w : Int) (σ : tw_M) : Option tw_V → tw_M → Prop := fun z τ => ∃ r : Int, z = some (vI r) ∧ (-2147483648 ≤ r ∧ r ≤ 2147483647) ∧ tw_I τ ∧ tw_F (fun c j => (c = 88 ∧ (j = 19 ∨ j = 20 ∨ j = 21 ∨ j = 22 ∨ j = 23 ∨ j = 24 ∨ j = 25 ∨ j = 26 ∨ j = 27)) ∨ (c = 89 ∧ 300 ≤ j)) σ τ ∧ True
set_option maxHeartbeats 4000000 in
set_option maxRecDepth 100000 in
theorem c_X12_plan {G : tw_G} (hM : tw_isM G) (w : Int) (hw : -2147483648 ≤ w ∧ w ≤ 2147483647) (σ : tw_M) (hI : tw_I σ) : tw_C G yX12_plan cX12_plan 2 (some .int) 5 [vR 88, vI w] σ (q_X12_plan w σ) := by
  refine tw_met [(0, vR 88), (1, vI w)] (by decide +kernel) rfl (Nat.le_of_ble_eq_true rfl) ?_
  refine j_iload_n (pc := 0) dX12_plan_0 rfl rfl ?_
  refine j_i2l (pc := 1) dX12_plan_1 ?_
  rw [w32_eq (a := w) (by omega) (by omega)]
  refine j_lconst (pc := 2) (z := 0) dX12_plan_2 rfl ?_
  refine j_lconst (pc := 3) (z := 1) dX12_plan_3 rfl ?_
  refine j_callS (pc := 4) (As := [vL w, vL 0, vL 1]) (st := []) (c_X12_in w ⟨by omega, by omega⟩ 0 (by (first | decide | exact ⟨by omega, by omega⟩)) 1 (by (first | decide | exact ⟨by omega, by omega⟩)) σ hI) ms_X12_82 rfl dX12_plan_4 ⟨Nat.le_of_ble_eq_true rfl, Nat.le_of_ble_eq_true rfl⟩ ⟨Nat.le_refl _, Nat.le_refl _⟩ rfl (Nat.le_of_ble_eq_true rfl) rfl (fun z1 σ2 hz1 => ?_)
  obtain ⟨r4, rfl, hr4, rfl, q3_0⟩ := hz1
  replace q3_0 : (r4 = 1 ∧ (0 : Int) ≤ w ∧ w ≤ (1 : Int)) ∨ (r4 = 0 ∧ ¬ ((0 : Int) ≤ w ∧ w ≤ (1 : Int))) := q3_0
  refine j_st (st' := [vI r4]) rfl ?_
  refine j_ifR_ne (pc := 7) (tgt := 26) ⟨by omega, by omega⟩ dX12_plan_7 rfl (fun h5 => ?_) (fun h5 => ?_)
  · refine j_aload_n (pc := 26) dX12_plan_26 rfl rfl ?_
    refine j_callV (pc := 27) (As := []) (st := []) (c_X12_findPlan hM σ hI) mv_X12_309 rfl rfl rfl (a_88 hM) dX12_plan_27 ⟨Nat.le_of_ble_eq_true rfl, Nat.le_of_ble_eq_true rfl⟩ ⟨Nat.le_refl _, Nat.le_refl _⟩ rfl (Nat.le_of_ble_eq_true rfl) rfl (fun z6 σ7 hz6 => ?_)
    obtain ⟨rfl, hIσ7, hGσ7, q8_0, q8_1⟩ := hz6
    replace q8_0 : PS σ (σ7 88 26) (p2 (mK σ)) := q8_0
    replace q8_1 : ∀ rk : Nat → Int, MOK rk σ → WOK (wM σ) → BMS (wM σ) rk (pt (kk (wM σ))) (σ7 88 26) (σ7 88 27) := q8_1
    have hFσ7 : tw_F (fun c j => (c = 88 ∧ (j = 19 ∨ j = 20 ∨ j = 21 ∨ j = 22 ∨ j = 23 ∨ j = 24 ∨ j = 25 ∨ j = 26 ∨ j = 27)) ∨ (c = 89 ∧ 300 ≤ j)) σ σ7 := tw_F_tr (tw_F_rf) hGσ7 (fun c j q => (show (c = 88 ∧ (j = 19 ∨ j = 20 ∨ j = 21 ∨ j = 22 ∨ j = 23 ∨ j = 24 ∨ j = 25 ∨ j = 26 ∨ j = 27)) ∨ (c = 89 ∧ 300 ≤ j) from by replace q : (c = 88 ∧ (j = 19 ∨ j = 20 ∨ j = 21 ∨ j = 22 ∨ j = 23 ∨ j = 24 ∨ j = 25 ∨ j = 26 ∨ j = 27)) ∨ (c = 89 ∧ 300 ≤ j) := q; exact q))
    refine j_st (st' := []) rfl ?_
    refine j_aload_n (pc := 30) dX12_plan_30 rfl rfl ?_
    refine j_getI (pc := 31) fl_X12_292 dX12_plan_31 (a_88 hM) rfl ?_
    have f10 : (-4 : Int) ≤ σ7 88 26 ∧ σ7 88 26 ≤ 1023 := hIσ7 88 26
    refine j_bipush (pc := 34) dX12_plan_34 rfl ?_
    refine j_icmpR_ne (pc := 36) (tgt := 42) ⟨by omega, by omega⟩ ⟨by omega, by omega⟩ dX12_plan_36 rfl (fun h11 => ?_) (fun h11 => ?_)
    · have p89 : ∀ j, j < 100 → σ7 89 j = σ 89 j := fun j hj => hFσ7 89 j (show ¬ ((89 = 88 ∧ (j = 19 ∨ j = 20 ∨ j = 21 ∨ j = 22 ∨ j = 23 ∨ j = 24 ∨ j = 25 ∨ j = 26 ∨ j = 27)) ∨ (89 = 89 ∧ 300 ≤ j)) from by omega)
      have p92 : ∀ j, σ7 92 j = σ 92 j := fun j => hFσ7 92 j (show ¬ ((92 = 88 ∧ (j = 19 ∨ j = 20 ∨ j = 21 ∨ j = 22 ∨ j = 23 ∨ j = 24 ∨ j = 25 ∨ j = 26 ∨ j = 27)) ∨ (92 = 89 ∧ 300 ≤ j)) from fun h => h.elim (fun h => absurd h.1 (by decide)) (fun h => absurd h.1 (by decide)))
      have p91 : σ7 91 0 = σ 91 0 := hFσ7 91 0 (show ¬ ((91 = 88 ∧ (0 = 19 ∨ 0 = 20 ∨ 0 = 21 ∨ 0 = 22 ∨ 0 = 23 ∨ 0 = 24 ∨ 0 = 25 ∨ 0 = 26 ∨ 0 = 27)) ∨ (91 = 89 ∧ 300 ≤ 0)) from by decide)
      refine j_aload_n (pc := 42) dX12_plan_42 rfl rfl ?_
      refine j_aload_n (pc := 43) dX12_plan_43 rfl rfl ?_
      refine j_getI (pc := 44) fl_X12_292 dX12_plan_44 (a_88 hM) rfl ?_
      refine j_callV (pc := 47) (As := [vI (σ7 88 26)]) (st := []) (c_X12_lays hM (σ7 88 26) ⟨by omega, by omega⟩ σ7 hIσ7) mv_X12_301 rfl rfl rfl (a_88 hM) dX12_plan_47 ⟨Nat.le_of_ble_eq_true rfl, Nat.le_of_ble_eq_true rfl⟩ ⟨Nat.le_refl _, Nat.le_refl _⟩ rfl (Nat.le_of_ble_eq_true rfl) rfl (fun z12 σ13 hz12 => ?_)
      obtain ⟨r15, rfl, hr15, hIσ13, hGσ13, q14_0, q14_1⟩ := hz12
      replace q14_0 : LZ σ7 σ13 (σ7 88 26) r15 := q14_0
      replace q14_1 : ∀ rk : Nat → Int, MOK rk σ7 → LJZ (wM σ7) rk (σ7 88 26) r15 σ13 := q14_1
      have hFσ13 : tw_F (fun c j => (c = 88 ∧ (j = 19 ∨ j = 20 ∨ j = 21 ∨ j = 22 ∨ j = 23 ∨ j = 24 ∨ j = 25 ∨ j = 26 ∨ j = 27)) ∨ (c = 89 ∧ 300 ≤ j)) σ σ13 := tw_F_tr hFσ7 hGσ13 (fun c j q => (show (c = 88 ∧ (j = 19 ∨ j = 20 ∨ j = 21 ∨ j = 22 ∨ j = 23 ∨ j = 24 ∨ j = 25 ∨ j = 26 ∨ j = 27)) ∨ (c = 89 ∧ 300 ≤ j) from by replace q : (c = 89 ∧ 300 ≤ j) := q; exact (Or.inr q)))
      refine j_st (st' := [vI r15]) rfl ?_
      refine j_pop (pc := 50) dX12_plan_50 rfl ?_
      refine j_iload_n (pc := 51) dX12_plan_51 rfl rfl ?_
      refine j_ifR_ne (pc := 52) (tgt := 62) ⟨by omega, by omega⟩ dX12_plan_52 rfl (fun h16 => ?_) (fun h16 => ?_)
      · refine j_iload_n (pc := 62) dX12_plan_62 rfl rfl ?_
        refine j_iconst (pc := 63) dX12_plan_63 ?_
        refine j_icmpR_ne (pc := 64) (tgt := 77) ⟨by omega, by omega⟩ ⟨by omega, by omega⟩ dX12_plan_64 rfl (fun h17 => ?_) (fun h17 => ?_)
        · refine j_iload_n (pc := 77) dX12_plan_77 rfl rfl ?_
          refine j_bipush (pc := 78) dX12_plan_78 rfl ?_
          refine j_isub (pc := 80) dX12_plan_80 ?_
          refine j_top (fun z18 ez18 hz18 => ?_)
          have gz18 : w - 10 < -2147483648 ∨ 2147483647 < w - 10 ∨ z18 = w - 10 := by rw [ez18]; exact w32_or _
          refine j_aload_n (pc := 81) dX12_plan_81 rfl rfl ?_
          refine j_getI (pc := 82) fl_X12_292 dX12_plan_82 (a_88 hM) rfl ?_
          refine j_topV (show σ13 88 26 = σ7 88 26 from (hGσ13 88 26 (show ¬ ((88 = 89 ∧ 300 ≤ 26)) from by decide))) ?_
          refine j_callS (pc := 85) (As := [vI (σ7 88 26)]) (st := [vI z18]) (c_X12_countOf (σ7 88 26) ⟨by omega, by omega⟩ σ13 hIσ13) ms_X12_304 rfl dX12_plan_85 ⟨Nat.le_of_ble_eq_true rfl, Nat.le_of_ble_eq_true rfl⟩ ⟨Nat.le_refl _, Nat.le_refl _⟩ rfl (Nat.le_of_ble_eq_true rfl) rfl (fun z19 σ20 hz19 => ?_)
          obtain ⟨r22, rfl, hr22, rfl, q21_0⟩ := hz19
          replace q21_0 : r22 = mPop (σ7 88 26) 12 := q21_0
          refine j_st (st' := [vI r22, vI z18]) rfl ?_
          refine j_icmpR_ge (pc := 88) (tgt := 105) ⟨by omega, by omega⟩ ⟨by omega, by omega⟩ dX12_plan_88 rfl (fun h23 => ?_) (fun h23 => ?_)
          · refine j_iconst (pc := 105) dX12_plan_105 ?_
            exact j_iret (pc := 106) ⟨rfl, rfl⟩ dX12_plan_106 rfl ⟨_, rfl, ⟨by omega, by omega⟩, hIσ13, hFσ13, trivial⟩
          · refine j_aload_n (pc := 91) dX12_plan_91 rfl rfl ?_
            refine j_sipush (pc := 92) dX12_plan_92 rfl ?_
            refine j_iload_n (pc := 95) dX12_plan_95 rfl rfl ?_
            refine j_bipush (pc := 96) dX12_plan_96 rfl ?_
            refine j_isub (pc := 98) dX12_plan_98 ?_
            refine j_top (fun z24 ez24 hz24 => ?_)
            have gz24 : w - 10 < -2147483648 ∨ 2147483647 < w - 10 ∨ z24 = w - 10 := by rw [ez24]; exact w32_or _
            refine j_callV (pc := 99) (As := [vI 300, vI z24]) (st := []) (c_X12_footOf hM 300 (by (first | decide | exact ⟨by omega, by omega⟩)) z24 ⟨by omega, by omega⟩ σ13 hIσ13 (by have e9 := PLAN_foot (σ := σ) q8_0 (by omega) q14_0 (mK_congr (fun j => p92 j) p91) (mLay_congr (fun j hj => p89 j hj) (fun j => p92 j) p91 (hI 91 0).2 _); rw [e9]; omega)) mv_X12_198 rfl rfl rfl (a_88 hM) dX12_plan_99 ⟨Nat.le_of_ble_eq_true rfl, Nat.le_of_ble_eq_true rfl⟩ ⟨Nat.le_refl _, Nat.le_refl _⟩ rfl (Nat.le_of_ble_eq_true rfl) rfl (fun z25 σ26 hz25 => ?_)
            obtain ⟨r28, rfl, hr28, rfl, q27_0, q27_1, q27_2, q27_3⟩ := hz25
            replace q27_0 : r28 ≤ σ13 91 0 := q27_0
            have y29 : σ13 91 0 = σ 91 0 := ((hGσ13 91 0 (show ¬ ((91 = 89 ∧ 300 ≤ 0)) from by decide))).trans (hGσ7 91 0 (show ¬ ((91 = 88 ∧ (0 = 19 ∨ 0 = 20 ∨ 0 = 21 ∨ 0 = 22 ∨ 0 = 23 ∨ 0 = 24 ∨ 0 = 25 ∨ 0 = 26 ∨ 0 = 27)) ∨ (91 = 89 ∧ 300 ≤ 0)) from by decide))
            have f30 : (1 : Int) ≤ σ 91 0 ∧ σ 91 0 ≤ 40 := hI 91 0
            replace q27_1 : 0 < σ13 89 ((300 : Int) + r28).toNat := q27_1
            replace q27_2 : mc σ13 (300 : Int) r28.toNat = z24 + 1 := q27_2
            replace q27_3 : (300 : Int) = 0 → r28 = fok (gM 0 σ13) z24 40 := q27_3
            refine j_st (st' := [vI r28]) rfl ?_
            refine j_goto (pc := 102) (tgt := 106) dX12_plan_102 rfl ?_
            exact j_iret (pc := 106) ⟨rfl, rfl⟩ dX12_plan_106 rfl ⟨_, rfl, ⟨by omega, by omega⟩, hIσ13, hFσ13, trivial⟩
        · refine j_aload_n (pc := 67) dX12_plan_67 rfl rfl ?_
          refine j_getI (pc := 68) fl_X12_292 dX12_plan_68 (a_88 hM) rfl ?_
          refine j_topV (show σ13 88 26 = σ7 88 26 from (hGσ13 88 26 (show ¬ ((88 = 89 ∧ 300 ≤ 26)) from by decide))) ?_
          refine j_callS (pc := 71) (As := [vI (σ7 88 26)]) (st := []) (c_X12_countOf (σ7 88 26) ⟨by omega, by omega⟩ σ13 hIσ13) ms_X12_304 rfl dX12_plan_71 ⟨Nat.le_of_ble_eq_true rfl, Nat.le_of_ble_eq_true rfl⟩ ⟨Nat.le_refl _, Nat.le_refl _⟩ rfl (Nat.le_of_ble_eq_true rfl) rfl (fun z31 σ32 hz31 => ?_)
          obtain ⟨r34, rfl, hr34, rfl, q33_0⟩ := hz31
          replace q33_0 : r34 = mPop (σ7 88 26) 12 := q33_0
          refine j_st (st' := [vI r34]) rfl ?_
          refine j_goto (pc := 74) (tgt := 106) dX12_plan_74 rfl ?_
          exact j_iret (pc := 106) ⟨rfl, rfl⟩ dX12_plan_106 rfl ⟨_, rfl, ⟨by omega, by omega⟩, hIσ13, hFσ13, trivial⟩
      · refine j_aload_n (pc := 55) dX12_plan_55 rfl rfl ?_
        refine j_getI (pc := 56) fl_X12_295 dX12_plan_56 (a_88 hM) rfl ?_
        refine j_topV (show σ13 88 27 = σ7 88 27 from (hGσ13 88 27 (show ¬ ((88 = 89 ∧ 300 ≤ 27)) from by decide))) ?_
        have f35 : (-2147483648 : Int) ≤ σ7 88 27 ∧ σ7 88 27 ≤ 2147483647 := hIσ7 88 27
        refine j_goto (pc := 59) (tgt := 106) dX12_plan_59 rfl ?_
        exact j_iret (pc := 106) ⟨rfl, rfl⟩ dX12_plan_106 rfl ⟨_, rfl, ⟨by omega, by omega⟩, hIσ13, hFσ13, trivial⟩
    · refine j_bipush (pc := 39) dX12_plan_39 rfl ?_
      exact j_iret (pc := 41) ⟨rfl, rfl⟩ dX12_plan_41 rfl ⟨_, rfl, ⟨by omega, by omega⟩, hIσ7, hFσ7, trivial⟩
  · refine j_iload_n (pc := 10) dX12_plan_10 rfl rfl ?_
    refine j_i2l (pc := 11) dX12_plan_11 ?_
    rw [w32_eq (a := w) (by omega) (by omega)]
    refine j_ldc2 (pc := 12) (z := 10) dX12_plan_12 (tw_inc tm_6 (i := 239) rfl rfl) ?_
    refine j_ldc2 (pc := 15) (z := 19) dX12_plan_15 (tw_inc tm_7 (i := 121) rfl rfl) ?_
    refine j_callS (pc := 18) (As := [vL w, vL 10, vL 19]) (st := []) (c_X12_in w ⟨by omega, by omega⟩ 10 (by (first | decide | exact ⟨by omega, by omega⟩)) 19 (by (first | decide | exact ⟨by omega, by omega⟩)) σ hI) ms_X12_82 rfl dX12_plan_18 ⟨Nat.le_of_ble_eq_true rfl, Nat.le_of_ble_eq_true rfl⟩ ⟨Nat.le_refl _, Nat.le_refl _⟩ rfl (Nat.le_of_ble_eq_true rfl) rfl (fun z36 σ37 hz36 => ?_)
    obtain ⟨r39, rfl, hr39, rfl, q38_0⟩ := hz36
    replace q38_0 : (r39 = 1 ∧ (10 : Int) ≤ w ∧ w ≤ (19 : Int)) ∨ (r39 = 0 ∧ ¬ ((10 : Int) ≤ w ∧ w ≤ (19 : Int))) := q38_0
    refine j_st (st' := [vI r39]) rfl ?_
    refine j_ifR_ne (pc := 21) (tgt := 26) ⟨by omega, by omega⟩ dX12_plan_21 rfl (fun h40 => ?_) (fun h40 => ?_)
    · refine j_aload_n (pc := 26) dX12_plan_26 rfl rfl ?_
      refine j_callV (pc := 27) (As := []) (st := []) (c_X12_findPlan hM σ hI) mv_X12_309 rfl rfl rfl (a_88 hM) dX12_plan_27 ⟨Nat.le_of_ble_eq_true rfl, Nat.le_of_ble_eq_true rfl⟩ ⟨Nat.le_refl _, Nat.le_refl _⟩ rfl (Nat.le_of_ble_eq_true rfl) rfl (fun z41 σ42 hz41 => ?_)
      obtain ⟨rfl, hIσ42, hGσ42, q43_0, q43_1⟩ := hz41
      replace q43_0 : PS σ (σ42 88 26) (p2 (mK σ)) := q43_0
      replace q43_1 : ∀ rk : Nat → Int, MOK rk σ → WOK (wM σ) → BMS (wM σ) rk (pt (kk (wM σ))) (σ42 88 26) (σ42 88 27) := q43_1
      have hFσ42 : tw_F (fun c j => (c = 88 ∧ (j = 19 ∨ j = 20 ∨ j = 21 ∨ j = 22 ∨ j = 23 ∨ j = 24 ∨ j = 25 ∨ j = 26 ∨ j = 27)) ∨ (c = 89 ∧ 300 ≤ j)) σ σ42 := tw_F_tr (tw_F_rf) hGσ42 (fun c j q => (show (c = 88 ∧ (j = 19 ∨ j = 20 ∨ j = 21 ∨ j = 22 ∨ j = 23 ∨ j = 24 ∨ j = 25 ∨ j = 26 ∨ j = 27)) ∨ (c = 89 ∧ 300 ≤ j) from by replace q : (c = 88 ∧ (j = 19 ∨ j = 20 ∨ j = 21 ∨ j = 22 ∨ j = 23 ∨ j = 24 ∨ j = 25 ∨ j = 26 ∨ j = 27)) ∨ (c = 89 ∧ 300 ≤ j) := q; exact q))
      refine j_st (st' := []) rfl ?_
      refine j_aload_n (pc := 30) dX12_plan_30 rfl rfl ?_
      refine j_getI (pc := 31) fl_X12_292 dX12_plan_31 (a_88 hM) rfl ?_
      have f45 : (-4 : Int) ≤ σ42 88 26 ∧ σ42 88 26 ≤ 1023 := hIσ42 88 26
      refine j_bipush (pc := 34) dX12_plan_34 rfl ?_
      refine j_icmpR_ne (pc := 36) (tgt := 42) ⟨by omega, by omega⟩ ⟨by omega, by omega⟩ dX12_plan_36 rfl (fun h46 => ?_) (fun h46 => ?_)
      · have p89 : ∀ j, j < 100 → σ42 89 j = σ 89 j := fun j hj => hFσ42 89 j (show ¬ ((89 = 88 ∧ (j = 19 ∨ j = 20 ∨ j = 21 ∨ j = 22 ∨ j = 23 ∨ j = 24 ∨ j = 25 ∨ j = 26 ∨ j = 27)) ∨ (89 = 89 ∧ 300 ≤ j)) from by omega)
        have p92 : ∀ j, σ42 92 j = σ 92 j := fun j => hFσ42 92 j (show ¬ ((92 = 88 ∧ (j = 19 ∨ j = 20 ∨ j = 21 ∨ j = 22 ∨ j = 23 ∨ j = 24 ∨ j = 25 ∨ j = 26 ∨ j = 27)) ∨ (92 = 89 ∧ 300 ≤ j)) from fun h => h.elim (fun h => absurd h.1 (by decide)) (fun h => absurd h.1 (by decide)))
        have p91 : σ42 91 0 = σ 91 0 := hFσ42 91 0 (show ¬ ((91 = 88 ∧ (0 = 19 ∨ 0 = 20 ∨ 0 = 21 ∨ 0 = 22 ∨ 0 = 23 ∨ 0 = 24 ∨ 0 = 25 ∨ 0 = 26 ∨ 0 = 27)) ∨ (91 = 89 ∧ 300 ≤ 0)) from by decide)
        refine j_aload_n (pc := 42) dX12_plan_42 rfl rfl ?_
        refine j_aload_n (pc := 43) dX12_plan_43 rfl rfl ?_
        refine j_getI (pc := 44) fl_X12_292 dX12_plan_44 (a_88 hM) rfl ?_
        refine j_callV (pc := 47) (As := [vI (σ42 88 26)]) (st := []) (c_X12_lays hM (σ42 88 26) ⟨by omega, by omega⟩ σ42 hIσ42) mv_X12_301 rfl rfl rfl (a_88 hM) dX12_plan_47 ⟨Nat.le_of_ble_eq_true rfl, Nat.le_of_ble_eq_true rfl⟩ ⟨Nat.le_refl _, Nat.le_refl _⟩ rfl (Nat.le_of_ble_eq_true rfl) rfl (fun z47 σ48 hz47 => ?_)
        obtain ⟨r50, rfl, hr50, hIσ48, hGσ48, q49_0, q49_1⟩ := hz47
        replace q49_0 : LZ σ42 σ48 (σ42 88 26) r50 := q49_0
        replace q49_1 : ∀ rk : Nat → Int, MOK rk σ42 → LJZ (wM σ42) rk (σ42 88 26) r50 σ48 := q49_1
        have hFσ48 : tw_F (fun c j => (c = 88 ∧ (j = 19 ∨ j = 20 ∨ j = 21 ∨ j = 22 ∨ j = 23 ∨ j = 24 ∨ j = 25 ∨ j = 26 ∨ j = 27)) ∨ (c = 89 ∧ 300 ≤ j)) σ σ48 := tw_F_tr hFσ42 hGσ48 (fun c j q => (show (c = 88 ∧ (j = 19 ∨ j = 20 ∨ j = 21 ∨ j = 22 ∨ j = 23 ∨ j = 24 ∨ j = 25 ∨ j = 26 ∨ j = 27)) ∨ (c = 89 ∧ 300 ≤ j) from by replace q : (c = 89 ∧ 300 ≤ j) := q; exact (Or.inr q)))
        refine j_st (st' := [vI r50]) rfl ?_
        refine j_pop (pc := 50) dX12_plan_50 rfl ?_
        refine j_iload_n (pc := 51) dX12_plan_51 rfl rfl ?_
        refine j_ifR_ne (pc := 52) (tgt := 62) ⟨by omega, by omega⟩ dX12_plan_52 rfl (fun h51 => ?_) (fun h51 => ?_)
        · refine j_iload_n (pc := 62) dX12_plan_62 rfl rfl ?_
          refine j_iconst (pc := 63) dX12_plan_63 ?_
          refine j_icmpR_ne (pc := 64) (tgt := 77) ⟨by omega, by omega⟩ ⟨by omega, by omega⟩ dX12_plan_64 rfl (fun h52 => ?_) (fun h52 => ?_)
          · refine j_iload_n (pc := 77) dX12_plan_77 rfl rfl ?_
            refine j_bipush (pc := 78) dX12_plan_78 rfl ?_
            refine j_isub (pc := 80) dX12_plan_80 ?_
            refine j_top (fun z53 ez53 hz53 => ?_)
            have gz53 : w - 10 < -2147483648 ∨ 2147483647 < w - 10 ∨ z53 = w - 10 := by rw [ez53]; exact w32_or _
            refine j_aload_n (pc := 81) dX12_plan_81 rfl rfl ?_
            refine j_getI (pc := 82) fl_X12_292 dX12_plan_82 (a_88 hM) rfl ?_
            refine j_topV (show σ48 88 26 = σ42 88 26 from (hGσ48 88 26 (show ¬ ((88 = 89 ∧ 300 ≤ 26)) from by decide))) ?_
            refine j_callS (pc := 85) (As := [vI (σ42 88 26)]) (st := [vI z53]) (c_X12_countOf (σ42 88 26) ⟨by omega, by omega⟩ σ48 hIσ48) ms_X12_304 rfl dX12_plan_85 ⟨Nat.le_of_ble_eq_true rfl, Nat.le_of_ble_eq_true rfl⟩ ⟨Nat.le_refl _, Nat.le_refl _⟩ rfl (Nat.le_of_ble_eq_true rfl) rfl (fun z54 σ55 hz54 => ?_)
            obtain ⟨r57, rfl, hr57, rfl, q56_0⟩ := hz54
            replace q56_0 : r57 = mPop (σ42 88 26) 12 := q56_0
            refine j_st (st' := [vI r57, vI z53]) rfl ?_
            refine j_icmpR_ge (pc := 88) (tgt := 105) ⟨by omega, by omega⟩ ⟨by omega, by omega⟩ dX12_plan_88 rfl (fun h58 => ?_) (fun h58 => ?_)
            · refine j_iconst (pc := 105) dX12_plan_105 ?_
              exact j_iret (pc := 106) ⟨rfl, rfl⟩ dX12_plan_106 rfl ⟨_, rfl, ⟨by omega, by omega⟩, hIσ48, hFσ48, trivial⟩
            · refine j_aload_n (pc := 91) dX12_plan_91 rfl rfl ?_
              refine j_sipush (pc := 92) dX12_plan_92 rfl ?_
              refine j_iload_n (pc := 95) dX12_plan_95 rfl rfl ?_
              refine j_bipush (pc := 96) dX12_plan_96 rfl ?_
              refine j_isub (pc := 98) dX12_plan_98 ?_
              refine j_top (fun z59 ez59 hz59 => ?_)
              have gz59 : w - 10 < -2147483648 ∨ 2147483647 < w - 10 ∨ z59 = w - 10 := by rw [ez59]; exact w32_or _
              refine j_callV (pc := 99) (As := [vI 300, vI z59]) (st := []) (c_X12_footOf hM 300 (by (first | decide | exact ⟨by omega, by omega⟩)) z59 ⟨by omega, by omega⟩ σ48 hIσ48 (by have e9 := PLAN_foot (σ := σ) q43_0 (by omega) q49_0 (mK_congr (fun j => p92 j) p91) (mLay_congr (fun j hj => p89 j hj) (fun j => p92 j) p91 (hI 91 0).2 _); rw [e9]; omega)) mv_X12_198 rfl rfl rfl (a_88 hM) dX12_plan_99 ⟨Nat.le_of_ble_eq_true rfl, Nat.le_of_ble_eq_true rfl⟩ ⟨Nat.le_refl _, Nat.le_refl _⟩ rfl (Nat.le_of_ble_eq_true rfl) rfl (fun z60 σ61 hz60 => ?_)
              obtain ⟨r63, rfl, hr63, rfl, q62_0, q62_1, q62_2, q62_3⟩ := hz60
              replace q62_0 : r63 ≤ σ48 91 0 := q62_0
              have y64 : σ48 91 0 = σ 91 0 := ((hGσ48 91 0 (show ¬ ((91 = 89 ∧ 300 ≤ 0)) from by decide))).trans (hGσ42 91 0 (show ¬ ((91 = 88 ∧ (0 = 19 ∨ 0 = 20 ∨ 0 = 21 ∨ 0 = 22 ∨ 0 = 23 ∨ 0 = 24 ∨ 0 = 25 ∨ 0 = 26 ∨ 0 = 27)) ∨ (91 = 89 ∧ 300 ≤ 0)) from by decide))
              have f65 : (1 : Int) ≤ σ 91 0 ∧ σ 91 0 ≤ 40 := hI 91 0
              replace q62_1 : 0 < σ48 89 ((300 : Int) + r63).toNat := q62_1
              replace q62_2 : mc σ48 (300 : Int) r63.toNat = z59 + 1 := q62_2
              replace q62_3 : (300 : Int) = 0 → r63 = fok (gM 0 σ48) z59 40 := q62_3
              refine j_st (st' := [vI r63]) rfl ?_
              refine j_goto (pc := 102) (tgt := 106) dX12_plan_102 rfl ?_
              exact j_iret (pc := 106) ⟨rfl, rfl⟩ dX12_plan_106 rfl ⟨_, rfl, ⟨by omega, by omega⟩, hIσ48, hFσ48, trivial⟩
          · refine j_aload_n (pc := 67) dX12_plan_67 rfl rfl ?_
            refine j_getI (pc := 68) fl_X12_292 dX12_plan_68 (a_88 hM) rfl ?_
            refine j_topV (show σ48 88 26 = σ42 88 26 from (hGσ48 88 26 (show ¬ ((88 = 89 ∧ 300 ≤ 26)) from by decide))) ?_
            refine j_callS (pc := 71) (As := [vI (σ42 88 26)]) (st := []) (c_X12_countOf (σ42 88 26) ⟨by omega, by omega⟩ σ48 hIσ48) ms_X12_304 rfl dX12_plan_71 ⟨Nat.le_of_ble_eq_true rfl, Nat.le_of_ble_eq_true rfl⟩ ⟨Nat.le_refl _, Nat.le_refl _⟩ rfl (Nat.le_of_ble_eq_true rfl) rfl (fun z66 σ67 hz66 => ?_)
            obtain ⟨r69, rfl, hr69, rfl, q68_0⟩ := hz66
            replace q68_0 : r69 = mPop (σ42 88 26) 12 := q68_0
            refine j_st (st' := [vI r69]) rfl ?_
            refine j_goto (pc := 74) (tgt := 106) dX12_plan_74 rfl ?_
            exact j_iret (pc := 106) ⟨rfl, rfl⟩ dX12_plan_106 rfl ⟨_, rfl, ⟨by omega, by omega⟩, hIσ48, hFσ48, trivial⟩
        · refine j_aload_n (pc := 55) dX12_plan_55 rfl rfl ?_
          refine j_getI (pc := 56) fl_X12_295 dX12_plan_56 (a_88 hM) rfl ?_
          refine j_topV (show σ48 88 27 = σ42 88 27 from (hGσ48 88 27 (show ¬ ((88 = 89 ∧ 300 ≤ 27)) from by decide))) ?_
          have f70 : (-2147483648 : Int) ≤ σ42 88 27 ∧ σ42 88 27 ≤ 2147483647 := hIσ42 88 27
          refine j_goto (pc := 59) (tgt := 106) dX12_plan_59 rfl ?_
          exact j_iret (pc := 106) ⟨rfl, rfl⟩ dX12_plan_106 rfl ⟨_, rfl, ⟨by omega, by omega⟩, hIσ48, hFσ48, trivial⟩
      · refine j_bipush (pc := 39) dX12_plan_39 rfl ?_
        exact j_iret (pc := 41) ⟨rfl, rfl⟩ dX12_plan_41 rfl ⟨_, rfl, ⟨by omega, by omega⟩, hIσ42, hFσ42, trivial⟩
    · refine j_iconst (pc := 24) dX12_plan_24 ?_
      exact j_iret (pc := 25) ⟨rfl, rfl⟩ dX12_plan_25 rfl ⟨_, rfl, ⟨by omega, by omega⟩, hI, (tw_F_rf), trivial⟩
abbrev q_X12_follows (e : Int) (σ : tw_M) : Option tw_V → tw_M → Prop := fun z τ => z = none ∧ tw_I τ ∧ tw_F (fun c j => (c = 89 ∧ 300 ≤ j)) σ τ ∧ True
set_option maxHeartbeats 4000000 in
set_option maxRecDepth 100000 in
theorem l_X12_follows {G : tw_G} (hM : tw_isM G) (e : Int) (he : -2147483648 ≤ e ∧ e ≤ 2147483647) (σ : tw_M) (hI : tw_I σ) : ∀ N_ : Nat, (∀ (l : Int) (hl : 0 ≤ l ∧ l ≤ 40) (n : Int) (hn : 0 ≤ n ∧ n ≤ 10) (h : Int) (hh : 1 ≤ h ∧ h ≤ 41) (τ : tw_M) (hIτ : tw_I τ) (hFτ : tw_F (fun c j => (c = 89 ∧ 300 ≤ j)) σ τ)  (hm : (41 - h).toNat < N_), tw_J G (tw_mt RX12 cX12_follows 5 none 2) (tw_E G (q_X12_follows e σ)) 11 [(0, vR 88), (1, vI e), (2, vI l), (3, vI n), (4, vI h)] [] τ) := by
  intro N_
  induction N_ with
  | zero => exact fun l hl n hn h hh τ hIτ hFτ hm => absurd hm (Nat.not_lt_zero _)
  | succ N_ ih =>
    intro l hl n hn h hh τ hIτ hFτ hm
    refine j_iload (pc := 11) dX12_follows_11 rfl ?_
    refine j_aload_n (pc := 13) dX12_follows_13 rfl rfl ?_
    refine j_getR (pc := 14) (r := 91) fl_X12_17 dX12_follows_14 (a_88 hM) rfl ?_
    refine j_iconst (pc := 17) dX12_follows_17 ?_
    refine j_iald (pc := 18) dX12_follows_18 (a_91 hM) (by omega) (by omega) (by decide) ?_
    refine j_topV (show τ 91 (Int.toNat 0) = τ 91 0 from rfl) ?_
    have f1 : (1 : Int) ≤ τ 91 0 ∧ τ 91 0 ≤ 40 := hIτ 91 0
    refine j_icmpR_gt (pc := 19) (tgt := 71) ⟨by omega, by omega⟩ ⟨by omega, by omega⟩ dX12_follows_19 rfl (fun h2 => ?_) (fun h2 => ?_)
    · exact j_vret (pc := 71) ⟨rfl, rfl⟩ dX12_follows_71 rfl ⟨rfl, hIτ, hFτ, trivial⟩
    · refine j_iload_n (pc := 22) dX12_follows_22 rfl rfl ?_
      refine j_bipush (pc := 23) dX12_follows_23 rfl ?_
      refine j_icmpR_ge (pc := 25) (tgt := 71) ⟨by omega, by omega⟩ ⟨by omega, by omega⟩ dX12_follows_25 rfl (fun h3 => ?_) (fun h3 => ?_)
      · exact j_vret (pc := 71) ⟨rfl, rfl⟩ dX12_follows_71 rfl ⟨rfl, hIτ, hFτ, trivial⟩
      · refine j_aload_n (pc := 28) dX12_follows_28 rfl rfl ?_
        refine j_iload (pc := 29) dX12_follows_29 rfl ?_
        refine j_iconst (pc := 31) dX12_follows_31 ?_
        refine j_callV (pc := 32) (As := [vI h, vI 1]) (st := []) (c_X12_of hM h ⟨by omega, by omega⟩ 1 (by (first | decide | exact ⟨by omega, by omega⟩)) τ hIτ) mv_X12_184 rfl rfl rfl (a_88 hM) dX12_follows_32 ⟨Nat.le_of_ble_eq_true rfl, Nat.le_of_ble_eq_true rfl⟩ ⟨Nat.le_refl _, Nat.le_refl _⟩ rfl (Nat.le_of_ble_eq_true rfl) rfl (fun z4 σ5 hz4 => ?_)
        obtain ⟨r7, rfl, hr7, rfl, q6_0⟩ := hz4
        replace q6_0 : r7 = τ 92 (5 * h + (1 : Int)).toNat := q6_0
        refine j_st (st' := [vI r7]) rfl ?_
        refine j_ifR_le (pc := 35) (tgt := 65) ⟨by omega, by omega⟩ dX12_follows_35 rfl (fun h8 => ?_) (fun h8 => ?_)
        · refine j_iinc (pc := 65) (i := 4) (n := 1) (ls' := [(0, vR 88), (1, vI e), (2, vI l), (3, vI n), (4, vI (h + 1))]) [1, 2, 3, 4, 0] dX12_follows_65 rfl (Nat.le_of_ble_eq_true rfl) rfl rfl ?_
          refine j_goto (pc := 68) (tgt := 11) dX12_follows_68 rfl ?_
          refine j_ls (ls' := [(0, vR 88), (1, vI e), (2, vI l), (3, vI n), (4, vI (h + 1))]) [0, 1, 2, 3, 4] rfl ?_
          exact ih l ⟨by omega, by omega⟩ n ⟨by omega, by omega⟩ (h + 1) ⟨by omega, by omega⟩ τ hIτ hFτ (show (41 - (h + 1)).toNat < N_ from by omega)
        · refine j_iload (pc := 38) dX12_follows_38 rfl ?_
          refine j_iload_n (pc := 40) dX12_follows_40 rfl rfl ?_
          refine j_isub (pc := 41) dX12_follows_41 ?_
          refine j_iload_n (pc := 42) dX12_follows_42 rfl rfl ?_
          refine j_icmpR_lt (pc := 43) (tgt := 60) ⟨by omega, by omega⟩ ⟨by omega, by omega⟩ dX12_follows_43 rfl (fun h9 => ?_) (fun h9 => ?_)
          · refine j_iload_n (pc := 60) dX12_follows_60 rfl rfl ?_
            refine j_istore_n (pc := 61) (i := 2) (ls' := [(0, vR 88), (1, vI e), (2, vI l), (3, vI n), (4, vI h)]) [1, 2, 0, 3, 4] dX12_follows_61 rfl (Nat.le_of_ble_eq_true rfl) rfl rfl ?_
            refine j_iinc (pc := 62) (i := 3) (n := 1) (ls' := [(0, vR 88), (1, vI e), (2, vI l), (3, vI (n + 1)), (4, vI h)]) [1, 2, 3, 0, 4] dX12_follows_62 rfl (Nat.le_of_ble_eq_true rfl) rfl rfl ?_
            refine j_iinc (pc := 65) (i := 4) (n := 1) (ls' := [(0, vR 88), (1, vI e), (2, vI l), (3, vI (n + 1)), (4, vI (h + 1))]) [1, 2, 3, 4, 0] dX12_follows_65 rfl (Nat.le_of_ble_eq_true rfl) rfl rfl ?_
            refine j_goto (pc := 68) (tgt := 11) dX12_follows_68 rfl ?_
            refine j_ls (ls' := [(0, vR 88), (1, vI e), (2, vI l), (3, vI (n + 1)), (4, vI (h + 1))]) [0, 1, 2, 3, 4] rfl ?_
            exact ih l ⟨by omega, by omega⟩ (n + 1) ⟨by omega, by omega⟩ (h + 1) ⟨by omega, by omega⟩ τ hIτ hFτ (show (41 - (h + 1)).toNat < N_ from by omega)
          · refine j_aload_n (pc := 46) dX12_follows_46 rfl rfl ?_
            refine j_iload (pc := 47) dX12_follows_47 rfl ?_
            refine j_callV (pc := 49) (As := [vI h]) (st := []) (c_X12_puts hM h ⟨by omega, by omega⟩ τ hIτ) mv_X12_289 rfl rfl rfl (a_88 hM) dX12_follows_49 ⟨Nat.le_of_ble_eq_true rfl, Nat.le_of_ble_eq_true rfl⟩ ⟨Nat.le_refl _, Nat.le_refl _⟩ rfl (Nat.le_of_ble_eq_true rfl) rfl (fun z10 σ11 hz10 => ?_)
            obtain ⟨r13, rfl, hr13, hIσ11, hGσ11, q12_0⟩ := hz10
            replace q12_0 : (r13 = 0 ∧ τ 89 (382 + mCr τ h).toNat = 0 ∧ σ11 = τ) ∨ (r13 = 1 ∧ ¬ τ 89 (382 + mCr τ h).toNat = 0 ∧ ∃ τ1, τ1 = tw_up τ 89 (382 + mCr τ h).toNat (tw_w32 (τ 89 (382 + mCr τ h).toNat - 1)) ∧ σ11 = tw_up τ1 89 (300 + h).toNat (mCr τ h)) := q12_0
            have hFσ11 : tw_F (fun c j => (c = 89 ∧ 300 ≤ j)) σ σ11 := tw_F_tr hFτ hGσ11 (fun c j q => (show (c = 89 ∧ 300 ≤ j) from by replace q : (c = 89 ∧ 300 ≤ j) := q; exact q))
            refine j_st (st' := [vI r13]) rfl ?_
            refine j_ifR_eq (pc := 52) (tgt := 60) ⟨by omega, by omega⟩ dX12_follows_52 rfl (fun h14 => ?_) (fun h14 => ?_)
            · refine j_iload_n (pc := 60) dX12_follows_60 rfl rfl ?_
              refine j_istore_n (pc := 61) (i := 2) (ls' := [(0, vR 88), (1, vI e), (2, vI l), (3, vI n), (4, vI h)]) [1, 2, 0, 3, 4] dX12_follows_61 rfl (Nat.le_of_ble_eq_true rfl) rfl rfl ?_
              refine j_iinc (pc := 62) (i := 3) (n := 1) (ls' := [(0, vR 88), (1, vI e), (2, vI l), (3, vI (n + 1)), (4, vI h)]) [1, 2, 3, 0, 4] dX12_follows_62 rfl (Nat.le_of_ble_eq_true rfl) rfl rfl ?_
              refine j_iinc (pc := 65) (i := 4) (n := 1) (ls' := [(0, vR 88), (1, vI e), (2, vI l), (3, vI (n + 1)), (4, vI (h + 1))]) [1, 2, 3, 4, 0] dX12_follows_65 rfl (Nat.le_of_ble_eq_true rfl) rfl rfl ?_
              refine j_goto (pc := 68) (tgt := 11) dX12_follows_68 rfl ?_
              refine j_ls (ls' := [(0, vR 88), (1, vI e), (2, vI l), (3, vI (n + 1)), (4, vI (h + 1))]) [0, 1, 2, 3, 4] rfl ?_
              exact ih l ⟨by omega, by omega⟩ (n + 1) ⟨by omega, by omega⟩ (h + 1) ⟨by omega, by omega⟩ σ11 hIσ11 hFσ11 (show (41 - (h + 1)).toNat < N_ from by omega)
            · refine j_iload (pc := 55) dX12_follows_55 rfl ?_
              refine j_goto (pc := 57) (tgt := 61) dX12_follows_57 rfl ?_
              refine j_istore_n (pc := 61) (i := 2) (ls' := [(0, vR 88), (1, vI e), (2, vI h), (3, vI n), (4, vI h)]) [1, 2, 0, 3, 4] dX12_follows_61 rfl (Nat.le_of_ble_eq_true rfl) rfl rfl ?_
              refine j_iinc (pc := 62) (i := 3) (n := 1) (ls' := [(0, vR 88), (1, vI e), (2, vI h), (3, vI (n + 1)), (4, vI h)]) [1, 2, 3, 0, 4] dX12_follows_62 rfl (Nat.le_of_ble_eq_true rfl) rfl rfl ?_
              refine j_iinc (pc := 65) (i := 4) (n := 1) (ls' := [(0, vR 88), (1, vI e), (2, vI h), (3, vI (n + 1)), (4, vI (h + 1))]) [1, 2, 3, 4, 0] dX12_follows_65 rfl (Nat.le_of_ble_eq_true rfl) rfl rfl ?_
              refine j_goto (pc := 68) (tgt := 11) dX12_follows_68 rfl ?_
              refine j_ls (ls' := [(0, vR 88), (1, vI e), (2, vI h), (3, vI (n + 1)), (4, vI (h + 1))]) [0, 1, 2, 3, 4] rfl ?_
              exact ih h ⟨by omega, by omega⟩ (n + 1) ⟨by omega, by omega⟩ (h + 1) ⟨by omega, by omega⟩ σ11 hIσ11 hFσ11 (show (41 - (h + 1)).toNat < N_ from by omega)
set_option maxHeartbeats 4000000 in
set_option maxRecDepth 100000 in
theorem c_X12_follows {G : tw_G} (hM : tw_isM G) (e : Int) (he : -2147483648 ≤ e ∧ e ≤ 2147483647) (σ : tw_M) (hI : tw_I σ) : tw_C G yX12_follows cX12_follows 5 none 2 [vR 88, vI e] σ (q_X12_follows e σ) := by
  refine tw_met [(0, vR 88), (1, vI e)] (by decide +kernel) rfl (Nat.le_of_ble_eq_true rfl) ?_
  refine j_iconst (pc := 0) dX12_follows_0 ?_
  refine j_istore_n (pc := 1) (i := 2) (ls' := [(0, vR 88), (1, vI e), (2, vI 0)]) [1, 2, 0] dX12_follows_1 rfl (Nat.le_of_ble_eq_true rfl) rfl rfl ?_
  refine j_iconst (pc := 2) dX12_follows_2 ?_
  refine j_istore_n (pc := 3) (i := 3) (ls' := [(0, vR 88), (1, vI e), (2, vI 0), (3, vI 0)]) [1, 2, 3, 0] dX12_follows_3 rfl (Nat.le_of_ble_eq_true rfl) rfl rfl ?_
  refine j_aload_n (pc := 4) dX12_follows_4 rfl rfl ?_
  refine j_callV (pc := 5) (As := []) (st := []) (c_X12_bares hM σ hI) mv_X12_286 rfl rfl rfl (a_88 hM) dX12_follows_5 ⟨Nat.le_of_ble_eq_true rfl, Nat.le_of_ble_eq_true rfl⟩ ⟨Nat.le_refl _, Nat.le_refl _⟩ rfl (Nat.le_of_ble_eq_true rfl) rfl (fun z15 σ16 hz15 => ?_)
  obtain ⟨rfl, hIσ16, hGσ16, q17_0, q17_1⟩ := hz15
  replace q17_0 : BZ σ σ16 := q17_0
  replace q17_1 : ∀ rk : Nat → Int, MOK rk σ → BJZ rk σ16 := q17_1
  have hFσ16 : tw_F (fun c j => (c = 89 ∧ 300 ≤ j)) σ σ16 := tw_F_tr (tw_F_rf) hGσ16 (fun c j q => (show (c = 89 ∧ 300 ≤ j) from by replace q : (c = 89 ∧ 300 ≤ j) := q; exact q))
  refine j_st (st' := []) rfl ?_
  refine j_iconst (pc := 8) dX12_follows_8 ?_
  refine j_istore (pc := 9) (i := 4) (ls' := [(0, vR 88), (1, vI e), (2, vI 0), (3, vI 0), (4, vI 1)]) [1, 2, 3, 4, 0] dX12_follows_9 (Nat.le_of_ble_eq_true rfl) rfl rfl ?_
  refine j_ls (ls' := [(0, vR 88), (1, vI e), (2, vI 0), (3, vI 0), (4, vI 1)]) [0, 1, 2, 3, 4] rfl ?_
  exact (l_X12_follows hM e he σ hI (((41 - (1 : Int)).toNat) + 1)) 0 (by (first | decide | exact ⟨by omega, by omega⟩)) 0 (by (first | decide | exact ⟨by omega, by omega⟩)) 1 (by (first | decide | exact ⟨by omega, by omega⟩)) σ16 hIσ16 hFσ16 (Nat.lt_succ_self _)
abbrev q_X12_keep (e : Int) (w : Int) (σ : tw_M) : Option tw_V → tw_M → Prop := fun z τ => ∃ r : Int, z = some (vI r) ∧ (-2147483648 ≤ r ∧ r ≤ 2147483647) ∧ tw_I τ ∧ tw_F (fun c j => (c = 88 ∧ (j = 19 ∨ j = 20 ∨ j = 21 ∨ j = 22 ∨ j = 23 ∨ j = 24 ∨ j = 25)) ∨ (c = 89 ∧ 300 ≤ j)) σ τ ∧ True
set_option maxHeartbeats 4000000 in
set_option maxRecDepth 100000 in
theorem c_X12_keep {G : tw_G} (hM : tw_isM G) (e : Int) (he : -2147483648 ≤ e ∧ e ≤ 2147483647) (w : Int) (hw : -2147483648 ≤ w ∧ w ≤ 2147483647) (σ : tw_M) (hI : tw_I σ) : tw_C G yX12_keep cX12_keep 3 (some .int) 4 [vR 88, vI e, vI w] σ (q_X12_keep e w σ) := by
  refine tw_met [(0, vR 88), (1, vI e), (2, vI w)] (by decide +kernel) rfl (Nat.le_of_ble_eq_true rfl) ?_
  refine j_iload_n (pc := 0) dX12_keep_0 rfl rfl ?_
  refine j_i2l (pc := 1) dX12_keep_1 ?_
  rw [w32_eq (a := e) (by omega) (by omega)]
  refine j_lconst (pc := 2) (z := 1) dX12_keep_2 rfl ?_
  refine j_ldc2 (pc := 3) (z := 40) dX12_keep_3 (tw_inc tm_7 (i := 80) rfl rfl) ?_
  refine j_callS (pc := 6) (As := [vL e, vL 1, vL 40]) (st := []) (c_X12_in e ⟨by omega, by omega⟩ 1 (by (first | decide | exact ⟨by omega, by omega⟩)) 40 (by (first | decide | exact ⟨by omega, by omega⟩)) σ hI) ms_X12_82 rfl dX12_keep_6 ⟨Nat.le_of_ble_eq_true rfl, Nat.le_of_ble_eq_true rfl⟩ ⟨Nat.le_refl _, Nat.le_refl _⟩ rfl (Nat.le_of_ble_eq_true rfl) rfl (fun z1 σ2 hz1 => ?_)
  obtain ⟨r4, rfl, hr4, rfl, q3_0⟩ := hz1
  replace q3_0 : (r4 = 1 ∧ (1 : Int) ≤ e ∧ e ≤ (40 : Int)) ∨ (r4 = 0 ∧ ¬ ((1 : Int) ≤ e ∧ e ≤ (40 : Int))) := q3_0
  refine j_st (st' := [vI r4]) rfl ?_
  refine j_ifR_eq (pc := 9) (tgt := 24) ⟨by omega, by omega⟩ dX12_keep_9 rfl (fun h5 => ?_) (fun h5 => ?_)
  · refine j_iconst (pc := 24) dX12_keep_24 ?_
    exact j_iret (pc := 25) ⟨rfl, rfl⟩ dX12_keep_25 rfl ⟨_, rfl, ⟨by omega, by omega⟩, hI, (tw_F_rf), trivial⟩
  · refine j_iload_n (pc := 12) dX12_keep_12 rfl rfl ?_
    refine j_i2l (pc := 13) dX12_keep_13 ?_
    rw [w32_eq (a := w) (by omega) (by omega)]
    refine j_lconst (pc := 14) (z := 0) dX12_keep_14 rfl ?_
    refine j_ldc2 (pc := 15) (z := 2) dX12_keep_15 (tw_inc tm_7 (i := 149) rfl rfl) ?_
    refine j_callS (pc := 18) (As := [vL w, vL 0, vL 2]) (st := []) (c_X12_in w ⟨by omega, by omega⟩ 0 (by (first | decide | exact ⟨by omega, by omega⟩)) 2 (by (first | decide | exact ⟨by omega, by omega⟩)) σ hI) ms_X12_82 rfl dX12_keep_18 ⟨Nat.le_of_ble_eq_true rfl, Nat.le_of_ble_eq_true rfl⟩ ⟨Nat.le_refl _, Nat.le_refl _⟩ rfl (Nat.le_of_ble_eq_true rfl) rfl (fun z6 σ7 hz6 => ?_)
    obtain ⟨r9, rfl, hr9, rfl, q8_0⟩ := hz6
    replace q8_0 : (r9 = 1 ∧ (0 : Int) ≤ w ∧ w ≤ (2 : Int)) ∨ (r9 = 0 ∧ ¬ ((0 : Int) ≤ w ∧ w ≤ (2 : Int))) := q8_0
    refine j_st (st' := [vI r9]) rfl ?_
    refine j_ifR_ne (pc := 21) (tgt := 26) ⟨by omega, by omega⟩ dX12_keep_21 rfl (fun h10 => ?_) (fun h10 => ?_)
    · refine j_aload_n (pc := 26) dX12_keep_26 rfl rfl ?_
      refine j_iload_n (pc := 27) dX12_keep_27 rfl rfl ?_
      refine j_callV (pc := 28) (As := [vI e]) (st := []) (c_X12_follows hM e ⟨by omega, by omega⟩ σ hI) mv_X12_314 rfl rfl rfl (a_88 hM) dX12_keep_28 ⟨Nat.le_of_ble_eq_true rfl, Nat.le_of_ble_eq_true rfl⟩ ⟨Nat.le_refl _, Nat.le_refl _⟩ rfl (Nat.le_of_ble_eq_true rfl) rfl (fun z11 σ12 hz11 => ?_)
      obtain ⟨rfl, hIσ12, hGσ12, -⟩ := hz11
      have hFσ12 : tw_F (fun c j => (c = 88 ∧ (j = 19 ∨ j = 20 ∨ j = 21 ∨ j = 22 ∨ j = 23 ∨ j = 24 ∨ j = 25)) ∨ (c = 89 ∧ 300 ≤ j)) σ σ12 := tw_F_tr (tw_F_rf) hGσ12 (fun c j q => (show (c = 88 ∧ (j = 19 ∨ j = 20 ∨ j = 21 ∨ j = 22 ∨ j = 23 ∨ j = 24 ∨ j = 25)) ∨ (c = 89 ∧ 300 ≤ j) from by replace q : (c = 89 ∧ 300 ≤ j) := q; exact (Or.inr q)))
      refine j_st (st' := []) rfl ?_
      refine j_aload_n (pc := 31) dX12_keep_31 rfl rfl ?_
      refine j_sipush (pc := 32) dX12_keep_32 rfl ?_
      refine j_callV (pc := 35) (As := [vI 300]) (st := []) (c_X12_findEffort hM 300 (by (first | decide | exact ⟨by omega, by omega⟩)) σ12 hIσ12) mv_X12_277 rfl rfl rfl (a_88 hM) dX12_keep_35 ⟨Nat.le_of_ble_eq_true rfl, Nat.le_of_ble_eq_true rfl⟩ ⟨Nat.le_refl _, Nat.le_refl _⟩ rfl (Nat.le_of_ble_eq_true rfl) rfl (fun z15 σ16 hz15 => ?_)
      obtain ⟨rfl, hIσ16, hGσ16, q17_0, q17_1⟩ := hz15
      replace q17_0 : σ16 88 24 = eff (wM σ12) (gM (300 : Int) σ12) (σ12 91 0).toNat := q17_0
      have y19 : σ12 91 0 = σ 91 0 := (hGσ12 91 0 (show ¬ ((91 = 89 ∧ 300 ≤ 0)) from by decide))
      have f20 : (1 : Int) ≤ σ 91 0 ∧ σ 91 0 ≤ 40 := hI 91 0
      replace q17_1 : TMs (wM σ12) (gM (300 : Int) σ12) (-4) 1 (σ12 91 0 + 1) (σ16 88 25) := q17_1
      have y21 : σ12 91 0 = σ 91 0 := (hGσ12 91 0 (show ¬ ((91 = 89 ∧ 300 ≤ 0)) from by decide))
      have hFσ16 : tw_F (fun c j => (c = 88 ∧ (j = 19 ∨ j = 20 ∨ j = 21 ∨ j = 22 ∨ j = 23 ∨ j = 24 ∨ j = 25)) ∨ (c = 89 ∧ 300 ≤ j)) σ σ16 := tw_F_tr hFσ12 hGσ16 (fun c j q => (show (c = 88 ∧ (j = 19 ∨ j = 20 ∨ j = 21 ∨ j = 22 ∨ j = 23 ∨ j = 24 ∨ j = 25)) ∨ (c = 89 ∧ 300 ≤ j) from by replace q : (c = 88 ∧ (j = 24 ∨ j = 25)) := q; exact (Or.inl ⟨q.1, (q.2.elim (fun z => (Or.inr (Or.inr (Or.inr (Or.inr (Or.inr (Or.inl z))))))) (fun z => (Or.inr (Or.inr (Or.inr (Or.inr (Or.inr (Or.inr z))))))))⟩)))
      refine j_st (st' := []) rfl ?_
      refine j_iload_n (pc := 38) dX12_keep_38 rfl rfl ?_
      refine j_ifR_ne (pc := 39) (tgt := 52) ⟨by omega, by omega⟩ dX12_keep_39 rfl (fun h22 => ?_) (fun h22 => ?_)
      · refine j_iload_n (pc := 52) dX12_keep_52 rfl rfl ?_
        refine j_iconst (pc := 53) dX12_keep_53 ?_
        refine j_icmpR_ne (pc := 54) (tgt := 67) ⟨by omega, by omega⟩ ⟨by omega, by omega⟩ dX12_keep_54 rfl (fun h23 => ?_) (fun h23 => ?_)
        · refine j_aload_n (pc := 67) dX12_keep_67 rfl rfl ?_
          refine j_getI (pc := 68) fl_X12_274 dX12_keep_68 (a_88 hM) rfl ?_
          have f24 : (-2147483648 : Int) ≤ σ16 88 25 ∧ σ16 88 25 ≤ 2147483647 := hIσ16 88 25
          refine j_bipush (pc := 71) dX12_keep_71 rfl ?_
          refine j_icmpR_eq (pc := 73) (tgt := 80) ⟨by omega, by omega⟩ ⟨by omega, by omega⟩ dX12_keep_73 rfl (fun h25 => ?_) (fun h25 => ?_)
          · refine j_iconst (pc := 80) dX12_keep_80 ?_
            refine j_callS (pc := 81) (As := [vI 0]) (st := []) (c_X12_flag 0 (by (first | decide | exact ⟨by omega, by omega⟩)) σ16 hIσ16) ms_X12_168 rfl dX12_keep_81 ⟨Nat.le_of_ble_eq_true rfl, Nat.le_of_ble_eq_true rfl⟩ ⟨Nat.le_refl _, Nat.le_refl _⟩ rfl (Nat.le_of_ble_eq_true rfl) rfl (fun z26 σ27 hz26 => ?_)
            obtain ⟨r29, rfl, hr29, rfl, q28_0⟩ := hz26
            replace q28_0 : r29 = (0 : Int) := q28_0
            refine j_st (st' := [vI r29]) rfl ?_
            exact j_iret (pc := 84) ⟨rfl, rfl⟩ dX12_keep_84 rfl ⟨_, rfl, ⟨by omega, by omega⟩, hIσ16, hFσ16, trivial⟩
          · refine j_iconst (pc := 76) dX12_keep_76 ?_
            refine j_goto (pc := 77) (tgt := 81) dX12_keep_77 rfl ?_
            refine j_callS (pc := 81) (As := [vI 1]) (st := []) (c_X12_flag 1 (by (first | decide | exact ⟨by omega, by omega⟩)) σ16 hIσ16) ms_X12_168 rfl dX12_keep_81 ⟨Nat.le_of_ble_eq_true rfl, Nat.le_of_ble_eq_true rfl⟩ ⟨Nat.le_refl _, Nat.le_refl _⟩ rfl (Nat.le_of_ble_eq_true rfl) rfl (fun z30 σ31 hz30 => ?_)
            obtain ⟨r33, rfl, hr33, rfl, q32_0⟩ := hz30
            replace q32_0 : r33 = (1 : Int) := q32_0
            refine j_st (st' := [vI r33]) rfl ?_
            exact j_iret (pc := 84) ⟨rfl, rfl⟩ dX12_keep_84 rfl ⟨_, rfl, ⟨by omega, by omega⟩, hIσ16, hFσ16, trivial⟩
        · refine j_aload_n (pc := 57) dX12_keep_57 rfl rfl ?_
          refine j_sipush (pc := 58) dX12_keep_58 rfl ?_
          refine j_callV (pc := 61) (As := [vI 300]) (st := []) (c_X12_all hM 300 (by (first | decide | exact ⟨by omega, by omega⟩)) σ16 hIσ16) mv_X12_192 rfl rfl rfl (a_88 hM) dX12_keep_61 ⟨Nat.le_of_ble_eq_true rfl, Nat.le_of_ble_eq_true rfl⟩ ⟨Nat.le_refl _, Nat.le_refl _⟩ rfl (Nat.le_of_ble_eq_true rfl) rfl (fun z34 σ35 hz34 => ?_)
          obtain ⟨r37, rfl, hr37, rfl, q36_0⟩ := hz34
          replace q36_0 : r37 = mc σ16 (300 : Int) (σ16 91 0).toNat := q36_0
          refine j_st (st' := [vI r37]) rfl ?_
          refine j_goto (pc := 64) (tgt := 84) dX12_keep_64 rfl ?_
          exact j_iret (pc := 84) ⟨rfl, rfl⟩ dX12_keep_84 rfl ⟨_, rfl, ⟨by omega, by omega⟩, hIσ16, hFσ16, trivial⟩
      · refine j_aload_n (pc := 42) dX12_keep_42 rfl rfl ?_
        refine j_sipush (pc := 43) dX12_keep_43 rfl ?_
        refine j_callV (pc := 46) (As := [vI 300]) (st := []) (c_X12_riskOf hM 300 (by (first | decide | exact ⟨by omega, by omega⟩)) σ16 hIσ16 (by omega)) mv_X12_280 rfl rfl rfl (a_88 hM) dX12_keep_46 ⟨Nat.le_of_ble_eq_true rfl, Nat.le_of_ble_eq_true rfl⟩ ⟨Nat.le_refl _, Nat.le_refl _⟩ rfl (Nat.le_of_ble_eq_true rfl) rfl (fun z38 σ39 hz38 => ?_)
        obtain ⟨r41, rfl, hr41, hIσ39, hGσ39, q40_0⟩ := hz38
        replace q40_0 : r41 = rsk (wM σ16) (gM (300 : Int) σ16) 1023 (σ16 91 0).toNat := q40_0
        have y42 : σ16 91 0 = σ 91 0 := ((hGσ16 91 0 (show ¬ ((91 = 88 ∧ (0 = 24 ∨ 0 = 25))) from by decide))).trans (hGσ12 91 0 (show ¬ ((91 = 89 ∧ 300 ≤ 0)) from by decide))
        have hFσ39 : tw_F (fun c j => (c = 88 ∧ (j = 19 ∨ j = 20 ∨ j = 21 ∨ j = 22 ∨ j = 23 ∨ j = 24 ∨ j = 25)) ∨ (c = 89 ∧ 300 ≤ j)) σ σ39 := tw_F_tr hFσ16 hGσ39 (fun c j q => (show (c = 88 ∧ (j = 19 ∨ j = 20 ∨ j = 21 ∨ j = 22 ∨ j = 23 ∨ j = 24 ∨ j = 25)) ∨ (c = 89 ∧ 300 ≤ j) from by replace q : (c = 88 ∧ (j = 19 ∨ j = 20 ∨ j = 21 ∨ j = 22 ∨ j = 23)) := q; exact (Or.inl ⟨q.1, (q.2.elim (fun z => (Or.inl z)) (fun z => (z.elim (fun z => (Or.inr (Or.inl z))) (fun z => (z.elim (fun z => (Or.inr (Or.inr (Or.inl z)))) (fun z => (z.elim (fun z => (Or.inr (Or.inr (Or.inr (Or.inl z))))) (fun z => (Or.inr (Or.inr (Or.inr (Or.inr (Or.inl z)))))))))))))⟩)))
        refine j_st (st' := [vI r41]) rfl ?_
        refine j_goto (pc := 49) (tgt := 84) dX12_keep_49 rfl ?_
        exact j_iret (pc := 84) ⟨rfl, rfl⟩ dX12_keep_84 rfl ⟨_, rfl, ⟨by omega, by omega⟩, hIσ39, hFσ39, trivial⟩
    · refine j_iconst (pc := 24) dX12_keep_24 ?_
      exact j_iret (pc := 25) ⟨rfl, rfl⟩ dX12_keep_25 rfl ⟨_, rfl, ⟨by omega, by omega⟩, hI, (tw_F_rf), trivial⟩
abbrev q_X12_best (w : Int) (σ : tw_M) : Option tw_V → tw_M → Prop := fun z τ => ∃ r : Int, z = some (vI r) ∧ (-2147483648 ≤ r ∧ r ≤ 2147483647) ∧ tw_I τ ∧ tw_F (fun c j => (c = 88 ∧ (j = 19 ∨ j = 20 ∨ j = 21 ∨ j = 22 ∨ j = 23 ∨ j = 24 ∨ j = 25 ∨ j = 26 ∨ j = 27)) ∨ (c = 89 ∧ 300 ≤ j)) σ τ ∧ True
set_option maxHeartbeats 4000000 in
set_option maxRecDepth 100000 in
theorem l_X12_best {G : tw_G} (hM : tw_isM G) (w : Int) (hw : -2147483648 ≤ w ∧ w ≤ 2147483647) (σ : tw_M) (hI : tw_I σ) : ∀ N_ : Nat, (∀ (b : Int) (hb : -2147483648 ≤ b ∧ b ≤ 2147483647) (l : Int) (hl : -2147483648 ≤ l ∧ l ≤ 2147483647) (i : Int) (hi : 1 ≤ i ∧ i ≤ 41) (τ : tw_M) (hIτ : tw_I τ) (hFτ : tw_F (fun c j => (c = 88 ∧ (j = 19 ∨ j = 20 ∨ j = 21 ∨ j = 22 ∨ j = 23 ∨ j = 24 ∨ j = 25 ∨ j = 26 ∨ j = 27)) ∨ (c = 89 ∧ 300 ≤ j)) σ τ)  (hm : (41 - i).toNat < N_), tw_J G (tw_mt RX12 cX12_best 7 (some .int) 5) (tw_E G (q_X12_best w σ)) 22 [(0, vR 88), (1, vI w), (2, vI b), (3, vI l), (4, vI i)] [] τ) := by
  intro N_
  induction N_ with
  | zero => exact fun b hb l hl i hi τ hIτ hFτ hm => absurd hm (Nat.not_lt_zero _)
  | succ N_ ih =>
    intro b hb l hl i hi τ hIτ hFτ hm
    refine j_iload (pc := 22) dX12_best_22 rfl ?_
    refine j_bipush (pc := 24) dX12_best_24 rfl ?_
    refine j_icmpR_gt (pc := 26) (tgt := 109) ⟨by omega, by omega⟩ ⟨by omega, by omega⟩ dX12_best_26 rfl (fun h1 => ?_) (fun h1 => ?_)
    · refine j_aload_n (pc := 109) dX12_best_109 rfl rfl ?_
      refine j_callV (pc := 110) (As := []) (st := []) (c_X12_findPlan hM τ hIτ) mv_X12_309 rfl rfl rfl (a_88 hM) dX12_best_110 ⟨Nat.le_of_ble_eq_true rfl, Nat.le_of_ble_eq_true rfl⟩ ⟨Nat.le_refl _, Nat.le_refl _⟩ rfl (Nat.le_of_ble_eq_true rfl) rfl (fun z2 σ3 hz2 => ?_)
      obtain ⟨rfl, hIσ3, hGσ3, q4_0, q4_1⟩ := hz2
      replace q4_0 : PS τ (σ3 88 26) (p2 (mK τ)) := q4_0
      replace q4_1 : ∀ rk : Nat → Int, MOK rk τ → WOK (wM τ) → BMS (wM τ) rk (pt (kk (wM τ))) (σ3 88 26) (σ3 88 27) := q4_1
      have hFσ3 : tw_F (fun c j => (c = 88 ∧ (j = 19 ∨ j = 20 ∨ j = 21 ∨ j = 22 ∨ j = 23 ∨ j = 24 ∨ j = 25 ∨ j = 26 ∨ j = 27)) ∨ (c = 89 ∧ 300 ≤ j)) σ σ3 := tw_F_tr hFτ hGσ3 (fun c j q => (show (c = 88 ∧ (j = 19 ∨ j = 20 ∨ j = 21 ∨ j = 22 ∨ j = 23 ∨ j = 24 ∨ j = 25 ∨ j = 26 ∨ j = 27)) ∨ (c = 89 ∧ 300 ≤ j) from by replace q : (c = 88 ∧ (j = 19 ∨ j = 20 ∨ j = 21 ∨ j = 22 ∨ j = 23 ∨ j = 24 ∨ j = 25 ∨ j = 26 ∨ j = 27)) ∨ (c = 89 ∧ 300 ≤ j) := q; exact q))
      refine j_st (st' := []) rfl ?_
      refine j_iload_n (pc := 113) dX12_best_113 rfl rfl ?_
      refine j_bipush (pc := 114) dX12_best_114 rfl ?_
      refine j_icmpR_eq (pc := 116) (tgt := 128) ⟨by omega, by omega⟩ ⟨by omega, by omega⟩ dX12_best_116 rfl (fun h6 => ?_) (fun h6 => ?_)
      · refine j_bipush (pc := 128) dX12_best_128 rfl ?_
        refine j_goto (pc := 130) (tgt := 156) dX12_best_130 rfl ?_
        exact j_iret (pc := 156) ⟨rfl, rfl⟩ dX12_best_156 rfl ⟨_, rfl, ⟨by omega, by omega⟩, hIσ3, hFσ3, trivial⟩
      · refine j_aload_n (pc := 119) dX12_best_119 rfl rfl ?_
        refine j_getI (pc := 120) fl_X12_292 dX12_best_120 (a_88 hM) rfl ?_
        have f7 : (-4 : Int) ≤ σ3 88 26 ∧ σ3 88 26 ≤ 1023 := hIσ3 88 26
        refine j_bipush (pc := 123) dX12_best_123 rfl ?_
        refine j_icmpR_ne (pc := 125) (tgt := 133) ⟨by omega, by omega⟩ ⟨by omega, by omega⟩ dX12_best_125 rfl (fun h8 => ?_) (fun h8 => ?_)
        · refine j_iload_n (pc := 133) dX12_best_133 rfl rfl ?_
          refine j_ifR_ne (pc := 134) (tgt := 141) ⟨by omega, by omega⟩ dX12_best_134 rfl (fun h9 => ?_) (fun h9 => ?_)
          · refine j_iload_n (pc := 141) dX12_best_141 rfl rfl ?_
            refine j_iconst (pc := 142) dX12_best_142 ?_
            refine j_icmpR_ne (pc := 143) (tgt := 150) ⟨by omega, by omega⟩ ⟨by omega, by omega⟩ dX12_best_143 rfl (fun h10 => ?_) (fun h10 => ?_)
            · refine j_iload_n (pc := 150) dX12_best_150 rfl rfl ?_
              refine j_aload_n (pc := 151) dX12_best_151 rfl rfl ?_
              refine j_getI (pc := 152) fl_X12_295 dX12_best_152 (a_88 hM) rfl ?_
              have f11 : (-2147483648 : Int) ≤ σ3 88 27 ∧ σ3 88 27 ≤ 2147483647 := hIσ3 88 27
              refine j_isub (pc := 155) dX12_best_155 ?_
              refine j_top (fun z12 ez12 hz12 => ?_)
              exact j_iret (pc := 156) ⟨rfl, rfl⟩ dX12_best_156 rfl ⟨_, rfl, ⟨by omega, by omega⟩, hIσ3, hFσ3, trivial⟩
            · refine j_iload_n (pc := 146) dX12_best_146 rfl rfl ?_
              refine j_goto (pc := 147) (tgt := 156) dX12_best_147 rfl ?_
              exact j_iret (pc := 156) ⟨rfl, rfl⟩ dX12_best_156 rfl ⟨_, rfl, ⟨by omega, by omega⟩, hIσ3, hFσ3, trivial⟩
          · refine j_iload_n (pc := 137) dX12_best_137 rfl rfl ?_
            refine j_goto (pc := 138) (tgt := 156) dX12_best_138 rfl ?_
            exact j_iret (pc := 156) ⟨rfl, rfl⟩ dX12_best_156 rfl ⟨_, rfl, ⟨by omega, by omega⟩, hIσ3, hFσ3, trivial⟩
        · refine j_bipush (pc := 128) dX12_best_128 rfl ?_
          refine j_goto (pc := 130) (tgt := 156) dX12_best_130 rfl ?_
          exact j_iret (pc := 156) ⟨rfl, rfl⟩ dX12_best_156 rfl ⟨_, rfl, ⟨by omega, by omega⟩, hIσ3, hFσ3, trivial⟩
    · refine j_aload_n (pc := 29) dX12_best_29 rfl rfl ?_
      refine j_iload (pc := 30) dX12_best_30 rfl ?_
      refine j_callV (pc := 32) (As := [vI i]) (st := []) (c_X12_follows hM i ⟨by omega, by omega⟩ τ hIτ) mv_X12_314 rfl rfl rfl (a_88 hM) dX12_best_32 ⟨Nat.le_of_ble_eq_true rfl, Nat.le_of_ble_eq_true rfl⟩ ⟨Nat.le_refl _, Nat.le_refl _⟩ rfl (Nat.le_of_ble_eq_true rfl) rfl (fun z13 σ14 hz13 => ?_)
      obtain ⟨rfl, hIσ14, hGσ14, -⟩ := hz13
      have hFσ14 : tw_F (fun c j => (c = 88 ∧ (j = 19 ∨ j = 20 ∨ j = 21 ∨ j = 22 ∨ j = 23 ∨ j = 24 ∨ j = 25 ∨ j = 26 ∨ j = 27)) ∨ (c = 89 ∧ 300 ≤ j)) σ σ14 := tw_F_tr hFτ hGσ14 (fun c j q => (show (c = 88 ∧ (j = 19 ∨ j = 20 ∨ j = 21 ∨ j = 22 ∨ j = 23 ∨ j = 24 ∨ j = 25 ∨ j = 26 ∨ j = 27)) ∨ (c = 89 ∧ 300 ≤ j) from by replace q : (c = 89 ∧ 300 ≤ j) := q; exact (Or.inr q)))
      refine j_st (st' := []) rfl ?_
      refine j_aload_n (pc := 35) dX12_best_35 rfl rfl ?_
      refine j_sipush (pc := 36) dX12_best_36 rfl ?_
      refine j_callV (pc := 39) (As := [vI 300]) (st := []) (c_X12_findEffort hM 300 (by (first | decide | exact ⟨by omega, by omega⟩)) σ14 hIσ14) mv_X12_277 rfl rfl rfl (a_88 hM) dX12_best_39 ⟨Nat.le_of_ble_eq_true rfl, Nat.le_of_ble_eq_true rfl⟩ ⟨Nat.le_refl _, Nat.le_refl _⟩ rfl (Nat.le_of_ble_eq_true rfl) rfl (fun z17 σ18 hz17 => ?_)
      obtain ⟨rfl, hIσ18, hGσ18, q19_0, q19_1⟩ := hz17
      replace q19_0 : σ18 88 24 = eff (wM σ14) (gM (300 : Int) σ14) (σ14 91 0).toNat := q19_0
      have y21 : σ14 91 0 = τ 91 0 := (hGσ14 91 0 (show ¬ ((91 = 89 ∧ 300 ≤ 0)) from by decide))
      have f22 : (1 : Int) ≤ τ 91 0 ∧ τ 91 0 ≤ 40 := hIτ 91 0
      replace q19_1 : TMs (wM σ14) (gM (300 : Int) σ14) (-4) 1 (σ14 91 0 + 1) (σ18 88 25) := q19_1
      have y23 : σ14 91 0 = τ 91 0 := (hGσ14 91 0 (show ¬ ((91 = 89 ∧ 300 ≤ 0)) from by decide))
      have hFσ18 : tw_F (fun c j => (c = 88 ∧ (j = 19 ∨ j = 20 ∨ j = 21 ∨ j = 22 ∨ j = 23 ∨ j = 24 ∨ j = 25 ∨ j = 26 ∨ j = 27)) ∨ (c = 89 ∧ 300 ≤ j)) σ σ18 := tw_F_tr hFσ14 hGσ18 (fun c j q => (show (c = 88 ∧ (j = 19 ∨ j = 20 ∨ j = 21 ∨ j = 22 ∨ j = 23 ∨ j = 24 ∨ j = 25 ∨ j = 26 ∨ j = 27)) ∨ (c = 89 ∧ 300 ≤ j) from by replace q : (c = 88 ∧ (j = 24 ∨ j = 25)) := q; exact (Or.inl ⟨q.1, (q.2.elim (fun z => (Or.inr (Or.inr (Or.inr (Or.inr (Or.inr (Or.inl z))))))) (fun z => (Or.inr (Or.inr (Or.inr (Or.inr (Or.inr (Or.inr (Or.inl z)))))))))⟩)))
      refine j_st (st' := []) rfl ?_
      refine j_aload_n (pc := 42) dX12_best_42 rfl rfl ?_
      refine j_sipush (pc := 43) dX12_best_43 rfl ?_
      refine j_callV (pc := 46) (As := [vI 300]) (st := []) (c_X12_riskOf hM 300 (by (first | decide | exact ⟨by omega, by omega⟩)) σ18 hIσ18 (by omega)) mv_X12_280 rfl rfl rfl (a_88 hM) dX12_best_46 ⟨Nat.le_of_ble_eq_true rfl, Nat.le_of_ble_eq_true rfl⟩ ⟨Nat.le_refl _, Nat.le_refl _⟩ rfl (Nat.le_of_ble_eq_true rfl) rfl (fun z24 σ25 hz24 => ?_)
      obtain ⟨r27, rfl, hr27, hIσ25, hGσ25, q26_0⟩ := hz24
      replace q26_0 : r27 = rsk (wM σ18) (gM (300 : Int) σ18) 1023 (σ18 91 0).toNat := q26_0
      have y28 : σ18 91 0 = τ 91 0 := ((hGσ18 91 0 (show ¬ ((91 = 88 ∧ (0 = 24 ∨ 0 = 25))) from by decide))).trans (hGσ14 91 0 (show ¬ ((91 = 89 ∧ 300 ≤ 0)) from by decide))
      have hFσ25 : tw_F (fun c j => (c = 88 ∧ (j = 19 ∨ j = 20 ∨ j = 21 ∨ j = 22 ∨ j = 23 ∨ j = 24 ∨ j = 25 ∨ j = 26 ∨ j = 27)) ∨ (c = 89 ∧ 300 ≤ j)) σ σ25 := tw_F_tr hFσ18 hGσ25 (fun c j q => (show (c = 88 ∧ (j = 19 ∨ j = 20 ∨ j = 21 ∨ j = 22 ∨ j = 23 ∨ j = 24 ∨ j = 25 ∨ j = 26 ∨ j = 27)) ∨ (c = 89 ∧ 300 ≤ j) from by replace q : (c = 88 ∧ (j = 19 ∨ j = 20 ∨ j = 21 ∨ j = 22 ∨ j = 23)) := q; exact (Or.inl ⟨q.1, (q.2.elim (fun z => (Or.inl z)) (fun z => (z.elim (fun z => (Or.inr (Or.inl z))) (fun z => (z.elim (fun z => (Or.inr (Or.inr (Or.inl z)))) (fun z => (z.elim (fun z => (Or.inr (Or.inr (Or.inr (Or.inl z))))) (fun z => (Or.inr (Or.inr (Or.inr (Or.inr (Or.inl z)))))))))))))⟩)))
      refine j_st (st' := [vI r27]) rfl ?_
      refine j_istore (pc := 49) (i := 5) (ls' := [(0, vR 88), (1, vI w), (2, vI b), (3, vI l), (4, vI i), (5, vI r27)]) [1, 2, 3, 4, 5, 0] dX12_best_49 (Nat.le_of_ble_eq_true rfl) rfl rfl ?_
      refine j_aload_n (pc := 51) dX12_best_51 rfl rfl ?_
      refine j_getI (pc := 52) fl_X12_274 dX12_best_52 (a_88 hM) rfl ?_
      refine j_topV (show σ25 88 25 = σ18 88 25 from (hGσ25 88 25 (show ¬ ((88 = 88 ∧ (25 = 19 ∨ 25 = 20 ∨ 25 = 21 ∨ 25 = 22 ∨ 25 = 23))) from by decide))) ?_
      have f29 : (-2147483648 : Int) ≤ σ18 88 25 ∧ σ18 88 25 ≤ 2147483647 := hIσ18 88 25
      refine j_bipush (pc := 55) dX12_best_55 rfl ?_
      refine j_icmpR_ne (pc := 57) (tgt := 76) ⟨by omega, by omega⟩ ⟨by omega, by omega⟩ dX12_best_57 rfl (fun h30 => ?_) (fun h30 => ?_)
      · refine j_iconst (pc := 76) dX12_best_76 ?_
        refine j_istore (pc := 77) (i := 6) (ls' := [(0, vR 88), (1, vI w), (2, vI b), (3, vI l), (4, vI i), (5, vI r27), (6, vI 0)]) [1, 2, 3, 4, 5, 6, 0] dX12_best_77 (Nat.le_of_ble_eq_true rfl) rfl rfl ?_
        refine j_iload (pc := 79) dX12_best_79 rfl ?_
        refine j_ifR_eq (pc := 81) (tgt := 89) ⟨by omega, by omega⟩ dX12_best_81 rfl (fun h31 => ?_) (fun h31 => by exfalso; omega)
        refine j_iload_n (pc := 89) dX12_best_89 rfl rfl ?_
        refine j_istore_n (pc := 90) (i := 2) (ls' := [(0, vR 88), (1, vI w), (2, vI b), (3, vI l), (4, vI i), (5, vI r27), (6, vI 0)]) [1, 2, 0, 3, 4, 5, 6] dX12_best_90 rfl (Nat.le_of_ble_eq_true rfl) rfl rfl ?_
        refine j_iload (pc := 91) dX12_best_91 rfl ?_
        refine j_ifR_eq (pc := 93) (tgt := 101) ⟨by omega, by omega⟩ dX12_best_93 rfl (fun h32 => ?_) (fun h32 => by exfalso; omega)
        refine j_iload_n (pc := 101) dX12_best_101 rfl rfl ?_
        refine j_istore_n (pc := 102) (i := 3) (ls' := [(0, vR 88), (1, vI w), (2, vI b), (3, vI l), (4, vI i)]) [1, 2, 3, 0, 4] dX12_best_102 rfl (Nat.le_of_ble_eq_true rfl) rfl rfl ?_
        refine j_iinc (pc := 103) (i := 4) (n := 1) (ls' := [(0, vR 88), (1, vI w), (2, vI b), (3, vI l), (4, vI (i + 1))]) [1, 2, 3, 4, 0] dX12_best_103 rfl (Nat.le_of_ble_eq_true rfl) rfl rfl ?_
        refine j_goto (pc := 106) (tgt := 22) dX12_best_106 rfl ?_
        refine j_ls (ls' := [(0, vR 88), (1, vI w), (2, vI b), (3, vI l), (4, vI (i + 1))]) [0, 1, 2, 3, 4] rfl ?_
        exact ih b ⟨by omega, by omega⟩ l ⟨by omega, by omega⟩ (i + 1) ⟨by omega, by omega⟩ σ25 hIσ25 hFσ25 (show (41 - (i + 1)).toNat < N_ from by omega)
      · refine j_iload_n (pc := 60) dX12_best_60 rfl rfl ?_
        refine j_bipush (pc := 61) dX12_best_61 rfl ?_
        refine j_icmpR_eq (pc := 63) (tgt := 72) ⟨by omega, by omega⟩ ⟨by omega, by omega⟩ dX12_best_63 rfl (fun h33 => ?_) (fun h33 => ?_)
        · refine j_iconst (pc := 72) dX12_best_72 ?_
          refine j_goto (pc := 73) (tgt := 77) dX12_best_73 rfl ?_
          refine j_istore (pc := 77) (i := 6) (ls' := [(0, vR 88), (1, vI w), (2, vI b), (3, vI l), (4, vI i), (5, vI r27), (6, vI 1)]) [1, 2, 3, 4, 5, 6, 0] dX12_best_77 (Nat.le_of_ble_eq_true rfl) rfl rfl ?_
          refine j_iload (pc := 79) dX12_best_79 rfl ?_
          refine j_ifR_eq (pc := 81) (tgt := 89) ⟨by omega, by omega⟩ dX12_best_81 rfl (fun h34 => by exfalso; omega) (fun h34 => ?_)
          refine j_iload (pc := 84) dX12_best_84 rfl ?_
          refine j_goto (pc := 86) (tgt := 90) dX12_best_86 rfl ?_
          refine j_istore_n (pc := 90) (i := 2) (ls' := [(0, vR 88), (1, vI w), (2, vI i), (3, vI l), (4, vI i), (5, vI r27), (6, vI 1)]) [1, 2, 0, 3, 4, 5, 6] dX12_best_90 rfl (Nat.le_of_ble_eq_true rfl) rfl rfl ?_
          refine j_iload (pc := 91) dX12_best_91 rfl ?_
          refine j_ifR_eq (pc := 93) (tgt := 101) ⟨by omega, by omega⟩ dX12_best_93 rfl (fun h35 => by exfalso; omega) (fun h35 => ?_)
          refine j_iload (pc := 96) dX12_best_96 rfl ?_
          refine j_goto (pc := 98) (tgt := 102) dX12_best_98 rfl ?_
          refine j_istore_n (pc := 102) (i := 3) (ls' := [(0, vR 88), (1, vI w), (2, vI i), (3, vI r27), (4, vI i)]) [1, 2, 3, 0, 4] dX12_best_102 rfl (Nat.le_of_ble_eq_true rfl) rfl rfl ?_
          refine j_iinc (pc := 103) (i := 4) (n := 1) (ls' := [(0, vR 88), (1, vI w), (2, vI i), (3, vI r27), (4, vI (i + 1))]) [1, 2, 3, 4, 0] dX12_best_103 rfl (Nat.le_of_ble_eq_true rfl) rfl rfl ?_
          refine j_goto (pc := 106) (tgt := 22) dX12_best_106 rfl ?_
          refine j_ls (ls' := [(0, vR 88), (1, vI w), (2, vI i), (3, vI r27), (4, vI (i + 1))]) [0, 1, 2, 3, 4] rfl ?_
          exact ih i ⟨by omega, by omega⟩ r27 ⟨by omega, by omega⟩ (i + 1) ⟨by omega, by omega⟩ σ25 hIσ25 hFσ25 (show (41 - (i + 1)).toNat < N_ from by omega)
        · refine j_iload (pc := 66) dX12_best_66 rfl ?_
          refine j_iload_n (pc := 68) dX12_best_68 rfl rfl ?_
          refine j_icmpR_gt (pc := 69) (tgt := 76) ⟨by omega, by omega⟩ ⟨by omega, by omega⟩ dX12_best_69 rfl (fun h36 => ?_) (fun h36 => ?_)
          · refine j_iconst (pc := 76) dX12_best_76 ?_
            refine j_istore (pc := 77) (i := 6) (ls' := [(0, vR 88), (1, vI w), (2, vI b), (3, vI l), (4, vI i), (5, vI r27), (6, vI 0)]) [1, 2, 3, 4, 5, 6, 0] dX12_best_77 (Nat.le_of_ble_eq_true rfl) rfl rfl ?_
            refine j_iload (pc := 79) dX12_best_79 rfl ?_
            refine j_ifR_eq (pc := 81) (tgt := 89) ⟨by omega, by omega⟩ dX12_best_81 rfl (fun h37 => ?_) (fun h37 => by exfalso; omega)
            refine j_iload_n (pc := 89) dX12_best_89 rfl rfl ?_
            refine j_istore_n (pc := 90) (i := 2) (ls' := [(0, vR 88), (1, vI w), (2, vI b), (3, vI l), (4, vI i), (5, vI r27), (6, vI 0)]) [1, 2, 0, 3, 4, 5, 6] dX12_best_90 rfl (Nat.le_of_ble_eq_true rfl) rfl rfl ?_
            refine j_iload (pc := 91) dX12_best_91 rfl ?_
            refine j_ifR_eq (pc := 93) (tgt := 101) ⟨by omega, by omega⟩ dX12_best_93 rfl (fun h38 => ?_) (fun h38 => by exfalso; omega)
            refine j_iload_n (pc := 101) dX12_best_101 rfl rfl ?_
            refine j_istore_n (pc := 102) (i := 3) (ls' := [(0, vR 88), (1, vI w), (2, vI b), (3, vI l), (4, vI i)]) [1, 2, 3, 0, 4] dX12_best_102 rfl (Nat.le_of_ble_eq_true rfl) rfl rfl ?_
            refine j_iinc (pc := 103) (i := 4) (n := 1) (ls' := [(0, vR 88), (1, vI w), (2, vI b), (3, vI l), (4, vI (i + 1))]) [1, 2, 3, 4, 0] dX12_best_103 rfl (Nat.le_of_ble_eq_true rfl) rfl rfl ?_
            refine j_goto (pc := 106) (tgt := 22) dX12_best_106 rfl ?_
            refine j_ls (ls' := [(0, vR 88), (1, vI w), (2, vI b), (3, vI l), (4, vI (i + 1))]) [0, 1, 2, 3, 4] rfl ?_
            exact ih b ⟨by omega, by omega⟩ l ⟨by omega, by omega⟩ (i + 1) ⟨by omega, by omega⟩ σ25 hIσ25 hFσ25 (show (41 - (i + 1)).toNat < N_ from by omega)
          · refine j_iconst (pc := 72) dX12_best_72 ?_
            refine j_goto (pc := 73) (tgt := 77) dX12_best_73 rfl ?_
            refine j_istore (pc := 77) (i := 6) (ls' := [(0, vR 88), (1, vI w), (2, vI b), (3, vI l), (4, vI i), (5, vI r27), (6, vI 1)]) [1, 2, 3, 4, 5, 6, 0] dX12_best_77 (Nat.le_of_ble_eq_true rfl) rfl rfl ?_
            refine j_iload (pc := 79) dX12_best_79 rfl ?_
            refine j_ifR_eq (pc := 81) (tgt := 89) ⟨by omega, by omega⟩ dX12_best_81 rfl (fun h39 => by exfalso; omega) (fun h39 => ?_)
            refine j_iload (pc := 84) dX12_best_84 rfl ?_
            refine j_goto (pc := 86) (tgt := 90) dX12_best_86 rfl ?_
            refine j_istore_n (pc := 90) (i := 2) (ls' := [(0, vR 88), (1, vI w), (2, vI i), (3, vI l), (4, vI i), (5, vI r27), (6, vI 1)]) [1, 2, 0, 3, 4, 5, 6] dX12_best_90 rfl (Nat.le_of_ble_eq_true rfl) rfl rfl ?_
            refine j_iload (pc := 91) dX12_best_91 rfl ?_
            refine j_ifR_eq (pc := 93) (tgt := 101) ⟨by omega, by omega⟩ dX12_best_93 rfl (fun h40 => by exfalso; omega) (fun h40 => ?_)
            refine j_iload (pc := 96) dX12_best_96 rfl ?_
            refine j_goto (pc := 98) (tgt := 102) dX12_best_98 rfl ?_
            refine j_istore_n (pc := 102) (i := 3) (ls' := [(0, vR 88), (1, vI w), (2, vI i), (3, vI r27), (4, vI i)]) [1, 2, 3, 0, 4] dX12_best_102 rfl (Nat.le_of_ble_eq_true rfl) rfl rfl ?_
            refine j_iinc (pc := 103) (i := 4) (n := 1) (ls' := [(0, vR 88), (1, vI w), (2, vI i), (3, vI r27), (4, vI (i + 1))]) [1, 2, 3, 4, 0] dX12_best_103 rfl (Nat.le_of_ble_eq_true rfl) rfl rfl ?_
            refine j_goto (pc := 106) (tgt := 22) dX12_best_106 rfl ?_
            refine j_ls (ls' := [(0, vR 88), (1, vI w), (2, vI i), (3, vI r27), (4, vI (i + 1))]) [0, 1, 2, 3, 4] rfl ?_
            exact ih i ⟨by omega, by omega⟩ r27 ⟨by omega, by omega⟩ (i + 1) ⟨by omega, by omega⟩ σ25 hIσ25 hFσ25 (show (41 - (i + 1)).toNat < N_ from by omega)
set_option maxHeartbeats 4000000 in
set_option maxRecDepth 100000 in
theorem c_X12_best {G : tw_G} (hM : tw_isM G) (w : Int) (hw : -2147483648 ≤ w ∧ w ≤ 2147483647) (σ : tw_M) (hI : tw_I σ) : tw_C G yX12_best cX12_best 7 (some .int) 5 [vR 88, vI w] σ (q_X12_best w σ) := by
  refine tw_met [(0, vR 88), (1, vI w)] (by decide +kernel) rfl (Nat.le_of_ble_eq_true rfl) ?_
  refine j_iload_n (pc := 0) dX12_best_0 rfl rfl ?_
  refine j_i2l (pc := 1) dX12_best_1 ?_
  rw [w32_eq (a := w) (by omega) (by omega)]
  refine j_lconst (pc := 2) (z := 0) dX12_best_2 rfl ?_
  refine j_ldc2 (pc := 3) (z := 2) dX12_best_3 (tw_inc tm_7 (i := 149) rfl rfl) ?_
  refine j_callS (pc := 6) (As := [vL w, vL 0, vL 2]) (st := []) (c_X12_in w ⟨by omega, by omega⟩ 0 (by (first | decide | exact ⟨by omega, by omega⟩)) 2 (by (first | decide | exact ⟨by omega, by omega⟩)) σ hI) ms_X12_82 rfl dX12_best_6 ⟨Nat.le_of_ble_eq_true rfl, Nat.le_of_ble_eq_true rfl⟩ ⟨Nat.le_refl _, Nat.le_refl _⟩ rfl (Nat.le_of_ble_eq_true rfl) rfl (fun z41 σ42 hz41 => ?_)
  obtain ⟨r44, rfl, hr44, rfl, q43_0⟩ := hz41
  replace q43_0 : (r44 = 1 ∧ (0 : Int) ≤ w ∧ w ≤ (2 : Int)) ∨ (r44 = 0 ∧ ¬ ((0 : Int) ≤ w ∧ w ≤ (2 : Int))) := q43_0
  refine j_st (st' := [vI r44]) rfl ?_
  refine j_ifR_ne (pc := 9) (tgt := 14) ⟨by omega, by omega⟩ dX12_best_9 rfl (fun h45 => ?_) (fun h45 => ?_)
  · refine j_bipush (pc := 14) dX12_best_14 rfl ?_
    refine j_istore_n (pc := 16) (i := 2) (ls' := [(0, vR 88), (1, vI w), (2, vI (-4))]) [1, 2, 0] dX12_best_16 rfl (Nat.le_of_ble_eq_true rfl) rfl rfl ?_
    refine j_iconst (pc := 17) dX12_best_17 ?_
    refine j_istore_n (pc := 18) (i := 3) (ls' := [(0, vR 88), (1, vI w), (2, vI (-4)), (3, vI 0)]) [1, 2, 3, 0] dX12_best_18 rfl (Nat.le_of_ble_eq_true rfl) rfl rfl ?_
    refine j_iconst (pc := 19) dX12_best_19 ?_
    refine j_istore (pc := 20) (i := 4) (ls' := [(0, vR 88), (1, vI w), (2, vI (-4)), (3, vI 0), (4, vI 1)]) [1, 2, 3, 4, 0] dX12_best_20 (Nat.le_of_ble_eq_true rfl) rfl rfl ?_
    refine j_ls (ls' := [(0, vR 88), (1, vI w), (2, vI (-4)), (3, vI 0), (4, vI 1)]) [0, 1, 2, 3, 4] rfl ?_
    exact (l_X12_best hM w hw σ hI (((41 - (1 : Int)).toNat) + 1)) (-4) (by (first | decide | exact ⟨by omega, by omega⟩)) 0 (by (first | decide | exact ⟨by omega, by omega⟩)) 1 (by (first | decide | exact ⟨by omega, by omega⟩)) σ hI (tw_F_rf) (Nat.lt_succ_self _)
  · refine j_iconst (pc := 12) dX12_best_12 ?_
    exact j_iret (pc := 13) ⟨rfl, rfl⟩ dX12_best_13 rfl ⟨_, rfl, ⟨by omega, by omega⟩, hI, (tw_F_rf), trivial⟩
abbrev q_X12_adopt  (σ : tw_M) : Option tw_V → tw_M → Prop := fun z τ => ∃ r : Int, z = some (vI r) ∧ (-2147483648 ≤ r ∧ r ≤ 2147483647) ∧ tw_I τ ∧ tw_F (fun c j => (c = 88 ∧ (j = 19 ∨ j = 20 ∨ j = 21 ∨ j = 22 ∨ j = 23 ∨ j = 24 ∨ j = 25 ∨ j = 26 ∨ j = 27)) ∨ (c = 89 ∧ (j < 100 ∨ 300 ≤ j))) σ τ ∧ (mI τ) ∧ (τ 89 93 = σ 89 93) ∧ (τ 89 94 = σ 89 94) ∧ (τ 89 95 = σ 89 95) ∧ (τ 89 96 = σ 89 96) ∧ (∀ rk : Nat → Int, MOB rk 0 σ → WOK (wM σ) → ∃ p v : Int, BMS (wM σ) rk (pt (kk (wM σ))) p v ∧ ((p = -4 ∧ r = -4 ∧ ∀ j : Nat, j < 100 → τ 89 j = σ 89 j) ∨ (¬ p = -4 ∧ gM 0 τ = lay (wM σ) p ∧ (∀ f : Int, 1 ≤ f → f ≤ 40 → τ 89 (41 + f).toNat = 0) ∧ (∀ x : Int, 1 ≤ x → x ≤ 10 → τ 89 (82 + x).toNat = rk x.toNat - csz (lay (wM σ) p) x 40) ∧ r = cnt (lay (wM σ) p) (σ 91 0).toNat)))
set_option maxHeartbeats 4000000 in
set_option maxRecDepth 100000 in
theorem c_X12_adopt {G : tw_G} (hM : tw_isM G) (σ : tw_M) (hI : tw_I σ) (hq0 : mI σ) : tw_C G yX12_adopt cX12_adopt 1 (some .int) 5 [vR 88] σ (q_X12_adopt σ) := by
  refine tw_met [(0, vR 88)] (by decide +kernel) rfl (Nat.le_of_ble_eq_true rfl) ?_
  refine j_aload_n (pc := 0) dX12_adopt_0 rfl rfl ?_
  refine j_callV (pc := 1) (As := []) (st := []) (c_X12_findPlan hM σ hI) mv_X12_309 rfl rfl rfl (a_88 hM) dX12_adopt_1 ⟨Nat.le_of_ble_eq_true rfl, Nat.le_of_ble_eq_true rfl⟩ ⟨Nat.le_refl _, Nat.le_refl _⟩ rfl (Nat.le_of_ble_eq_true rfl) rfl (fun z1 σ2 hz1 => ?_)
  obtain ⟨rfl, hIσ2, hGσ2, q3_0, q3_1⟩ := hz1
  replace q3_0 : PS σ (σ2 88 26) (p2 (mK σ)) := q3_0
  replace q3_1 : ∀ rk : Nat → Int, MOK rk σ → WOK (wM σ) → BMS (wM σ) rk (pt (kk (wM σ))) (σ2 88 26) (σ2 88 27) := q3_1
  have hFσ2 : tw_F (fun c j => (c = 88 ∧ (j = 19 ∨ j = 20 ∨ j = 21 ∨ j = 22 ∨ j = 23 ∨ j = 24 ∨ j = 25 ∨ j = 26 ∨ j = 27)) ∨ (c = 89 ∧ (j < 100 ∨ 300 ≤ j))) σ σ2 := tw_F_tr (tw_F_rf) hGσ2 (fun c j q => (show (c = 88 ∧ (j = 19 ∨ j = 20 ∨ j = 21 ∨ j = 22 ∨ j = 23 ∨ j = 24 ∨ j = 25 ∨ j = 26 ∨ j = 27)) ∨ (c = 89 ∧ (j < 100 ∨ 300 ≤ j)) from by replace q : (c = 88 ∧ (j = 19 ∨ j = 20 ∨ j = 21 ∨ j = 22 ∨ j = 23 ∨ j = 24 ∨ j = 25 ∨ j = 26 ∨ j = 27)) ∨ (c = 89 ∧ 300 ≤ j) := q; omega))
  refine j_st (st' := []) rfl ?_
  have fp := q3_1
  refine j_aload_n (pc := 4) dX12_adopt_4 rfl rfl ?_
  refine j_getI (pc := 5) fl_X12_292 dX12_adopt_5 (a_88 hM) rfl ?_
  have f5 : (-4 : Int) ≤ σ2 88 26 ∧ σ2 88 26 ≤ 1023 := hIσ2 88 26
  refine j_bipush (pc := 8) dX12_adopt_8 rfl ?_
  refine j_icmpR_ne (pc := 10) (tgt := 16) ⟨by omega, by omega⟩ ⟨by omega, by omega⟩ dX12_adopt_10 rfl (fun h6 => ?_) (fun h6 => ?_)
  · have p89 : ∀ j, j < 100 → σ2 89 j = σ 89 j := fun j hj => hGσ2 89 j (show ¬ ((89 = 88 ∧ (j = 19 ∨ j = 20 ∨ j = 21 ∨ j = 22 ∨ j = 23 ∨ j = 24 ∨ j = 25 ∨ j = 26 ∨ j = 27)) ∨ (89 = 89 ∧ 300 ≤ j)) from by omega)
    refine j_aload_n (pc := 16) dX12_adopt_16 rfl rfl ?_
    refine j_aload_n (pc := 17) dX12_adopt_17 rfl rfl ?_
    refine j_getI (pc := 18) fl_X12_292 dX12_adopt_18 (a_88 hM) rfl ?_
    refine j_callV (pc := 21) (As := [vI (σ2 88 26)]) (st := []) (c_X12_lays hM (σ2 88 26) ⟨by omega, by omega⟩ σ2 hIσ2) mv_X12_301 rfl rfl rfl (a_88 hM) dX12_adopt_21 ⟨Nat.le_of_ble_eq_true rfl, Nat.le_of_ble_eq_true rfl⟩ ⟨Nat.le_refl _, Nat.le_refl _⟩ rfl (Nat.le_of_ble_eq_true rfl) rfl (fun z7 σ8 hz7 => ?_)
    obtain ⟨r10, rfl, hr10, hIσ8, hGσ8, q9_0, q9_1⟩ := hz7
    replace q9_0 : LZ σ2 σ8 (σ2 88 26) r10 := q9_0
    replace q9_1 : ∀ rk : Nat → Int, MOK rk σ2 → LJZ (wM σ2) rk (σ2 88 26) r10 σ8 := q9_1
    have hFσ8 : tw_F (fun c j => (c = 88 ∧ (j = 19 ∨ j = 20 ∨ j = 21 ∨ j = 22 ∨ j = 23 ∨ j = 24 ∨ j = 25 ∨ j = 26 ∨ j = 27)) ∨ (c = 89 ∧ (j < 100 ∨ 300 ≤ j))) σ σ8 := tw_F_tr hFσ2 hGσ8 (fun c j q => (show (c = 88 ∧ (j = 19 ∨ j = 20 ∨ j = 21 ∨ j = 22 ∨ j = 23 ∨ j = 24 ∨ j = 25 ∨ j = 26 ∨ j = 27)) ∨ (c = 89 ∧ (j < 100 ∨ 300 ≤ j)) from by replace q : (c = 89 ∧ 300 ≤ j) := q; omega))
    refine j_st (st' := [vI r10]) rfl ?_
    have c29 : σ8 91 0 = σ 91 0 := hFσ8 91 0 (show ¬ ((91 = 88 ∧ (0 = 19 ∨ 0 = 20 ∨ 0 = 21 ∨ 0 = 22 ∨ 0 = 23 ∨ 0 = 24 ∨ 0 = 25 ∨ 0 = 26 ∨ 0 = 27)) ∨ (91 = 89 ∧ (0 < 100 ∨ 300 ≤ 0))) from by decide)
    have ly := q9_1
    have WP9 : wM σ2 = wM σ := wM_F (fun j a b => hGσ2 91 j (show ¬ ((91 = 88 ∧ (j = 19 ∨ j = 20 ∨ j = 21 ∨ j = 22 ∨ j = 23 ∨ j = 24 ∨ j = 25 ∨ j = 26 ∨ j = 27)) ∨ (91 = 89 ∧ 300 ≤ j)) from fun h => h.elim (fun h => absurd h.1 (by decide)) (fun h => absurd h.1 (by decide)))) (fun j => hGσ2 92 j (show ¬ ((92 = 88 ∧ (j = 19 ∨ j = 20 ∨ j = 21 ∨ j = 22 ∨ j = 23 ∨ j = 24 ∨ j = 25 ∨ j = 26 ∨ j = 27)) ∨ (92 = 89 ∧ 300 ≤ j)) from fun h => h.elim (fun h => absurd h.1 (by decide)) (fun h => absurd h.1 (by decide))))
    have kp : ∀ j, j < 93 → σ2 89 j = σ 89 j := fun j hj => hGσ2 89 j (show ¬ ((89 = 88 ∧ (j = 19 ∨ j = 20 ∨ j = 21 ∨ j = 22 ∨ j = 23 ∨ j = 24 ∨ j = 25 ∨ j = 26 ∨ j = 27)) ∨ (89 = 89 ∧ 300 ≤ j)) from by omega)
    have kt : σ2 91 0 = σ 91 0 := hGσ2 91 0 (show ¬ ((91 = 88 ∧ (0 = 19 ∨ 0 = 20 ∨ 0 = 21 ∨ 0 = 22 ∨ 0 = 23 ∨ 0 = 24 ∨ 0 = 25 ∨ 0 = 26 ∨ 0 = 27)) ∨ (91 = 89 ∧ 300 ≤ 0)) from by decide)
    refine j_pop (pc := 24) dX12_adopt_24 rfl ?_
    refine j_aload_n (pc := 25) dX12_adopt_25 rfl rfl ?_
    refine j_iconst (pc := 26) dX12_adopt_26 ?_
    refine j_sipush (pc := 27) dX12_adopt_27 rfl ?_
    refine j_callV (pc := 30) (As := [vI 0, vI 300]) (st := []) (c_X12_copies hM 0 (by (first | decide | exact ⟨by omega, by omega⟩)) 300 (by (first | decide | exact ⟨by omega, by omega⟩)) σ8 hIσ8 (by omega) (by omega) (by omega)) mv_X12_283 rfl rfl rfl (a_88 hM) dX12_adopt_30 ⟨Nat.le_of_ble_eq_true rfl, Nat.le_of_ble_eq_true rfl⟩ ⟨Nat.le_refl _, Nat.le_refl _⟩ rfl (Nat.le_of_ble_eq_true rfl) rfl (fun z11 σ12 hz11 => ?_)
    obtain ⟨rfl, hIσ12, hGσ12, q13_0⟩ := hz11
    replace q13_0 : ∀ j : Nat, (j : Int) < 100 → σ12 89 ((0 : Int) + (j : Int)).toNat = σ8 89 ((300 : Int) + (j : Int)).toNat := q13_0
    have hFσ12 : tw_F (fun c j => (c = 88 ∧ (j = 19 ∨ j = 20 ∨ j = 21 ∨ j = 22 ∨ j = 23 ∨ j = 24 ∨ j = 25 ∨ j = 26 ∨ j = 27)) ∨ (c = 89 ∧ (j < 100 ∨ 300 ≤ j))) σ σ12 := tw_F_tr hFσ8 hGσ12 (fun c j q => (show (c = 88 ∧ (j = 19 ∨ j = 20 ∨ j = 21 ∨ j = 22 ∨ j = 23 ∨ j = 24 ∨ j = 25 ∨ j = 26 ∨ j = 27)) ∨ (c = 89 ∧ (j < 100 ∨ 300 ≤ j)) from by replace q : (c = 89 ∧ (0 : Int) ≤ (j : Int) ∧ (j : Int) < (0 : Int) + 100) := q; omega))
    refine j_st (st' := []) rfl ?_
    have mI9 : mI σ12 := mI_adopt hI hq0 (fun j h1 h2 => hFσ12 89 j (show ¬ ((89 = 88 ∧ (j = 19 ∨ j = 20 ∨ j = 21 ∨ j = 22 ∨ j = 23 ∨ j = 24 ∨ j = 25 ∨ j = 26 ∨ j = 27)) ∨ (89 = 89 ∧ (j < 100 ∨ 300 ≤ j))) from by omega)) (fun j => hFσ12 90 j (show ¬ ((90 = 88 ∧ (j = 19 ∨ j = 20 ∨ j = 21 ∨ j = 22 ∨ j = 23 ∨ j = 24 ∨ j = 25 ∨ j = 26 ∨ j = 27)) ∨ (90 = 89 ∧ (j < 100 ∨ 300 ≤ j))) from fun h => h.elim (fun h => absurd h.1 (by decide)) (fun h => absurd h.1 (by decide)))) (hFσ12 91 0 (show ¬ ((91 = 88 ∧ (0 = 19 ∨ 0 = 20 ∨ 0 = 21 ∨ 0 = 22 ∨ 0 = 23 ∨ 0 = 24 ∨ 0 = 25 ∨ 0 = 26 ∨ 0 = 27)) ∨ (91 = 89 ∧ (0 < 100 ∨ 300 ≤ 0))) from by decide)) c29 q13_0 (by rw [q9_0.2.1]; exact q9_0.2.2.2.1) (fun j h1 h2 => (q9_0.2.2.2.2.2 j h1 h2).trans (p89 j h2))
    have a93 : σ12 89 93 = σ 89 93 := (cpy q13_0 (j := 93) (by decide) (by omega) (by omega)).trans ((q9_0.2.2.2.2.2 93 (by omega) (by omega)).trans (p89 93 (by omega)))
    have a94 : σ12 89 94 = σ 89 94 := (cpy q13_0 (j := 94) (by decide) (by omega) (by omega)).trans ((q9_0.2.2.2.2.2 94 (by omega) (by omega)).trans (p89 94 (by omega)))
    have a95 : σ12 89 95 = σ 89 95 := (cpy q13_0 (j := 95) (by decide) (by omega) (by omega)).trans ((q9_0.2.2.2.2.2 95 (by omega) (by omega)).trans (p89 95 (by omega)))
    have a96 : σ12 89 96 = σ 89 96 := (cpy q13_0 (j := 96) (by decide) (by omega) (by omega)).trans ((q9_0.2.2.2.2.2 96 (by omega) (by omega)).trans (p89 96 (by omega)))
    refine j_aload_n (pc := 33) dX12_adopt_33 rfl rfl ?_
    refine j_iconst (pc := 34) dX12_adopt_34 ?_
    refine j_callV (pc := 35) (As := [vI 0]) (st := []) (c_X12_all hM 0 (by (first | decide | exact ⟨by omega, by omega⟩)) σ12 hIσ12) mv_X12_192 rfl rfl rfl (a_88 hM) dX12_adopt_35 ⟨Nat.le_of_ble_eq_true rfl, Nat.le_of_ble_eq_true rfl⟩ ⟨Nat.le_refl _, Nat.le_refl _⟩ rfl (Nat.le_of_ble_eq_true rfl) rfl (fun z15 σ16 hz15 => ?_)
    obtain ⟨r18, rfl, hr18, rfl, q17_0⟩ := hz15
    replace q17_0 : r18 = mc σ12 (0 : Int) (σ12 91 0).toNat := q17_0
    refine j_st (st' := [vI r18]) rfl ?_
    have fin : ∀ rk : Nat → Int, MOB rk 0 σ → WOK (wM σ) → ∃ p v : Int, BMS (wM σ) rk (pt (kk (wM σ))) p v ∧ ((p = -4 ∧ r18 = -4 ∧ ∀ j : Nat, j < 100 → σ12 89 j = σ 89 j) ∨ (¬ p = -4 ∧ gM 0 σ12 = lay (wM σ) p ∧ (∀ f : Int, 1 ≤ f → f ≤ 40 → σ12 89 (41 + f).toNat = 0) ∧ (∀ x : Int, 1 ≤ x → x ≤ 10 → σ12 89 (82 + x).toNat = rk x.toNat - csz (lay (wM σ) p) x 40) ∧ r18 = cnt (lay (wM σ) p) (σ 91 0).toNat)) := fun rk M hW => by
      have B := fp rk (MOK_of (hI 91 0).1 M) hW
      have Y := ly rk (MOK_F (MOK_of (hI 91 0).1 M) kp kt)
      rw [WP9] at Y
      have ft : (1 : Int) ≤ σ 91 0 ∧ σ 91 0 ≤ 40 := hI 91 0
      have ng : ¬ σ2 88 26 = -4 := by omega
      have n0 : σ12 91 0 = σ 91 0 := hFσ12 91 0 (show ¬ ((91 = 88 ∧ (0 = 19 ∨ 0 = 20 ∨ 0 = 21 ∨ 0 = 22 ∨ 0 = 23 ∨ 0 = 24 ∨ 0 = 25 ∨ 0 = 26 ∨ 0 = 27)) ∨ (91 = 89 ∧ (0 < 100 ∨ 300 ≤ 0))) from by decide)
      have r9 := q17_0
      rw [n0, mc_gM (by omega)] at r9
      rcases B with ⟨b1, b2⟩ | ⟨b1, b2, b3, b4⟩
      · exact absurd b1 ng
      rcases Y with ⟨y1, y2, y3, y4⟩ | ⟨y1, x, x1, x2, x3⟩
      · have cp := q13_0
        have cj : ∀ j : Int, 0 ≤ j → j < 100 → σ12 89 j.toNat = σ8 89 (300 + j).toNat := fun j j1 j2 => by
          have e := cp j.toNat (by omega)
          rw [show ((j.toNat : Nat) : Int) = j from by omega, show (0 + j).toNat = j.toNat from by omega] at e
          exact e
        have eg : gM 0 σ12 = lay (wM σ) (σ2 88 26) := by
          rw [← y2]
          exact gM_F (fun f f1 f2 => by have e := cj f (by omega) (by omega); rw [show (0 + f).toNat = f.toNat from by omega]; exact e)
        refine ⟨_, _, Or.inr ⟨b1, b2, b3, b4⟩, Or.inr ⟨ng, eg, fun f f1 f2 => ?_, fun x x1 x2 => ?_, by rw [← eg]; exact r9⟩⟩
        · rw [cj (41 + f) (by omega) (by omega), show (300 + (41 + f)).toNat = (341 + f).toNat from by omega]; exact y4 f f1 f2
        · rw [cj (82 + x) (by omega) (by omega), show (300 + (82 + x)).toNat = (382 + x).toNat from by omega]; exact (y3 x x1 x2).1
      · have := b2.1 x x1 x2
        omega
    exact j_iret (pc := 38) ⟨rfl, rfl⟩ dX12_adopt_38 rfl ⟨_, rfl, ⟨by omega, by omega⟩, hIσ12, hFσ12, mI9, (by first | exact a93 | exact hGσ12 89 93 (show ¬ ((89 = 89 ∧ (0 : Int) ≤ (93 : Int) ∧ (93 : Int) < (0 : Int) + 100)) from by omega)), (by first | exact a94 | exact hGσ12 89 94 (show ¬ ((89 = 89 ∧ (0 : Int) ≤ (94 : Int) ∧ (94 : Int) < (0 : Int) + 100)) from by omega)), (by first | exact a95 | exact hGσ12 89 95 (show ¬ ((89 = 89 ∧ (0 : Int) ≤ (95 : Int) ∧ (95 : Int) < (0 : Int) + 100)) from by omega)), (by first | exact a96 | exact hGσ12 89 96 (show ¬ ((89 = 89 ∧ (0 : Int) ≤ (96 : Int) ∧ (96 : Int) < (0 : Int) + 100)) from by omega)), fin⟩
  · have mI9 : mI σ2 := mI_kept hq0 (fun j hj => hGσ2 89 j (show ¬ ((89 = 88 ∧ (j = 19 ∨ j = 20 ∨ j = 21 ∨ j = 22 ∨ j = 23 ∨ j = 24 ∨ j = 25 ∨ j = 26 ∨ j = 27)) ∨ (89 = 89 ∧ 300 ≤ j)) from by omega)) (fun j => hGσ2 90 j (show ¬ ((90 = 88 ∧ (j = 19 ∨ j = 20 ∨ j = 21 ∨ j = 22 ∨ j = 23 ∨ j = 24 ∨ j = 25 ∨ j = 26 ∨ j = 27)) ∨ (90 = 89 ∧ 300 ≤ j)) from fun h => h.elim (fun h => absurd h.1 (by decide)) (fun h => absurd h.1 (by decide)))) (hGσ2 91 0 (show ¬ ((91 = 88 ∧ (0 = 19 ∨ 0 = 20 ∨ 0 = 21 ∨ 0 = 22 ∨ 0 = 23 ∨ 0 = 24 ∨ 0 = 25 ∨ 0 = 26 ∨ 0 = 27)) ∨ (91 = 89 ∧ 300 ≤ 0)) from by decide)) hI
    refine j_bipush (pc := 13) dX12_adopt_13 rfl ?_
    have fin : ∀ rk : Nat → Int, MOB rk 0 σ → WOK (wM σ) → ∃ p v : Int, BMS (wM σ) rk (pt (kk (wM σ))) p v ∧ ((p = -4 ∧ (-4) = -4 ∧ ∀ j : Nat, j < 100 → σ2 89 j = σ 89 j) ∨ (¬ p = -4 ∧ gM 0 σ2 = lay (wM σ) p ∧ (∀ f : Int, 1 ≤ f → f ≤ 40 → σ2 89 (41 + f).toNat = 0) ∧ (∀ x : Int, 1 ≤ x → x ≤ 10 → σ2 89 (82 + x).toNat = rk x.toNat - csz (lay (wM σ) p) x 40) ∧ (-4) = cnt (lay (wM σ) p) (σ 91 0).toNat)) := fun rk M hW => ⟨_, _, fp rk (MOK_of (hI 91 0).1 M) hW, Or.inl ⟨by omega, rfl, fun j hj => hGσ2 89 j (show ¬ ((89 = 88 ∧ (j = 19 ∨ j = 20 ∨ j = 21 ∨ j = 22 ∨ j = 23 ∨ j = 24 ∨ j = 25 ∨ j = 26 ∨ j = 27)) ∨ (89 = 89 ∧ 300 ≤ j)) from by omega)⟩⟩
    exact j_iret (pc := 15) ⟨rfl, rfl⟩ dX12_adopt_15 rfl ⟨_, rfl, ⟨by omega, by omega⟩, hIσ2, hFσ2, mI9, (by first | exact a93 | exact hGσ2 89 93 (show ¬ ((89 = 88 ∧ (93 = 19 ∨ 93 = 20 ∨ 93 = 21 ∨ 93 = 22 ∨ 93 = 23 ∨ 93 = 24 ∨ 93 = 25 ∨ 93 = 26 ∨ 93 = 27)) ∨ (89 = 89 ∧ 300 ≤ 93)) from by decide)), (by first | exact a94 | exact hGσ2 89 94 (show ¬ ((89 = 88 ∧ (94 = 19 ∨ 94 = 20 ∨ 94 = 21 ∨ 94 = 22 ∨ 94 = 23 ∨ 94 = 24 ∨ 94 = 25 ∨ 94 = 26 ∨ 94 = 27)) ∨ (89 = 89 ∧ 300 ≤ 94)) from by decide)), (by first | exact a95 | exact hGσ2 89 95 (show ¬ ((89 = 88 ∧ (95 = 19 ∨ 95 = 20 ∨ 95 = 21 ∨ 95 = 22 ∨ 95 = 23 ∨ 95 = 24 ∨ 95 = 25 ∨ 95 = 26 ∨ 95 = 27)) ∨ (89 = 89 ∧ 300 ≤ 95)) from by decide)), (by first | exact a96 | exact hGσ2 89 96 (show ¬ ((89 = 88 ∧ (96 = 19 ∨ 96 = 20 ∨ 96 = 21 ∨ 96 = 22 ∨ 96 = 23 ∨ 96 = 24 ∨ 96 = 25 ∨ 96 = 26 ∨ 96 = 27)) ∨ (89 = 89 ∧ 300 ≤ 96)) from by decide)), fin⟩
abbrev q_X12_dragBy (s : Int) (σ : tw_M) : Option tw_V → tw_M → Prop := fun z τ => ∃ r : Int, z = some (vI r) ∧ (-2147483648 ≤ r ∧ r ≤ 2147483647) ∧ σ = τ ∧ (r = DRB (wM σ) (gM 0 σ) (cnt (gM 0 σ) (σ 91 0).toNat) s (cnt (gM 0 σ) (σ 91 0).toNat).toNat) ∧ (0 ≤ r ∧ r ≤ 2000)
set_option maxHeartbeats 4000000 in
set_option maxRecDepth 100000 in
theorem l_X12_dragBy {G : tw_G} (hM : tw_isM G) (s : Int) (hs : -2147483648 ≤ s ∧ s ≤ 2147483647) (σ : tw_M) (hI : tw_I σ) (hq0 : mc σ 0 (σ 91 0).toNat ≤ 10) : ∀ N_ : Nat, (∀ (m : Int) (hm : 0 ≤ m ∧ m ≤ 2000) (k : Int) (hk : 0 ≤ k ∧ k ≤ 40) (i0 : m = DRB (wM σ) (gM 0 σ) (cnt (gM 0 σ) (σ 91 0).toNat) s k.toNat) (i1 : m ≤ 40 * k) (i2 : k ≤ cnt (gM 0 σ) (σ 91 0).toNat ∨ k = 0) (hm : (40 - k).toNat < N_), tw_J G (tw_mt RX12 cX12_dragBy 4 (some .int) 5) (tw_E G (q_X12_dragBy s σ)) 4 [(0, vR 88), (1, vI s), (2, vI m), (3, vI k)] [] σ) := by
  intro N_
  induction N_ with
  | zero => exact fun m hm k hk i0 i1 i2 hm => absurd hm (Nat.not_lt_zero _)
  | succ N_ ih =>
    intro m hm k hk i0 i1 i2 hm
    have a9 := True.intro
    have h1 := True.intro
    have h2 := True.intro
    have of := True.intro
    have ft : (1 : Int) ≤ σ 91 0 ∧ σ 91 0 ≤ 40 := hI 91 0
    refine j_iload_n (pc := 4) dX12_dragBy_4 rfl rfl ?_
    refine j_aload_n (pc := 5) dX12_dragBy_5 rfl rfl ?_
    refine j_iconst (pc := 6) dX12_dragBy_6 ?_
    refine j_callV (pc := 7) (As := [vI 0]) (st := [vI k]) (c_X12_all hM 0 (by (first | decide | exact ⟨by omega, by omega⟩)) σ hI) mv_X12_192 rfl rfl rfl (a_88 hM) dX12_dragBy_7 ⟨Nat.le_of_ble_eq_true rfl, Nat.le_of_ble_eq_true rfl⟩ ⟨Nat.le_refl _, Nat.le_refl _⟩ rfl (Nat.le_of_ble_eq_true rfl) rfl (fun z1 σ2 hz1 => ?_)
    obtain ⟨r4, rfl, hr4, rfl, q3_0⟩ := hz1
    replace q3_0 : r4 = mc σ (0 : Int) (σ 91 0).toNat := q3_0
    refine j_st (st' := [vI r4, vI k]) rfl ?_
    have a9 := q3_0; rw [mc_gM (by omega)] at a9
    refine j_icmpR_ge (pc := 10) (tgt := 41) ⟨by omega, by omega⟩ ⟨by omega, by omega⟩ dX12_dragBy_10 rfl (fun h5 => ?_) (fun h5 => ?_)
    · refine j_iload_n (pc := 41) dX12_dragBy_41 rfl rfl ?_
      exact j_iret (pc := 42) ⟨rfl, rfl⟩ dX12_dragBy_42 rfl ⟨_, rfl, ⟨by omega, by omega⟩, rfl, (by rw [show (cnt (gM 0 σ) (σ 91 0).toNat).toNat = k.toNat from by omega]; exact i0), by omega⟩
    · refine j_iload_n (pc := 13) dX12_dragBy_13 rfl rfl ?_
      refine j_aload_n (pc := 14) dX12_dragBy_14 rfl rfl ?_
      refine j_iload_n (pc := 15) dX12_dragBy_15 rfl rfl ?_
      refine j_iload_n (pc := 16) dX12_dragBy_16 rfl rfl ?_
      refine j_iload_n (pc := 17) dX12_dragBy_17 rfl rfl ?_
      refine j_ishr (pc := 18) dX12_dragBy_18 (fun z6 ez6 => ?_)
      have hz6 : (-2147483648 : Int) ≤ z6 ∧ z6 ≤ 2147483647 := by rw [ez6]; exact shr_in _ _
      have h1 := ez6
      refine j_iconst (pc := 19) dX12_dragBy_19 ?_
      refine j_iand (pc := 20) dX12_dragBy_20 (fun z7 ez7 => ?_)
      have hz7 : (-2147483648 : Int) ≤ z7 ∧ z7 ≤ 2147483647 := by rw [ez7]; exact and_in _ _
      have h2 := ez7; rw [h1] at h2
      refine j_iconst (pc := 21) dX12_dragBy_21 ?_
      refine j_icmpR_ne (pc := 22) (tgt := 29) ⟨by omega, by omega⟩ ⟨by omega, by omega⟩ dX12_dragBy_22 rfl (fun h8 => ?_) (fun h8 => ?_)
      · refine j_iconst (pc := 29) dX12_dragBy_29 ?_
        refine j_callV (pc := 30) (As := [vI k, vI 0]) (st := [vI m]) (c_X12_offOf hM k ⟨by omega, by omega⟩ 0 (by (first | decide | exact ⟨by omega, by omega⟩)) σ hI) mv_X12_213 rfl rfl rfl (a_88 hM) dX12_dragBy_30 ⟨Nat.le_of_ble_eq_true rfl, Nat.le_of_ble_eq_true rfl⟩ ⟨Nat.le_refl _, Nat.le_refl _⟩ rfl (Nat.le_of_ble_eq_true rfl) rfl (fun z9 σ10 hz9 => ?_)
        obtain ⟨r12, rfl, hr12, rfl, q11_0⟩ := hz9
        replace q11_0 : ((0 : Int) = 1 ∧ r12 = tw_div (OFS (wM σ) (gM 0 σ) (cnt (gM 0 σ) (σ 91 0).toNat) k) 2) ∨ (¬ (0 : Int) = 1 ∧ r12 = OFS (wM σ) (gM 0 σ) (cnt (gM 0 σ) (σ 91 0).toNat) k) := q11_0
        refine j_st (st' := [vI r12, vI m]) rfl ?_
        have of := q11_0
        refine j_iadd (pc := 33) dX12_dragBy_33 ?_
        refine j_istore_n (pc := 34) (i := 2) (ls' := [(0, vR 88), (1, vI s), (2, vI (m + r12)), (3, vI k)]) [1, 2, 0, 3] dX12_dragBy_34 rfl (Nat.le_of_ble_eq_true rfl) rfl rfl ?_
        refine j_iinc (pc := 35) (i := 3) (n := 1) (ls' := [(0, vR 88), (1, vI s), (2, vI (m + r12)), (3, vI (k + 1))]) [1, 2, 3, 0] dX12_dragBy_35 rfl (Nat.le_of_ble_eq_true rfl) rfl rfl ?_
        refine j_goto (pc := 38) (tgt := 4) dX12_dragBy_38 rfl ?_
        refine j_ls (ls' := [(0, vR 88), (1, vI s), (2, vI (m + r12)), (3, vI (k + 1))]) [0, 1, 2, 3] rfl ?_
        exact ih (m + r12) ⟨by omega, by omega⟩ (k + 1) ⟨by omega, by omega⟩ (show (m + r12) = DRB (wM σ) (gM 0 σ) (cnt (gM 0 σ) (σ 91 0).toNat) s (k + 1).toNat from (by
                                                              rw [DRB_s (by omega), ← i0]
                                                              rcases of with ⟨o1, o2⟩ | ⟨o1, o2⟩
                                                              · rw [if_pos (by unfold bt; omega)]; omega
                                                              · rw [if_neg (by unfold bt; omega)]; omega)) (show (m + r12) ≤ 40 * (k + 1) from by omega) (show (k + 1) ≤ cnt (gM 0 σ) (σ 91 0).toNat ∨ (k + 1) = 0 from by omega) (show (40 - (k + 1)).toNat < N_ from by omega)
      · refine j_iconst (pc := 25) dX12_dragBy_25 ?_
        refine j_goto (pc := 26) (tgt := 30) dX12_dragBy_26 rfl ?_
        refine j_callV (pc := 30) (As := [vI k, vI 1]) (st := [vI m]) (c_X12_offOf hM k ⟨by omega, by omega⟩ 1 (by (first | decide | exact ⟨by omega, by omega⟩)) σ hI) mv_X12_213 rfl rfl rfl (a_88 hM) dX12_dragBy_30 ⟨Nat.le_of_ble_eq_true rfl, Nat.le_of_ble_eq_true rfl⟩ ⟨Nat.le_refl _, Nat.le_refl _⟩ rfl (Nat.le_of_ble_eq_true rfl) rfl (fun z13 σ14 hz13 => ?_)
        obtain ⟨r16, rfl, hr16, rfl, q15_0⟩ := hz13
        replace q15_0 : ((1 : Int) = 1 ∧ r16 = tw_div (OFS (wM σ) (gM 0 σ) (cnt (gM 0 σ) (σ 91 0).toNat) k) 2) ∨ (¬ (1 : Int) = 1 ∧ r16 = OFS (wM σ) (gM 0 σ) (cnt (gM 0 σ) (σ 91 0).toNat) k) := q15_0
        refine j_st (st' := [vI r16, vI m]) rfl ?_
        have of := q15_0
        refine j_iadd (pc := 33) dX12_dragBy_33 ?_
        refine j_istore_n (pc := 34) (i := 2) (ls' := [(0, vR 88), (1, vI s), (2, vI (m + r16)), (3, vI k)]) [1, 2, 0, 3] dX12_dragBy_34 rfl (Nat.le_of_ble_eq_true rfl) rfl rfl ?_
        refine j_iinc (pc := 35) (i := 3) (n := 1) (ls' := [(0, vR 88), (1, vI s), (2, vI (m + r16)), (3, vI (k + 1))]) [1, 2, 3, 0] dX12_dragBy_35 rfl (Nat.le_of_ble_eq_true rfl) rfl rfl ?_
        refine j_goto (pc := 38) (tgt := 4) dX12_dragBy_38 rfl ?_
        refine j_ls (ls' := [(0, vR 88), (1, vI s), (2, vI (m + r16)), (3, vI (k + 1))]) [0, 1, 2, 3] rfl ?_
        exact ih (m + r16) ⟨by omega, by omega⟩ (k + 1) ⟨by omega, by omega⟩ (show (m + r16) = DRB (wM σ) (gM 0 σ) (cnt (gM 0 σ) (σ 91 0).toNat) s (k + 1).toNat from (by
                                                              rw [DRB_s (by omega), ← i0]
                                                              rcases of with ⟨o1, o2⟩ | ⟨o1, o2⟩
                                                              · rw [if_pos (by unfold bt; omega)]; omega
                                                              · rw [if_neg (by unfold bt; omega)]; omega)) (show (m + r16) ≤ 40 * (k + 1) from by omega) (show (k + 1) ≤ cnt (gM 0 σ) (σ 91 0).toNat ∨ (k + 1) = 0 from by omega) (show (40 - (k + 1)).toNat < N_ from by omega)
set_option maxHeartbeats 4000000 in
set_option maxRecDepth 100000 in
theorem c_X12_dragBy {G : tw_G} (hM : tw_isM G) (s : Int) (hs : -2147483648 ≤ s ∧ s ≤ 2147483647) (σ : tw_M) (hI : tw_I σ) (hq0 : mc σ 0 (σ 91 0).toNat ≤ 10) : tw_C G yX12_dragBy cX12_dragBy 4 (some .int) 5 [vR 88, vI s] σ (q_X12_dragBy s σ) := by
  refine tw_met [(0, vR 88), (1, vI s)] (by decide +kernel) rfl (Nat.le_of_ble_eq_true rfl) ?_
  have a9 := True.intro
  have h1 := True.intro
  have h2 := True.intro
  have of := True.intro
  refine j_iconst (pc := 0) dX12_dragBy_0 ?_
  refine j_istore_n (pc := 1) (i := 2) (ls' := [(0, vR 88), (1, vI s), (2, vI 0)]) [1, 2, 0] dX12_dragBy_1 rfl (Nat.le_of_ble_eq_true rfl) rfl rfl ?_
  refine j_iconst (pc := 2) dX12_dragBy_2 ?_
  refine j_istore_n (pc := 3) (i := 3) (ls' := [(0, vR 88), (1, vI s), (2, vI 0), (3, vI 0)]) [1, 2, 3, 0] dX12_dragBy_3 rfl (Nat.le_of_ble_eq_true rfl) rfl rfl ?_
  refine j_ls (ls' := [(0, vR 88), (1, vI s), (2, vI 0), (3, vI 0)]) [0, 1, 2, 3] rfl ?_
  exact (l_X12_dragBy hM s hs σ hI hq0 (((40 - (0 : Int)).toNat) + 1)) 0 (by (first | decide | exact ⟨by omega, by omega⟩)) 0 (by (first | decide | exact ⟨by omega, by omega⟩)) (show (0 : Int) = DRB (wM σ) (gM 0 σ) (cnt (gM 0 σ) (σ 91 0).toNat) s (0 : Int).toNat from rfl) (show (0 : Int) ≤ 40 * (0 : Int) from by omega) (show (0 : Int) ≤ cnt (gM 0 σ) (σ 91 0).toNat ∨ (0 : Int) = 0 from by omega) (Nat.lt_succ_self _)
abbrev q_X12_slungNow  (σ : tw_M) : Option tw_V → tw_M → Prop := fun z τ => ∃ r : Int, z = some (vI r) ∧ (-2147483648 ≤ r ∧ r ≤ 2147483647) ∧ σ = τ ∧ (r = BTS (fun x => qM 0 σ (fok (gM 0 σ) x 40).toNat) (cnt (gM 0 σ) (σ 91 0).toNat).toNat)
set_option maxHeartbeats 4000000 in
set_option maxRecDepth 100000 in
theorem l_X12_slungNow {G : tw_G} (hM : tw_isM G) (σ : tw_M) (hI : tw_I σ) (hq0 : mc σ 0 (σ 91 0).toNat ≤ 10) : ∀ N_ : Nat, (∀ (m : Int) (hm : -2147483648 ≤ m ∧ m ≤ 2147483647) (k : Int) (hk : 0 ≤ k ∧ k ≤ 40) (i0 : m = BTS (fun x => qM 0 σ (fok (gM 0 σ) x 40).toNat) k.toNat) (i1 : k ≤ cnt (gM 0 σ) (σ 91 0).toNat ∨ k = 0) (hm : (40 - k).toNat < N_), tw_J G (tw_mt RX12 cX12_slungNow 3 (some .int) 3) (tw_E G (q_X12_slungNow σ)) 4 [(0, vR 88), (1, vI m), (2, vI k)] [] σ) := by
  intro N_
  induction N_ with
  | zero => exact fun m hm k hk i0 i1 hm => absurd hm (Nat.not_lt_zero _)
  | succ N_ ih =>
    intro m hm k hk i0 i1 hm
    have a9 := True.intro
    have hs := True.intro
    have sh := True.intro
    have ob := True.intro
    have ft : (1 : Int) ≤ σ 91 0 ∧ σ 91 0 ≤ 40 := hI 91 0
    have cn9 := (cnt_in (gM 0 σ) (σ 91 0).toNat).1
    have a8 := hq0; rw [mc_gM (by omega)] at a8
    refine j_iload_n (pc := 4) dX12_slungNow_4 rfl rfl ?_
    refine j_aload_n (pc := 5) dX12_slungNow_5 rfl rfl ?_
    refine j_iconst (pc := 6) dX12_slungNow_6 ?_
    refine j_callV (pc := 7) (As := [vI 0]) (st := [vI k]) (c_X12_all hM 0 (by (first | decide | exact ⟨by omega, by omega⟩)) σ hI) mv_X12_192 rfl rfl rfl (a_88 hM) dX12_slungNow_7 ⟨Nat.le_of_ble_eq_true rfl, Nat.le_of_ble_eq_true rfl⟩ ⟨Nat.le_refl _, Nat.le_refl _⟩ rfl (Nat.le_of_ble_eq_true rfl) rfl (fun z1 σ2 hz1 => ?_)
    obtain ⟨r4, rfl, hr4, rfl, q3_0⟩ := hz1
    replace q3_0 : r4 = mc σ (0 : Int) (σ 91 0).toNat := q3_0
    refine j_st (st' := [vI r4, vI k]) rfl ?_
    have a9 := q3_0; rw [mc_gM (by omega)] at a9
    refine j_icmpR_ge (pc := 10) (tgt := 37) ⟨by omega, by omega⟩ ⟨by omega, by omega⟩ dX12_slungNow_10 rfl (fun h5 => ?_) (fun h5 => ?_)
    · refine j_iload_n (pc := 37) dX12_slungNow_37 rfl rfl ?_
      exact j_iret (pc := 38) ⟨rfl, rfl⟩ dX12_slungNow_38 rfl ⟨_, rfl, ⟨by omega, by omega⟩, rfl, (by rw [show (cnt (gM 0 σ) (σ 91 0).toNat).toNat = k.toNat from by omega]; exact i0)⟩
    · refine j_iload_n (pc := 13) dX12_slungNow_13 rfl rfl ?_
      refine j_aload_n (pc := 14) dX12_slungNow_14 rfl rfl ?_
      refine j_iload_n (pc := 15) dX12_slungNow_15 rfl rfl ?_
      refine j_callV (pc := 16) (As := [vI k]) (st := [vI m]) (c_X12_hasSling hM k ⟨by omega, by omega⟩ σ hI (by omega)) mv_X12_204 rfl rfl rfl (a_88 hM) dX12_slungNow_16 ⟨Nat.le_of_ble_eq_true rfl, Nat.le_of_ble_eq_true rfl⟩ ⟨Nat.le_refl _, Nat.le_refl _⟩ rfl (Nat.le_of_ble_eq_true rfl) rfl (fun z6 σ7 hz6 => ?_)
      obtain ⟨r9, rfl, hr9, rfl, q8_0⟩ := hz6
      replace q8_0 : (r9 = 1 ∧ qM 0 σ (fok (gM 0 σ) k 40).toNat = 1) ∨ (r9 = 0 ∧ ¬ qM 0 σ (fok (gM 0 σ) k 40).toNat = 1) := q8_0
      refine j_st (st' := [vI r9, vI m]) rfl ?_
      have hs := q8_0
      refine j_ifR_eq (pc := 19) (tgt := 28) ⟨by omega, by omega⟩ dX12_slungNow_19 rfl (fun h10 => ?_) (fun h10 => ?_)
      · refine j_iconst (pc := 28) dX12_slungNow_28 ?_
        refine j_ior (pc := 29) dX12_slungNow_29 (fun z11 ez11 => ?_)
        have hz11 : (-2147483648 : Int) ≤ z11 ∧ z11 ≤ 2147483647 := by rw [ez11]; exact or_in _ _
        have ob := ez11
        refine j_istore_n (pc := 30) (i := 1) (ls' := [(0, vR 88), (1, vI z11), (2, vI k)]) [1, 0, 2] dX12_slungNow_30 rfl (Nat.le_of_ble_eq_true rfl) rfl rfl ?_
        refine j_iinc (pc := 31) (i := 2) (n := 1) (ls' := [(0, vR 88), (1, vI z11), (2, vI (k + 1))]) [1, 2, 0] dX12_slungNow_31 rfl (Nat.le_of_ble_eq_true rfl) rfl rfl ?_
        refine j_goto (pc := 34) (tgt := 4) dX12_slungNow_34 rfl ?_
        refine j_ls (ls' := [(0, vR 88), (1, vI z11), (2, vI (k + 1))]) [0, 1, 2] rfl ?_
        exact ih z11 ⟨by omega, by omega⟩ (k + 1) ⟨by omega, by omega⟩ (show z11 = BTS (fun x => qM 0 σ (fok (gM 0 σ) x 40).toNat) (k + 1).toNat from (by
                                                              have H9 := i0
                                                              have bi := BTS_in (P := (fun x => qM 0 σ (fok (gM 0 σ) x 40).toNat)) k.toNat
                                                              rw [show ((k.toNat : Nat) : Int) = k from by omega] at bi
                                                              have pm := pt_10 (k := k) ⟨by omega, by omega⟩
                                                              rcases BTS_s (P := (fun x => qM 0 σ (fok (gM 0 σ) x 40).toNat)) (k := k) (by omega) with ⟨s1, s2⟩ | ⟨s1, s2⟩
                                                              · first
                                                                | (exfalso; omega)
                                                                | (rw [s2, ob, sh, or_bit ⟨by omega, by omega⟩ (by rw [H9]; exact bi), H9])
                                                              · first
                                                                | (exfalso; omega)
                                                                | (rw [s2, ob, or_0 ⟨by omega, by omega⟩]; exact H9))) (show (k + 1) ≤ cnt (gM 0 σ) (σ 91 0).toNat ∨ (k + 1) = 0 from by omega) (show (40 - (k + 1)).toNat < N_ from by omega)
      · refine j_iconst (pc := 22) dX12_slungNow_22 ?_
        refine j_iload_n (pc := 23) dX12_slungNow_23 rfl rfl ?_
        refine j_ishl (pc := 24) dX12_slungNow_24 (fun z12 ez12 => ?_)
        have hz12 : (-2147483648 : Int) ≤ z12 ∧ z12 ≤ 2147483647 := by rw [ez12]; exact shl_in _ _
        have sh := ez12
        refine j_goto (pc := 25) (tgt := 29) dX12_slungNow_25 rfl ?_
        refine j_ior (pc := 29) dX12_slungNow_29 (fun z13 ez13 => ?_)
        have hz13 : (-2147483648 : Int) ≤ z13 ∧ z13 ≤ 2147483647 := by rw [ez13]; exact or_in _ _
        have ob := ez13
        refine j_istore_n (pc := 30) (i := 1) (ls' := [(0, vR 88), (1, vI z13), (2, vI k)]) [1, 0, 2] dX12_slungNow_30 rfl (Nat.le_of_ble_eq_true rfl) rfl rfl ?_
        refine j_iinc (pc := 31) (i := 2) (n := 1) (ls' := [(0, vR 88), (1, vI z13), (2, vI (k + 1))]) [1, 2, 0] dX12_slungNow_31 rfl (Nat.le_of_ble_eq_true rfl) rfl rfl ?_
        refine j_goto (pc := 34) (tgt := 4) dX12_slungNow_34 rfl ?_
        refine j_ls (ls' := [(0, vR 88), (1, vI z13), (2, vI (k + 1))]) [0, 1, 2] rfl ?_
        exact ih z13 ⟨by omega, by omega⟩ (k + 1) ⟨by omega, by omega⟩ (show z13 = BTS (fun x => qM 0 σ (fok (gM 0 σ) x 40).toNat) (k + 1).toNat from (by
                                                              have H9 := i0
                                                              have bi := BTS_in (P := (fun x => qM 0 σ (fok (gM 0 σ) x 40).toNat)) k.toNat
                                                              rw [show ((k.toNat : Nat) : Int) = k from by omega] at bi
                                                              have pm := pt_10 (k := k) ⟨by omega, by omega⟩
                                                              rcases BTS_s (P := (fun x => qM 0 σ (fok (gM 0 σ) x 40).toNat)) (k := k) (by omega) with ⟨s1, s2⟩ | ⟨s1, s2⟩
                                                              · first
                                                                | (exfalso; omega)
                                                                | (rw [s2, ob, sh, or_bit ⟨by omega, by omega⟩ (by rw [H9]; exact bi), H9])
                                                              · first
                                                                | (exfalso; omega)
                                                                | (rw [s2, ob, or_0 ⟨by omega, by omega⟩]; exact H9))) (show (k + 1) ≤ cnt (gM 0 σ) (σ 91 0).toNat ∨ (k + 1) = 0 from by omega) (show (40 - (k + 1)).toNat < N_ from by omega)
set_option maxHeartbeats 4000000 in
set_option maxRecDepth 100000 in
theorem c_X12_slungNow {G : tw_G} (hM : tw_isM G) (σ : tw_M) (hI : tw_I σ) (hq0 : mc σ 0 (σ 91 0).toNat ≤ 10) : tw_C G yX12_slungNow cX12_slungNow 3 (some .int) 3 [vR 88] σ (q_X12_slungNow σ) := by
  refine tw_met [(0, vR 88)] (by decide +kernel) rfl (Nat.le_of_ble_eq_true rfl) ?_
  have a9 := True.intro
  have hs := True.intro
  have sh := True.intro
  have ob := True.intro
  refine j_iconst (pc := 0) dX12_slungNow_0 ?_
  refine j_istore_n (pc := 1) (i := 1) (ls' := [(0, vR 88), (1, vI 0)]) [1, 0] dX12_slungNow_1 rfl (Nat.le_of_ble_eq_true rfl) rfl rfl ?_
  refine j_iconst (pc := 2) dX12_slungNow_2 ?_
  refine j_istore_n (pc := 3) (i := 2) (ls' := [(0, vR 88), (1, vI 0), (2, vI 0)]) [1, 2, 0] dX12_slungNow_3 rfl (Nat.le_of_ble_eq_true rfl) rfl rfl ?_
  refine j_ls (ls' := [(0, vR 88), (1, vI 0), (2, vI 0)]) [0, 1, 2] rfl ?_
  exact (l_X12_slungNow hM σ hI hq0 (((40 - (0 : Int)).toNat) + 1)) 0 (by (first | decide | exact ⟨by omega, by omega⟩)) 0 (by (first | decide | exact ⟨by omega, by omega⟩)) (show (0 : Int) = BTS (fun x => qM 0 σ (fok (gM 0 σ) x 40).toNat) (0 : Int).toNat from rfl) (show (0 : Int) ≤ cnt (gM 0 σ) (σ 91 0).toNat ∨ (0 : Int) = 0 from by omega) (Nat.lt_succ_self _)
abbrev q_X12_drag (w : Int) (σ : tw_M) : Option tw_V → tw_M → Prop := fun z τ => ∃ r : Int, z = some (vI r) ∧ (-2147483648 ≤ r ∧ r ≤ 2147483647) ∧ σ = τ ∧ (DGA (wM σ) (gM 0 σ) (qM 0 σ) (cnt (gM 0 σ) (σ 91 0).toNat) w r)
set_option maxHeartbeats 4000000 in
set_option maxRecDepth 100000 in
theorem l_X12_drag {G : tw_G} (hM : tw_isM G) (w : Int) (hw : -2147483648 ≤ w ∧ w ≤ 2147483647) (σ : tw_M) (hI : tw_I σ) (hq0 : mc σ 0 (σ 91 0).toNat ≤ 10) : ∀ N_ : Nat, (∀ (m : Int) (hm : -2147483648 ≤ m ∧ m ≤ 2147483647) (k : Int) (hk : 0 ≤ k ∧ k ≤ 40) (i0 : m = BTS (LFI (wM σ) (gM 0 σ) (qM 0 σ) (cnt (gM 0 σ) (σ 91 0).toNat)) k.toNat) (i1 : k ≤ cnt (gM 0 σ) (σ 91 0).toNat ∨ k = 0) (hm : (40 - k).toNat < N_), tw_J G (tw_mt RX12 cX12_drag 4 (some .int) 6) (tw_E G (q_X12_drag w σ)) 4 [(0, vR 88), (1, vI w), (2, vI m), (3, vI k)] [] σ) := by
  intro N_
  induction N_ with
  | zero => exact fun m hm k hk i0 i1 hm => absurd hm (Nat.not_lt_zero _)
  | succ N_ ih =>
    intro m hm k hk i0 i1 hm
    have a9 := True.intro
    have lf := True.intro
    have sh := True.intro
    have ob := True.intro
    have db := True.intro
    have dv := True.intro
    have dg := True.intro
    have ft : (1 : Int) ≤ σ 91 0 ∧ σ 91 0 ≤ 40 := hI 91 0
    have cn9 := (cnt_in (gM 0 σ) (σ 91 0).toNat).1
    have a8 := hq0; rw [mc_gM (by omega)] at a8
    refine j_iload_n (pc := 4) dX12_drag_4 rfl rfl ?_
    refine j_aload_n (pc := 5) dX12_drag_5 rfl rfl ?_
    refine j_iconst (pc := 6) dX12_drag_6 ?_
    refine j_callV (pc := 7) (As := [vI 0]) (st := [vI k]) (c_X12_all hM 0 (by (first | decide | exact ⟨by omega, by omega⟩)) σ hI) mv_X12_192 rfl rfl rfl (a_88 hM) dX12_drag_7 ⟨Nat.le_of_ble_eq_true rfl, Nat.le_of_ble_eq_true rfl⟩ ⟨Nat.le_refl _, Nat.le_refl _⟩ rfl (Nat.le_of_ble_eq_true rfl) rfl (fun z1 σ2 hz1 => ?_)
    obtain ⟨r4, rfl, hr4, rfl, q3_0⟩ := hz1
    replace q3_0 : r4 = mc σ (0 : Int) (σ 91 0).toNat := q3_0
    refine j_st (st' := [vI r4, vI k]) rfl ?_
    have a9 := q3_0; rw [mc_gM (by omega)] at a9
    refine j_icmpR_ge (pc := 10) (tgt := 37) ⟨by omega, by omega⟩ ⟨by omega, by omega⟩ dX12_drag_10 rfl (fun h5 => ?_) (fun h5 => ?_)
    · refine j_aload_n (pc := 37) dX12_drag_37 rfl rfl ?_
      refine j_aload_n (pc := 38) dX12_drag_38 rfl rfl ?_
      refine j_callV (pc := 39) (As := []) (st := [vR 88]) (c_X12_slungNow hM σ hI (by omega)) mv_X12_317 rfl rfl rfl (a_88 hM) dX12_drag_39 ⟨Nat.le_of_ble_eq_true rfl, Nat.le_of_ble_eq_true rfl⟩ ⟨Nat.le_refl _, Nat.le_refl _⟩ rfl (Nat.le_of_ble_eq_true rfl) rfl (fun z6 σ7 hz6 => ?_)
      obtain ⟨r9, rfl, hr9, rfl, q8_0⟩ := hz6
      replace q8_0 : r9 = BTS (fun x => qM 0 σ (fok (gM 0 σ) x 40).toNat) (cnt (gM 0 σ) (σ 91 0).toNat).toNat := q8_0
      refine j_st (st' := [vI r9, vR 88]) rfl ?_
      refine j_callV (pc := 42) (As := [vI r9]) (st := []) (c_X12_dragBy hM r9 ⟨by omega, by omega⟩ σ hI (by omega)) mv_X12_320 rfl rfl rfl (a_88 hM) dX12_drag_42 ⟨Nat.le_of_ble_eq_true rfl, Nat.le_of_ble_eq_true rfl⟩ ⟨Nat.le_refl _, Nat.le_refl _⟩ rfl (Nat.le_of_ble_eq_true rfl) rfl (fun z10 σ11 hz10 => ?_)
      obtain ⟨r13, rfl, hr13, rfl, q12_0, q12_1⟩ := hz10
      replace q12_0 : r13 = DRB (wM σ) (gM 0 σ) (cnt (gM 0 σ) (σ 91 0).toNat) r9 (cnt (gM 0 σ) (σ 91 0).toNat).toNat := q12_0
      replace q12_1 : 0 ≤ r13 ∧ r13 ≤ 2000 := q12_1
      refine j_st (st' := [vI r13]) rfl ?_
      have db := q12_0; rw [q8_0, DRB_eq (N := (cnt (gM 0 σ) (σ 91 0).toNat).toNat) (by omega) (Nat.le_refl _)] at db
      refine j_istore_n (pc := 45) (i := 3) (ls' := [(0, vR 88), (1, vI w), (2, vI m), (3, vI r13)]) [1, 2, 3, 0] dX12_drag_45 rfl (Nat.le_of_ble_eq_true rfl) rfl rfl ?_
      refine j_iload_n (pc := 46) dX12_drag_46 rfl rfl ?_
      refine j_ifR_ne (pc := 47) (tgt := 54) ⟨by omega, by omega⟩ dX12_drag_47 rfl (fun h14 => ?_) (fun h14 => ?_)
      · refine j_iload_n (pc := 54) dX12_drag_54 rfl rfl ?_
        refine j_iconst (pc := 55) dX12_drag_55 ?_
        refine j_icmpR_ne (pc := 56) (tgt := 63) ⟨by omega, by omega⟩ ⟨by omega, by omega⟩ dX12_drag_56 rfl (fun h15 => ?_) (fun h15 => ?_)
        · refine j_iload_n (pc := 63) dX12_drag_63 rfl rfl ?_
          refine j_iconst (pc := 64) dX12_drag_64 ?_
          refine j_icmpR_ne (pc := 65) (tgt := 82) ⟨by omega, by omega⟩ ⟨by omega, by omega⟩ dX12_drag_65 rfl (fun h16 => ?_) (fun h16 => ?_)
          · refine j_iconst (pc := 82) dX12_drag_82 ?_
            exact j_iret (pc := 83) ⟨rfl, rfl⟩ dX12_drag_83 rfl ⟨_, rfl, ⟨by omega, by omega⟩, rfl, (by
                                                              have r0 : wM σ 100 = σ 91 0 := wM_r (j := 0) (by decide)
                                                              unfold DGA
                                                              rw [r0, ← db]
                                                              first
                                                              | exact Or.inr (Or.inr (Or.inr ⟨by omega, rfl⟩))
                                                              | exact Or.inl ⟨by omega, rfl⟩
                                                              | exact Or.inr (Or.inl ⟨by omega, by rw [i0, show k.toNat = (cnt (gM 0 σ) (σ 91 0).toNat).toNat from by omega]⟩)
                                                              | exact Or.inr (Or.inr (Or.inl ⟨by omega, by rw [← dv]; omega⟩)))⟩
          · refine j_aload_n (pc := 68) dX12_drag_68 rfl rfl ?_
            refine j_getR (pc := 69) (r := 91) fl_X12_17 dX12_drag_69 (a_88 hM) rfl ?_
            refine j_iconst (pc := 72) dX12_drag_72 ?_
            refine j_iald (pc := 73) dX12_drag_73 (a_91 hM) (by omega) (by omega) (by decide) ?_
            refine j_topV (show σ 91 (Int.toNat 0) = σ 91 0 from rfl) ?_
            have f17 : (1 : Int) ≤ σ 91 0 ∧ σ 91 0 ≤ 40 := hI 91 0
            refine j_iload_n (pc := 74) dX12_drag_74 rfl rfl ?_
            refine j_bipush (pc := 75) dX12_drag_75 rfl ?_
            refine j_idiv (pc := 77) dX12_drag_77 (tw_nz ⟨by omega, by omega⟩ (by omega)) (fun z18 ez18 => ?_)
            have hz18 : (-2147483648 : Int) ≤ z18 ∧ z18 ≤ 2147483647 := by rw [ez18]; exact div_in _ _
            have dv := ez18
            have dg := (ez18).trans (div_pos_eq (by omega) (by omega) (by omega) (by omega))
            refine j_iadd (pc := 78) dX12_drag_78 ?_
            refine j_top (fun z19 ez19 hz19 => ?_)
            have gz19 : (σ 91 0) + z18 < -2147483648 ∨ 2147483647 < (σ 91 0) + z18 ∨ z19 = (σ 91 0) + z18 := by rw [ez19]; exact w32_or _
            refine j_goto (pc := 79) (tgt := 83) dX12_drag_79 rfl ?_
            exact j_iret (pc := 83) ⟨rfl, rfl⟩ dX12_drag_83 rfl ⟨_, rfl, ⟨by omega, by omega⟩, rfl, (by
                                                              have r0 : wM σ 100 = σ 91 0 := wM_r (j := 0) (by decide)
                                                              unfold DGA
                                                              rw [r0, ← db]
                                                              first
                                                              | exact Or.inr (Or.inr (Or.inr ⟨by omega, rfl⟩))
                                                              | exact Or.inl ⟨by omega, rfl⟩
                                                              | exact Or.inr (Or.inl ⟨by omega, by rw [i0, show k.toNat = (cnt (gM 0 σ) (σ 91 0).toNat).toNat from by omega]⟩)
                                                              | exact Or.inr (Or.inr (Or.inl ⟨by omega, by rw [← dv]; omega⟩)))⟩
        · refine j_iload_n (pc := 59) dX12_drag_59 rfl rfl ?_
          refine j_goto (pc := 60) (tgt := 83) dX12_drag_60 rfl ?_
          exact j_iret (pc := 83) ⟨rfl, rfl⟩ dX12_drag_83 rfl ⟨_, rfl, ⟨by omega, by omega⟩, rfl, (by
                                                              have r0 : wM σ 100 = σ 91 0 := wM_r (j := 0) (by decide)
                                                              unfold DGA
                                                              rw [r0, ← db]
                                                              first
                                                              | exact Or.inr (Or.inr (Or.inr ⟨by omega, rfl⟩))
                                                              | exact Or.inl ⟨by omega, rfl⟩
                                                              | exact Or.inr (Or.inl ⟨by omega, by rw [i0, show k.toNat = (cnt (gM 0 σ) (σ 91 0).toNat).toNat from by omega]⟩)
                                                              | exact Or.inr (Or.inr (Or.inl ⟨by omega, by rw [← dv]; omega⟩)))⟩
      · refine j_iload_n (pc := 50) dX12_drag_50 rfl rfl ?_
        refine j_goto (pc := 51) (tgt := 83) dX12_drag_51 rfl ?_
        exact j_iret (pc := 83) ⟨rfl, rfl⟩ dX12_drag_83 rfl ⟨_, rfl, ⟨by omega, by omega⟩, rfl, (by
                                                              have r0 : wM σ 100 = σ 91 0 := wM_r (j := 0) (by decide)
                                                              unfold DGA
                                                              rw [r0, ← db]
                                                              first
                                                              | exact Or.inr (Or.inr (Or.inr ⟨by omega, rfl⟩))
                                                              | exact Or.inl ⟨by omega, rfl⟩
                                                              | exact Or.inr (Or.inl ⟨by omega, by rw [i0, show k.toNat = (cnt (gM 0 σ) (σ 91 0).toNat).toNat from by omega]⟩)
                                                              | exact Or.inr (Or.inr (Or.inl ⟨by omega, by rw [← dv]; omega⟩)))⟩
    · refine j_iload_n (pc := 13) dX12_drag_13 rfl rfl ?_
      refine j_aload_n (pc := 14) dX12_drag_14 rfl rfl ?_
      refine j_iload_n (pc := 15) dX12_drag_15 rfl rfl ?_
      refine j_callV (pc := 16) (As := [vI k]) (st := [vI m]) (c_X12_isLifted hM k ⟨by omega, by omega⟩ σ hI (by omega)) mv_X12_210 rfl rfl rfl (a_88 hM) dX12_drag_16 ⟨Nat.le_of_ble_eq_true rfl, Nat.le_of_ble_eq_true rfl⟩ ⟨Nat.le_refl _, Nat.le_refl _⟩ rfl (Nat.le_of_ble_eq_true rfl) rfl (fun z20 σ21 hz20 => ?_)
      obtain ⟨r23, rfl, hr23, rfl, q22_0⟩ := hz20
      replace q22_0 : r23 = LFI (wM σ) (gM 0 σ) (qM 0 σ) (cnt (gM 0 σ) (σ 91 0).toNat) k := q22_0
      refine j_st (st' := [vI r23, vI m]) rfl ?_
      have lf := q22_0
      refine j_ifR_eq (pc := 19) (tgt := 28) ⟨by omega, by omega⟩ dX12_drag_19 rfl (fun h24 => ?_) (fun h24 => ?_)
      · refine j_iconst (pc := 28) dX12_drag_28 ?_
        refine j_ior (pc := 29) dX12_drag_29 (fun z25 ez25 => ?_)
        have hz25 : (-2147483648 : Int) ≤ z25 ∧ z25 ≤ 2147483647 := by rw [ez25]; exact or_in _ _
        have ob := ez25
        refine j_istore_n (pc := 30) (i := 2) (ls' := [(0, vR 88), (1, vI w), (2, vI z25), (3, vI k)]) [1, 2, 0, 3] dX12_drag_30 rfl (Nat.le_of_ble_eq_true rfl) rfl rfl ?_
        refine j_iinc (pc := 31) (i := 3) (n := 1) (ls' := [(0, vR 88), (1, vI w), (2, vI z25), (3, vI (k + 1))]) [1, 2, 3, 0] dX12_drag_31 rfl (Nat.le_of_ble_eq_true rfl) rfl rfl ?_
        refine j_goto (pc := 34) (tgt := 4) dX12_drag_34 rfl ?_
        refine j_ls (ls' := [(0, vR 88), (1, vI w), (2, vI z25), (3, vI (k + 1))]) [0, 1, 2, 3] rfl ?_
        exact ih z25 ⟨by omega, by omega⟩ (k + 1) ⟨by omega, by omega⟩ (show z25 = BTS (LFI (wM σ) (gM 0 σ) (qM 0 σ) (cnt (gM 0 σ) (σ 91 0).toNat)) (k + 1).toNat from (by
                                                              have H9 := i0
                                                              have bi := BTS_in (P := (LFI (wM σ) (gM 0 σ) (qM 0 σ) (cnt (gM 0 σ) (σ 91 0).toNat))) k.toNat
                                                              rw [show ((k.toNat : Nat) : Int) = k from by omega] at bi
                                                              have pm := pt_10 (k := k) ⟨by omega, by omega⟩
                                                              rcases BTS_s (P := (LFI (wM σ) (gM 0 σ) (qM 0 σ) (cnt (gM 0 σ) (σ 91 0).toNat))) (k := k) (by omega) with ⟨s1, s2⟩ | ⟨s1, s2⟩
                                                              · first
                                                                | (exfalso; omega)
                                                                | (rw [s2, ob, sh, or_bit ⟨by omega, by omega⟩ (by rw [H9]; exact bi), H9])
                                                              · first
                                                                | (exfalso; omega)
                                                                | (rw [s2, ob, or_0 ⟨by omega, by omega⟩]; exact H9))) (show (k + 1) ≤ cnt (gM 0 σ) (σ 91 0).toNat ∨ (k + 1) = 0 from by omega) (show (40 - (k + 1)).toNat < N_ from by omega)
      · refine j_iconst (pc := 22) dX12_drag_22 ?_
        refine j_iload_n (pc := 23) dX12_drag_23 rfl rfl ?_
        refine j_ishl (pc := 24) dX12_drag_24 (fun z26 ez26 => ?_)
        have hz26 : (-2147483648 : Int) ≤ z26 ∧ z26 ≤ 2147483647 := by rw [ez26]; exact shl_in _ _
        have sh := ez26
        refine j_goto (pc := 25) (tgt := 29) dX12_drag_25 rfl ?_
        refine j_ior (pc := 29) dX12_drag_29 (fun z27 ez27 => ?_)
        have hz27 : (-2147483648 : Int) ≤ z27 ∧ z27 ≤ 2147483647 := by rw [ez27]; exact or_in _ _
        have ob := ez27
        refine j_istore_n (pc := 30) (i := 2) (ls' := [(0, vR 88), (1, vI w), (2, vI z27), (3, vI k)]) [1, 2, 0, 3] dX12_drag_30 rfl (Nat.le_of_ble_eq_true rfl) rfl rfl ?_
        refine j_iinc (pc := 31) (i := 3) (n := 1) (ls' := [(0, vR 88), (1, vI w), (2, vI z27), (3, vI (k + 1))]) [1, 2, 3, 0] dX12_drag_31 rfl (Nat.le_of_ble_eq_true rfl) rfl rfl ?_
        refine j_goto (pc := 34) (tgt := 4) dX12_drag_34 rfl ?_
        refine j_ls (ls' := [(0, vR 88), (1, vI w), (2, vI z27), (3, vI (k + 1))]) [0, 1, 2, 3] rfl ?_
        exact ih z27 ⟨by omega, by omega⟩ (k + 1) ⟨by omega, by omega⟩ (show z27 = BTS (LFI (wM σ) (gM 0 σ) (qM 0 σ) (cnt (gM 0 σ) (σ 91 0).toNat)) (k + 1).toNat from (by
                                                              have H9 := i0
                                                              have bi := BTS_in (P := (LFI (wM σ) (gM 0 σ) (qM 0 σ) (cnt (gM 0 σ) (σ 91 0).toNat))) k.toNat
                                                              rw [show ((k.toNat : Nat) : Int) = k from by omega] at bi
                                                              have pm := pt_10 (k := k) ⟨by omega, by omega⟩
                                                              rcases BTS_s (P := (LFI (wM σ) (gM 0 σ) (qM 0 σ) (cnt (gM 0 σ) (σ 91 0).toNat))) (k := k) (by omega) with ⟨s1, s2⟩ | ⟨s1, s2⟩
                                                              · first
                                                                | (exfalso; omega)
                                                                | (rw [s2, ob, sh, or_bit ⟨by omega, by omega⟩ (by rw [H9]; exact bi), H9])
                                                              · first
                                                                | (exfalso; omega)
                                                                | (rw [s2, ob, or_0 ⟨by omega, by omega⟩]; exact H9))) (show (k + 1) ≤ cnt (gM 0 σ) (σ 91 0).toNat ∨ (k + 1) = 0 from by omega) (show (40 - (k + 1)).toNat < N_ from by omega)
set_option maxHeartbeats 4000000 in
set_option maxRecDepth 100000 in
theorem c_X12_drag {G : tw_G} (hM : tw_isM G) (w : Int) (hw : -2147483648 ≤ w ∧ w ≤ 2147483647) (σ : tw_M) (hI : tw_I σ) (hq0 : mc σ 0 (σ 91 0).toNat ≤ 10) : tw_C G yX12_drag cX12_drag 4 (some .int) 6 [vR 88, vI w] σ (q_X12_drag w σ) := by
  refine tw_met [(0, vR 88), (1, vI w)] (by decide +kernel) rfl (Nat.le_of_ble_eq_true rfl) ?_
  have a9 := True.intro
  have lf := True.intro
  have sh := True.intro
  have ob := True.intro
  have db := True.intro
  have dv := True.intro
  have dg := True.intro
  refine j_iconst (pc := 0) dX12_drag_0 ?_
  refine j_istore_n (pc := 1) (i := 2) (ls' := [(0, vR 88), (1, vI w), (2, vI 0)]) [1, 2, 0] dX12_drag_1 rfl (Nat.le_of_ble_eq_true rfl) rfl rfl ?_
  refine j_iconst (pc := 2) dX12_drag_2 ?_
  refine j_istore_n (pc := 3) (i := 3) (ls' := [(0, vR 88), (1, vI w), (2, vI 0), (3, vI 0)]) [1, 2, 3, 0] dX12_drag_3 rfl (Nat.le_of_ble_eq_true rfl) rfl rfl ?_
  refine j_ls (ls' := [(0, vR 88), (1, vI w), (2, vI 0), (3, vI 0)]) [0, 1, 2, 3] rfl ?_
  exact (l_X12_drag hM w hw σ hI hq0 (((40 - (0 : Int)).toNat) + 1)) 0 (by (first | decide | exact ⟨by omega, by omega⟩)) 0 (by (first | decide | exact ⟨by omega, by omega⟩)) (show (0 : Int) = BTS (LFI (wM σ) (gM 0 σ) (qM 0 σ) (cnt (gM 0 σ) (σ 91 0).toNat)) (0 : Int).toNat from rfl) (show (0 : Int) ≤ cnt (gM 0 σ) (σ 91 0).toNat ∨ (0 : Int) = 0 from by omega) (Nat.lt_succ_self _)
abbrev q_X12_slings (n : Int) (w : Int) (σ : tw_M) : Option tw_V → tw_M → Prop := fun z τ => ∃ r : Int, z = some (vI r) ∧ (-2147483648 ≤ r ∧ r ≤ 2147483647) ∧ σ = τ ∧ True
set_option maxHeartbeats 4000000 in
set_option maxRecDepth 100000 in
theorem l_X12_slings {G : tw_G} (hM : tw_isM G) (n : Int) (hn : -2147483648 ≤ n ∧ n ≤ 2147483647) (w : Int) (hw : -2147483648 ≤ w ∧ w ≤ 2147483647) (σ : tw_M) (hI : tw_I σ) (hq0 : mc σ 0 (σ 91 0).toNat ≤ 10) : ∀ N_ : Nat, (∀ (b : Int) (hb : -2147483648 ≤ b ∧ b ≤ 2147483647) (l : Int) (hl : -2147483648 ≤ l ∧ l ≤ 2147483647) (s : Int) (hs : 1 ≤ s ∧ s ≤ 2147483647)  (hm : (2147483647 - s).toNat < N_), tw_J G (tw_mt RX12 cX12_slings 8 (some .int) 6) (tw_E G (q_X12_slings n w σ)) 36 [(0, vR 88), (1, vI n), (2, vI w), (3, vI b), (4, vI l), (5, vI s)] [] σ) := by
  intro N_
  induction N_ with
  | zero => exact fun b hb l hl s hs hm => absurd hm (Nat.not_lt_zero _)
  | succ N_ ih =>
    intro b hb l hl s hs hm
    refine j_iload (pc := 36) dX12_slings_36 rfl ?_
    refine j_iconst (pc := 38) dX12_slings_38 ?_
    refine j_aload_n (pc := 39) dX12_slings_39 rfl rfl ?_
    refine j_iconst (pc := 40) dX12_slings_40 ?_
    refine j_callV (pc := 41) (As := [vI 0]) (st := [vI 1, vI s]) (c_X12_all hM 0 (by (first | decide | exact ⟨by omega, by omega⟩)) σ hI) mv_X12_192 rfl rfl rfl (a_88 hM) dX12_slings_41 ⟨Nat.le_of_ble_eq_true rfl, Nat.le_of_ble_eq_true rfl⟩ ⟨Nat.le_refl _, Nat.le_refl _⟩ rfl (Nat.le_of_ble_eq_true rfl) rfl (fun z1 σ2 hz1 => ?_)
    obtain ⟨r4, rfl, hr4, rfl, q3_0⟩ := hz1
    replace q3_0 : r4 = mc σ (0 : Int) (σ 91 0).toNat := q3_0
    refine j_st (st' := [vI r4, vI 1, vI s]) rfl ?_
    refine j_ishl (pc := 44) dX12_slings_44 (fun z5 ez5 => ?_)
    have hz5 : (-2147483648 : Int) ≤ z5 ∧ z5 ≤ 2147483647 := by rw [ez5]; exact shl_in _ _
    refine j_icmpR_ge (pc := 45) (tgt := 130) ⟨by omega, by omega⟩ ⟨by omega, by omega⟩ dX12_slings_45 rfl (fun h6 => ?_) (fun h6 => ?_)
    · refine j_iload_n (pc := 130) dX12_slings_130 rfl rfl ?_
      refine j_ifR_ne (pc := 131) (tgt := 139) ⟨by omega, by omega⟩ dX12_slings_131 rfl (fun h7 => ?_) (fun h7 => ?_)
      · refine j_iload_n (pc := 139) dX12_slings_139 rfl rfl ?_
        exact j_iret (pc := 140) ⟨rfl, rfl⟩ dX12_slings_140 rfl ⟨_, rfl, ⟨by omega, by omega⟩, rfl, trivial⟩
      · refine j_iload (pc := 134) dX12_slings_134 rfl ?_
        refine j_goto (pc := 136) (tgt := 140) dX12_slings_136 rfl ?_
        exact j_iret (pc := 140) ⟨rfl, rfl⟩ dX12_slings_140 rfl ⟨_, rfl, ⟨by omega, by omega⟩, rfl, trivial⟩
    · refine j_iload (pc := 48) dX12_slings_48 rfl ?_
      refine j_callS (pc := 50) (As := [vI s]) (st := []) (c_X12_countOf s ⟨by omega, by omega⟩ σ hI) ms_X12_304 rfl dX12_slings_50 ⟨Nat.le_of_ble_eq_true rfl, Nat.le_of_ble_eq_true rfl⟩ ⟨Nat.le_refl _, Nat.le_refl _⟩ rfl (Nat.le_of_ble_eq_true rfl) rfl (fun z8 σ9 hz8 => ?_)
      obtain ⟨r11, rfl, hr11, rfl, q10_0⟩ := hz8
      replace q10_0 : r11 = mPop s 12 := q10_0
      refine j_st (st' := [vI r11]) rfl ?_
      refine j_iload_n (pc := 53) dX12_slings_53 rfl rfl ?_
      refine j_icmpR_gt (pc := 54) (tgt := 124) ⟨by omega, by omega⟩ ⟨by omega, by omega⟩ dX12_slings_54 rfl (fun h12 => ?_) (fun h12 => ?_)
      · refine j_iinc (pc := 124) (i := 5) (n := 1) (ls' := [(0, vR 88), (1, vI n), (2, vI w), (3, vI b), (4, vI l), (5, vI (s + 1))]) [1, 2, 3, 4, 5, 0] dX12_slings_124 rfl (Nat.le_of_ble_eq_true rfl) rfl rfl ?_
        refine j_goto (pc := 127) (tgt := 36) dX12_slings_127 rfl ?_
        refine j_ls (ls' := [(0, vR 88), (1, vI n), (2, vI w), (3, vI b), (4, vI l), (5, vI (s + 1))]) [0, 1, 2, 3, 4, 5] rfl ?_
        exact ih b ⟨by omega, by omega⟩ l ⟨by omega, by omega⟩ (s + 1) ⟨by omega, by omega⟩ (show (2147483647 - (s + 1)).toNat < N_ from by omega)
      · refine j_aload_n (pc := 57) dX12_slings_57 rfl rfl ?_
        refine j_iload (pc := 58) dX12_slings_58 rfl ?_
        refine j_callV (pc := 60) (As := [vI s]) (st := []) (c_X12_dragBy hM s ⟨by omega, by omega⟩ σ hI (by omega)) mv_X12_320 rfl rfl rfl (a_88 hM) dX12_slings_60 ⟨Nat.le_of_ble_eq_true rfl, Nat.le_of_ble_eq_true rfl⟩ ⟨Nat.le_refl _, Nat.le_refl _⟩ rfl (Nat.le_of_ble_eq_true rfl) rfl (fun z13 σ14 hz13 => ?_)
        obtain ⟨r16, rfl, hr16, rfl, q15_0, q15_1⟩ := hz13
        replace q15_0 : r16 = DRB (wM σ) (gM 0 σ) (cnt (gM 0 σ) (σ 91 0).toNat) s (cnt (gM 0 σ) (σ 91 0).toNat).toNat := q15_0
        replace q15_1 : 0 ≤ r16 ∧ r16 ≤ 2000 := q15_1
        refine j_st (st' := [vI r16]) rfl ?_
        refine j_istore (pc := 63) (i := 6) (ls' := [(0, vR 88), (1, vI n), (2, vI w), (3, vI b), (4, vI l), (5, vI s), (6, vI r16)]) [1, 2, 3, 4, 5, 6, 0] dX12_slings_63 (Nat.le_of_ble_eq_true rfl) rfl rfl ?_
        refine j_iload (pc := 65) dX12_slings_65 rfl ?_
        refine j_iload (pc := 67) dX12_slings_67 rfl ?_
        refine j_icmpR_lt (pc := 69) (tgt := 91) ⟨by omega, by omega⟩ ⟨by omega, by omega⟩ dX12_slings_69 rfl (fun h17 => ?_) (fun h17 => ?_)
        · refine j_iconst (pc := 91) dX12_slings_91 ?_
          refine j_goto (pc := 92) (tgt := 96) dX12_slings_92 rfl ?_
          refine j_istore (pc := 96) (i := 7) (ls' := [(0, vR 88), (1, vI n), (2, vI w), (3, vI b), (4, vI l), (5, vI s), (6, vI r16), (7, vI 1)]) [1, 2, 3, 4, 5, 6, 7, 0] dX12_slings_96 (Nat.le_of_ble_eq_true rfl) rfl rfl ?_
          refine j_iload (pc := 98) dX12_slings_98 rfl ?_
          refine j_ifR_eq (pc := 100) (tgt := 108) ⟨by omega, by omega⟩ dX12_slings_100 rfl (fun h18 => by exfalso; omega) (fun h18 => ?_)
          refine j_iload (pc := 103) dX12_slings_103 rfl ?_
          refine j_goto (pc := 105) (tgt := 109) dX12_slings_105 rfl ?_
          refine j_istore_n (pc := 109) (i := 3) (ls' := [(0, vR 88), (1, vI n), (2, vI w), (3, vI s), (4, vI l), (5, vI s), (6, vI r16), (7, vI 1)]) [1, 2, 3, 0, 4, 5, 6, 7] dX12_slings_109 rfl (Nat.le_of_ble_eq_true rfl) rfl rfl ?_
          refine j_iload (pc := 110) dX12_slings_110 rfl ?_
          refine j_ifR_eq (pc := 112) (tgt := 120) ⟨by omega, by omega⟩ dX12_slings_112 rfl (fun h19 => by exfalso; omega) (fun h19 => ?_)
          refine j_iload (pc := 115) dX12_slings_115 rfl ?_
          refine j_goto (pc := 117) (tgt := 122) dX12_slings_117 rfl ?_
          refine j_istore (pc := 122) (i := 4) (ls' := [(0, vR 88), (1, vI n), (2, vI w), (3, vI s), (4, vI r16), (5, vI s)]) [1, 2, 3, 4, 0, 5] dX12_slings_122 (Nat.le_of_ble_eq_true rfl) rfl rfl ?_
          refine j_iinc (pc := 124) (i := 5) (n := 1) (ls' := [(0, vR 88), (1, vI n), (2, vI w), (3, vI s), (4, vI r16), (5, vI (s + 1))]) [1, 2, 3, 4, 5, 0] dX12_slings_124 rfl (Nat.le_of_ble_eq_true rfl) rfl rfl ?_
          refine j_goto (pc := 127) (tgt := 36) dX12_slings_127 rfl ?_
          refine j_ls (ls' := [(0, vR 88), (1, vI n), (2, vI w), (3, vI s), (4, vI r16), (5, vI (s + 1))]) [0, 1, 2, 3, 4, 5] rfl ?_
          exact ih s ⟨by omega, by omega⟩ r16 ⟨by omega, by omega⟩ (s + 1) ⟨by omega, by omega⟩ (show (2147483647 - (s + 1)).toNat < N_ from by omega)
        · refine j_iload (pc := 72) dX12_slings_72 rfl ?_
          refine j_iload (pc := 74) dX12_slings_74 rfl ?_
          refine j_icmpR_ne (pc := 76) (tgt := 95) ⟨by omega, by omega⟩ ⟨by omega, by omega⟩ dX12_slings_76 rfl (fun h20 => ?_) (fun h20 => ?_)
          · refine j_iconst (pc := 95) dX12_slings_95 ?_
            refine j_istore (pc := 96) (i := 7) (ls' := [(0, vR 88), (1, vI n), (2, vI w), (3, vI b), (4, vI l), (5, vI s), (6, vI r16), (7, vI 0)]) [1, 2, 3, 4, 5, 6, 7, 0] dX12_slings_96 (Nat.le_of_ble_eq_true rfl) rfl rfl ?_
            refine j_iload (pc := 98) dX12_slings_98 rfl ?_
            refine j_ifR_eq (pc := 100) (tgt := 108) ⟨by omega, by omega⟩ dX12_slings_100 rfl (fun h21 => ?_) (fun h21 => by exfalso; omega)
            refine j_iload_n (pc := 108) dX12_slings_108 rfl rfl ?_
            refine j_istore_n (pc := 109) (i := 3) (ls' := [(0, vR 88), (1, vI n), (2, vI w), (3, vI b), (4, vI l), (5, vI s), (6, vI r16), (7, vI 0)]) [1, 2, 3, 0, 4, 5, 6, 7] dX12_slings_109 rfl (Nat.le_of_ble_eq_true rfl) rfl rfl ?_
            refine j_iload (pc := 110) dX12_slings_110 rfl ?_
            refine j_ifR_eq (pc := 112) (tgt := 120) ⟨by omega, by omega⟩ dX12_slings_112 rfl (fun h22 => ?_) (fun h22 => by exfalso; omega)
            refine j_iload (pc := 120) dX12_slings_120 rfl ?_
            refine j_istore (pc := 122) (i := 4) (ls' := [(0, vR 88), (1, vI n), (2, vI w), (3, vI b), (4, vI l), (5, vI s)]) [1, 2, 3, 4, 0, 5] dX12_slings_122 (Nat.le_of_ble_eq_true rfl) rfl rfl ?_
            refine j_iinc (pc := 124) (i := 5) (n := 1) (ls' := [(0, vR 88), (1, vI n), (2, vI w), (3, vI b), (4, vI l), (5, vI (s + 1))]) [1, 2, 3, 4, 5, 0] dX12_slings_124 rfl (Nat.le_of_ble_eq_true rfl) rfl rfl ?_
            refine j_goto (pc := 127) (tgt := 36) dX12_slings_127 rfl ?_
            refine j_ls (ls' := [(0, vR 88), (1, vI n), (2, vI w), (3, vI b), (4, vI l), (5, vI (s + 1))]) [0, 1, 2, 3, 4, 5] rfl ?_
            exact ih b ⟨by omega, by omega⟩ l ⟨by omega, by omega⟩ (s + 1) ⟨by omega, by omega⟩ (show (2147483647 - (s + 1)).toNat < N_ from by omega)
          · refine j_iload (pc := 79) dX12_slings_79 rfl ?_
            refine j_callS (pc := 81) (As := [vI s]) (st := []) (c_X12_countOf s ⟨by omega, by omega⟩ σ hI) ms_X12_304 rfl dX12_slings_81 ⟨Nat.le_of_ble_eq_true rfl, Nat.le_of_ble_eq_true rfl⟩ ⟨Nat.le_refl _, Nat.le_refl _⟩ rfl (Nat.le_of_ble_eq_true rfl) rfl (fun z23 σ24 hz23 => ?_)
            obtain ⟨r26, rfl, hr26, rfl, q25_0⟩ := hz23
            replace q25_0 : r26 = mPop s 12 := q25_0
            refine j_st (st' := [vI r26]) rfl ?_
            refine j_iload_n (pc := 84) dX12_slings_84 rfl rfl ?_
            refine j_callS (pc := 85) (As := [vI b]) (st := [vI r26]) (c_X12_countOf b ⟨by omega, by omega⟩ σ hI) ms_X12_304 rfl dX12_slings_85 ⟨Nat.le_of_ble_eq_true rfl, Nat.le_of_ble_eq_true rfl⟩ ⟨Nat.le_refl _, Nat.le_refl _⟩ rfl (Nat.le_of_ble_eq_true rfl) rfl (fun z27 σ28 hz27 => ?_)
            obtain ⟨r30, rfl, hr30, rfl, q29_0⟩ := hz27
            replace q29_0 : r30 = mPop b 12 := q29_0
            refine j_st (st' := [vI r30, vI r26]) rfl ?_
            refine j_icmpR_ge (pc := 88) (tgt := 95) ⟨by omega, by omega⟩ ⟨by omega, by omega⟩ dX12_slings_88 rfl (fun h31 => ?_) (fun h31 => ?_)
            · refine j_iconst (pc := 95) dX12_slings_95 ?_
              refine j_istore (pc := 96) (i := 7) (ls' := [(0, vR 88), (1, vI n), (2, vI w), (3, vI b), (4, vI l), (5, vI s), (6, vI r16), (7, vI 0)]) [1, 2, 3, 4, 5, 6, 7, 0] dX12_slings_96 (Nat.le_of_ble_eq_true rfl) rfl rfl ?_
              refine j_iload (pc := 98) dX12_slings_98 rfl ?_
              refine j_ifR_eq (pc := 100) (tgt := 108) ⟨by omega, by omega⟩ dX12_slings_100 rfl (fun h32 => ?_) (fun h32 => by exfalso; omega)
              refine j_iload_n (pc := 108) dX12_slings_108 rfl rfl ?_
              refine j_istore_n (pc := 109) (i := 3) (ls' := [(0, vR 88), (1, vI n), (2, vI w), (3, vI b), (4, vI l), (5, vI s), (6, vI r16), (7, vI 0)]) [1, 2, 3, 0, 4, 5, 6, 7] dX12_slings_109 rfl (Nat.le_of_ble_eq_true rfl) rfl rfl ?_
              refine j_iload (pc := 110) dX12_slings_110 rfl ?_
              refine j_ifR_eq (pc := 112) (tgt := 120) ⟨by omega, by omega⟩ dX12_slings_112 rfl (fun h33 => ?_) (fun h33 => by exfalso; omega)
              refine j_iload (pc := 120) dX12_slings_120 rfl ?_
              refine j_istore (pc := 122) (i := 4) (ls' := [(0, vR 88), (1, vI n), (2, vI w), (3, vI b), (4, vI l), (5, vI s)]) [1, 2, 3, 4, 0, 5] dX12_slings_122 (Nat.le_of_ble_eq_true rfl) rfl rfl ?_
              refine j_iinc (pc := 124) (i := 5) (n := 1) (ls' := [(0, vR 88), (1, vI n), (2, vI w), (3, vI b), (4, vI l), (5, vI (s + 1))]) [1, 2, 3, 4, 5, 0] dX12_slings_124 rfl (Nat.le_of_ble_eq_true rfl) rfl rfl ?_
              refine j_goto (pc := 127) (tgt := 36) dX12_slings_127 rfl ?_
              refine j_ls (ls' := [(0, vR 88), (1, vI n), (2, vI w), (3, vI b), (4, vI l), (5, vI (s + 1))]) [0, 1, 2, 3, 4, 5] rfl ?_
              exact ih b ⟨by omega, by omega⟩ l ⟨by omega, by omega⟩ (s + 1) ⟨by omega, by omega⟩ (show (2147483647 - (s + 1)).toNat < N_ from by omega)
            · refine j_iconst (pc := 91) dX12_slings_91 ?_
              refine j_goto (pc := 92) (tgt := 96) dX12_slings_92 rfl ?_
              refine j_istore (pc := 96) (i := 7) (ls' := [(0, vR 88), (1, vI n), (2, vI w), (3, vI b), (4, vI l), (5, vI s), (6, vI r16), (7, vI 1)]) [1, 2, 3, 4, 5, 6, 7, 0] dX12_slings_96 (Nat.le_of_ble_eq_true rfl) rfl rfl ?_
              refine j_iload (pc := 98) dX12_slings_98 rfl ?_
              refine j_ifR_eq (pc := 100) (tgt := 108) ⟨by omega, by omega⟩ dX12_slings_100 rfl (fun h34 => by exfalso; omega) (fun h34 => ?_)
              refine j_iload (pc := 103) dX12_slings_103 rfl ?_
              refine j_goto (pc := 105) (tgt := 109) dX12_slings_105 rfl ?_
              refine j_istore_n (pc := 109) (i := 3) (ls' := [(0, vR 88), (1, vI n), (2, vI w), (3, vI s), (4, vI l), (5, vI s), (6, vI r16), (7, vI 1)]) [1, 2, 3, 0, 4, 5, 6, 7] dX12_slings_109 rfl (Nat.le_of_ble_eq_true rfl) rfl rfl ?_
              refine j_iload (pc := 110) dX12_slings_110 rfl ?_
              refine j_ifR_eq (pc := 112) (tgt := 120) ⟨by omega, by omega⟩ dX12_slings_112 rfl (fun h35 => by exfalso; omega) (fun h35 => ?_)
              refine j_iload (pc := 115) dX12_slings_115 rfl ?_
              refine j_goto (pc := 117) (tgt := 122) dX12_slings_117 rfl ?_
              refine j_istore (pc := 122) (i := 4) (ls' := [(0, vR 88), (1, vI n), (2, vI w), (3, vI s), (4, vI r16), (5, vI s)]) [1, 2, 3, 4, 0, 5] dX12_slings_122 (Nat.le_of_ble_eq_true rfl) rfl rfl ?_
              refine j_iinc (pc := 124) (i := 5) (n := 1) (ls' := [(0, vR 88), (1, vI n), (2, vI w), (3, vI s), (4, vI r16), (5, vI (s + 1))]) [1, 2, 3, 4, 5, 0] dX12_slings_124 rfl (Nat.le_of_ble_eq_true rfl) rfl rfl ?_
              refine j_goto (pc := 127) (tgt := 36) dX12_slings_127 rfl ?_
              refine j_ls (ls' := [(0, vR 88), (1, vI n), (2, vI w), (3, vI s), (4, vI r16), (5, vI (s + 1))]) [0, 1, 2, 3, 4, 5] rfl ?_
              exact ih s ⟨by omega, by omega⟩ r16 ⟨by omega, by omega⟩ (s + 1) ⟨by omega, by omega⟩ (show (2147483647 - (s + 1)).toNat < N_ from by omega)
set_option maxHeartbeats 4000000 in
set_option maxRecDepth 100000 in
theorem c_X12_slings {G : tw_G} (hM : tw_isM G) (n : Int) (hn : -2147483648 ≤ n ∧ n ≤ 2147483647) (w : Int) (hw : -2147483648 ≤ w ∧ w ≤ 2147483647) (σ : tw_M) (hI : tw_I σ) (hq0 : mc σ 0 (σ 91 0).toNat ≤ 10) : tw_C G yX12_slings cX12_slings 8 (some .int) 6 [vR 88, vI n, vI w] σ (q_X12_slings n w σ) := by
  refine tw_met [(0, vR 88), (1, vI n), (2, vI w)] (by decide +kernel) rfl (Nat.le_of_ble_eq_true rfl) ?_
  refine j_iload_n (pc := 0) dX12_slings_0 rfl rfl ?_
  refine j_i2l (pc := 1) dX12_slings_1 ?_
  rw [w32_eq (a := n) (by omega) (by omega)]
  refine j_lconst (pc := 2) (z := 0) dX12_slings_2 rfl ?_
  refine j_ldc2 (pc := 3) (z := 10) dX12_slings_3 (tw_inc tm_6 (i := 239) rfl rfl) ?_
  refine j_callS (pc := 6) (As := [vL n, vL 0, vL 10]) (st := []) (c_X12_in n ⟨by omega, by omega⟩ 0 (by (first | decide | exact ⟨by omega, by omega⟩)) 10 (by (first | decide | exact ⟨by omega, by omega⟩)) σ hI) ms_X12_82 rfl dX12_slings_6 ⟨Nat.le_of_ble_eq_true rfl, Nat.le_of_ble_eq_true rfl⟩ ⟨Nat.le_refl _, Nat.le_refl _⟩ rfl (Nat.le_of_ble_eq_true rfl) rfl (fun z36 σ37 hz36 => ?_)
  obtain ⟨r39, rfl, hr39, rfl, q38_0⟩ := hz36
  replace q38_0 : (r39 = 1 ∧ (0 : Int) ≤ n ∧ n ≤ (10 : Int)) ∨ (r39 = 0 ∧ ¬ ((0 : Int) ≤ n ∧ n ≤ (10 : Int))) := q38_0
  refine j_st (st' := [vI r39]) rfl ?_
  refine j_ifR_eq (pc := 9) (tgt := 22) ⟨by omega, by omega⟩ dX12_slings_9 rfl (fun h40 => ?_) (fun h40 => ?_)
  · refine j_iconst (pc := 22) dX12_slings_22 ?_
    exact j_iret (pc := 23) ⟨rfl, rfl⟩ dX12_slings_23 rfl ⟨_, rfl, ⟨by omega, by omega⟩, rfl, trivial⟩
  · refine j_iload_n (pc := 12) dX12_slings_12 rfl rfl ?_
    refine j_i2l (pc := 13) dX12_slings_13 ?_
    rw [w32_eq (a := w) (by omega) (by omega)]
    refine j_lconst (pc := 14) (z := 0) dX12_slings_14 rfl ?_
    refine j_lconst (pc := 15) (z := 1) dX12_slings_15 rfl ?_
    refine j_callS (pc := 16) (As := [vL w, vL 0, vL 1]) (st := []) (c_X12_in w ⟨by omega, by omega⟩ 0 (by (first | decide | exact ⟨by omega, by omega⟩)) 1 (by (first | decide | exact ⟨by omega, by omega⟩)) σ hI) ms_X12_82 rfl dX12_slings_16 ⟨Nat.le_of_ble_eq_true rfl, Nat.le_of_ble_eq_true rfl⟩ ⟨Nat.le_refl _, Nat.le_refl _⟩ rfl (Nat.le_of_ble_eq_true rfl) rfl (fun z41 σ42 hz41 => ?_)
    obtain ⟨r44, rfl, hr44, rfl, q43_0⟩ := hz41
    replace q43_0 : (r44 = 1 ∧ (0 : Int) ≤ w ∧ w ≤ (1 : Int)) ∨ (r44 = 0 ∧ ¬ ((0 : Int) ≤ w ∧ w ≤ (1 : Int))) := q43_0
    refine j_st (st' := [vI r44]) rfl ?_
    refine j_ifR_ne (pc := 19) (tgt := 24) ⟨by omega, by omega⟩ dX12_slings_19 rfl (fun h45 => ?_) (fun h45 => ?_)
    · refine j_iconst (pc := 24) dX12_slings_24 ?_
      refine j_istore_n (pc := 25) (i := 3) (ls' := [(0, vR 88), (1, vI n), (2, vI w), (3, vI 0)]) [1, 2, 3, 0] dX12_slings_25 rfl (Nat.le_of_ble_eq_true rfl) rfl rfl ?_
      refine j_aload_n (pc := 26) dX12_slings_26 rfl rfl ?_
      refine j_iconst (pc := 27) dX12_slings_27 ?_
      refine j_callV (pc := 28) (As := [vI 0]) (st := []) (c_X12_dragBy hM 0 (by (first | decide | exact ⟨by omega, by omega⟩)) σ hI (by omega)) mv_X12_320 rfl rfl rfl (a_88 hM) dX12_slings_28 ⟨Nat.le_of_ble_eq_true rfl, Nat.le_of_ble_eq_true rfl⟩ ⟨Nat.le_refl _, Nat.le_refl _⟩ rfl (Nat.le_of_ble_eq_true rfl) rfl (fun z46 σ47 hz46 => ?_)
      obtain ⟨r49, rfl, hr49, rfl, q48_0, q48_1⟩ := hz46
      replace q48_0 : r49 = DRB (wM σ) (gM 0 σ) (cnt (gM 0 σ) (σ 91 0).toNat) (0 : Int) (cnt (gM 0 σ) (σ 91 0).toNat).toNat := q48_0
      replace q48_1 : 0 ≤ r49 ∧ r49 ≤ 2000 := q48_1
      refine j_st (st' := [vI r49]) rfl ?_
      refine j_istore (pc := 31) (i := 4) (ls' := [(0, vR 88), (1, vI n), (2, vI w), (3, vI 0), (4, vI r49)]) [1, 2, 3, 4, 0] dX12_slings_31 (Nat.le_of_ble_eq_true rfl) rfl rfl ?_
      refine j_iconst (pc := 33) dX12_slings_33 ?_
      refine j_istore (pc := 34) (i := 5) (ls' := [(0, vR 88), (1, vI n), (2, vI w), (3, vI 0), (4, vI r49), (5, vI 1)]) [1, 2, 3, 4, 5, 0] dX12_slings_34 (Nat.le_of_ble_eq_true rfl) rfl rfl ?_
      refine j_ls (ls' := [(0, vR 88), (1, vI n), (2, vI w), (3, vI 0), (4, vI r49), (5, vI 1)]) [0, 1, 2, 3, 4, 5] rfl ?_
      exact (l_X12_slings hM n hn w hw σ hI hq0 (((2147483647 - (1 : Int)).toNat) + 1)) 0 (by (first | decide | exact ⟨by omega, by omega⟩)) r49 ⟨by omega, by omega⟩ 1 (by (first | decide | exact ⟨by omega, by omega⟩)) (Nat.lt_succ_self _)
    · refine j_iconst (pc := 22) dX12_slings_22 ?_
      exact j_iret (pc := 23) ⟨rfl, rfl⟩ dX12_slings_23 rfl ⟨_, rfl, ⟨by omega, by omega⟩, rfl, trivial⟩
abbrev q_X12_isStance (h : Int) (σ : tw_M) : Option tw_V → tw_M → Prop := fun z τ => ∃ r : Int, z = some (vI r) ∧ (0 ≤ r ∧ r ≤ 1) ∧ σ = τ ∧ ((r = 1 ∧ mSt σ h) ∨ (r = 0 ∧ ¬ mSt σ h))
set_option maxHeartbeats 4000000 in
set_option maxRecDepth 100000 in
theorem c_X12_isStance {G : tw_G} (hM : tw_isM G) (h : Int) (hh : 0 ≤ h ∧ h ≤ 40) (σ : tw_M) (hI : tw_I σ) : tw_C G yX12_isStance cX12_isStance 2 (some .boolean) 1 [vR 88, vI h] σ (q_X12_isStance h σ) := by
  refine tw_met [(0, vR 88), (1, vI h)] (by decide +kernel) rfl (Nat.le_of_ble_eq_true rfl) ?_
  refine j_iload_n (pc := 0) dX12_isStance_0 rfl rfl ?_
  refine j_aload_n (pc := 1) dX12_isStance_1 rfl rfl ?_
  refine j_getR (pc := 2) (r := 91) fl_X12_17 dX12_isStance_2 (a_88 hM) rfl ?_
  refine j_iconst (pc := 5) dX12_isStance_5 ?_
  refine j_iald (pc := 6) dX12_isStance_6 (a_91 hM) (by omega) (by omega) (by decide) ?_
  refine j_topV (show σ 91 (Int.toNat 0) = σ 91 0 from rfl) ?_
  have f1 : (1 : Int) ≤ σ 91 0 ∧ σ 91 0 ≤ 40 := hI 91 0
  refine j_icmpR_eq (pc := 7) (tgt := 30) ⟨by omega, by omega⟩ ⟨by omega, by omega⟩ dX12_isStance_7 rfl (fun h2 => ?_) (fun h2 => ?_)
  · refine j_iconst (pc := 30) dX12_isStance_30 ?_
    refine j_goto (pc := 31) (tgt := 35) dX12_isStance_31 rfl ?_
    exact j_zret (pc := 35) ⟨rfl, rfl⟩ dX12_isStance_35 rfl (nar_bool (by omega) (by omega)) ⟨_, rfl, ⟨by omega, by omega⟩, rfl, (by unfold mSt; omega)⟩
  · refine j_aload_n (pc := 10) dX12_isStance_10 rfl rfl ?_
    refine j_iload_n (pc := 11) dX12_isStance_11 rfl rfl ?_
    refine j_iconst (pc := 12) dX12_isStance_12 ?_
    refine j_callV (pc := 13) (As := [vI h, vI 2]) (st := []) (c_X12_of hM h ⟨by omega, by omega⟩ 2 (by (first | decide | exact ⟨by omega, by omega⟩)) σ hI) mv_X12_184 rfl rfl rfl (a_88 hM) dX12_isStance_13 ⟨Nat.le_of_ble_eq_true rfl, Nat.le_of_ble_eq_true rfl⟩ ⟨Nat.le_refl _, Nat.le_refl _⟩ rfl (Nat.le_of_ble_eq_true rfl) rfl (fun z3 σ4 hz3 => ?_)
    obtain ⟨r6, rfl, hr6, rfl, q5_0⟩ := hz3
    replace q5_0 : r6 = σ 92 (5 * h + (2 : Int)).toNat := q5_0
    refine j_st (st' := [vI r6]) rfl ?_
    refine j_iconst (pc := 16) dX12_isStance_16 ?_
    refine j_icmpR_eq (pc := 17) (tgt := 30) ⟨by omega, by omega⟩ ⟨by omega, by omega⟩ dX12_isStance_17 rfl (fun h7 => ?_) (fun h7 => ?_)
    · refine j_iconst (pc := 30) dX12_isStance_30 ?_
      refine j_goto (pc := 31) (tgt := 35) dX12_isStance_31 rfl ?_
      exact j_zret (pc := 35) ⟨rfl, rfl⟩ dX12_isStance_35 rfl (nar_bool (by omega) (by omega)) ⟨_, rfl, ⟨by omega, by omega⟩, rfl, (by unfold mSt; omega)⟩
    · refine j_aload_n (pc := 20) dX12_isStance_20 rfl rfl ?_
      refine j_iload_n (pc := 21) dX12_isStance_21 rfl rfl ?_
      refine j_iconst (pc := 22) dX12_isStance_22 ?_
      refine j_callV (pc := 23) (As := [vI h, vI 3]) (st := []) (c_X12_of hM h ⟨by omega, by omega⟩ 3 (by (first | decide | exact ⟨by omega, by omega⟩)) σ hI) mv_X12_184 rfl rfl rfl (a_88 hM) dX12_isStance_23 ⟨Nat.le_of_ble_eq_true rfl, Nat.le_of_ble_eq_true rfl⟩ ⟨Nat.le_refl _, Nat.le_refl _⟩ rfl (Nat.le_of_ble_eq_true rfl) rfl (fun z8 σ9 hz8 => ?_)
      obtain ⟨r11, rfl, hr11, rfl, q10_0⟩ := hz8
      replace q10_0 : r11 = σ 92 (5 * h + (3 : Int)).toNat := q10_0
      refine j_st (st' := [vI r11]) rfl ?_
      refine j_iconst (pc := 26) dX12_isStance_26 ?_
      refine j_icmpR_ne (pc := 27) (tgt := 34) ⟨by omega, by omega⟩ ⟨by omega, by omega⟩ dX12_isStance_27 rfl (fun h12 => ?_) (fun h12 => ?_)
      · refine j_iconst (pc := 34) dX12_isStance_34 ?_
        exact j_zret (pc := 35) ⟨rfl, rfl⟩ dX12_isStance_35 rfl (nar_bool (by omega) (by omega)) ⟨_, rfl, ⟨by omega, by omega⟩, rfl, (by unfold mSt; omega)⟩
      · refine j_iconst (pc := 30) dX12_isStance_30 ?_
        refine j_goto (pc := 31) (tgt := 35) dX12_isStance_31 rfl ?_
        exact j_zret (pc := 35) ⟨rfl, rfl⟩ dX12_isStance_35 rfl (nar_bool (by omega) (by omega)) ⟨_, rfl, ⟨by omega, by omega⟩, rfl, (by unfold mSt; omega)⟩
abbrev q_X12_findPitches  (σ : tw_M) : Option tw_V → tw_M → Prop := fun z τ => z = none ∧ tw_I τ ∧ tw_F (fun c j => (c = 88 ∧ (j = 30)) ∨ (99 ≤ c ∧ c < 101)) σ τ ∧ True
set_option maxHeartbeats 4000000 in
set_option maxRecDepth 100000 in
theorem l_X12_findPitches {G : tw_G} (hM : tw_isM G) (σ : tw_M) (hI : tw_I σ) : ∀ N_ : Nat, (∀ (t : Int) (ht : 1 ≤ t ∧ t ≤ 40) (h : Int) (hh : -1 ≤ h ∧ h ≤ 40) (τ : tw_M) (hIτ : tw_I τ) (hFτ : tw_F (fun c j => (c = 88 ∧ (j = 30)) ∨ (99 ≤ c ∧ c < 101)) σ τ) (i0 : t = σ 91 0) (i1 : h ≤ t) (i2 : ∀ j : Int, h < j → j ≤ t → TOK (σ 91 0) (okP σ) (τ 99) j) (hm : (100000 + 100 * (h + 1) + 50).toNat < N_), tw_J G (tw_mt RX12 cX12_findPitches 5 none 2) (tw_E G (q_X12_findPitches σ)) 9 [(0, vR 88), (1, vI t), (2, vI h)] [] τ) ∧ (∀ (t : Int) (ht : 1 ≤ t ∧ t ≤ 40) (h : Int) (hh : 0 ≤ h ∧ h ≤ 40) (f : Int) (hf : 1 ≤ f ∧ f ≤ 41) (τ : tw_M) (hIτ : tw_I τ) (hFτ : tw_F (fun c j => (c = 88 ∧ (j = 30)) ∨ (99 ≤ c ∧ c < 101)) σ τ) (i0 : t = σ 91 0) (i1 : h ≤ t) (i2 : h < f) (i3 : ∀ j : Int, h ≤ j → j ≤ t → TOK (σ 91 0) (okP σ) (τ 99) j) (hm : (100000 + 100 * (h + 1) + 41 - f).toNat < N_), tw_J G (tw_mt RX12 cX12_findPitches 5 none 2) (tw_E G (q_X12_findPitches σ)) 34 [(0, vR 88), (1, vI t), (2, vI h), (3, vI f)] [] τ) ∧ (∀ (a : Int) (ha : 0 ≤ a ∧ a ≤ 40) (i : Int) (hi : 0 ≤ i ∧ i ≤ 40) (τ : tw_M) (hIτ : tw_I τ) (hFτ : tw_F (fun c j => (c = 88 ∧ (j = 30)) ∨ (99 ≤ c ∧ c < 101)) σ τ) (i0 : ∀ j : Int, 0 ≤ j → j ≤ σ 91 0 → TOK (σ 91 0) (okP σ) (τ 99) j) (i1 : a ≤ σ 91 0) (i2 : τ 88 30 = -4 ∨ (i ≤ τ 88 30 ∧ τ 99 a.toNat = τ 88 30 - i)) (hm : (100 * (41 - i) + 50).toNat < N_), tw_J G (tw_mt RX12 cX12_findPitches 5 none 2) (tw_E G (q_X12_findPitches σ)) 164 [(0, vR 88), (2, vI a), (3, vI i)] [] τ) ∧ (∀ (a : Int) (ha : 0 ≤ a ∧ a ≤ 40) (i : Int) (hi : 0 ≤ i ∧ i ≤ 39) (f : Int) (hf : 1 ≤ f ∧ f ≤ 41) (τ : tw_M) (hIτ : tw_I τ) (hFτ : tw_F (fun c j => (c = 88 ∧ (j = 30)) ∨ (99 ≤ c ∧ c < 101)) σ τ) (i0 : ∀ j : Int, 0 ≤ j → j ≤ σ 91 0 → TOK (σ 91 0) (okP σ) (τ 99) j) (i1 : a ≤ σ 91 0) (i2 : a < f) (i3 : i < τ 88 30 ∧ τ 99 a.toNat = τ 88 30 - i) (i4 : TW (σ 91 0) (okP σ) (τ 99) a f) (hm : (100 * (41 - i) + 41 - f).toNat < N_), tw_J G (tw_mt RX12 cX12_findPitches 5 none 2) (tw_E G (q_X12_findPitches σ)) 177 [(0, vR 88), (2, vI a), (3, vI i), (4, vI f)] [] τ) := by
  intro N_
  induction N_ with
  | zero => exact ⟨fun t ht h hh τ hIτ hFτ i0 i1 i2 hm => absurd hm (Nat.not_lt_zero _), fun t ht h hh f hf τ hIτ hFτ i0 i1 i2 i3 hm => absurd hm (Nat.not_lt_zero _), fun a ha i hi τ hIτ hFτ i0 i1 i2 hm => absurd hm (Nat.not_lt_zero _), fun a ha i hi f hf τ hIτ hFτ i0 i1 i2 i3 i4 hm => absurd hm (Nat.not_lt_zero _)⟩
  | succ N_ ih =>
    refine ⟨?_, ?_, ?_, ?_⟩
    · intro t ht h hh τ hIτ hFτ i0 i1 i2 hm
      have ft : (1 : Int) ≤ σ 91 0 ∧ σ 91 0 ≤ 40 := hI 91 0
      have f91 := hFτ 91 0 (show ¬ ((91 = 88 ∧ (0 = 30)) ∨ (99 ≤ 91 ∧ 91 < 101)) from by decide)
      refine j_iload_n (pc := 9) dX12_findPitches_9 rfl rfl ?_
      refine j_ifR_lt (pc := 10) (tgt := 150) ⟨by omega, by omega⟩ dX12_findPitches_10 rfl (fun h1 => ?_) (fun h1 => ?_)
      · refine j_aload_n (pc := 150) dX12_findPitches_150 rfl rfl ?_
        refine j_aload_n (pc := 151) dX12_findPitches_151 rfl rfl ?_
        refine j_getR (pc := 152) (r := 99) fl_X12_41 dX12_findPitches_152 (a_88 hM) rfl ?_
        refine j_iconst (pc := 155) dX12_findPitches_155 ?_
        refine j_iald (pc := 156) dX12_findPitches_156 (a_99 hM) (by omega) (by omega) (by decide) ?_
        refine j_topV (show τ 99 (Int.toNat 0) = τ 99 0 from rfl) ?_
        have f2 : (-4 : Int) ≤ τ 99 0 ∧ τ 99 0 ≤ 40 := hIτ 99 0
        refine j_putI (pc := 157) fl_X12_326 fp_X12_30 dX12_findPitches_157 (a_88 hM) rfl (j_nm (fun σ3 (eσ3 : σ3 = tw_up τ 88 30 (τ 99 0)) => ?_))
        have hIσ3 : tw_I σ3 := tw_I_up hIτ eσ3 (show (-4 : Int) ≤ τ 99 0 ∧ τ 99 0 ≤ 40 from ⟨by omega, by omega⟩)
        have hFσ3 : tw_F (fun c j => (c = 88 ∧ (j = 30)) ∨ (99 ≤ c ∧ c < 101)) σ σ3 := tw_F_up hFτ eσ3 (show (88 = 88 ∧ (30 = 30)) ∨ (99 ≤ 88 ∧ 88 < 101) from (Or.inl ⟨rfl, rfl⟩))
        refine j_iconst (pc := 160) dX12_findPitches_160 ?_
        refine j_istore_n (pc := 161) (i := 2) (ls' := [(0, vR 88), (2, vI 0)]) [1, 0] dX12_findPitches_161 rfl (Nat.le_of_ble_eq_true rfl) rfl rfl ?_
        refine j_iconst (pc := 162) dX12_findPitches_162 ?_
        refine j_istore_n (pc := 163) (i := 3) (ls' := [(0, vR 88), (2, vI 0), (3, vI 0)]) [1, 2, 0] dX12_findPitches_163 rfl (Nat.le_of_ble_eq_true rfl) rfl rfl ?_
        refine j_ls (ls' := [(0, vR 88), (2, vI 0), (3, vI 0)]) [0, 1, 2] rfl ?_
        have y4 : σ3 88 30 = τ 99 0 := (tw_eq1 eσ3)
        have y5 : σ3 99 ((0 : Int).toNat) = τ 99 ((0 : Int).toNat) := (tw_ne1 eσ3 (by (first | decide | omega)))
        exact ih.2.2.1 0 (by (first | decide | exact ⟨by omega, by omega⟩)) 0 (by (first | decide | exact ⟨by omega, by omega⟩)) σ3 hIσ3 hFσ3 (show ∀ j : Int, 0 ≤ j → j ≤ σ 91 0 → TOK (σ 91 0) (okP σ) (σ3 99) j from (by first | exact (fun j h1 h2 => TOK_F (fun x => tw_ne1 eσ3 (by (first | decide | omega))) (i0 j h1 h2)) | exact (fun j h1 h2 => TOK_F (fun x => tw_ne1 eσ3 (by (first | decide | omega))) (i2 j (by omega) (by omega))))) (show (0 : Int) ≤ σ 91 0 from by omega) (show σ3 88 30 = -4 ∨ ((0 : Int) ≤ σ3 88 30 ∧ σ3 99 (0 : Int).toNat = σ3 88 30 - (0 : Int)) from (by first | exact PT_0 eσ3 (i2 0 (by omega) (by omega)) (by omega) | omega)) (show (100 * (41 - (0 : Int)) + 50).toNat < N_ from by omega)
      · refine j_aload_n (pc := 13) dX12_findPitches_13 rfl rfl ?_
        refine j_getR (pc := 14) (r := 99) fl_X12_41 dX12_findPitches_14 (a_88 hM) rfl ?_
        refine j_iload_n (pc := 17) dX12_findPitches_17 rfl rfl ?_
        refine j_iload_n (pc := 18) dX12_findPitches_18 rfl rfl ?_
        refine j_iload_n (pc := 19) dX12_findPitches_19 rfl rfl ?_
        refine j_icmpR_ne (pc := 20) (tgt := 27) ⟨by omega, by omega⟩ ⟨by omega, by omega⟩ dX12_findPitches_20 rfl (fun h6 => ?_) (fun h6 => ?_)
        · refine j_bipush (pc := 27) dX12_findPitches_27 rfl ?_
          refine j_iast (pc := 29) dX12_findPitches_29 (a_99 hM) (by omega) (by omega) (by decide) (j_nm (fun σ7 (eσ7 : σ7 = tw_up τ 99 (h.toNat) (-4)) => ?_))
          have hIσ7 : tw_I σ7 := tw_I_up hIτ eσ7 (show (-4 : Int) ≤ -4 ∧ -4 ≤ 40 from by decide)
          have hFσ7 : tw_F (fun c j => (c = 88 ∧ (j = 30)) ∨ (99 ≤ c ∧ c < 101)) σ σ7 := tw_F_up hFτ eσ7 (show (99 = 88 ∧ (h.toNat = 30)) ∨ (99 ≤ 99 ∧ 99 < 101) from (Or.inr (by decide)))
          refine j_iload_n (pc := 30) dX12_findPitches_30 rfl rfl ?_
          refine j_iconst (pc := 31) dX12_findPitches_31 ?_
          refine j_iadd (pc := 32) dX12_findPitches_32 ?_
          refine j_istore_n (pc := 33) (i := 3) (ls' := [(0, vR 88), (1, vI t), (2, vI h), (3, vI (h + 1))]) [1, 2, 3, 0] dX12_findPitches_33 rfl (Nat.le_of_ble_eq_true rfl) rfl rfl ?_
          refine j_ls (ls' := [(0, vR 88), (1, vI t), (2, vI h), (3, vI (h + 1))]) [0, 1, 2, 3] rfl ?_
          exact ih.2.1 t ⟨by omega, by omega⟩ h ⟨by omega, by omega⟩ (h + 1) ⟨by omega, by omega⟩ σ7 hIσ7 hFσ7 (show t = σ 91 0 from by omega) (show h ≤ t from by omega) (show h < (h + 1) from by omega) (show ∀ j : Int, h ≤ j → j ≤ t → TOK (σ 91 0) (okP σ) (σ7 99) j from (by first | exact fun j h1 h2 => TOK_up eσ7 (by omega) (fun j h1 h2 => i2 j h1 (by omega)) (by first | exact Or.inl rfl | exact Or.inr (Or.inl rfl)) j h1 (by omega) | exact fun j h1 h2 => TOK_up eσ7 (by omega) (fun j h1 h2 => i3 j (by omega) (by omega)) (TOK_old (i3 h (by omega) (by omega)) (by rfl)) j h1 (by omega) | exact fun j h1 h2 => TOK_up eσ7 (by omega) (fun j h1 h2 => i3 j (by omega) (by omega)) (TOK_new (f := f) (by omega) (by omega) g9 (by omega) (i3 f (by omega) (by omega)) (by rfl)) j h1 (by omega))) (show (100000 + 100 * (h + 1) + 41 - (h + 1)).toNat < N_ from by omega)
        · refine j_iconst (pc := 23) dX12_findPitches_23 ?_
          refine j_goto (pc := 24) (tgt := 29) dX12_findPitches_24 rfl ?_
          refine j_iast (pc := 29) dX12_findPitches_29 (a_99 hM) (by omega) (by omega) (by decide) (j_nm (fun σ8 (eσ8 : σ8 = tw_up τ 99 (h.toNat) 0) => ?_))
          have hIσ8 : tw_I σ8 := tw_I_up hIτ eσ8 (show (-4 : Int) ≤ 0 ∧ 0 ≤ 40 from by decide)
          have hFσ8 : tw_F (fun c j => (c = 88 ∧ (j = 30)) ∨ (99 ≤ c ∧ c < 101)) σ σ8 := tw_F_up hFτ eσ8 (show (99 = 88 ∧ (h.toNat = 30)) ∨ (99 ≤ 99 ∧ 99 < 101) from (Or.inr (by decide)))
          refine j_iload_n (pc := 30) dX12_findPitches_30 rfl rfl ?_
          refine j_iconst (pc := 31) dX12_findPitches_31 ?_
          refine j_iadd (pc := 32) dX12_findPitches_32 ?_
          refine j_istore_n (pc := 33) (i := 3) (ls' := [(0, vR 88), (1, vI t), (2, vI h), (3, vI (h + 1))]) [1, 2, 3, 0] dX12_findPitches_33 rfl (Nat.le_of_ble_eq_true rfl) rfl rfl ?_
          refine j_ls (ls' := [(0, vR 88), (1, vI t), (2, vI h), (3, vI (h + 1))]) [0, 1, 2, 3] rfl ?_
          exact ih.2.1 t ⟨by omega, by omega⟩ h ⟨by omega, by omega⟩ (h + 1) ⟨by omega, by omega⟩ σ8 hIσ8 hFσ8 (show t = σ 91 0 from by omega) (show h ≤ t from by omega) (show h < (h + 1) from by omega) (show ∀ j : Int, h ≤ j → j ≤ t → TOK (σ 91 0) (okP σ) (σ8 99) j from (by first | exact fun j h1 h2 => TOK_up eσ8 (by omega) (fun j h1 h2 => i2 j h1 (by omega)) (by first | exact Or.inl rfl | exact Or.inr (Or.inl rfl)) j h1 (by omega) | exact fun j h1 h2 => TOK_up eσ8 (by omega) (fun j h1 h2 => i3 j (by omega) (by omega)) (TOK_old (i3 h (by omega) (by omega)) (by rfl)) j h1 (by omega) | exact fun j h1 h2 => TOK_up eσ8 (by omega) (fun j h1 h2 => i3 j (by omega) (by omega)) (TOK_new (f := f) (by omega) (by omega) g9 (by omega) (i3 f (by omega) (by omega)) (by rfl)) j h1 (by omega))) (show (100000 + 100 * (h + 1) + 41 - (h + 1)).toNat < N_ from by omega)
    · intro t ht h hh f hf τ hIτ hFτ i0 i1 i2 i3 hm
      have ft : (1 : Int) ≤ σ 91 0 ∧ σ 91 0 ≤ 40 := hI 91 0
      have f91 := hFτ 91 0 (show ¬ ((91 = 88 ∧ (0 = 30)) ∨ (99 ≤ 91 ∧ 91 < 101)) from by decide)
      have s9 : ∀ x, mSt τ x ↔ mSt σ x := fun x => mSt_congr (fun j => hFτ 92 j (show ¬ ((92 = 88 ∧ (j = 30)) ∨ (99 ≤ 92 ∧ 92 < 101)) from fun h => h.elim (fun h => absurd h.1 (by decide)) (fun h => absurd h (by decide)))) (hFτ 91 0 (show ¬ ((91 = 88 ∧ (0 = 30)) ∨ (99 ≤ 91 ∧ 91 < 101)) from by decide))
      refine j_iload_n (pc := 34) dX12_findPitches_34 rfl rfl ?_
      refine j_iload_n (pc := 35) dX12_findPitches_35 rfl rfl ?_
      refine j_icmpR_gt (pc := 36) (tgt := 144) ⟨by omega, by omega⟩ ⟨by omega, by omega⟩ dX12_findPitches_36 rfl (fun h9 => ?_) (fun h9 => ?_)
      · refine j_iinc (pc := 144) (i := 2) (n := -1) (ls' := [(0, vR 88), (1, vI t), (2, vI (h + (-1)))]) [1, 2, 0] dX12_findPitches_144 rfl (Nat.le_of_ble_eq_true rfl) rfl rfl ?_
        refine j_goto (pc := 147) (tgt := 9) dX12_findPitches_147 rfl ?_
        refine j_ls (ls' := [(0, vR 88), (1, vI t), (2, vI (h + (-1)))]) [0, 1, 2] rfl ?_
        exact ih.1 t ⟨by omega, by omega⟩ (h + (-1)) ⟨by omega, by omega⟩ τ hIτ hFτ (show t = σ 91 0 from by omega) (show (h + (-1)) ≤ t from by omega) (show ∀ j : Int, (h + (-1)) < j → j ≤ t → TOK (σ 91 0) (okP σ) (τ 99) j from (fun j h1 h2 => i3 j (by omega) (by omega))) (show (100000 + 100 * ((h + (-1)) + 1) + 50).toNat < N_ from by omega)
      · refine j_iload_n (pc := 39) dX12_findPitches_39 rfl rfl ?_
        refine j_iload_n (pc := 40) dX12_findPitches_40 rfl rfl ?_
        refine j_isub (pc := 41) dX12_findPitches_41 ?_
        refine j_aload_n (pc := 42) dX12_findPitches_42 rfl rfl ?_
        refine j_getR (pc := 43) (r := 91) fl_X12_17 dX12_findPitches_43 (a_88 hM) rfl ?_
        refine j_iconst (pc := 46) dX12_findPitches_46 ?_
        refine j_iald (pc := 47) dX12_findPitches_47 (a_91 hM) (by omega) (by omega) (by decide) ?_
        refine j_topV (show τ 91 (Int.toNat 3) = τ 91 3 from rfl) ?_
        have f10 : (1 : Int) ≤ τ 91 3 ∧ τ 91 3 ≤ 60 := hIτ 91 3
        refine j_icmpR_gt (pc := 48) (tgt := 144) ⟨by omega, by omega⟩ ⟨by omega, by omega⟩ dX12_findPitches_48 rfl (fun h11 => ?_) (fun h11 => ?_)
        · refine j_iinc (pc := 144) (i := 2) (n := -1) (ls' := [(0, vR 88), (1, vI t), (2, vI (h + (-1)))]) [1, 2, 0] dX12_findPitches_144 rfl (Nat.le_of_ble_eq_true rfl) rfl rfl ?_
          refine j_goto (pc := 147) (tgt := 9) dX12_findPitches_147 rfl ?_
          refine j_ls (ls' := [(0, vR 88), (1, vI t), (2, vI (h + (-1)))]) [0, 1, 2] rfl ?_
          exact ih.1 t ⟨by omega, by omega⟩ (h + (-1)) ⟨by omega, by omega⟩ τ hIτ hFτ (show t = σ 91 0 from by omega) (show (h + (-1)) ≤ t from by omega) (show ∀ j : Int, (h + (-1)) < j → j ≤ t → TOK (σ 91 0) (okP σ) (τ 99) j from (fun j h1 h2 => i3 j (by omega) (by omega))) (show (100000 + 100 * ((h + (-1)) + 1) + 50).toNat < N_ from by omega)
        · refine j_iload_n (pc := 51) dX12_findPitches_51 rfl rfl ?_
          refine j_iload_n (pc := 52) dX12_findPitches_52 rfl rfl ?_
          refine j_icmpR_ge (pc := 53) (tgt := 144) ⟨by omega, by omega⟩ ⟨by omega, by omega⟩ dX12_findPitches_53 rfl (fun h12 => ?_) (fun h12 => ?_)
          · refine j_iinc (pc := 144) (i := 2) (n := -1) (ls' := [(0, vR 88), (1, vI t), (2, vI (h + (-1)))]) [1, 2, 0] dX12_findPitches_144 rfl (Nat.le_of_ble_eq_true rfl) rfl rfl ?_
            refine j_goto (pc := 147) (tgt := 9) dX12_findPitches_147 rfl ?_
            refine j_ls (ls' := [(0, vR 88), (1, vI t), (2, vI (h + (-1)))]) [0, 1, 2] rfl ?_
            exact ih.1 t ⟨by omega, by omega⟩ (h + (-1)) ⟨by omega, by omega⟩ τ hIτ hFτ (show t = σ 91 0 from by omega) (show (h + (-1)) ≤ t from by omega) (show ∀ j : Int, (h + (-1)) < j → j ≤ t → TOK (σ 91 0) (okP σ) (τ 99) j from (fun j h1 h2 => i3 j (by omega) (by omega))) (show (100000 + 100 * ((h + (-1)) + 1) + 50).toNat < N_ from by omega)
          · refine j_aload_n (pc := 56) dX12_findPitches_56 rfl rfl ?_
            refine j_iload_n (pc := 57) dX12_findPitches_57 rfl rfl ?_
            refine j_callV (pc := 58) (As := [vI f]) (st := []) (c_X12_isStance hM f ⟨by omega, by omega⟩ τ hIτ) mv_X12_323 rfl rfl rfl (a_88 hM) dX12_findPitches_58 ⟨Nat.le_of_ble_eq_true rfl, Nat.le_of_ble_eq_true rfl⟩ ⟨Nat.le_refl _, Nat.le_refl _⟩ rfl (Nat.le_of_ble_eq_true rfl) rfl (fun z13 σ14 hz13 => ?_)
            obtain ⟨r16, rfl, hr16, rfl, q15_0⟩ := hz13
            replace q15_0 : (r16 = 1 ∧ mSt τ f) ∨ (r16 = 0 ∧ ¬ mSt τ f) := q15_0
            refine j_st (st' := [vI r16]) rfl ?_
            refine j_ifR_eq (pc := 61) (tgt := 79) ⟨by omega, by omega⟩ dX12_findPitches_61 rfl (fun h17 => ?_) (fun h17 => ?_)
            · refine j_iconst (pc := 79) dX12_findPitches_79 ?_
              refine j_istore (pc := 80) (i := 4) (ls' := [(0, vR 88), (1, vI t), (2, vI h), (3, vI f), (4, vI 0)]) [1, 2, 3, 4, 0] dX12_findPitches_80 (Nat.le_of_ble_eq_true rfl) rfl rfl ?_
              refine j_aload_n (pc := 82) dX12_findPitches_82 rfl rfl ?_
              refine j_getR (pc := 83) (r := 99) fl_X12_41 dX12_findPitches_83 (a_88 hM) rfl ?_
              refine j_iload_n (pc := 86) dX12_findPitches_86 rfl rfl ?_
              refine j_iload (pc := 87) dX12_findPitches_87 rfl ?_
              refine j_ifR_eq (pc := 89) (tgt := 131) ⟨by omega, by omega⟩ dX12_findPitches_89 rfl (fun h18 => ?_) (fun h18 => by exfalso; omega)
              refine j_aload_n (pc := 131) dX12_findPitches_131 rfl rfl ?_
              refine j_getR (pc := 132) (r := 99) fl_X12_41 dX12_findPitches_132 (a_88 hM) rfl ?_
              refine j_iload_n (pc := 135) dX12_findPitches_135 rfl rfl ?_
              refine j_iald (pc := 136) dX12_findPitches_136 (a_99 hM) (by omega) (by omega) (by decide) ?_
              have f19 : (-4 : Int) ≤ τ 99 (h.toNat) ∧ τ 99 (h.toNat) ≤ 40 := hIτ 99 (h.toNat)
              refine j_iast (pc := 137) dX12_findPitches_137 (a_99 hM) (by omega) (by omega) (by decide) (j_nm (fun σ20 (eσ20 : σ20 = tw_up τ 99 (h.toNat) (τ 99 (h.toNat))) => ?_))
              have hIσ20 : tw_I σ20 := tw_I_up hIτ eσ20 (show (-4 : Int) ≤ τ 99 (h.toNat) ∧ τ 99 (h.toNat) ≤ 40 from ⟨by omega, by omega⟩)
              have hFσ20 : tw_F (fun c j => (c = 88 ∧ (j = 30)) ∨ (99 ≤ c ∧ c < 101)) σ σ20 := tw_F_up hFτ eσ20 (show (99 = 88 ∧ (h.toNat = 30)) ∨ (99 ≤ 99 ∧ 99 < 101) from (Or.inr (by decide)))
              refine j_iinc (pc := 138) (i := 3) (n := 1) (ls' := [(0, vR 88), (1, vI t), (2, vI h), (3, vI (f + 1))]) [1, 2, 3, 0] dX12_findPitches_138 rfl (Nat.le_of_ble_eq_true rfl) rfl rfl ?_
              refine j_goto (pc := 141) (tgt := 34) dX12_findPitches_141 rfl ?_
              refine j_ls (ls' := [(0, vR 88), (1, vI t), (2, vI h), (3, vI (f + 1))]) [0, 1, 2, 3] rfl ?_
              exact ih.2.1 t ⟨by omega, by omega⟩ h ⟨by omega, by omega⟩ (f + 1) ⟨by omega, by omega⟩ σ20 hIσ20 hFσ20 (show t = σ 91 0 from by omega) (show h ≤ t from by omega) (show h < (f + 1) from by omega) (show ∀ j : Int, h ≤ j → j ≤ t → TOK (σ 91 0) (okP σ) (σ20 99) j from (by first | exact fun j h1 h2 => TOK_up eσ20 (by omega) (fun j h1 h2 => i2 j h1 (by omega)) (by first | exact Or.inl rfl | exact Or.inr (Or.inl rfl)) j h1 (by omega) | exact fun j h1 h2 => TOK_up eσ20 (by omega) (fun j h1 h2 => i3 j (by omega) (by omega)) (TOK_old (i3 h (by omega) (by omega)) (by rfl)) j h1 (by omega) | exact fun j h1 h2 => TOK_up eσ20 (by omega) (fun j h1 h2 => i3 j (by omega) (by omega)) (TOK_new (f := f) (by omega) (by omega) g9 (by omega) (i3 f (by omega) (by omega)) (by rfl)) j h1 (by omega))) (show (100000 + 100 * (h + 1) + 41 - (f + 1)).toNat < N_ from by omega)
            · have g9 : okP σ h f := (s9 f).mp ((b01 q15_0).1 (by omega))
              refine j_aload_n (pc := 64) dX12_findPitches_64 rfl rfl ?_
              refine j_getR (pc := 65) (r := 99) fl_X12_41 dX12_findPitches_65 (a_88 hM) rfl ?_
              refine j_iload_n (pc := 68) dX12_findPitches_68 rfl rfl ?_
              refine j_iald (pc := 69) dX12_findPitches_69 (a_99 hM) (by omega) (by omega) (by decide) ?_
              have f21 : (-4 : Int) ≤ τ 99 (f.toNat) ∧ τ 99 (f.toNat) ≤ 40 := hIτ 99 (f.toNat)
              refine j_bipush (pc := 70) dX12_findPitches_70 rfl ?_
              refine j_icmpR_eq (pc := 72) (tgt := 79) ⟨by omega, by omega⟩ ⟨by omega, by omega⟩ dX12_findPitches_72 rfl (fun h22 => ?_) (fun h22 => ?_)
              · refine j_iconst (pc := 79) dX12_findPitches_79 ?_
                refine j_istore (pc := 80) (i := 4) (ls' := [(0, vR 88), (1, vI t), (2, vI h), (3, vI f), (4, vI 0)]) [1, 2, 3, 4, 0] dX12_findPitches_80 (Nat.le_of_ble_eq_true rfl) rfl rfl ?_
                refine j_aload_n (pc := 82) dX12_findPitches_82 rfl rfl ?_
                refine j_getR (pc := 83) (r := 99) fl_X12_41 dX12_findPitches_83 (a_88 hM) rfl ?_
                refine j_iload_n (pc := 86) dX12_findPitches_86 rfl rfl ?_
                refine j_iload (pc := 87) dX12_findPitches_87 rfl ?_
                refine j_ifR_eq (pc := 89) (tgt := 131) ⟨by omega, by omega⟩ dX12_findPitches_89 rfl (fun h23 => ?_) (fun h23 => by exfalso; omega)
                refine j_aload_n (pc := 131) dX12_findPitches_131 rfl rfl ?_
                refine j_getR (pc := 132) (r := 99) fl_X12_41 dX12_findPitches_132 (a_88 hM) rfl ?_
                refine j_iload_n (pc := 135) dX12_findPitches_135 rfl rfl ?_
                refine j_iald (pc := 136) dX12_findPitches_136 (a_99 hM) (by omega) (by omega) (by decide) ?_
                have f24 : (-4 : Int) ≤ τ 99 (h.toNat) ∧ τ 99 (h.toNat) ≤ 40 := hIτ 99 (h.toNat)
                refine j_iast (pc := 137) dX12_findPitches_137 (a_99 hM) (by omega) (by omega) (by decide) (j_nm (fun σ25 (eσ25 : σ25 = tw_up τ 99 (h.toNat) (τ 99 (h.toNat))) => ?_))
                have hIσ25 : tw_I σ25 := tw_I_up hIτ eσ25 (show (-4 : Int) ≤ τ 99 (h.toNat) ∧ τ 99 (h.toNat) ≤ 40 from ⟨by omega, by omega⟩)
                have hFσ25 : tw_F (fun c j => (c = 88 ∧ (j = 30)) ∨ (99 ≤ c ∧ c < 101)) σ σ25 := tw_F_up hFτ eσ25 (show (99 = 88 ∧ (h.toNat = 30)) ∨ (99 ≤ 99 ∧ 99 < 101) from (Or.inr (by decide)))
                refine j_iinc (pc := 138) (i := 3) (n := 1) (ls' := [(0, vR 88), (1, vI t), (2, vI h), (3, vI (f + 1))]) [1, 2, 3, 0] dX12_findPitches_138 rfl (Nat.le_of_ble_eq_true rfl) rfl rfl ?_
                refine j_goto (pc := 141) (tgt := 34) dX12_findPitches_141 rfl ?_
                refine j_ls (ls' := [(0, vR 88), (1, vI t), (2, vI h), (3, vI (f + 1))]) [0, 1, 2, 3] rfl ?_
                exact ih.2.1 t ⟨by omega, by omega⟩ h ⟨by omega, by omega⟩ (f + 1) ⟨by omega, by omega⟩ σ25 hIσ25 hFσ25 (show t = σ 91 0 from by omega) (show h ≤ t from by omega) (show h < (f + 1) from by omega) (show ∀ j : Int, h ≤ j → j ≤ t → TOK (σ 91 0) (okP σ) (σ25 99) j from (by first | exact fun j h1 h2 => TOK_up eσ25 (by omega) (fun j h1 h2 => i2 j h1 (by omega)) (by first | exact Or.inl rfl | exact Or.inr (Or.inl rfl)) j h1 (by omega) | exact fun j h1 h2 => TOK_up eσ25 (by omega) (fun j h1 h2 => i3 j (by omega) (by omega)) (TOK_old (i3 h (by omega) (by omega)) (by rfl)) j h1 (by omega) | exact fun j h1 h2 => TOK_up eσ25 (by omega) (fun j h1 h2 => i3 j (by omega) (by omega)) (TOK_new (f := f) (by omega) (by omega) g9 (by omega) (i3 f (by omega) (by omega)) (by rfl)) j h1 (by omega))) (show (100000 + 100 * (h + 1) + 41 - (f + 1)).toNat < N_ from by omega)
              · refine j_iconst (pc := 75) dX12_findPitches_75 ?_
                refine j_goto (pc := 76) (tgt := 80) dX12_findPitches_76 rfl ?_
                refine j_istore (pc := 80) (i := 4) (ls' := [(0, vR 88), (1, vI t), (2, vI h), (3, vI f), (4, vI 1)]) [1, 2, 3, 4, 0] dX12_findPitches_80 (Nat.le_of_ble_eq_true rfl) rfl rfl ?_
                refine j_aload_n (pc := 82) dX12_findPitches_82 rfl rfl ?_
                refine j_getR (pc := 83) (r := 99) fl_X12_41 dX12_findPitches_83 (a_88 hM) rfl ?_
                refine j_iload_n (pc := 86) dX12_findPitches_86 rfl rfl ?_
                refine j_iload (pc := 87) dX12_findPitches_87 rfl ?_
                refine j_ifR_eq (pc := 89) (tgt := 131) ⟨by omega, by omega⟩ dX12_findPitches_89 rfl (fun h26 => by exfalso; omega) (fun h26 => ?_)
                refine j_aload_n (pc := 92) dX12_findPitches_92 rfl rfl ?_
                refine j_getR (pc := 93) (r := 99) fl_X12_41 dX12_findPitches_93 (a_88 hM) rfl ?_
                refine j_iload_n (pc := 96) dX12_findPitches_96 rfl rfl ?_
                refine j_iald (pc := 97) dX12_findPitches_97 (a_99 hM) (by omega) (by omega) (by decide) ?_
                have f27 : (-4 : Int) ≤ τ 99 (h.toNat) ∧ τ 99 (h.toNat) ≤ 40 := hIτ 99 (h.toNat)
                refine j_bipush (pc := 98) dX12_findPitches_98 rfl ?_
                refine j_icmpR_eq (pc := 100) (tgt := 120) ⟨by omega, by omega⟩ ⟨by omega, by omega⟩ dX12_findPitches_100 rfl (fun h28 => ?_) (fun h28 => ?_)
                · have b9 := TOK_in (i3 f (by omega) (by omega)) (by omega) (by omega)
                  refine j_aload_n (pc := 120) dX12_findPitches_120 rfl rfl ?_
                  refine j_getR (pc := 121) (r := 99) fl_X12_41 dX12_findPitches_121 (a_88 hM) rfl ?_
                  refine j_iload_n (pc := 124) dX12_findPitches_124 rfl rfl ?_
                  refine j_iald (pc := 125) dX12_findPitches_125 (a_99 hM) (by omega) (by omega) (by decide) ?_
                  refine j_iconst (pc := 126) dX12_findPitches_126 ?_
                  refine j_iadd (pc := 127) dX12_findPitches_127 ?_
                  refine j_goto (pc := 128) (tgt := 137) dX12_findPitches_128 rfl ?_
                  refine j_iast (pc := 137) dX12_findPitches_137 (a_99 hM) (by omega) (by omega) (by decide) (j_nm (fun σ29 (eσ29 : σ29 = tw_up τ 99 (h.toNat) ((τ 99 (f.toNat)) + 1)) => ?_))
                  have hIσ29 : tw_I σ29 := tw_I_up hIτ eσ29 (show (-4 : Int) ≤ (τ 99 (f.toNat)) + 1 ∧ (τ 99 (f.toNat)) + 1 ≤ 40 from ⟨by omega, by omega⟩)
                  have hFσ29 : tw_F (fun c j => (c = 88 ∧ (j = 30)) ∨ (99 ≤ c ∧ c < 101)) σ σ29 := tw_F_up hFτ eσ29 (show (99 = 88 ∧ (h.toNat = 30)) ∨ (99 ≤ 99 ∧ 99 < 101) from (Or.inr (by decide)))
                  refine j_iinc (pc := 138) (i := 3) (n := 1) (ls' := [(0, vR 88), (1, vI t), (2, vI h), (3, vI (f + 1))]) [1, 2, 3, 0] dX12_findPitches_138 rfl (Nat.le_of_ble_eq_true rfl) rfl rfl ?_
                  refine j_goto (pc := 141) (tgt := 34) dX12_findPitches_141 rfl ?_
                  refine j_ls (ls' := [(0, vR 88), (1, vI t), (2, vI h), (3, vI (f + 1))]) [0, 1, 2, 3] rfl ?_
                  exact ih.2.1 t ⟨by omega, by omega⟩ h ⟨by omega, by omega⟩ (f + 1) ⟨by omega, by omega⟩ σ29 hIσ29 hFσ29 (show t = σ 91 0 from by omega) (show h ≤ t from by omega) (show h < (f + 1) from by omega) (show ∀ j : Int, h ≤ j → j ≤ t → TOK (σ 91 0) (okP σ) (σ29 99) j from (by first | exact fun j h1 h2 => TOK_up eσ29 (by omega) (fun j h1 h2 => i2 j h1 (by omega)) (by first | exact Or.inl rfl | exact Or.inr (Or.inl rfl)) j h1 (by omega) | exact fun j h1 h2 => TOK_up eσ29 (by omega) (fun j h1 h2 => i3 j (by omega) (by omega)) (TOK_old (i3 h (by omega) (by omega)) (by rfl)) j h1 (by omega) | exact fun j h1 h2 => TOK_up eσ29 (by omega) (fun j h1 h2 => i3 j (by omega) (by omega)) (TOK_new (f := f) (by omega) (by omega) g9 (by omega) (i3 f (by omega) (by omega)) (by rfl)) j h1 (by omega))) (show (100000 + 100 * (h + 1) + 41 - (f + 1)).toNat < N_ from by omega)
                · refine j_aload_n (pc := 103) dX12_findPitches_103 rfl rfl ?_
                  refine j_getR (pc := 104) (r := 99) fl_X12_41 dX12_findPitches_104 (a_88 hM) rfl ?_
                  refine j_iload_n (pc := 107) dX12_findPitches_107 rfl rfl ?_
                  refine j_iald (pc := 108) dX12_findPitches_108 (a_99 hM) (by omega) (by omega) (by decide) ?_
                  refine j_iconst (pc := 109) dX12_findPitches_109 ?_
                  refine j_iadd (pc := 110) dX12_findPitches_110 ?_
                  refine j_aload_n (pc := 111) dX12_findPitches_111 rfl rfl ?_
                  refine j_getR (pc := 112) (r := 99) fl_X12_41 dX12_findPitches_112 (a_88 hM) rfl ?_
                  refine j_iload_n (pc := 115) dX12_findPitches_115 rfl rfl ?_
                  refine j_iald (pc := 116) dX12_findPitches_116 (a_99 hM) (by omega) (by omega) (by decide) ?_
                  refine j_icmpR_ge (pc := 117) (tgt := 131) ⟨by omega, by omega⟩ ⟨by omega, by omega⟩ dX12_findPitches_117 rfl (fun h30 => ?_) (fun h30 => ?_)
                  · refine j_aload_n (pc := 131) dX12_findPitches_131 rfl rfl ?_
                    refine j_getR (pc := 132) (r := 99) fl_X12_41 dX12_findPitches_132 (a_88 hM) rfl ?_
                    refine j_iload_n (pc := 135) dX12_findPitches_135 rfl rfl ?_
                    refine j_iald (pc := 136) dX12_findPitches_136 (a_99 hM) (by omega) (by omega) (by decide) ?_
                    refine j_iast (pc := 137) dX12_findPitches_137 (a_99 hM) (by omega) (by omega) (by decide) (j_nm (fun σ31 (eσ31 : σ31 = tw_up τ 99 (h.toNat) (τ 99 (h.toNat))) => ?_))
                    have hIσ31 : tw_I σ31 := tw_I_up hIτ eσ31 (show (-4 : Int) ≤ τ 99 (h.toNat) ∧ τ 99 (h.toNat) ≤ 40 from ⟨by omega, by omega⟩)
                    have hFσ31 : tw_F (fun c j => (c = 88 ∧ (j = 30)) ∨ (99 ≤ c ∧ c < 101)) σ σ31 := tw_F_up hFτ eσ31 (show (99 = 88 ∧ (h.toNat = 30)) ∨ (99 ≤ 99 ∧ 99 < 101) from (Or.inr (by decide)))
                    refine j_iinc (pc := 138) (i := 3) (n := 1) (ls' := [(0, vR 88), (1, vI t), (2, vI h), (3, vI (f + 1))]) [1, 2, 3, 0] dX12_findPitches_138 rfl (Nat.le_of_ble_eq_true rfl) rfl rfl ?_
                    refine j_goto (pc := 141) (tgt := 34) dX12_findPitches_141 rfl ?_
                    refine j_ls (ls' := [(0, vR 88), (1, vI t), (2, vI h), (3, vI (f + 1))]) [0, 1, 2, 3] rfl ?_
                    exact ih.2.1 t ⟨by omega, by omega⟩ h ⟨by omega, by omega⟩ (f + 1) ⟨by omega, by omega⟩ σ31 hIσ31 hFσ31 (show t = σ 91 0 from by omega) (show h ≤ t from by omega) (show h < (f + 1) from by omega) (show ∀ j : Int, h ≤ j → j ≤ t → TOK (σ 91 0) (okP σ) (σ31 99) j from (by first | exact fun j h1 h2 => TOK_up eσ31 (by omega) (fun j h1 h2 => i2 j h1 (by omega)) (by first | exact Or.inl rfl | exact Or.inr (Or.inl rfl)) j h1 (by omega) | exact fun j h1 h2 => TOK_up eσ31 (by omega) (fun j h1 h2 => i3 j (by omega) (by omega)) (TOK_old (i3 h (by omega) (by omega)) (by rfl)) j h1 (by omega) | exact fun j h1 h2 => TOK_up eσ31 (by omega) (fun j h1 h2 => i3 j (by omega) (by omega)) (TOK_new (f := f) (by omega) (by omega) g9 (by omega) (i3 f (by omega) (by omega)) (by rfl)) j h1 (by omega))) (show (100000 + 100 * (h + 1) + 41 - (f + 1)).toNat < N_ from by omega)
                  · have b9 := TOK_in (i3 f (by omega) (by omega)) (by omega) (by omega)
                    refine j_aload_n (pc := 120) dX12_findPitches_120 rfl rfl ?_
                    refine j_getR (pc := 121) (r := 99) fl_X12_41 dX12_findPitches_121 (a_88 hM) rfl ?_
                    refine j_iload_n (pc := 124) dX12_findPitches_124 rfl rfl ?_
                    refine j_iald (pc := 125) dX12_findPitches_125 (a_99 hM) (by omega) (by omega) (by decide) ?_
                    refine j_iconst (pc := 126) dX12_findPitches_126 ?_
                    refine j_iadd (pc := 127) dX12_findPitches_127 ?_
                    refine j_goto (pc := 128) (tgt := 137) dX12_findPitches_128 rfl ?_
                    refine j_iast (pc := 137) dX12_findPitches_137 (a_99 hM) (by omega) (by omega) (by decide) (j_nm (fun σ32 (eσ32 : σ32 = tw_up τ 99 (h.toNat) ((τ 99 (f.toNat)) + 1)) => ?_))
                    have hIσ32 : tw_I σ32 := tw_I_up hIτ eσ32 (show (-4 : Int) ≤ (τ 99 (f.toNat)) + 1 ∧ (τ 99 (f.toNat)) + 1 ≤ 40 from ⟨by omega, by omega⟩)
                    have hFσ32 : tw_F (fun c j => (c = 88 ∧ (j = 30)) ∨ (99 ≤ c ∧ c < 101)) σ σ32 := tw_F_up hFτ eσ32 (show (99 = 88 ∧ (h.toNat = 30)) ∨ (99 ≤ 99 ∧ 99 < 101) from (Or.inr (by decide)))
                    refine j_iinc (pc := 138) (i := 3) (n := 1) (ls' := [(0, vR 88), (1, vI t), (2, vI h), (3, vI (f + 1))]) [1, 2, 3, 0] dX12_findPitches_138 rfl (Nat.le_of_ble_eq_true rfl) rfl rfl ?_
                    refine j_goto (pc := 141) (tgt := 34) dX12_findPitches_141 rfl ?_
                    refine j_ls (ls' := [(0, vR 88), (1, vI t), (2, vI h), (3, vI (f + 1))]) [0, 1, 2, 3] rfl ?_
                    exact ih.2.1 t ⟨by omega, by omega⟩ h ⟨by omega, by omega⟩ (f + 1) ⟨by omega, by omega⟩ σ32 hIσ32 hFσ32 (show t = σ 91 0 from by omega) (show h ≤ t from by omega) (show h < (f + 1) from by omega) (show ∀ j : Int, h ≤ j → j ≤ t → TOK (σ 91 0) (okP σ) (σ32 99) j from (by first | exact fun j h1 h2 => TOK_up eσ32 (by omega) (fun j h1 h2 => i2 j h1 (by omega)) (by first | exact Or.inl rfl | exact Or.inr (Or.inl rfl)) j h1 (by omega) | exact fun j h1 h2 => TOK_up eσ32 (by omega) (fun j h1 h2 => i3 j (by omega) (by omega)) (TOK_old (i3 h (by omega) (by omega)) (by rfl)) j h1 (by omega) | exact fun j h1 h2 => TOK_up eσ32 (by omega) (fun j h1 h2 => i3 j (by omega) (by omega)) (TOK_new (f := f) (by omega) (by omega) g9 (by omega) (i3 f (by omega) (by omega)) (by rfl)) j h1 (by omega))) (show (100000 + 100 * (h + 1) + 41 - (f + 1)).toNat < N_ from by omega)
    · intro a ha i hi τ hIτ hFτ i0 i1 i2 hm
      have ft : (1 : Int) ≤ σ 91 0 ∧ σ 91 0 ≤ 40 := hI 91 0
      have f91 := hFτ 91 0 (show ¬ ((91 = 88 ∧ (0 = 30)) ∨ (99 ≤ 91 ∧ 91 < 101)) from by decide)
      refine j_iload_n (pc := 164) dX12_findPitches_164 rfl rfl ?_
      refine j_aload_n (pc := 165) dX12_findPitches_165 rfl rfl ?_
      refine j_getI (pc := 166) fl_X12_326 dX12_findPitches_166 (a_88 hM) rfl ?_
      have f33 : (-4 : Int) ≤ τ 88 30 ∧ τ 88 30 ≤ 40 := hIτ 88 30
      refine j_icmpR_ge (pc := 169) (tgt := 239) ⟨by omega, by omega⟩ ⟨by omega, by omega⟩ dX12_findPitches_169 rfl (fun h34 => ?_) (fun h34 => ?_)
      · exact j_vret (pc := 239) ⟨rfl, rfl⟩ dX12_findPitches_239 rfl ⟨rfl, hIτ, hFτ, trivial⟩
      · refine j_iload_n (pc := 172) dX12_findPitches_172 rfl rfl ?_
        refine j_iconst (pc := 173) dX12_findPitches_173 ?_
        refine j_iadd (pc := 174) dX12_findPitches_174 ?_
        refine j_istore (pc := 175) (i := 4) (ls' := [(0, vR 88), (2, vI a), (3, vI i), (4, vI (a + 1))]) [1, 2, 3, 0] dX12_findPitches_175 (Nat.le_of_ble_eq_true rfl) rfl rfl ?_
        refine j_ls (ls' := [(0, vR 88), (2, vI a), (3, vI i), (4, vI (a + 1))]) [0, 1, 2, 3] rfl ?_
        exact ih.2.2.2 a ⟨by omega, by omega⟩ i ⟨by omega, by omega⟩ (a + 1) ⟨by omega, by omega⟩ τ hIτ hFτ (show ∀ j : Int, 0 ≤ j → j ≤ σ 91 0 → TOK (σ 91 0) (okP σ) (τ 99) j from i0) (show a ≤ σ 91 0 from by omega) (show a < (a + 1) from by omega) (show i < τ 88 30 ∧ τ 99 a.toNat = τ 88 30 - i from by omega) (show TW (σ 91 0) (okP σ) (τ 99) a (a + 1) from (by first | exact TW_s i4 n9 | exact TW_0 (i0 a (by omega) (by omega)) (by omega))) (show (100 * (41 - i) + 41 - (a + 1)).toNat < N_ from by omega)
    · intro a ha i hi f hf τ hIτ hFτ i0 i1 i2 i3 i4 hm
      have ft : (1 : Int) ≤ σ 91 0 ∧ σ 91 0 ≤ 40 := hI 91 0
      have f91 := hFτ 91 0 (show ¬ ((91 = 88 ∧ (0 = 30)) ∨ (99 ≤ 91 ∧ 91 < 101)) from by decide)
      have s9 : ∀ x, mSt τ x ↔ mSt σ x := fun x => mSt_congr (fun j => hFτ 92 j (show ¬ ((92 = 88 ∧ (j = 30)) ∨ (99 ≤ 92 ∧ 92 < 101)) from fun h => h.elim (fun h => absurd h.1 (by decide)) (fun h => absurd h (by decide)))) (hFτ 91 0 (show ¬ ((91 = 88 ∧ (0 = 30)) ∨ (99 ≤ 91 ∧ 91 < 101)) from by decide))
      have w9 := TW_le i4
      refine j_aload_n (pc := 177) dX12_findPitches_177 rfl rfl ?_
      refine j_iload (pc := 178) dX12_findPitches_178 rfl ?_
      refine j_callV (pc := 180) (As := [vI f]) (st := []) (c_X12_isStance hM f ⟨by omega, by omega⟩ τ hIτ) mv_X12_323 rfl rfl rfl (a_88 hM) dX12_findPitches_180 ⟨Nat.le_of_ble_eq_true rfl, Nat.le_of_ble_eq_true rfl⟩ ⟨Nat.le_refl _, Nat.le_refl _⟩ rfl (Nat.le_of_ble_eq_true rfl) rfl (fun z35 σ36 hz35 => ?_)
      obtain ⟨r38, rfl, hr38, rfl, q37_0⟩ := hz35
      replace q37_0 : (r38 = 1 ∧ mSt τ f) ∨ (r38 = 0 ∧ ¬ mSt τ f) := q37_0
      refine j_st (st' := [vI r38]) rfl ?_
      refine j_ifR_eq (pc := 183) (tgt := 216) ⟨by omega, by omega⟩ dX12_findPitches_183 rfl (fun h39 => ?_) (fun h39 => ?_)
      · have n9 : ¬ (okP σ a f ∧ ¬ τ 99 f.toNat = -4 ∧ τ 99 f.toNat + 1 = τ 99 a.toNat) := by
          rintro ⟨a1, a2, a3⟩
          first
          | omega
          | exact (b01 q37_0).2 (by omega) ((s9 f).mpr a1)
        refine j_iinc (pc := 216) (i := 4) (n := 1) (ls' := [(0, vR 88), (2, vI a), (3, vI i), (4, vI (f + 1))]) [1, 2, 3, 0] dX12_findPitches_216 rfl (Nat.le_of_ble_eq_true rfl) rfl rfl ?_
        refine j_goto (pc := 219) (tgt := 177) dX12_findPitches_219 rfl ?_
        refine j_ls (ls' := [(0, vR 88), (2, vI a), (3, vI i), (4, vI (f + 1))]) [0, 1, 2, 3] rfl ?_
        exact ih.2.2.2 a ⟨by omega, by omega⟩ i ⟨by omega, by omega⟩ (f + 1) ⟨by omega, by omega⟩ τ hIτ hFτ (show ∀ j : Int, 0 ≤ j → j ≤ σ 91 0 → TOK (σ 91 0) (okP σ) (τ 99) j from i0) (show a ≤ σ 91 0 from by omega) (show a < (f + 1) from by omega) (show i < τ 88 30 ∧ τ 99 a.toNat = τ 88 30 - i from by omega) (show TW (σ 91 0) (okP σ) (τ 99) a (f + 1) from (by first | exact TW_s i4 n9 | exact TW_0 (i0 a (by omega) (by omega)) (by omega))) (show (100 * (41 - i) + 41 - (f + 1)).toNat < N_ from by omega)
      · refine j_aload_n (pc := 186) dX12_findPitches_186 rfl rfl ?_
        refine j_getR (pc := 187) (r := 99) fl_X12_41 dX12_findPitches_187 (a_88 hM) rfl ?_
        refine j_iload (pc := 190) dX12_findPitches_190 rfl ?_
        refine j_iald (pc := 192) dX12_findPitches_192 (a_99 hM) (by omega) (by omega) (by decide) ?_
        have f40 : (-4 : Int) ≤ τ 99 (f.toNat) ∧ τ 99 (f.toNat) ≤ 40 := hIτ 99 (f.toNat)
        refine j_bipush (pc := 193) dX12_findPitches_193 rfl ?_
        refine j_icmpR_eq (pc := 195) (tgt := 216) ⟨by omega, by omega⟩ ⟨by omega, by omega⟩ dX12_findPitches_195 rfl (fun h41 => ?_) (fun h41 => ?_)
        · have n9 : ¬ (okP σ a f ∧ ¬ τ 99 f.toNat = -4 ∧ τ 99 f.toNat + 1 = τ 99 a.toNat) := by
            rintro ⟨a1, a2, a3⟩
            first
            | omega
            | exact (b01 q37_0).2 (by omega) ((s9 f).mpr a1)
          refine j_iinc (pc := 216) (i := 4) (n := 1) (ls' := [(0, vR 88), (2, vI a), (3, vI i), (4, vI (f + 1))]) [1, 2, 3, 0] dX12_findPitches_216 rfl (Nat.le_of_ble_eq_true rfl) rfl rfl ?_
          refine j_goto (pc := 219) (tgt := 177) dX12_findPitches_219 rfl ?_
          refine j_ls (ls' := [(0, vR 88), (2, vI a), (3, vI i), (4, vI (f + 1))]) [0, 1, 2, 3] rfl ?_
          exact ih.2.2.2 a ⟨by omega, by omega⟩ i ⟨by omega, by omega⟩ (f + 1) ⟨by omega, by omega⟩ τ hIτ hFτ (show ∀ j : Int, 0 ≤ j → j ≤ σ 91 0 → TOK (σ 91 0) (okP σ) (τ 99) j from i0) (show a ≤ σ 91 0 from by omega) (show a < (f + 1) from by omega) (show i < τ 88 30 ∧ τ 99 a.toNat = τ 88 30 - i from by omega) (show TW (σ 91 0) (okP σ) (τ 99) a (f + 1) from (by first | exact TW_s i4 n9 | exact TW_0 (i0 a (by omega) (by omega)) (by omega))) (show (100 * (41 - i) + 41 - (f + 1)).toNat < N_ from by omega)
        · refine j_aload_n (pc := 198) dX12_findPitches_198 rfl rfl ?_
          refine j_getR (pc := 199) (r := 99) fl_X12_41 dX12_findPitches_199 (a_88 hM) rfl ?_
          refine j_iload (pc := 202) dX12_findPitches_202 rfl ?_
          refine j_iald (pc := 204) dX12_findPitches_204 (a_99 hM) (by omega) (by omega) (by decide) ?_
          refine j_iconst (pc := 205) dX12_findPitches_205 ?_
          refine j_iadd (pc := 206) dX12_findPitches_206 ?_
          refine j_aload_n (pc := 207) dX12_findPitches_207 rfl rfl ?_
          refine j_getR (pc := 208) (r := 99) fl_X12_41 dX12_findPitches_208 (a_88 hM) rfl ?_
          refine j_iload_n (pc := 211) dX12_findPitches_211 rfl rfl ?_
          refine j_iald (pc := 212) dX12_findPitches_212 (a_99 hM) (by omega) (by omega) (by decide) ?_
          have f42 : (-4 : Int) ≤ τ 99 (a.toNat) ∧ τ 99 (a.toNat) ≤ 40 := hIτ 99 (a.toNat)
          refine j_icmpR_eq (pc := 213) (tgt := 222) ⟨by omega, by omega⟩ ⟨by omega, by omega⟩ dX12_findPitches_213 rfl (fun h43 => ?_) (fun h43 => ?_)
          · refine j_aload_n (pc := 222) dX12_findPitches_222 rfl rfl ?_
            refine j_getR (pc := 223) (r := 100) fl_X12_44 dX12_findPitches_223 (a_88 hM) rfl ?_
            refine j_iload_n (pc := 226) dX12_findPitches_226 rfl rfl ?_
            refine j_iload (pc := 227) dX12_findPitches_227 rfl ?_
            refine j_iast (pc := 229) dX12_findPitches_229 (a_100 hM) (by omega) (by omega) (by decide) (j_nm (fun σ44 (eσ44 : σ44 = tw_up τ 100 (i.toNat) f) => ?_))
            have hIσ44 : tw_I σ44 := tw_I_up hIτ eσ44 (show (0 : Int) ≤ f ∧ f ≤ 40 from ⟨by omega, by omega⟩)
            have hFσ44 : tw_F (fun c j => (c = 88 ∧ (j = 30)) ∨ (99 ≤ c ∧ c < 101)) σ σ44 := tw_F_up hFτ eσ44 (show (100 = 88 ∧ (i.toNat = 30)) ∨ (99 ≤ 100 ∧ 100 < 101) from (Or.inr (by decide)))
            refine j_iload (pc := 230) dX12_findPitches_230 rfl ?_
            refine j_istore_n (pc := 232) (i := 2) (ls' := [(0, vR 88), (2, vI f), (3, vI i)]) [1, 0, 2] dX12_findPitches_232 rfl (Nat.le_of_ble_eq_true rfl) rfl rfl ?_
            refine j_iinc (pc := 233) (i := 3) (n := 1) (ls' := [(0, vR 88), (2, vI f), (3, vI (i + 1))]) [1, 2, 0] dX12_findPitches_233 rfl (Nat.le_of_ble_eq_true rfl) rfl rfl ?_
            refine j_goto (pc := 236) (tgt := 164) dX12_findPitches_236 rfl ?_
            refine j_ls (ls' := [(0, vR 88), (2, vI f), (3, vI (i + 1))]) [0, 1, 2] rfl ?_
            have y45 : σ44 88 30 = τ 88 30 := (tw_ne1 eσ44 (by (first | decide | omega)))
            have f46 : (-4 : Int) ≤ τ 88 30 ∧ τ 88 30 ≤ 40 := hIτ 88 30
            have y47 : σ44 99 (f.toNat) = τ 99 (f.toNat) := (tw_ne1 eσ44 (by (first | decide | omega)))
            exact ih.2.2.1 f ⟨by omega, by omega⟩ (i + 1) ⟨by omega, by omega⟩ σ44 hIσ44 hFσ44 (show ∀ j : Int, 0 ≤ j → j ≤ σ 91 0 → TOK (σ 91 0) (okP σ) (σ44 99) j from (by first | exact (fun j h1 h2 => TOK_F (fun x => tw_ne1 eσ44 (by (first | decide | omega))) (i0 j h1 h2)) | exact (fun j h1 h2 => TOK_F (fun x => tw_ne1 eσ44 (by (first | decide | omega))) (i2 j (by omega) (by omega))))) (show f ≤ σ 91 0 from by omega) (show σ44 88 30 = -4 ∨ ((i + 1) ≤ σ44 88 30 ∧ σ44 99 f.toNat = σ44 88 30 - (i + 1)) from (by first | exact PT_0 eσ44 (i2 0 (by omega) (by omega)) (by omega) | omega)) (show (100 * (41 - (i + 1)) + 50).toNat < N_ from by omega)
          · have n9 : ¬ (okP σ a f ∧ ¬ τ 99 f.toNat = -4 ∧ τ 99 f.toNat + 1 = τ 99 a.toNat) := by
              rintro ⟨a1, a2, a3⟩
              first
              | omega
              | exact (b01 q37_0).2 (by omega) ((s9 f).mpr a1)
            refine j_iinc (pc := 216) (i := 4) (n := 1) (ls' := [(0, vR 88), (2, vI a), (3, vI i), (4, vI (f + 1))]) [1, 2, 3, 0] dX12_findPitches_216 rfl (Nat.le_of_ble_eq_true rfl) rfl rfl ?_
            refine j_goto (pc := 219) (tgt := 177) dX12_findPitches_219 rfl ?_
            refine j_ls (ls' := [(0, vR 88), (2, vI a), (3, vI i), (4, vI (f + 1))]) [0, 1, 2, 3] rfl ?_
            exact ih.2.2.2 a ⟨by omega, by omega⟩ i ⟨by omega, by omega⟩ (f + 1) ⟨by omega, by omega⟩ τ hIτ hFτ (show ∀ j : Int, 0 ≤ j → j ≤ σ 91 0 → TOK (σ 91 0) (okP σ) (τ 99) j from i0) (show a ≤ σ 91 0 from by omega) (show a < (f + 1) from by omega) (show i < τ 88 30 ∧ τ 99 a.toNat = τ 88 30 - i from by omega) (show TW (σ 91 0) (okP σ) (τ 99) a (f + 1) from (by first | exact TW_s i4 n9 | exact TW_0 (i0 a (by omega) (by omega)) (by omega))) (show (100 * (41 - i) + 41 - (f + 1)).toNat < N_ from by omega)
set_option maxHeartbeats 4000000 in
set_option maxRecDepth 100000 in
theorem c_X12_findPitches {G : tw_G} (hM : tw_isM G) (σ : tw_M) (hI : tw_I σ) : tw_C G yX12_findPitches cX12_findPitches 5 none 2 [vR 88] σ (q_X12_findPitches σ) := by
  refine tw_met [(0, vR 88)] (by decide +kernel) rfl (Nat.le_of_ble_eq_true rfl) ?_
  have ft : (1 : Int) ≤ σ 91 0 ∧ σ 91 0 ≤ 40 := hI 91 0
  refine j_aload_n (pc := 0) dX12_findPitches_0 rfl rfl ?_
  refine j_getR (pc := 1) (r := 91) fl_X12_17 dX12_findPitches_1 (a_88 hM) rfl ?_
  refine j_iconst (pc := 4) dX12_findPitches_4 ?_
  refine j_iald (pc := 5) dX12_findPitches_5 (a_91 hM) (by omega) (by omega) (by decide) ?_
  refine j_topV (show σ 91 (Int.toNat 0) = σ 91 0 from rfl) ?_
  have f48 : (1 : Int) ≤ σ 91 0 ∧ σ 91 0 ≤ 40 := hI 91 0
  refine j_istore_n (pc := 6) (i := 1) (ls' := [(0, vR 88), (1, vI (σ 91 0))]) [1, 0] dX12_findPitches_6 rfl (Nat.le_of_ble_eq_true rfl) rfl rfl ?_
  refine j_iload_n (pc := 7) dX12_findPitches_7 rfl rfl ?_
  refine j_istore_n (pc := 8) (i := 2) (ls' := [(0, vR 88), (1, vI (σ 91 0)), (2, vI (σ 91 0))]) [1, 2, 0] dX12_findPitches_8 rfl (Nat.le_of_ble_eq_true rfl) rfl rfl ?_
  refine j_ls (ls' := [(0, vR 88), (1, vI (σ 91 0)), (2, vI (σ 91 0))]) [0, 1, 2] rfl ?_
  exact (l_X12_findPitches hM σ hI (((100000 + 100 * ((σ 91 0) + 1) + 50).toNat) + 1)).1 (σ 91 0) ⟨by omega, by omega⟩ (σ 91 0) ⟨by omega, by omega⟩ σ hI (tw_F_rf) (show (σ 91 0) = σ 91 0 from by omega) (show (σ 91 0) ≤ (σ 91 0) from by omega) (show ∀ j : Int, (σ 91 0) < j → j ≤ (σ 91 0) → TOK (σ 91 0) (okP σ) (σ 99) j from (fun j h1 h2 => by exfalso; omega)) (Nat.lt_succ_self _)
