/-! 34.model -/
theorem dX12_needs_0 : decode cX12_needs 0 = .ok (.iload_n 1, 1) := by decide +kernel
theorem dX12_needs_1 : decode cX12_needs 1 = .ok (.ifCond .ne 23, 3) := by decide +kernel
theorem dX12_needs_4 : decode cX12_needs 4 = .ok (.aload_n 0, 1) := by decide +kernel
theorem dX12_needs_5 : decode cX12_needs 5 = .ok (.getfield 91, 3) := by decide +kernel
theorem dX12_needs_8 : decode cX12_needs 8 = .ok (.ifCond .ne 16, 3) := by decide +kernel
theorem dX12_needs_11 : decode cX12_needs 11 = .ok (.aload_n 0, 1) := by decide +kernel
theorem dX12_needs_12 : decode cX12_needs 12 = .ok (.iload_n 2, 1) := by decide +kernel
theorem dX12_needs_13 : decode cX12_needs 13 = .ok (.putfield 91, 3) := by decide +kernel
theorem dX12_needs_16 : decode cX12_needs 16 = .ok (.aload_n 0, 1) := by decide +kernel
theorem dX12_needs_17 : decode cX12_needs 17 = .ok (.aload_n 0, 1) := by decide +kernel
theorem dX12_needs_18 : decode cX12_needs 18 = .ok (.getfield 94, 3) := by decide +kernel
theorem dX12_needs_21 : decode cX12_needs 21 = .ok (.putfield 97, 3) := by decide +kernel
theorem dX12_needs_24 : decode cX12_needs 24 = .ok (.return_, 1) := by decide +kernel
theorem dX12_look_0 : decode cX12_look 0 = .ok (.iload_n 1, 1) := by decide +kernel
theorem dX12_look_1 : decode cX12_look 1 = .ok (.aload_n 0, 1) := by decide +kernel
theorem dX12_look_2 : decode cX12_look 2 = .ok (.getfield 86, 3) := by decide +kernel
theorem dX12_look_5 : decode cX12_look 5 = .ok (.if_icmp .ge 12, 3) := by decide +kernel
theorem dX12_look_8 : decode cX12_look 8 = .ok (.aload_n 0, 1) := by decide +kernel
theorem dX12_look_9 : decode cX12_look 9 = .ok (.getfield 38, 3) := by decide +kernel
theorem dX12_look_12 : decode cX12_look 12 = .ok (.iload_n 1, 1) := by decide +kernel
theorem dX12_look_13 : decode cX12_look 13 = .ok (.iaload, 1) := by decide +kernel
theorem dX12_look_14 : decode cX12_look 14 = .ok (.goto 4, 3) := by decide +kernel
theorem dX12_look_17 : decode cX12_look 17 = .ok (.iconst (-1), 1) := by decide +kernel
theorem dX12_look_18 : decode cX12_look 18 = .ok (.ireturn, 1) := by decide +kernel
theorem dX12_is_0 : decode cX12_is 0 = .ok (.aload_n 0, 1) := by decide +kernel
theorem dX12_is_1 : decode cX12_is 1 = .ok (.getfield 100, 3) := by decide +kernel
theorem dX12_is_4 : decode cX12_is 4 = .ok (.aload_n 0, 1) := by decide +kernel
theorem dX12_is_5 : decode cX12_is 5 = .ok (.getfield 94, 3) := by decide +kernel
theorem dX12_is_8 : decode cX12_is 8 = .ok (.isub, 1) := by decide +kernel
theorem dX12_is_9 : decode cX12_is 9 = .ok (.iload_n 1, 1) := by decide +kernel
theorem dX12_is_10 : decode cX12_is 10 = .ok (.if_icmp .ne 73, 3) := by decide +kernel
theorem dX12_is_13 : decode cX12_is 13 = .ok (.aload_n 0, 1) := by decide +kernel
theorem dX12_is_14 : decode cX12_is 14 = .ok (.aload_n 0, 1) := by decide +kernel
theorem dX12_is_15 : decode cX12_is 15 = .ok (.getfield 94, 3) := by decide +kernel
theorem dX12_is_18 : decode cX12_is 18 = .ok (.invokevirtual 103, 3) := by decide +kernel
theorem dX12_is_21 : decode cX12_is 21 = .ok (.iload_n 2, 1) := by decide +kernel
theorem dX12_is_22 : decode cX12_is 22 = .ok (.if_icmp .ne 61, 3) := by decide +kernel
theorem dX12_is_25 : decode cX12_is 25 = .ok (.aload_n 0, 1) := by decide +kernel
theorem dX12_is_26 : decode cX12_is 26 = .ok (.aload_n 0, 1) := by decide +kernel
theorem dX12_is_27 : decode cX12_is 27 = .ok (.getfield 94, 3) := by decide +kernel
theorem dX12_is_30 : decode cX12_is 30 = .ok (.iconst 1, 1) := by decide +kernel
theorem dX12_is_31 : decode cX12_is 31 = .ok (.iadd, 1) := by decide +kernel
theorem dX12_is_32 : decode cX12_is 32 = .ok (.invokevirtual 103, 3) := by decide +kernel
theorem dX12_is_35 : decode cX12_is 35 = .ok (.iload_n 3, 1) := by decide +kernel
theorem dX12_is_36 : decode cX12_is 36 = .ok (.if_icmp .ne 47, 3) := by decide +kernel
theorem dX12_is_39 : decode cX12_is 39 = .ok (.iload_n 1, 1) := by decide +kernel
theorem dX12_is_40 : decode cX12_is 40 = .ok (.iconst 3, 1) := by decide +kernel
theorem dX12_is_41 : decode cX12_is 41 = .ok (.if_icmp .lt 18, 3) := by decide +kernel
theorem dX12_is_44 : decode cX12_is 44 = .ok (.aload_n 0, 1) := by decide +kernel
theorem dX12_is_45 : decode cX12_is 45 = .ok (.aload_n 0, 1) := by decide +kernel
theorem dX12_is_46 : decode cX12_is 46 = .ok (.getfield 94, 3) := by decide +kernel
theorem dX12_is_49 : decode cX12_is 49 = .ok (.iconst 2, 1) := by decide +kernel
theorem dX12_is_50 : decode cX12_is 50 = .ok (.iadd, 1) := by decide +kernel
theorem dX12_is_51 : decode cX12_is 51 = .ok (.invokevirtual 103, 3) := by decide +kernel
theorem dX12_is_54 : decode cX12_is 54 = .ok (.iload 4, 2) := by decide +kernel
theorem dX12_is_56 : decode cX12_is 56 = .ok (.if_icmp .ne 27, 3) := by decide +kernel
theorem dX12_is_59 : decode cX12_is 59 = .ok (.iload_n 1, 1) := by decide +kernel
theorem dX12_is_60 : decode cX12_is 60 = .ok (.iconst 4, 1) := by decide +kernel
theorem dX12_is_61 : decode cX12_is 61 = .ok (.if_icmp .lt 18, 3) := by decide +kernel
theorem dX12_is_64 : decode cX12_is 64 = .ok (.aload_n 0, 1) := by decide +kernel
theorem dX12_is_65 : decode cX12_is 65 = .ok (.aload_n 0, 1) := by decide +kernel
theorem dX12_is_66 : decode cX12_is 66 = .ok (.getfield 94, 3) := by decide +kernel
theorem dX12_is_69 : decode cX12_is 69 = .ok (.iconst 3, 1) := by decide +kernel
theorem dX12_is_70 : decode cX12_is 70 = .ok (.iadd, 1) := by decide +kernel
theorem dX12_is_71 : decode cX12_is 71 = .ok (.invokevirtual 103, 3) := by decide +kernel
theorem dX12_is_74 : decode cX12_is 74 = .ok (.iload 5, 2) := by decide +kernel
theorem dX12_is_76 : decode cX12_is 76 = .ok (.if_icmp .ne 7, 3) := by decide +kernel
theorem dX12_is_79 : decode cX12_is 79 = .ok (.iconst 1, 1) := by decide +kernel
theorem dX12_is_80 : decode cX12_is 80 = .ok (.goto 4, 3) := by decide +kernel
theorem dX12_is_83 : decode cX12_is 83 = .ok (.iconst 0, 1) := by decide +kernel
theorem dX12_is_84 : decode cX12_is 84 = .ok (.ireturn, 1) := by decide +kernel
theorem dX12_withNow_0 : decode cX12_withNow 0 = .ok (.aload_n 0, 1) := by decide +kernel
theorem dX12_withNow_1 : decode cX12_withNow 1 = .ok (.iconst 5, 1) := by decide +kernel
theorem dX12_withNow_2 : decode cX12_withNow 2 = .ok (.bipush 99, 2) := by decide +kernel
theorem dX12_withNow_4 : decode cX12_withNow 4 = .ok (.bipush 114, 2) := by decide +kernel
theorem dX12_withNow_6 : decode cX12_withNow 6 = .ok (.bipush 97, 2) := by decide +kernel
theorem dX12_withNow_8 : decode cX12_withNow 8 = .ok (.bipush 99, 2) := by decide +kernel
theorem dX12_withNow_10 : decode cX12_withNow 10 = .ok (.invokevirtual 107, 3) := by decide +kernel
theorem dX12_withNow_13 : decode cX12_withNow 13 = .ok (.ifCond .eq 21, 3) := by decide +kernel
theorem dX12_withNow_16 : decode cX12_withNow 16 = .ok (.aload_n 0, 1) := by decide +kernel
theorem dX12_withNow_17 : decode cX12_withNow 17 = .ok (.aload_n 0, 1) := by decide +kernel
theorem dX12_withNow_18 : decode cX12_withNow 18 = .ok (.getfield 94, 3) := by decide +kernel
theorem dX12_withNow_21 : decode cX12_withNow 21 = .ok (.iconst 4, 1) := by decide +kernel
theorem dX12_withNow_22 : decode cX12_withNow 22 = .ok (.iadd, 1) := by decide +kernel
theorem dX12_withNow_23 : decode cX12_withNow 23 = .ok (.invokevirtual 103, 3) := by decide +kernel
theorem dX12_withNow_26 : decode cX12_withNow 26 = .ok (.bipush 107, 2) := by decide +kernel
theorem dX12_withNow_28 : decode cX12_withNow 28 = .ok (.if_icmp .ne 6, 3) := by decide +kernel
theorem dX12_withNow_31 : decode cX12_withNow 31 = .ok (.bipush 20, 2) := by decide +kernel
theorem dX12_withNow_33 : decode cX12_withNow 33 = .ok (.ireturn, 1) := by decide +kernel
theorem dX12_withNow_34 : decode cX12_withNow 34 = .ok (.aload_n 0, 1) := by decide +kernel
theorem dX12_withNow_35 : decode cX12_withNow 35 = .ok (.iconst 5, 1) := by decide +kernel
theorem dX12_withNow_36 : decode cX12_withNow 36 = .ok (.bipush 108, 2) := by decide +kernel
theorem dX12_withNow_38 : decode cX12_withNow 38 = .ok (.bipush 101, 2) := by decide +kernel
theorem dX12_withNow_40 : decode cX12_withNow 40 = .ok (.bipush 100, 2) := by decide +kernel
theorem dX12_withNow_42 : decode cX12_withNow 42 = .ok (.bipush 103, 2) := by decide +kernel
theorem dX12_withNow_44 : decode cX12_withNow 44 = .ok (.invokevirtual 107, 3) := by decide +kernel
theorem dX12_withNow_47 : decode cX12_withNow 47 = .ok (.ifCond .eq 21, 3) := by decide +kernel
theorem dX12_withNow_50 : decode cX12_withNow 50 = .ok (.aload_n 0, 1) := by decide +kernel
theorem dX12_withNow_51 : decode cX12_withNow 51 = .ok (.aload_n 0, 1) := by decide +kernel
theorem dX12_withNow_52 : decode cX12_withNow 52 = .ok (.getfield 94, 3) := by decide +kernel
theorem dX12_withNow_55 : decode cX12_withNow 55 = .ok (.iconst 4, 1) := by decide +kernel
theorem dX12_withNow_56 : decode cX12_withNow 56 = .ok (.iadd, 1) := by decide +kernel
theorem dX12_withNow_57 : decode cX12_withNow 57 = .ok (.invokevirtual 103, 3) := by decide +kernel
theorem dX12_withNow_60 : decode cX12_withNow 60 = .ok (.bipush 101, 2) := by decide +kernel
theorem dX12_withNow_62 : decode cX12_withNow 62 = .ok (.if_icmp .ne 6, 3) := by decide +kernel
theorem dX12_withNow_65 : decode cX12_withNow 65 = .ok (.bipush 21, 2) := by decide +kernel
theorem dX12_withNow_67 : decode cX12_withNow 67 = .ok (.ireturn, 1) := by decide +kernel
theorem dX12_withNow_68 : decode cX12_withNow 68 = .ok (.aload_n 0, 1) := by decide +kernel
theorem dX12_withNow_69 : decode cX12_withNow 69 = .ok (.iconst 4, 1) := by decide +kernel
theorem dX12_withNow_70 : decode cX12_withNow 70 = .ok (.bipush 114, 2) := by decide +kernel
theorem dX12_withNow_72 : decode cX12_withNow 72 = .ok (.bipush 101, 2) := by decide +kernel
theorem dX12_withNow_74 : decode cX12_withNow 74 = .ok (.bipush 115, 2) := by decide +kernel
theorem dX12_withNow_76 : decode cX12_withNow 76 = .ok (.bipush 116, 2) := by decide +kernel
theorem dX12_withNow_78 : decode cX12_withNow 78 = .ok (.invokevirtual 107, 3) := by decide +kernel
theorem dX12_withNow_81 : decode cX12_withNow 81 = .ok (.ifCond .eq 8, 3) := by decide +kernel
theorem dX12_withNow_84 : decode cX12_withNow 84 = .ok (.bipush 22, 2) := by decide +kernel
theorem dX12_withNow_86 : decode cX12_withNow 86 = .ok (.goto 26, 3) := by decide +kernel
theorem dX12_withNow_89 : decode cX12_withNow 89 = .ok (.aload_n 0, 1) := by decide +kernel
theorem dX12_withNow_90 : decode cX12_withNow 90 = .ok (.iconst 4, 1) := by decide +kernel
theorem dX12_withNow_91 : decode cX12_withNow 91 = .ok (.bipush 115, 2) := by decide +kernel
theorem dX12_withNow_93 : decode cX12_withNow 93 = .ok (.bipush 105, 2) := by decide +kernel
theorem dX12_withNow_95 : decode cX12_withNow 95 = .ok (.bipush 100, 2) := by decide +kernel
theorem dX12_withNow_97 : decode cX12_withNow 97 = .ok (.bipush 101, 2) := by decide +kernel
theorem dX12_withNow_99 : decode cX12_withNow 99 = .ok (.invokevirtual 107, 3) := by decide +kernel
theorem dX12_withNow_102 : decode cX12_withNow 102 = .ok (.ifCond .eq 8, 3) := by decide +kernel
theorem dX12_withNow_105 : decode cX12_withNow 105 = .ok (.bipush 23, 2) := by decide +kernel
theorem dX12_withNow_107 : decode cX12_withNow 107 = .ok (.goto 5, 3) := by decide +kernel
theorem dX12_withNow_110 : decode cX12_withNow 110 = .ok (.bipush (-4), 2) := by decide +kernel
theorem dX12_withNow_112 : decode cX12_withNow 112 = .ok (.ireturn, 1) := by decide +kernel
theorem dX12_nameNow_0 : decode cX12_nameNow 0 = .ok (.aload_n 0, 1) := by decide +kernel
theorem dX12_nameNow_1 : decode cX12_nameNow 1 = .ok (.iconst 2, 1) := by decide +kernel
theorem dX12_nameNow_2 : decode cX12_nameNow 2 = .ok (.bipush 97, 2) := by decide +kernel
theorem dX12_nameNow_4 : decode cX12_nameNow 4 = .ok (.bipush 116, 2) := by decide +kernel
theorem dX12_nameNow_6 : decode cX12_nameNow 6 = .ok (.iconst 0, 1) := by decide +kernel
theorem dX12_nameNow_7 : decode cX12_nameNow 7 = .ok (.iconst 0, 1) := by decide +kernel
theorem dX12_nameNow_8 : decode cX12_nameNow 8 = .ok (.invokevirtual 107, 3) := by decide +kernel
theorem dX12_nameNow_11 : decode cX12_nameNow 11 = .ok (.ifCond .eq 6, 3) := by decide +kernel
theorem dX12_nameNow_14 : decode cX12_nameNow 14 = .ok (.bipush 10, 2) := by decide +kernel
theorem dX12_nameNow_16 : decode cX12_nameNow 16 = .ok (.ireturn, 1) := by decide +kernel
theorem dX12_nameNow_17 : decode cX12_nameNow 17 = .ok (.aload_n 0, 1) := by decide +kernel
theorem dX12_nameNow_18 : decode cX12_nameNow 18 = .ok (.iconst 4, 1) := by decide +kernel
theorem dX12_nameNow_19 : decode cX12_nameNow 19 = .ok (.bipush 114, 2) := by decide +kernel
theorem dX12_nameNow_21 : decode cX12_nameNow 21 = .ok (.bipush 97, 2) := by decide +kernel
theorem dX12_nameNow_23 : decode cX12_nameNow 23 = .ok (.bipush 99, 2) := by decide +kernel
theorem dX12_nameNow_25 : decode cX12_nameNow 25 = .ok (.bipush 107, 2) := by decide +kernel
theorem dX12_nameNow_27 : decode cX12_nameNow 27 = .ok (.invokevirtual 107, 3) := by decide +kernel
theorem dX12_nameNow_30 : decode cX12_nameNow 30 = .ok (.ifCond .eq 6, 3) := by decide +kernel
theorem dX12_nameNow_33 : decode cX12_nameNow 33 = .ok (.bipush 11, 2) := by decide +kernel
theorem dX12_nameNow_35 : decode cX12_nameNow 35 = .ok (.ireturn, 1) := by decide +kernel
theorem dX12_nameNow_36 : decode cX12_nameNow 36 = .ok (.aload_n 0, 1) := by decide +kernel
theorem dX12_nameNow_37 : decode cX12_nameNow 37 = .ok (.iconst 3, 1) := by decide +kernel
theorem dX12_nameNow_38 : decode cX12_nameNow 38 = .ok (.bipush 116, 2) := by decide +kernel
theorem dX12_nameNow_40 : decode cX12_nameNow 40 = .ok (.bipush 111, 2) := by decide +kernel
theorem dX12_nameNow_42 : decode cX12_nameNow 42 = .ok (.bipush 112, 2) := by decide +kernel
theorem dX12_nameNow_44 : decode cX12_nameNow 44 = .ok (.iconst 0, 1) := by decide +kernel
theorem dX12_nameNow_45 : decode cX12_nameNow 45 = .ok (.invokevirtual 107, 3) := by decide +kernel
theorem dX12_nameNow_48 : decode cX12_nameNow 48 = .ok (.ifCond .eq 5, 3) := by decide +kernel
theorem dX12_nameNow_51 : decode cX12_nameNow 51 = .ok (.iconst 0, 1) := by decide +kernel
theorem dX12_nameNow_52 : decode cX12_nameNow 52 = .ok (.ireturn, 1) := by decide +kernel
theorem dX12_nameNow_53 : decode cX12_nameNow 53 = .ok (.aload_n 0, 1) := by decide +kernel
theorem dX12_nameNow_54 : decode cX12_nameNow 54 = .ok (.bipush 8, 2) := by decide +kernel
theorem dX12_nameNow_56 : decode cX12_nameNow 56 = .ok (.bipush 115, 2) := by decide +kernel
theorem dX12_nameNow_58 : decode cX12_nameNow 58 = .ok (.bipush 116, 2) := by decide +kernel
theorem dX12_nameNow_60 : decode cX12_nameNow 60 = .ok (.bipush 114, 2) := by decide +kernel
theorem dX12_nameNow_62 : decode cX12_nameNow 62 = .ok (.bipush 101, 2) := by decide +kernel
theorem dX12_nameNow_64 : decode cX12_nameNow 64 = .ok (.invokevirtual 107, 3) := by decide +kernel
theorem dX12_nameNow_67 : decode cX12_nameNow 67 = .ok (.ifCond .eq 67, 3) := by decide +kernel
theorem dX12_nameNow_70 : decode cX12_nameNow 70 = .ok (.aload_n 0, 1) := by decide +kernel
theorem dX12_nameNow_71 : decode cX12_nameNow 71 = .ok (.aload_n 0, 1) := by decide +kernel
theorem dX12_nameNow_72 : decode cX12_nameNow 72 = .ok (.getfield 94, 3) := by decide +kernel
theorem dX12_nameNow_75 : decode cX12_nameNow 75 = .ok (.iconst 4, 1) := by decide +kernel
theorem dX12_nameNow_76 : decode cX12_nameNow 76 = .ok (.iadd, 1) := by decide +kernel
theorem dX12_nameNow_77 : decode cX12_nameNow 77 = .ok (.invokevirtual 103, 3) := by decide +kernel
theorem dX12_nameNow_80 : decode cX12_nameNow 80 = .ok (.bipush 110, 2) := by decide +kernel
theorem dX12_nameNow_82 : decode cX12_nameNow 82 = .ok (.if_icmp .ne 52, 3) := by decide +kernel
theorem dX12_nameNow_85 : decode cX12_nameNow 85 = .ok (.aload_n 0, 1) := by decide +kernel
theorem dX12_nameNow_86 : decode cX12_nameNow 86 = .ok (.aload_n 0, 1) := by decide +kernel
theorem dX12_nameNow_87 : decode cX12_nameNow 87 = .ok (.getfield 94, 3) := by decide +kernel
theorem dX12_nameNow_90 : decode cX12_nameNow 90 = .ok (.iconst 5, 1) := by decide +kernel
theorem dX12_nameNow_91 : decode cX12_nameNow 91 = .ok (.iadd, 1) := by decide +kernel
theorem dX12_nameNow_92 : decode cX12_nameNow 92 = .ok (.invokevirtual 103, 3) := by decide +kernel
theorem dX12_nameNow_95 : decode cX12_nameNow 95 = .ok (.bipush 103, 2) := by decide +kernel
theorem dX12_nameNow_97 : decode cX12_nameNow 97 = .ok (.if_icmp .ne 37, 3) := by decide +kernel
theorem dX12_nameNow_100 : decode cX12_nameNow 100 = .ok (.aload_n 0, 1) := by decide +kernel
theorem dX12_nameNow_101 : decode cX12_nameNow 101 = .ok (.aload_n 0, 1) := by decide +kernel
theorem dX12_nameNow_102 : decode cX12_nameNow 102 = .ok (.getfield 94, 3) := by decide +kernel
theorem dX12_nameNow_105 : decode cX12_nameNow 105 = .ok (.bipush 6, 2) := by decide +kernel
theorem dX12_nameNow_107 : decode cX12_nameNow 107 = .ok (.iadd, 1) := by decide +kernel
theorem dX12_nameNow_108 : decode cX12_nameNow 108 = .ok (.invokevirtual 103, 3) := by decide +kernel
theorem dX12_nameNow_111 : decode cX12_nameNow 111 = .ok (.bipush 116, 2) := by decide +kernel
theorem dX12_nameNow_113 : decode cX12_nameNow 113 = .ok (.if_icmp .ne 21, 3) := by decide +kernel
theorem dX12_nameNow_116 : decode cX12_nameNow 116 = .ok (.aload_n 0, 1) := by decide +kernel
theorem dX12_nameNow_117 : decode cX12_nameNow 117 = .ok (.aload_n 0, 1) := by decide +kernel
theorem dX12_nameNow_118 : decode cX12_nameNow 118 = .ok (.getfield 94, 3) := by decide +kernel
theorem dX12_nameNow_121 : decode cX12_nameNow 121 = .ok (.bipush 7, 2) := by decide +kernel
theorem dX12_nameNow_123 : decode cX12_nameNow 123 = .ok (.iadd, 1) := by decide +kernel
theorem dX12_nameNow_124 : decode cX12_nameNow 124 = .ok (.invokevirtual 103, 3) := by decide +kernel
theorem dX12_nameNow_127 : decode cX12_nameNow 127 = .ok (.bipush 104, 2) := by decide +kernel
theorem dX12_nameNow_129 : decode cX12_nameNow 129 = .ok (.if_icmp .ne 5, 3) := by decide +kernel
theorem dX12_nameNow_132 : decode cX12_nameNow 132 = .ok (.iconst 1, 1) := by decide +kernel
theorem dX12_nameNow_133 : decode cX12_nameNow 133 = .ok (.ireturn, 1) := by decide +kernel
theorem dX12_nameNow_134 : decode cX12_nameNow 134 = .ok (.aload_n 0, 1) := by decide +kernel
theorem dX12_nameNow_135 : decode cX12_nameNow 135 = .ok (.iconst 5, 1) := by decide +kernel
theorem dX12_nameNow_136 : decode cX12_nameNow 136 = .ok (.bipush 112, 2) := by decide +kernel
theorem dX12_nameNow_138 : decode cX12_nameNow 138 = .ok (.bipush 108, 2) := by decide +kernel
theorem dX12_nameNow_140 : decode cX12_nameNow 140 = .ok (.bipush 97, 2) := by decide +kernel
theorem dX12_nameNow_142 : decode cX12_nameNow 142 = .ok (.bipush 99, 2) := by decide +kernel
theorem dX12_nameNow_144 : decode cX12_nameNow 144 = .ok (.invokevirtual 107, 3) := by decide +kernel
theorem dX12_nameNow_147 : decode cX12_nameNow 147 = .ok (.ifCond .eq 20, 3) := by decide +kernel
theorem dX12_nameNow_150 : decode cX12_nameNow 150 = .ok (.aload_n 0, 1) := by decide +kernel
theorem dX12_nameNow_151 : decode cX12_nameNow 151 = .ok (.aload_n 0, 1) := by decide +kernel
theorem dX12_nameNow_152 : decode cX12_nameNow 152 = .ok (.getfield 94, 3) := by decide +kernel
theorem dX12_nameNow_155 : decode cX12_nameNow 155 = .ok (.iconst 4, 1) := by decide +kernel
theorem dX12_nameNow_156 : decode cX12_nameNow 156 = .ok (.iadd, 1) := by decide +kernel
theorem dX12_nameNow_157 : decode cX12_nameNow 157 = .ok (.invokevirtual 103, 3) := by decide +kernel
theorem dX12_nameNow_160 : decode cX12_nameNow 160 = .ok (.bipush 101, 2) := by decide +kernel
theorem dX12_nameNow_162 : decode cX12_nameNow 162 = .ok (.if_icmp .ne 5, 3) := by decide +kernel
theorem dX12_nameNow_165 : decode cX12_nameNow 165 = .ok (.iconst 2, 1) := by decide +kernel
theorem dX12_nameNow_166 : decode cX12_nameNow 166 = .ok (.ireturn, 1) := by decide +kernel
theorem dX12_nameNow_167 : decode cX12_nameNow 167 = .ok (.aload_n 0, 1) := by decide +kernel
theorem dX12_nameNow_168 : decode cX12_nameNow 168 = .ok (.iconst 4, 1) := by decide +kernel
theorem dX12_nameNow_169 : decode cX12_nameNow 169 = .ok (.bipush 114, 2) := by decide +kernel
theorem dX12_nameNow_171 : decode cX12_nameNow 171 = .ok (.bipush 111, 2) := by decide +kernel
theorem dX12_nameNow_173 : decode cX12_nameNow 173 = .ok (.bipush 112, 2) := by decide +kernel
theorem dX12_nameNow_175 : decode cX12_nameNow 175 = .ok (.bipush 101, 2) := by decide +kernel
theorem dX12_nameNow_177 : decode cX12_nameNow 177 = .ok (.invokevirtual 107, 3) := by decide +kernel
theorem dX12_nameNow_180 : decode cX12_nameNow 180 = .ok (.ifCond .eq 5, 3) := by decide +kernel
theorem dX12_nameNow_183 : decode cX12_nameNow 183 = .ok (.iconst 3, 1) := by decide +kernel
theorem dX12_nameNow_184 : decode cX12_nameNow 184 = .ok (.ireturn, 1) := by decide +kernel
theorem dX12_nameNow_185 : decode cX12_nameNow 185 = .ok (.aload_n 0, 1) := by decide +kernel
theorem dX12_nameNow_186 : decode cX12_nameNow 186 = .ok (.iconst 4, 1) := by decide +kernel
theorem dX12_nameNow_187 : decode cX12_nameNow 187 = .ok (.bipush 103, 2) := by decide +kernel
theorem dX12_nameNow_189 : decode cX12_nameNow 189 = .ok (.bipush 105, 2) := by decide +kernel
theorem dX12_nameNow_191 : decode cX12_nameNow 191 = .ok (.bipush 118, 2) := by decide +kernel
theorem dX12_nameNow_193 : decode cX12_nameNow 193 = .ok (.bipush 101, 2) := by decide +kernel
theorem dX12_nameNow_195 : decode cX12_nameNow 195 = .ok (.invokevirtual 107, 3) := by decide +kernel
theorem dX12_nameNow_198 : decode cX12_nameNow 198 = .ok (.ifCond .eq 5, 3) := by decide +kernel
theorem dX12_nameNow_201 : decode cX12_nameNow 201 = .ok (.iconst 4, 1) := by decide +kernel
theorem dX12_nameNow_202 : decode cX12_nameNow 202 = .ok (.ireturn, 1) := by decide +kernel
theorem dX12_nameNow_203 : decode cX12_nameNow 203 = .ok (.aload_n 0, 1) := by decide +kernel
theorem dX12_nameNow_204 : decode cX12_nameNow 204 = .ok (.iconst 4, 1) := by decide +kernel
theorem dX12_nameNow_205 : decode cX12_nameNow 205 = .ok (.bipush 102, 2) := by decide +kernel
theorem dX12_nameNow_207 : decode cX12_nameNow 207 = .ok (.bipush 105, 2) := by decide +kernel
theorem dX12_nameNow_209 : decode cX12_nameNow 209 = .ok (.bipush 116, 2) := by decide +kernel
theorem dX12_nameNow_211 : decode cX12_nameNow 211 = .ok (.bipush 115, 2) := by decide +kernel
theorem dX12_nameNow_213 : decode cX12_nameNow 213 = .ok (.invokevirtual 107, 3) := by decide +kernel
theorem dX12_nameNow_216 : decode cX12_nameNow 216 = .ok (.ifCond .eq 5, 3) := by decide +kernel
theorem dX12_nameNow_219 : decode cX12_nameNow 219 = .ok (.iconst 5, 1) := by decide +kernel
theorem dX12_nameNow_220 : decode cX12_nameNow 220 = .ok (.ireturn, 1) := by decide +kernel
theorem dX12_nameNow_221 : decode cX12_nameNow 221 = .ok (.aload_n 0, 1) := by decide +kernel
theorem dX12_nameNow_222 : decode cX12_nameNow 222 = .ok (.iconst 5, 1) := by decide +kernel
theorem dX12_nameNow_223 : decode cX12_nameNow 223 = .ok (.bipush 104, 2) := by decide +kernel
theorem dX12_nameNow_225 : decode cX12_nameNow 225 = .ok (.bipush 111, 2) := by decide +kernel
theorem dX12_nameNow_227 : decode cX12_nameNow 227 = .ok (.bipush 108, 2) := by decide +kernel
theorem dX12_nameNow_229 : decode cX12_nameNow 229 = .ok (.bipush 100, 2) := by decide +kernel
theorem dX12_nameNow_231 : decode cX12_nameNow 231 = .ok (.invokevirtual 107, 3) := by decide +kernel
theorem dX12_nameNow_234 : decode cX12_nameNow 234 = .ok (.ifCond .eq 21, 3) := by decide +kernel
theorem dX12_nameNow_237 : decode cX12_nameNow 237 = .ok (.aload_n 0, 1) := by decide +kernel
theorem dX12_nameNow_238 : decode cX12_nameNow 238 = .ok (.aload_n 0, 1) := by decide +kernel
theorem dX12_nameNow_239 : decode cX12_nameNow 239 = .ok (.getfield 94, 3) := by decide +kernel
theorem dX12_nameNow_242 : decode cX12_nameNow 242 = .ok (.iconst 4, 1) := by decide +kernel
theorem dX12_nameNow_243 : decode cX12_nameNow 243 = .ok (.iadd, 1) := by decide +kernel
theorem dX12_nameNow_244 : decode cX12_nameNow 244 = .ok (.invokevirtual 103, 3) := by decide +kernel
theorem dX12_nameNow_247 : decode cX12_nameNow 247 = .ok (.bipush 115, 2) := by decide +kernel
theorem dX12_nameNow_249 : decode cX12_nameNow 249 = .ok (.if_icmp .ne 6, 3) := by decide +kernel
theorem dX12_nameNow_252 : decode cX12_nameNow 252 = .ok (.bipush 7, 2) := by decide +kernel
theorem dX12_nameNow_254 : decode cX12_nameNow 254 = .ok (.ireturn, 1) := by decide +kernel
theorem dX12_nameNow_255 : decode cX12_nameNow 255 = .ok (.aload_n 0, 1) := by decide +kernel
theorem dX12_nameNow_256 : decode cX12_nameNow 256 = .ok (.iconst 3, 1) := by decide +kernel
theorem dX12_nameNow_257 : decode cX12_nameNow 257 = .ok (.bipush 108, 2) := by decide +kernel
theorem dX12_nameNow_259 : decode cX12_nameNow 259 = .ok (.bipush 111, 2) := by decide +kernel
theorem dX12_nameNow_261 : decode cX12_nameNow 261 = .ok (.bipush 119, 2) := by decide +kernel
theorem dX12_nameNow_263 : decode cX12_nameNow 263 = .ok (.iconst 0, 1) := by decide +kernel
theorem dX12_nameNow_264 : decode cX12_nameNow 264 = .ok (.invokevirtual 107, 3) := by decide +kernel
theorem dX12_nameNow_267 : decode cX12_nameNow 267 = .ok (.ifCond .eq 8, 3) := by decide +kernel
theorem dX12_nameNow_270 : decode cX12_nameNow 270 = .ok (.bipush 8, 2) := by decide +kernel
theorem dX12_nameNow_272 : decode cX12_nameNow 272 = .ok (.goto 7, 3) := by decide +kernel
theorem dX12_nameNow_275 : decode cX12_nameNow 275 = .ok (.aload_n 0, 1) := by decide +kernel
theorem dX12_nameNow_276 : decode cX12_nameNow 276 = .ok (.invokevirtual 111, 3) := by decide +kernel
theorem dX12_nameNow_279 : decode cX12_nameNow 279 = .ok (.ireturn, 1) := by decide +kernel
theorem dX12_next_0 : decode cX12_next 0 = .ok (.aload_n 0, 1) := by decide +kernel
theorem dX12_next_1 : decode cX12_next 1 = .ok (.getfield 91, 3) := by decide +kernel
theorem dX12_next_4 : decode cX12_next 4 = .ok (.ifCond .le 4, 3) := by decide +kernel
theorem dX12_next_7 : decode cX12_next 7 = .ok (.return_, 1) := by decide +kernel
theorem dX12_next_8 : decode cX12_next 8 = .ok (.aload_n 0, 1) := by decide +kernel
theorem dX12_next_9 : decode cX12_next 9 = .ok (.aload_n 0, 1) := by decide +kernel
theorem dX12_next_10 : decode cX12_next 10 = .ok (.getfield 100, 3) := by decide +kernel
theorem dX12_next_13 : decode cX12_next 13 = .ok (.invokevirtual 103, 3) := by decide +kernel
theorem dX12_next_16 : decode cX12_next 16 = .ok (.bipush 32, 2) := by decide +kernel
theorem dX12_next_18 : decode cX12_next 18 = .ok (.if_icmp .ne 16, 3) := by decide +kernel
theorem dX12_next_21 : decode cX12_next 21 = .ok (.aload_n 0, 1) := by decide +kernel
theorem dX12_next_22 : decode cX12_next 22 = .ok (.dup, 1) := by decide +kernel
theorem dX12_next_23 : decode cX12_next 23 = .ok (.getfield 100, 3) := by decide +kernel
theorem dX12_next_26 : decode cX12_next 26 = .ok (.iconst 1, 1) := by decide +kernel
theorem dX12_next_27 : decode cX12_next 27 = .ok (.iadd, 1) := by decide +kernel
theorem dX12_next_28 : decode cX12_next 28 = .ok (.putfield 100, 3) := by decide +kernel
theorem dX12_next_31 : decode cX12_next 31 = .ok (.goto (-23), 3) := by decide +kernel
theorem dX12_next_34 : decode cX12_next 34 = .ok (.aload_n 0, 1) := by decide +kernel
theorem dX12_next_35 : decode cX12_next 35 = .ok (.aload_n 0, 1) := by decide +kernel
theorem dX12_next_36 : decode cX12_next 36 = .ok (.getfield 100, 3) := by decide +kernel
theorem dX12_next_39 : decode cX12_next 39 = .ok (.putfield 94, 3) := by decide +kernel
theorem dX12_next_42 : decode cX12_next 42 = .ok (.aload_n 0, 1) := by decide +kernel
theorem dX12_next_43 : decode cX12_next 43 = .ok (.aload_n 0, 1) := by decide +kernel
theorem dX12_next_44 : decode cX12_next 44 = .ok (.getfield 100, 3) := by decide +kernel
theorem dX12_next_47 : decode cX12_next 47 = .ok (.invokevirtual 103, 3) := by decide +kernel
theorem dX12_next_50 : decode cX12_next 50 = .ok (.istore_n 1, 1) := by decide +kernel
theorem dX12_next_51 : decode cX12_next 51 = .ok (.iload_n 1, 1) := by decide +kernel
theorem dX12_next_52 : decode cX12_next 52 = .ok (.ifCond .ge 11, 3) := by decide +kernel
theorem dX12_next_55 : decode cX12_next 55 = .ok (.aload_n 0, 1) := by decide +kernel
theorem dX12_next_56 : decode cX12_next 56 = .ok (.iconst 0, 1) := by decide +kernel
theorem dX12_next_57 : decode cX12_next 57 = .ok (.putfield 115, 3) := by decide +kernel
theorem dX12_next_60 : decode cX12_next 60 = .ok (.goto 214, 3) := by decide +kernel
theorem dX12_next_63 : decode cX12_next 63 = .ok (.iload_n 1, 1) := by decide +kernel
theorem dX12_next_64 : decode cX12_next 64 = .ok (.i2l, 1) := by decide +kernel
theorem dX12_next_65 : decode cX12_next 65 = .ok (.ldc2_w 118, 3) := by decide +kernel
theorem dX12_next_68 : decode cX12_next 68 = .ok (.ldc2_w 120, 3) := by decide +kernel
theorem dX12_next_71 : decode cX12_next 71 = .ok (.invokestatic 82, 3) := by decide +kernel
theorem dX12_next_74 : decode cX12_next 74 = .ok (.ifCond .eq 42, 3) := by decide +kernel
theorem dX12_next_77 : decode cX12_next 77 = .ok (.aload_n 0, 1) := by decide +kernel
theorem dX12_next_78 : decode cX12_next 78 = .ok (.iconst 1, 1) := by decide +kernel
theorem dX12_next_79 : decode cX12_next 79 = .ok (.putfield 115, 3) := by decide +kernel
theorem dX12_next_82 : decode cX12_next 82 = .ok (.aload_n 0, 1) := by decide +kernel
theorem dX12_next_83 : decode cX12_next 83 = .ok (.aload_n 0, 1) := by decide +kernel
theorem dX12_next_84 : decode cX12_next 84 = .ok (.getfield 100, 3) := by decide +kernel
theorem dX12_next_87 : decode cX12_next 87 = .ok (.invokevirtual 103, 3) := by decide +kernel
theorem dX12_next_90 : decode cX12_next 90 = .ok (.i2l, 1) := by decide +kernel
theorem dX12_next_91 : decode cX12_next 91 = .ok (.ldc2_w 118, 3) := by decide +kernel
theorem dX12_next_94 : decode cX12_next 94 = .ok (.ldc2_w 120, 3) := by decide +kernel
theorem dX12_next_97 : decode cX12_next 97 = .ok (.invokestatic 82, 3) := by decide +kernel
theorem dX12_next_100 : decode cX12_next 100 = .ok (.ifCond .eq 174, 3) := by decide +kernel
theorem dX12_next_103 : decode cX12_next 103 = .ok (.aload_n 0, 1) := by decide +kernel
theorem dX12_next_104 : decode cX12_next 104 = .ok (.dup, 1) := by decide +kernel
theorem dX12_next_105 : decode cX12_next 105 = .ok (.getfield 100, 3) := by decide +kernel
theorem dX12_next_108 : decode cX12_next 108 = .ok (.iconst 1, 1) := by decide +kernel
theorem dX12_next_109 : decode cX12_next 109 = .ok (.iadd, 1) := by decide +kernel
theorem dX12_next_110 : decode cX12_next 110 = .ok (.putfield 100, 3) := by decide +kernel
theorem dX12_next_113 : decode cX12_next 113 = .ok (.goto (-31), 3) := by decide +kernel
theorem dX12_next_116 : decode cX12_next 116 = .ok (.iload_n 1, 1) := by decide +kernel
theorem dX12_next_117 : decode cX12_next 117 = .ok (.i2l, 1) := by decide +kernel
theorem dX12_next_118 : decode cX12_next 118 = .ok (.ldc2_w 122, 3) := by decide +kernel
theorem dX12_next_121 : decode cX12_next 121 = .ok (.ldc2_w 124, 3) := by decide +kernel
theorem dX12_next_124 : decode cX12_next 124 = .ok (.invokestatic 82, 3) := by decide +kernel
theorem dX12_next_127 : decode cX12_next 127 = .ok (.ifCond .eq 116, 3) := by decide +kernel
theorem dX12_next_130 : decode cX12_next 130 = .ok (.aload_n 0, 1) := by decide +kernel
theorem dX12_next_131 : decode cX12_next 131 = .ok (.iconst 2, 1) := by decide +kernel
theorem dX12_next_132 : decode cX12_next 132 = .ok (.putfield 115, 3) := by decide +kernel
theorem dX12_next_135 : decode cX12_next 135 = .ok (.aload_n 0, 1) := by decide +kernel
theorem dX12_next_136 : decode cX12_next 136 = .ok (.iconst 0, 1) := by decide +kernel
theorem dX12_next_137 : decode cX12_next 137 = .ok (.putfield 126, 3) := by decide +kernel
theorem dX12_next_140 : decode cX12_next 140 = .ok (.aload_n 0, 1) := by decide +kernel
theorem dX12_next_141 : decode cX12_next 141 = .ok (.aload_n 0, 1) := by decide +kernel
theorem dX12_next_142 : decode cX12_next 142 = .ok (.getfield 100, 3) := by decide +kernel
theorem dX12_next_145 : decode cX12_next 145 = .ok (.invokevirtual 103, 3) := by decide +kernel
theorem dX12_next_148 : decode cX12_next 148 = .ok (.i2l, 1) := by decide +kernel
theorem dX12_next_149 : decode cX12_next 149 = .ok (.ldc2_w 122, 3) := by decide +kernel
theorem dX12_next_152 : decode cX12_next 152 = .ok (.ldc2_w 124, 3) := by decide +kernel
theorem dX12_next_155 : decode cX12_next 155 = .ok (.invokestatic 82, 3) := by decide +kernel
theorem dX12_next_158 : decode cX12_next 158 = .ok (.ifCond .eq 59, 3) := by decide +kernel
theorem dX12_next_161 : decode cX12_next 161 = .ok (.aload_n 0, 1) := by decide +kernel
theorem dX12_next_162 : decode cX12_next 162 = .ok (.aload_n 0, 1) := by decide +kernel
theorem dX12_next_163 : decode cX12_next 163 = .ok (.getfield 100, 3) := by decide +kernel
theorem dX12_next_166 : decode cX12_next 166 = .ok (.aload_n 0, 1) := by decide +kernel
theorem dX12_next_167 : decode cX12_next 167 = .ok (.getfield 94, 3) := by decide +kernel
theorem dX12_next_170 : decode cX12_next 170 = .ok (.isub, 1) := by decide +kernel
theorem dX12_next_171 : decode cX12_next 171 = .ok (.iconst 3, 1) := by decide +kernel
theorem dX12_next_172 : decode cX12_next 172 = .ok (.if_icmp .ge 25, 3) := by decide +kernel
theorem dX12_next_175 : decode cX12_next 175 = .ok (.bipush 10, 2) := by decide +kernel
theorem dX12_next_177 : decode cX12_next 177 = .ok (.aload_n 0, 1) := by decide +kernel
theorem dX12_next_178 : decode cX12_next 178 = .ok (.getfield 126, 3) := by decide +kernel
theorem dX12_next_181 : decode cX12_next 181 = .ok (.imul, 1) := by decide +kernel
theorem dX12_next_182 : decode cX12_next 182 = .ok (.aload_n 0, 1) := by decide +kernel
theorem dX12_next_183 : decode cX12_next 183 = .ok (.aload_n 0, 1) := by decide +kernel
theorem dX12_next_184 : decode cX12_next 184 = .ok (.getfield 100, 3) := by decide +kernel
theorem dX12_next_187 : decode cX12_next 187 = .ok (.invokevirtual 103, 3) := by decide +kernel
theorem dX12_next_190 : decode cX12_next 190 = .ok (.iadd, 1) := by decide +kernel
theorem dX12_next_191 : decode cX12_next 191 = .ok (.bipush 48, 2) := by decide +kernel
theorem dX12_next_193 : decode cX12_next 193 = .ok (.isub, 1) := by decide +kernel
theorem dX12_next_194 : decode cX12_next 194 = .ok (.goto 7, 3) := by decide +kernel
theorem dX12_next_197 : decode cX12_next 197 = .ok (.aload_n 0, 1) := by decide +kernel
theorem dX12_next_198 : decode cX12_next 198 = .ok (.getfield 126, 3) := by decide +kernel
theorem dX12_next_201 : decode cX12_next 201 = .ok (.putfield 126, 3) := by decide +kernel
theorem dX12_next_204 : decode cX12_next 204 = .ok (.aload_n 0, 1) := by decide +kernel
theorem dX12_next_205 : decode cX12_next 205 = .ok (.dup, 1) := by decide +kernel
theorem dX12_next_206 : decode cX12_next 206 = .ok (.getfield 100, 3) := by decide +kernel
theorem dX12_next_209 : decode cX12_next 209 = .ok (.iconst 1, 1) := by decide +kernel
theorem dX12_next_210 : decode cX12_next 210 = .ok (.iadd, 1) := by decide +kernel
theorem dX12_next_211 : decode cX12_next 211 = .ok (.putfield 100, 3) := by decide +kernel
theorem dX12_next_214 : decode cX12_next 214 = .ok (.goto (-74), 3) := by decide +kernel
theorem dX12_next_217 : decode cX12_next 217 = .ok (.aload_n 0, 1) := by decide +kernel
theorem dX12_next_218 : decode cX12_next 218 = .ok (.aload_n 0, 1) := by decide +kernel
theorem dX12_next_219 : decode cX12_next 219 = .ok (.getfield 100, 3) := by decide +kernel
theorem dX12_next_222 : decode cX12_next 222 = .ok (.aload_n 0, 1) := by decide +kernel
theorem dX12_next_223 : decode cX12_next 223 = .ok (.getfield 94, 3) := by decide +kernel
theorem dX12_next_226 : decode cX12_next 226 = .ok (.isub, 1) := by decide +kernel
theorem dX12_next_227 : decode cX12_next 227 = .ok (.iconst 3, 1) := by decide +kernel
theorem dX12_next_228 : decode cX12_next 228 = .ok (.if_icmp .gt 7, 3) := by decide +kernel
theorem dX12_next_231 : decode cX12_next 231 = .ok (.iconst 1, 1) := by decide +kernel
theorem dX12_next_232 : decode cX12_next 232 = .ok (.goto 4, 3) := by decide +kernel
theorem dX12_next_235 : decode cX12_next 235 = .ok (.iconst 0, 1) := by decide +kernel
theorem dX12_next_236 : decode cX12_next 236 = .ok (.iconst 1, 1) := by decide +kernel
theorem dX12_next_237 : decode cX12_next 237 = .ok (.invokevirtual 129, 3) := by decide +kernel
theorem dX12_next_240 : decode cX12_next 240 = .ok (.goto 34, 3) := by decide +kernel
theorem dX12_next_243 : decode cX12_next 243 = .ok (.aload_n 0, 1) := by decide +kernel
theorem dX12_next_244 : decode cX12_next 244 = .ok (.iconst 3, 1) := by decide +kernel
theorem dX12_next_245 : decode cX12_next 245 = .ok (.putfield 115, 3) := by decide +kernel
theorem dX12_next_248 : decode cX12_next 248 = .ok (.aload_n 0, 1) := by decide +kernel
theorem dX12_next_249 : decode cX12_next 249 = .ok (.iload_n 1, 1) := by decide +kernel
theorem dX12_next_250 : decode cX12_next 250 = .ok (.bipush 59, 2) := by decide +kernel
theorem dX12_next_252 : decode cX12_next 252 = .ok (.if_icmp .ne 7, 3) := by decide +kernel
theorem dX12_next_255 : decode cX12_next 255 = .ok (.iconst 1, 1) := by decide +kernel
theorem dX12_next_256 : decode cX12_next 256 = .ok (.goto 4, 3) := by decide +kernel
theorem dX12_next_259 : decode cX12_next 259 = .ok (.iconst 0, 1) := by decide +kernel
theorem dX12_next_260 : decode cX12_next 260 = .ok (.iconst 1, 1) := by decide +kernel
theorem dX12_next_261 : decode cX12_next 261 = .ok (.invokevirtual 129, 3) := by decide +kernel
theorem dX12_next_264 : decode cX12_next 264 = .ok (.aload_n 0, 1) := by decide +kernel
theorem dX12_next_265 : decode cX12_next 265 = .ok (.dup, 1) := by decide +kernel
theorem dX12_next_266 : decode cX12_next 266 = .ok (.getfield 100, 3) := by decide +kernel
theorem dX12_next_269 : decode cX12_next 269 = .ok (.iconst 1, 1) := by decide +kernel
theorem dX12_next_270 : decode cX12_next 270 = .ok (.iadd, 1) := by decide +kernel
theorem dX12_next_271 : decode cX12_next 271 = .ok (.putfield 100, 3) := by decide +kernel
theorem dX12_next_274 : decode cX12_next 274 = .ok (.return_, 1) := by decide +kernel
theorem dX12_isNumber_0 : decode cX12_isNumber 0 = .ok (.aload_n 0, 1) := by decide +kernel
theorem dX12_isNumber_1 : decode cX12_isNumber 1 = .ok (.getfield 91, 3) := by decide +kernel
theorem dX12_isNumber_4 : decode cX12_isNumber 4 = .ok (.ifCond .ne 21, 3) := by decide +kernel
theorem dX12_isNumber_7 : decode cX12_isNumber 7 = .ok (.aload_n 0, 1) := by decide +kernel
theorem dX12_isNumber_8 : decode cX12_isNumber 8 = .ok (.aload_n 0, 1) := by decide +kernel
theorem dX12_isNumber_9 : decode cX12_isNumber 9 = .ok (.getfield 115, 3) := by decide +kernel
theorem dX12_isNumber_12 : decode cX12_isNumber 12 = .ok (.iconst 2, 1) := by decide +kernel
theorem dX12_isNumber_13 : decode cX12_isNumber 13 = .ok (.if_icmp .ne 7, 3) := by decide +kernel
theorem dX12_isNumber_16 : decode cX12_isNumber 16 = .ok (.iconst 1, 1) := by decide +kernel
theorem dX12_isNumber_17 : decode cX12_isNumber 17 = .ok (.goto 4, 3) := by decide +kernel
theorem dX12_isNumber_20 : decode cX12_isNumber 20 = .ok (.iconst 0, 1) := by decide +kernel
theorem dX12_isNumber_21 : decode cX12_isNumber 21 = .ok (.iconst 2, 1) := by decide +kernel
theorem dX12_isNumber_22 : decode cX12_isNumber 22 = .ok (.invokevirtual 129, 3) := by decide +kernel
theorem dX12_isNumber_25 : decode cX12_isNumber 25 = .ok (.aload_n 0, 1) := by decide +kernel
theorem dX12_isNumber_26 : decode cX12_isNumber 26 = .ok (.getfield 91, 3) := by decide +kernel
theorem dX12_isNumber_29 : decode cX12_isNumber 29 = .ok (.ifCond .ne 20, 3) := by decide +kernel
theorem dX12_isNumber_32 : decode cX12_isNumber 32 = .ok (.aload_n 0, 1) := by decide +kernel
theorem dX12_isNumber_33 : decode cX12_isNumber 33 = .ok (.aload_n 0, 1) := by decide +kernel
theorem dX12_isNumber_34 : decode cX12_isNumber 34 = .ok (.getfield 126, 3) := by decide +kernel
theorem dX12_isNumber_37 : decode cX12_isNumber 37 = .ok (.i2l, 1) := by decide +kernel
theorem dX12_isNumber_38 : decode cX12_isNumber 38 = .ok (.iload_n 1, 1) := by decide +kernel
theorem dX12_isNumber_39 : decode cX12_isNumber 39 = .ok (.i2l, 1) := by decide +kernel
theorem dX12_isNumber_40 : decode cX12_isNumber 40 = .ok (.iload_n 2, 1) := by decide +kernel
theorem dX12_isNumber_41 : decode cX12_isNumber 41 = .ok (.i2l, 1) := by decide +kernel
theorem dX12_isNumber_42 : decode cX12_isNumber 42 = .ok (.invokestatic 82, 3) := by decide +kernel
theorem dX12_isNumber_45 : decode cX12_isNumber 45 = .ok (.iconst 3, 1) := by decide +kernel
theorem dX12_isNumber_46 : decode cX12_isNumber 46 = .ok (.invokevirtual 129, 3) := by decide +kernel
theorem dX12_isNumber_49 : decode cX12_isNumber 49 = .ok (.return_, 1) := by decide +kernel
theorem dX12_readNumber_0 : decode cX12_readNumber 0 = .ok (.aload_n 0, 1) := by decide +kernel
theorem dX12_readNumber_1 : decode cX12_readNumber 1 = .ok (.iload_n 1, 1) := by decide +kernel
theorem dX12_readNumber_2 : decode cX12_readNumber 2 = .ok (.iload_n 2, 1) := by decide +kernel
theorem dX12_readNumber_3 : decode cX12_readNumber 3 = .ok (.invokevirtual 133, 3) := by decide +kernel
theorem dX12_readNumber_6 : decode cX12_readNumber 6 = .ok (.aload_n 0, 1) := by decide +kernel
theorem dX12_readNumber_7 : decode cX12_readNumber 7 = .ok (.getfield 126, 3) := by decide +kernel
theorem dX12_readNumber_10 : decode cX12_readNumber 10 = .ok (.istore_n 3, 1) := by decide +kernel
theorem dX12_readNumber_11 : decode cX12_readNumber 11 = .ok (.aload_n 0, 1) := by decide +kernel
theorem dX12_readNumber_12 : decode cX12_readNumber 12 = .ok (.invokevirtual 137, 3) := by decide +kernel
theorem dX12_readNumber_15 : decode cX12_readNumber 15 = .ok (.iload_n 3, 1) := by decide +kernel
theorem dX12_readNumber_16 : decode cX12_readNumber 16 = .ok (.ireturn, 1) := by decide +kernel
abbrev q_X12_needs (g : Int) (c : Int) (σ : tw_M) : Option tw_V → tw_M → Prop := fun z τ => z = none ∧ tw_I τ ∧ tw_F (fun c j => (c = 88 ∧ (j = 17 ∨ j = 18))) σ τ ∧ ((¬ g = 0 ∧ τ 88 17 = σ 88 17) ∨ (g = 0 ∧ σ 88 17 = 0 ∧ τ 88 17 = c) ∨ (g = 0 ∧ ¬ σ 88 17 = 0 ∧ τ 88 17 = σ 88 17))
set_option maxHeartbeats 4000000 in
set_option maxRecDepth 100000 in
theorem c_X12_needs {G : tw_G} (hM : tw_isM G) (g : Int) (hg : 0 ≤ g ∧ g ≤ 1) (c : Int) (hc : 1 ≤ c ∧ c ≤ 5) (σ : tw_M) (hI : tw_I σ) : tw_C G yX12_needs cX12_needs 3 none 0 [vR 88, vI g, vI c] σ (q_X12_needs g c σ) := by
  refine tw_met [(0, vR 88), (1, vI g), (2, vI c)] (by decide +kernel) rfl (Nat.le_of_ble_eq_true rfl) ?_
  refine j_iload_n (pc := 0) dX12_needs_0 rfl rfl ?_
  refine j_ifR_ne (pc := 1) (tgt := 24) ⟨by omega, by omega⟩ dX12_needs_1 rfl (fun h1 => ?_) (fun h1 => ?_)
  · exact j_vret (pc := 24) ⟨rfl, rfl⟩ dX12_needs_24 rfl ⟨rfl, hI, (tw_F_rf), by omega⟩
  · refine j_aload_n (pc := 4) dX12_needs_4 rfl rfl ?_
    refine j_getI (pc := 5) fl_X12_91 dX12_needs_5 (a_88 hM) rfl ?_
    have f2 : (0 : Int) ≤ σ 88 17 ∧ σ 88 17 ≤ 5 := hI 88 17
    refine j_ifR_ne (pc := 8) (tgt := 24) ⟨by omega, by omega⟩ dX12_needs_8 rfl (fun h3 => ?_) (fun h3 => ?_)
    · exact j_vret (pc := 24) ⟨rfl, rfl⟩ dX12_needs_24 rfl ⟨rfl, hI, (tw_F_rf), by omega⟩
    · refine j_aload_n (pc := 11) dX12_needs_11 rfl rfl ?_
      refine j_iload_n (pc := 12) dX12_needs_12 rfl rfl ?_
      refine j_putI (pc := 13) fl_X12_91 fp_X12_17 dX12_needs_13 (a_88 hM) rfl (j_nm (fun σ4 (eσ4 : σ4 = tw_up σ 88 17 c) => ?_))
      have hIσ4 : tw_I σ4 := tw_I_up hI eσ4 (show (0 : Int) ≤ c ∧ c ≤ 5 from ⟨by omega, by omega⟩)
      have hFσ4 : tw_F (fun c j => (c = 88 ∧ (j = 17 ∨ j = 18))) σ σ4 := tw_F_up (tw_F_rf) eσ4 (show (88 = 88 ∧ (17 = 17 ∨ 17 = 18)) from by omega)
      refine j_aload_n (pc := 16) dX12_needs_16 rfl rfl ?_
      refine j_aload_n (pc := 17) dX12_needs_17 rfl rfl ?_
      refine j_getI (pc := 18) fl_X12_94 dX12_needs_18 (a_88 hM) rfl ?_
      refine j_topV (show σ4 88 14 = σ 88 14 from (tw_ne1 eσ4 (by omega))) ?_
      have f5 : (0 : Int) ≤ σ 88 14 ∧ σ 88 14 ≤ 400 := hI 88 14
      refine j_putI (pc := 21) fl_X12_97 fp_X12_18 dX12_needs_21 (a_88 hM) rfl (j_nm (fun σ6 (eσ6 : σ6 = tw_up σ4 88 18 (σ 88 14)) => ?_))
      have hIσ6 : tw_I σ6 := tw_I_up hIσ4 eσ6 (show (-2147483648 : Int) ≤ σ 88 14 ∧ σ 88 14 ≤ 2147483647 from ⟨by omega, by omega⟩)
      have hFσ6 : tw_F (fun c j => (c = 88 ∧ (j = 17 ∨ j = 18))) σ σ6 := tw_F_up hFσ4 eσ6 (show (88 = 88 ∧ (18 = 17 ∨ 18 = 18)) from by omega)
      have y7 : σ6 88 17 = c := ((tw_ne1 eσ6 (by omega))).trans (tw_eq1 eσ4)
      exact j_vret (pc := 24) ⟨rfl, rfl⟩ dX12_needs_24 rfl ⟨rfl, hIσ6, hFσ6, by omega⟩
abbrev q_X12_look (p : Int) (σ : tw_M) : Option tw_V → tw_M → Prop := fun z τ => ∃ r : Int, z = some (vI r) ∧ (-2147483648 ≤ r ∧ r ≤ 2147483647) ∧ σ = τ ∧ ((p < σ 88 12 ∧ r = σ 98 p.toNat) ∨ (¬ p < σ 88 12 ∧ r = -1))
set_option maxHeartbeats 4000000 in
set_option maxRecDepth 100000 in
theorem c_X12_look {G : tw_G} (hM : tw_isM G) (p : Int) (hp : 0 ≤ p ∧ p ≤ 2147483647) (σ : tw_M) (hI : tw_I σ) : tw_C G yX12_look cX12_look 2 (some .int) 0 [vR 88, vI p] σ (q_X12_look p σ) := by
  refine tw_met [(0, vR 88), (1, vI p)] (by decide +kernel) rfl (Nat.le_of_ble_eq_true rfl) ?_
  refine j_iload_n (pc := 0) dX12_look_0 rfl rfl ?_
  refine j_aload_n (pc := 1) dX12_look_1 rfl rfl ?_
  refine j_getI (pc := 2) fl_X12_86 dX12_look_2 (a_88 hM) rfl ?_
  have f1 : (0 : Int) ≤ σ 88 12 ∧ σ 88 12 ≤ 400 := hI 88 12
  refine j_icmpR_ge (pc := 5) (tgt := 17) ⟨by omega, by omega⟩ ⟨by omega, by omega⟩ dX12_look_5 rfl (fun h2 => ?_) (fun h2 => ?_)
  · refine j_iconst (pc := 17) dX12_look_17 ?_
    exact j_iret (pc := 18) ⟨rfl, rfl⟩ dX12_look_18 rfl ⟨_, rfl, ⟨by omega, by omega⟩, rfl, by omega⟩
  · refine j_aload_n (pc := 8) dX12_look_8 rfl rfl ?_
    refine j_getR (pc := 9) (r := 98) fl_X12_38 dX12_look_9 (a_88 hM) rfl ?_
    refine j_iload_n (pc := 12) dX12_look_12 rfl rfl ?_
    refine j_iald (pc := 13) dX12_look_13 (a_98 hM) (by omega) (by omega) (by decide) ?_
    have f3 : (-2147483648 : Int) ≤ σ 98 (p.toNat) ∧ σ 98 (p.toNat) ≤ 2147483647 := hI 98 (p.toNat)
    refine j_goto (pc := 14) (tgt := 18) dX12_look_14 rfl ?_
    exact j_iret (pc := 18) ⟨rfl, rfl⟩ dX12_look_18 rfl ⟨_, rfl, ⟨by omega, by omega⟩, rfl, by omega⟩
abbrev q_X12_is (n : Int) (a : Int) (b : Int) (c : Int) (d : Int) (σ : tw_M) : Option tw_V → tw_M → Prop := fun z τ => ∃ r : Int, z = some (vI r) ∧ (0 ≤ r ∧ r ≤ 1) ∧ σ = τ ∧ True
set_option maxHeartbeats 4000000 in
set_option maxRecDepth 100000 in
theorem c_X12_is {G : tw_G} (hM : tw_isM G) (n : Int) (hn : -2147483648 ≤ n ∧ n ≤ 2147483647) (a : Int) (ha : -2147483648 ≤ a ∧ a ≤ 2147483647) (b : Int) (hb : -2147483648 ≤ b ∧ b ≤ 2147483647) (c : Int) (hc : -2147483648 ≤ c ∧ c ≤ 2147483647) (d : Int) (hd : -2147483648 ≤ d ∧ d ≤ 2147483647) (σ : tw_M) (hI : tw_I σ) : tw_C G yX12_is cX12_is 6 (some .boolean) 1 [vR 88, vI n, vI a, vI b, vI c, vI d] σ (q_X12_is n a b c d σ) := by
  refine tw_met [(0, vR 88), (1, vI n), (2, vI a), (3, vI b), (4, vI c), (5, vI d)] (by decide +kernel) rfl (Nat.le_of_ble_eq_true rfl) ?_
  refine j_aload_n (pc := 0) dX12_is_0 rfl rfl ?_
  refine j_getI (pc := 1) fl_X12_100 dX12_is_1 (a_88 hM) rfl ?_
  have f1 : (0 : Int) ≤ σ 88 13 ∧ σ 88 13 ≤ 400 := hI 88 13
  refine j_aload_n (pc := 4) dX12_is_4 rfl rfl ?_
  refine j_getI (pc := 5) fl_X12_94 dX12_is_5 (a_88 hM) rfl ?_
  have f2 : (0 : Int) ≤ σ 88 14 ∧ σ 88 14 ≤ 400 := hI 88 14
  refine j_isub (pc := 8) dX12_is_8 ?_
  refine j_iload_n (pc := 9) dX12_is_9 rfl rfl ?_
  refine j_icmpR_ne (pc := 10) (tgt := 83) ⟨by omega, by omega⟩ ⟨by omega, by omega⟩ dX12_is_10 rfl (fun h3 => ?_) (fun h3 => ?_)
  · refine j_iconst (pc := 83) dX12_is_83 ?_
    exact j_zret (pc := 84) ⟨rfl, rfl⟩ dX12_is_84 rfl (nar_bool (by omega) (by omega)) ⟨_, rfl, ⟨by omega, by omega⟩, rfl, trivial⟩
  · refine j_aload_n (pc := 13) dX12_is_13 rfl rfl ?_
    refine j_aload_n (pc := 14) dX12_is_14 rfl rfl ?_
    refine j_getI (pc := 15) fl_X12_94 dX12_is_15 (a_88 hM) rfl ?_
    refine j_callV (pc := 18) (As := [vI (σ 88 14)]) (st := []) (c_X12_look hM (σ 88 14) ⟨by omega, by omega⟩ σ hI) mv_X12_103 rfl rfl rfl (a_88 hM) dX12_is_18 ⟨Nat.le_of_ble_eq_true rfl, Nat.le_of_ble_eq_true rfl⟩ ⟨Nat.le_refl _, Nat.le_refl _⟩ rfl (Nat.le_of_ble_eq_true rfl) rfl (fun z4 σ5 hz4 => ?_)
    obtain ⟨r7, rfl, hr7, rfl, q6_0⟩ := hz4
    replace q6_0 : ((σ 88 14) < σ 88 12 ∧ r7 = σ 98 (σ 88 14).toNat) ∨ (¬ (σ 88 14) < σ 88 12 ∧ r7 = -1) := q6_0
    refine j_st (st' := [vI r7]) rfl ?_
    refine j_iload_n (pc := 21) dX12_is_21 rfl rfl ?_
    refine j_icmpR_ne (pc := 22) (tgt := 83) ⟨by omega, by omega⟩ ⟨by omega, by omega⟩ dX12_is_22 rfl (fun h8 => ?_) (fun h8 => ?_)
    · refine j_iconst (pc := 83) dX12_is_83 ?_
      exact j_zret (pc := 84) ⟨rfl, rfl⟩ dX12_is_84 rfl (nar_bool (by omega) (by omega)) ⟨_, rfl, ⟨by omega, by omega⟩, rfl, trivial⟩
    · refine j_aload_n (pc := 25) dX12_is_25 rfl rfl ?_
      refine j_aload_n (pc := 26) dX12_is_26 rfl rfl ?_
      refine j_getI (pc := 27) fl_X12_94 dX12_is_27 (a_88 hM) rfl ?_
      refine j_iconst (pc := 30) dX12_is_30 ?_
      refine j_iadd (pc := 31) dX12_is_31 ?_
      refine j_callV (pc := 32) (As := [vI ((σ 88 14) + 1)]) (st := []) (c_X12_look hM ((σ 88 14) + 1) ⟨by omega, by omega⟩ σ hI) mv_X12_103 rfl rfl rfl (a_88 hM) dX12_is_32 ⟨Nat.le_of_ble_eq_true rfl, Nat.le_of_ble_eq_true rfl⟩ ⟨Nat.le_refl _, Nat.le_refl _⟩ rfl (Nat.le_of_ble_eq_true rfl) rfl (fun z9 σ10 hz9 => ?_)
      obtain ⟨r12, rfl, hr12, rfl, q11_0⟩ := hz9
      replace q11_0 : (((σ 88 14) + 1) < σ 88 12 ∧ r12 = σ 98 ((σ 88 14) + 1).toNat) ∨ (¬ ((σ 88 14) + 1) < σ 88 12 ∧ r12 = -1) := q11_0
      refine j_st (st' := [vI r12]) rfl ?_
      refine j_iload_n (pc := 35) dX12_is_35 rfl rfl ?_
      refine j_icmpR_ne (pc := 36) (tgt := 83) ⟨by omega, by omega⟩ ⟨by omega, by omega⟩ dX12_is_36 rfl (fun h13 => ?_) (fun h13 => ?_)
      · refine j_iconst (pc := 83) dX12_is_83 ?_
        exact j_zret (pc := 84) ⟨rfl, rfl⟩ dX12_is_84 rfl (nar_bool (by omega) (by omega)) ⟨_, rfl, ⟨by omega, by omega⟩, rfl, trivial⟩
      · refine j_iload_n (pc := 39) dX12_is_39 rfl rfl ?_
        refine j_iconst (pc := 40) dX12_is_40 ?_
        refine j_icmpR_lt (pc := 41) (tgt := 59) ⟨by omega, by omega⟩ ⟨by omega, by omega⟩ dX12_is_41 rfl (fun h14 => ?_) (fun h14 => ?_)
        · refine j_iload_n (pc := 59) dX12_is_59 rfl rfl ?_
          refine j_iconst (pc := 60) dX12_is_60 ?_
          refine j_icmpR_lt (pc := 61) (tgt := 79) ⟨by omega, by omega⟩ ⟨by omega, by omega⟩ dX12_is_61 rfl (fun h15 => ?_) (fun h15 => by exfalso; omega)
          refine j_iconst (pc := 79) dX12_is_79 ?_
          refine j_goto (pc := 80) (tgt := 84) dX12_is_80 rfl ?_
          exact j_zret (pc := 84) ⟨rfl, rfl⟩ dX12_is_84 rfl (nar_bool (by omega) (by omega)) ⟨_, rfl, ⟨by omega, by omega⟩, rfl, trivial⟩
        · refine j_aload_n (pc := 44) dX12_is_44 rfl rfl ?_
          refine j_aload_n (pc := 45) dX12_is_45 rfl rfl ?_
          refine j_getI (pc := 46) fl_X12_94 dX12_is_46 (a_88 hM) rfl ?_
          refine j_iconst (pc := 49) dX12_is_49 ?_
          refine j_iadd (pc := 50) dX12_is_50 ?_
          refine j_callV (pc := 51) (As := [vI ((σ 88 14) + 2)]) (st := []) (c_X12_look hM ((σ 88 14) + 2) ⟨by omega, by omega⟩ σ hI) mv_X12_103 rfl rfl rfl (a_88 hM) dX12_is_51 ⟨Nat.le_of_ble_eq_true rfl, Nat.le_of_ble_eq_true rfl⟩ ⟨Nat.le_refl _, Nat.le_refl _⟩ rfl (Nat.le_of_ble_eq_true rfl) rfl (fun z16 σ17 hz16 => ?_)
          obtain ⟨r19, rfl, hr19, rfl, q18_0⟩ := hz16
          replace q18_0 : (((σ 88 14) + 2) < σ 88 12 ∧ r19 = σ 98 ((σ 88 14) + 2).toNat) ∨ (¬ ((σ 88 14) + 2) < σ 88 12 ∧ r19 = -1) := q18_0
          refine j_st (st' := [vI r19]) rfl ?_
          refine j_iload (pc := 54) dX12_is_54 rfl ?_
          refine j_icmpR_ne (pc := 56) (tgt := 83) ⟨by omega, by omega⟩ ⟨by omega, by omega⟩ dX12_is_56 rfl (fun h20 => ?_) (fun h20 => ?_)
          · refine j_iconst (pc := 83) dX12_is_83 ?_
            exact j_zret (pc := 84) ⟨rfl, rfl⟩ dX12_is_84 rfl (nar_bool (by omega) (by omega)) ⟨_, rfl, ⟨by omega, by omega⟩, rfl, trivial⟩
          · refine j_iload_n (pc := 59) dX12_is_59 rfl rfl ?_
            refine j_iconst (pc := 60) dX12_is_60 ?_
            refine j_icmpR_lt (pc := 61) (tgt := 79) ⟨by omega, by omega⟩ ⟨by omega, by omega⟩ dX12_is_61 rfl (fun h21 => ?_) (fun h21 => ?_)
            · refine j_iconst (pc := 79) dX12_is_79 ?_
              refine j_goto (pc := 80) (tgt := 84) dX12_is_80 rfl ?_
              exact j_zret (pc := 84) ⟨rfl, rfl⟩ dX12_is_84 rfl (nar_bool (by omega) (by omega)) ⟨_, rfl, ⟨by omega, by omega⟩, rfl, trivial⟩
            · refine j_aload_n (pc := 64) dX12_is_64 rfl rfl ?_
              refine j_aload_n (pc := 65) dX12_is_65 rfl rfl ?_
              refine j_getI (pc := 66) fl_X12_94 dX12_is_66 (a_88 hM) rfl ?_
              refine j_iconst (pc := 69) dX12_is_69 ?_
              refine j_iadd (pc := 70) dX12_is_70 ?_
              refine j_callV (pc := 71) (As := [vI ((σ 88 14) + 3)]) (st := []) (c_X12_look hM ((σ 88 14) + 3) ⟨by omega, by omega⟩ σ hI) mv_X12_103 rfl rfl rfl (a_88 hM) dX12_is_71 ⟨Nat.le_of_ble_eq_true rfl, Nat.le_of_ble_eq_true rfl⟩ ⟨Nat.le_refl _, Nat.le_refl _⟩ rfl (Nat.le_of_ble_eq_true rfl) rfl (fun z22 σ23 hz22 => ?_)
              obtain ⟨r25, rfl, hr25, rfl, q24_0⟩ := hz22
              replace q24_0 : (((σ 88 14) + 3) < σ 88 12 ∧ r25 = σ 98 ((σ 88 14) + 3).toNat) ∨ (¬ ((σ 88 14) + 3) < σ 88 12 ∧ r25 = -1) := q24_0
              refine j_st (st' := [vI r25]) rfl ?_
              refine j_iload (pc := 74) dX12_is_74 rfl ?_
              refine j_icmpR_ne (pc := 76) (tgt := 83) ⟨by omega, by omega⟩ ⟨by omega, by omega⟩ dX12_is_76 rfl (fun h26 => ?_) (fun h26 => ?_)
              · refine j_iconst (pc := 83) dX12_is_83 ?_
                exact j_zret (pc := 84) ⟨rfl, rfl⟩ dX12_is_84 rfl (nar_bool (by omega) (by omega)) ⟨_, rfl, ⟨by omega, by omega⟩, rfl, trivial⟩
              · refine j_iconst (pc := 79) dX12_is_79 ?_
                refine j_goto (pc := 80) (tgt := 84) dX12_is_80 rfl ?_
                exact j_zret (pc := 84) ⟨rfl, rfl⟩ dX12_is_84 rfl (nar_bool (by omega) (by omega)) ⟨_, rfl, ⟨by omega, by omega⟩, rfl, trivial⟩
abbrev q_X12_withNow  (σ : tw_M) : Option tw_V → tw_M → Prop := fun z τ => ∃ r : Int, z = some (vI r) ∧ (-4 ≤ r ∧ r ≤ 23) ∧ σ = τ ∧ (r = -4 ∨ 20 ≤ r)
set_option maxHeartbeats 4000000 in
set_option maxRecDepth 100000 in
theorem c_X12_withNow {G : tw_G} (hM : tw_isM G) (σ : tw_M) (hI : tw_I σ) : tw_C G yX12_withNow cX12_withNow 1 (some .int) 2 [vR 88] σ (q_X12_withNow σ) := by
  refine tw_met [(0, vR 88)] (by decide +kernel) rfl (Nat.le_of_ble_eq_true rfl) ?_
  refine j_aload_n (pc := 0) dX12_withNow_0 rfl rfl ?_
  refine j_iconst (pc := 1) dX12_withNow_1 ?_
  refine j_bipush (pc := 2) dX12_withNow_2 rfl ?_
  refine j_bipush (pc := 4) dX12_withNow_4 rfl ?_
  refine j_bipush (pc := 6) dX12_withNow_6 rfl ?_
  refine j_bipush (pc := 8) dX12_withNow_8 rfl ?_
  refine j_callV (pc := 10) (As := [vI 5, vI 99, vI 114, vI 97, vI 99]) (st := []) (c_X12_is hM 5 ⟨by omega, by omega⟩ 99 ⟨by omega, by omega⟩ 114 ⟨by omega, by omega⟩ 97 ⟨by omega, by omega⟩ 99 ⟨by omega, by omega⟩ σ hI) mv_X12_107 rfl rfl rfl (a_88 hM) dX12_withNow_10 ⟨Nat.le_of_ble_eq_true rfl, Nat.le_of_ble_eq_true rfl⟩ ⟨Nat.le_refl _, Nat.le_refl _⟩ rfl (Nat.le_of_ble_eq_true rfl) rfl (fun z1 σ2 hz1 => ?_)
  obtain ⟨r4, rfl, hr4, rfl, -⟩ := hz1
  refine j_st (st' := [vI r4]) rfl ?_
  refine j_ifR_eq (pc := 13) (tgt := 34) ⟨by omega, by omega⟩ dX12_withNow_13 rfl (fun h5 => ?_) (fun h5 => ?_)
  · refine j_aload_n (pc := 34) dX12_withNow_34 rfl rfl ?_
    refine j_iconst (pc := 35) dX12_withNow_35 ?_
    refine j_bipush (pc := 36) dX12_withNow_36 rfl ?_
    refine j_bipush (pc := 38) dX12_withNow_38 rfl ?_
    refine j_bipush (pc := 40) dX12_withNow_40 rfl ?_
    refine j_bipush (pc := 42) dX12_withNow_42 rfl ?_
    refine j_callV (pc := 44) (As := [vI 5, vI 108, vI 101, vI 100, vI 103]) (st := []) (c_X12_is hM 5 ⟨by omega, by omega⟩ 108 ⟨by omega, by omega⟩ 101 ⟨by omega, by omega⟩ 100 ⟨by omega, by omega⟩ 103 ⟨by omega, by omega⟩ σ hI) mv_X12_107 rfl rfl rfl (a_88 hM) dX12_withNow_44 ⟨Nat.le_of_ble_eq_true rfl, Nat.le_of_ble_eq_true rfl⟩ ⟨Nat.le_refl _, Nat.le_refl _⟩ rfl (Nat.le_of_ble_eq_true rfl) rfl (fun z6 σ7 hz6 => ?_)
    obtain ⟨r9, rfl, hr9, rfl, -⟩ := hz6
    refine j_st (st' := [vI r9]) rfl ?_
    refine j_ifR_eq (pc := 47) (tgt := 68) ⟨by omega, by omega⟩ dX12_withNow_47 rfl (fun h10 => ?_) (fun h10 => ?_)
    · refine j_aload_n (pc := 68) dX12_withNow_68 rfl rfl ?_
      refine j_iconst (pc := 69) dX12_withNow_69 ?_
      refine j_bipush (pc := 70) dX12_withNow_70 rfl ?_
      refine j_bipush (pc := 72) dX12_withNow_72 rfl ?_
      refine j_bipush (pc := 74) dX12_withNow_74 rfl ?_
      refine j_bipush (pc := 76) dX12_withNow_76 rfl ?_
      refine j_callV (pc := 78) (As := [vI 4, vI 114, vI 101, vI 115, vI 116]) (st := []) (c_X12_is hM 4 ⟨by omega, by omega⟩ 114 ⟨by omega, by omega⟩ 101 ⟨by omega, by omega⟩ 115 ⟨by omega, by omega⟩ 116 ⟨by omega, by omega⟩ σ hI) mv_X12_107 rfl rfl rfl (a_88 hM) dX12_withNow_78 ⟨Nat.le_of_ble_eq_true rfl, Nat.le_of_ble_eq_true rfl⟩ ⟨Nat.le_refl _, Nat.le_refl _⟩ rfl (Nat.le_of_ble_eq_true rfl) rfl (fun z11 σ12 hz11 => ?_)
      obtain ⟨r14, rfl, hr14, rfl, -⟩ := hz11
      refine j_st (st' := [vI r14]) rfl ?_
      refine j_ifR_eq (pc := 81) (tgt := 89) ⟨by omega, by omega⟩ dX12_withNow_81 rfl (fun h15 => ?_) (fun h15 => ?_)
      · refine j_aload_n (pc := 89) dX12_withNow_89 rfl rfl ?_
        refine j_iconst (pc := 90) dX12_withNow_90 ?_
        refine j_bipush (pc := 91) dX12_withNow_91 rfl ?_
        refine j_bipush (pc := 93) dX12_withNow_93 rfl ?_
        refine j_bipush (pc := 95) dX12_withNow_95 rfl ?_
        refine j_bipush (pc := 97) dX12_withNow_97 rfl ?_
        refine j_callV (pc := 99) (As := [vI 4, vI 115, vI 105, vI 100, vI 101]) (st := []) (c_X12_is hM 4 ⟨by omega, by omega⟩ 115 ⟨by omega, by omega⟩ 105 ⟨by omega, by omega⟩ 100 ⟨by omega, by omega⟩ 101 ⟨by omega, by omega⟩ σ hI) mv_X12_107 rfl rfl rfl (a_88 hM) dX12_withNow_99 ⟨Nat.le_of_ble_eq_true rfl, Nat.le_of_ble_eq_true rfl⟩ ⟨Nat.le_refl _, Nat.le_refl _⟩ rfl (Nat.le_of_ble_eq_true rfl) rfl (fun z16 σ17 hz16 => ?_)
        obtain ⟨r19, rfl, hr19, rfl, -⟩ := hz16
        refine j_st (st' := [vI r19]) rfl ?_
        refine j_ifR_eq (pc := 102) (tgt := 110) ⟨by omega, by omega⟩ dX12_withNow_102 rfl (fun h20 => ?_) (fun h20 => ?_)
        · refine j_bipush (pc := 110) dX12_withNow_110 rfl ?_
          exact j_iret (pc := 112) ⟨rfl, rfl⟩ dX12_withNow_112 rfl ⟨_, rfl, ⟨by omega, by omega⟩, rfl, by omega⟩
        · refine j_bipush (pc := 105) dX12_withNow_105 rfl ?_
          refine j_goto (pc := 107) (tgt := 112) dX12_withNow_107 rfl ?_
          exact j_iret (pc := 112) ⟨rfl, rfl⟩ dX12_withNow_112 rfl ⟨_, rfl, ⟨by omega, by omega⟩, rfl, by omega⟩
      · refine j_bipush (pc := 84) dX12_withNow_84 rfl ?_
        refine j_goto (pc := 86) (tgt := 112) dX12_withNow_86 rfl ?_
        exact j_iret (pc := 112) ⟨rfl, rfl⟩ dX12_withNow_112 rfl ⟨_, rfl, ⟨by omega, by omega⟩, rfl, by omega⟩
    · refine j_aload_n (pc := 50) dX12_withNow_50 rfl rfl ?_
      refine j_aload_n (pc := 51) dX12_withNow_51 rfl rfl ?_
      refine j_getI (pc := 52) fl_X12_94 dX12_withNow_52 (a_88 hM) rfl ?_
      have f21 : (0 : Int) ≤ σ 88 14 ∧ σ 88 14 ≤ 400 := hI 88 14
      refine j_iconst (pc := 55) dX12_withNow_55 ?_
      refine j_iadd (pc := 56) dX12_withNow_56 ?_
      refine j_callV (pc := 57) (As := [vI ((σ 88 14) + 4)]) (st := []) (c_X12_look hM ((σ 88 14) + 4) ⟨by omega, by omega⟩ σ hI) mv_X12_103 rfl rfl rfl (a_88 hM) dX12_withNow_57 ⟨Nat.le_of_ble_eq_true rfl, Nat.le_of_ble_eq_true rfl⟩ ⟨Nat.le_refl _, Nat.le_refl _⟩ rfl (Nat.le_of_ble_eq_true rfl) rfl (fun z22 σ23 hz22 => ?_)
      obtain ⟨r25, rfl, hr25, rfl, q24_0⟩ := hz22
      replace q24_0 : (((σ 88 14) + 4) < σ 88 12 ∧ r25 = σ 98 ((σ 88 14) + 4).toNat) ∨ (¬ ((σ 88 14) + 4) < σ 88 12 ∧ r25 = -1) := q24_0
      refine j_st (st' := [vI r25]) rfl ?_
      refine j_bipush (pc := 60) dX12_withNow_60 rfl ?_
      refine j_icmpR_ne (pc := 62) (tgt := 68) ⟨by omega, by omega⟩ ⟨by omega, by omega⟩ dX12_withNow_62 rfl (fun h26 => ?_) (fun h26 => ?_)
      · refine j_aload_n (pc := 68) dX12_withNow_68 rfl rfl ?_
        refine j_iconst (pc := 69) dX12_withNow_69 ?_
        refine j_bipush (pc := 70) dX12_withNow_70 rfl ?_
        refine j_bipush (pc := 72) dX12_withNow_72 rfl ?_
        refine j_bipush (pc := 74) dX12_withNow_74 rfl ?_
        refine j_bipush (pc := 76) dX12_withNow_76 rfl ?_
        refine j_callV (pc := 78) (As := [vI 4, vI 114, vI 101, vI 115, vI 116]) (st := []) (c_X12_is hM 4 ⟨by omega, by omega⟩ 114 ⟨by omega, by omega⟩ 101 ⟨by omega, by omega⟩ 115 ⟨by omega, by omega⟩ 116 ⟨by omega, by omega⟩ σ hI) mv_X12_107 rfl rfl rfl (a_88 hM) dX12_withNow_78 ⟨Nat.le_of_ble_eq_true rfl, Nat.le_of_ble_eq_true rfl⟩ ⟨Nat.le_refl _, Nat.le_refl _⟩ rfl (Nat.le_of_ble_eq_true rfl) rfl (fun z27 σ28 hz27 => ?_)
        obtain ⟨r30, rfl, hr30, rfl, -⟩ := hz27
        refine j_st (st' := [vI r30]) rfl ?_
        refine j_ifR_eq (pc := 81) (tgt := 89) ⟨by omega, by omega⟩ dX12_withNow_81 rfl (fun h31 => ?_) (fun h31 => ?_)
        · refine j_aload_n (pc := 89) dX12_withNow_89 rfl rfl ?_
          refine j_iconst (pc := 90) dX12_withNow_90 ?_
          refine j_bipush (pc := 91) dX12_withNow_91 rfl ?_
          refine j_bipush (pc := 93) dX12_withNow_93 rfl ?_
          refine j_bipush (pc := 95) dX12_withNow_95 rfl ?_
          refine j_bipush (pc := 97) dX12_withNow_97 rfl ?_
          refine j_callV (pc := 99) (As := [vI 4, vI 115, vI 105, vI 100, vI 101]) (st := []) (c_X12_is hM 4 ⟨by omega, by omega⟩ 115 ⟨by omega, by omega⟩ 105 ⟨by omega, by omega⟩ 100 ⟨by omega, by omega⟩ 101 ⟨by omega, by omega⟩ σ hI) mv_X12_107 rfl rfl rfl (a_88 hM) dX12_withNow_99 ⟨Nat.le_of_ble_eq_true rfl, Nat.le_of_ble_eq_true rfl⟩ ⟨Nat.le_refl _, Nat.le_refl _⟩ rfl (Nat.le_of_ble_eq_true rfl) rfl (fun z32 σ33 hz32 => ?_)
          obtain ⟨r35, rfl, hr35, rfl, -⟩ := hz32
          refine j_st (st' := [vI r35]) rfl ?_
          refine j_ifR_eq (pc := 102) (tgt := 110) ⟨by omega, by omega⟩ dX12_withNow_102 rfl (fun h36 => ?_) (fun h36 => ?_)
          · refine j_bipush (pc := 110) dX12_withNow_110 rfl ?_
            exact j_iret (pc := 112) ⟨rfl, rfl⟩ dX12_withNow_112 rfl ⟨_, rfl, ⟨by omega, by omega⟩, rfl, by omega⟩
          · refine j_bipush (pc := 105) dX12_withNow_105 rfl ?_
            refine j_goto (pc := 107) (tgt := 112) dX12_withNow_107 rfl ?_
            exact j_iret (pc := 112) ⟨rfl, rfl⟩ dX12_withNow_112 rfl ⟨_, rfl, ⟨by omega, by omega⟩, rfl, by omega⟩
        · refine j_bipush (pc := 84) dX12_withNow_84 rfl ?_
          refine j_goto (pc := 86) (tgt := 112) dX12_withNow_86 rfl ?_
          exact j_iret (pc := 112) ⟨rfl, rfl⟩ dX12_withNow_112 rfl ⟨_, rfl, ⟨by omega, by omega⟩, rfl, by omega⟩
      · refine j_bipush (pc := 65) dX12_withNow_65 rfl ?_
        exact j_iret (pc := 67) ⟨rfl, rfl⟩ dX12_withNow_67 rfl ⟨_, rfl, ⟨by omega, by omega⟩, rfl, by omega⟩
  · refine j_aload_n (pc := 16) dX12_withNow_16 rfl rfl ?_
    refine j_aload_n (pc := 17) dX12_withNow_17 rfl rfl ?_
    refine j_getI (pc := 18) fl_X12_94 dX12_withNow_18 (a_88 hM) rfl ?_
    have f37 : (0 : Int) ≤ σ 88 14 ∧ σ 88 14 ≤ 400 := hI 88 14
    refine j_iconst (pc := 21) dX12_withNow_21 ?_
    refine j_iadd (pc := 22) dX12_withNow_22 ?_
    refine j_callV (pc := 23) (As := [vI ((σ 88 14) + 4)]) (st := []) (c_X12_look hM ((σ 88 14) + 4) ⟨by omega, by omega⟩ σ hI) mv_X12_103 rfl rfl rfl (a_88 hM) dX12_withNow_23 ⟨Nat.le_of_ble_eq_true rfl, Nat.le_of_ble_eq_true rfl⟩ ⟨Nat.le_refl _, Nat.le_refl _⟩ rfl (Nat.le_of_ble_eq_true rfl) rfl (fun z38 σ39 hz38 => ?_)
    obtain ⟨r41, rfl, hr41, rfl, q40_0⟩ := hz38
    replace q40_0 : (((σ 88 14) + 4) < σ 88 12 ∧ r41 = σ 98 ((σ 88 14) + 4).toNat) ∨ (¬ ((σ 88 14) + 4) < σ 88 12 ∧ r41 = -1) := q40_0
    refine j_st (st' := [vI r41]) rfl ?_
    refine j_bipush (pc := 26) dX12_withNow_26 rfl ?_
    refine j_icmpR_ne (pc := 28) (tgt := 34) ⟨by omega, by omega⟩ ⟨by omega, by omega⟩ dX12_withNow_28 rfl (fun h42 => ?_) (fun h42 => ?_)
    · refine j_aload_n (pc := 34) dX12_withNow_34 rfl rfl ?_
      refine j_iconst (pc := 35) dX12_withNow_35 ?_
      refine j_bipush (pc := 36) dX12_withNow_36 rfl ?_
      refine j_bipush (pc := 38) dX12_withNow_38 rfl ?_
      refine j_bipush (pc := 40) dX12_withNow_40 rfl ?_
      refine j_bipush (pc := 42) dX12_withNow_42 rfl ?_
      refine j_callV (pc := 44) (As := [vI 5, vI 108, vI 101, vI 100, vI 103]) (st := []) (c_X12_is hM 5 ⟨by omega, by omega⟩ 108 ⟨by omega, by omega⟩ 101 ⟨by omega, by omega⟩ 100 ⟨by omega, by omega⟩ 103 ⟨by omega, by omega⟩ σ hI) mv_X12_107 rfl rfl rfl (a_88 hM) dX12_withNow_44 ⟨Nat.le_of_ble_eq_true rfl, Nat.le_of_ble_eq_true rfl⟩ ⟨Nat.le_refl _, Nat.le_refl _⟩ rfl (Nat.le_of_ble_eq_true rfl) rfl (fun z43 σ44 hz43 => ?_)
      obtain ⟨r46, rfl, hr46, rfl, -⟩ := hz43
      refine j_st (st' := [vI r46]) rfl ?_
      refine j_ifR_eq (pc := 47) (tgt := 68) ⟨by omega, by omega⟩ dX12_withNow_47 rfl (fun h47 => ?_) (fun h47 => ?_)
      · refine j_aload_n (pc := 68) dX12_withNow_68 rfl rfl ?_
        refine j_iconst (pc := 69) dX12_withNow_69 ?_
        refine j_bipush (pc := 70) dX12_withNow_70 rfl ?_
        refine j_bipush (pc := 72) dX12_withNow_72 rfl ?_
        refine j_bipush (pc := 74) dX12_withNow_74 rfl ?_
        refine j_bipush (pc := 76) dX12_withNow_76 rfl ?_
        refine j_callV (pc := 78) (As := [vI 4, vI 114, vI 101, vI 115, vI 116]) (st := []) (c_X12_is hM 4 ⟨by omega, by omega⟩ 114 ⟨by omega, by omega⟩ 101 ⟨by omega, by omega⟩ 115 ⟨by omega, by omega⟩ 116 ⟨by omega, by omega⟩ σ hI) mv_X12_107 rfl rfl rfl (a_88 hM) dX12_withNow_78 ⟨Nat.le_of_ble_eq_true rfl, Nat.le_of_ble_eq_true rfl⟩ ⟨Nat.le_refl _, Nat.le_refl _⟩ rfl (Nat.le_of_ble_eq_true rfl) rfl (fun z48 σ49 hz48 => ?_)
        obtain ⟨r51, rfl, hr51, rfl, -⟩ := hz48
        refine j_st (st' := [vI r51]) rfl ?_
        refine j_ifR_eq (pc := 81) (tgt := 89) ⟨by omega, by omega⟩ dX12_withNow_81 rfl (fun h52 => ?_) (fun h52 => ?_)
        · refine j_aload_n (pc := 89) dX12_withNow_89 rfl rfl ?_
          refine j_iconst (pc := 90) dX12_withNow_90 ?_
          refine j_bipush (pc := 91) dX12_withNow_91 rfl ?_
          refine j_bipush (pc := 93) dX12_withNow_93 rfl ?_
          refine j_bipush (pc := 95) dX12_withNow_95 rfl ?_
          refine j_bipush (pc := 97) dX12_withNow_97 rfl ?_
          refine j_callV (pc := 99) (As := [vI 4, vI 115, vI 105, vI 100, vI 101]) (st := []) (c_X12_is hM 4 ⟨by omega, by omega⟩ 115 ⟨by omega, by omega⟩ 105 ⟨by omega, by omega⟩ 100 ⟨by omega, by omega⟩ 101 ⟨by omega, by omega⟩ σ hI) mv_X12_107 rfl rfl rfl (a_88 hM) dX12_withNow_99 ⟨Nat.le_of_ble_eq_true rfl, Nat.le_of_ble_eq_true rfl⟩ ⟨Nat.le_refl _, Nat.le_refl _⟩ rfl (Nat.le_of_ble_eq_true rfl) rfl (fun z53 σ54 hz53 => ?_)
          obtain ⟨r56, rfl, hr56, rfl, -⟩ := hz53
          refine j_st (st' := [vI r56]) rfl ?_
          refine j_ifR_eq (pc := 102) (tgt := 110) ⟨by omega, by omega⟩ dX12_withNow_102 rfl (fun h57 => ?_) (fun h57 => ?_)
          · refine j_bipush (pc := 110) dX12_withNow_110 rfl ?_
            exact j_iret (pc := 112) ⟨rfl, rfl⟩ dX12_withNow_112 rfl ⟨_, rfl, ⟨by omega, by omega⟩, rfl, by omega⟩
          · refine j_bipush (pc := 105) dX12_withNow_105 rfl ?_
            refine j_goto (pc := 107) (tgt := 112) dX12_withNow_107 rfl ?_
            exact j_iret (pc := 112) ⟨rfl, rfl⟩ dX12_withNow_112 rfl ⟨_, rfl, ⟨by omega, by omega⟩, rfl, by omega⟩
        · refine j_bipush (pc := 84) dX12_withNow_84 rfl ?_
          refine j_goto (pc := 86) (tgt := 112) dX12_withNow_86 rfl ?_
          exact j_iret (pc := 112) ⟨rfl, rfl⟩ dX12_withNow_112 rfl ⟨_, rfl, ⟨by omega, by omega⟩, rfl, by omega⟩
      · refine j_aload_n (pc := 50) dX12_withNow_50 rfl rfl ?_
        refine j_aload_n (pc := 51) dX12_withNow_51 rfl rfl ?_
        refine j_getI (pc := 52) fl_X12_94 dX12_withNow_52 (a_88 hM) rfl ?_
        refine j_iconst (pc := 55) dX12_withNow_55 ?_
        refine j_iadd (pc := 56) dX12_withNow_56 ?_
        refine j_callV (pc := 57) (As := [vI ((σ 88 14) + 4)]) (st := []) (c_X12_look hM ((σ 88 14) + 4) ⟨by omega, by omega⟩ σ hI) mv_X12_103 rfl rfl rfl (a_88 hM) dX12_withNow_57 ⟨Nat.le_of_ble_eq_true rfl, Nat.le_of_ble_eq_true rfl⟩ ⟨Nat.le_refl _, Nat.le_refl _⟩ rfl (Nat.le_of_ble_eq_true rfl) rfl (fun z58 σ59 hz58 => ?_)
        obtain ⟨r61, rfl, hr61, rfl, q60_0⟩ := hz58
        replace q60_0 : (((σ 88 14) + 4) < σ 88 12 ∧ r61 = σ 98 ((σ 88 14) + 4).toNat) ∨ (¬ ((σ 88 14) + 4) < σ 88 12 ∧ r61 = -1) := q60_0
        refine j_st (st' := [vI r61]) rfl ?_
        refine j_bipush (pc := 60) dX12_withNow_60 rfl ?_
        refine j_icmpR_ne (pc := 62) (tgt := 68) ⟨by omega, by omega⟩ ⟨by omega, by omega⟩ dX12_withNow_62 rfl (fun h62 => ?_) (fun h62 => ?_)
        · refine j_aload_n (pc := 68) dX12_withNow_68 rfl rfl ?_
          refine j_iconst (pc := 69) dX12_withNow_69 ?_
          refine j_bipush (pc := 70) dX12_withNow_70 rfl ?_
          refine j_bipush (pc := 72) dX12_withNow_72 rfl ?_
          refine j_bipush (pc := 74) dX12_withNow_74 rfl ?_
          refine j_bipush (pc := 76) dX12_withNow_76 rfl ?_
          refine j_callV (pc := 78) (As := [vI 4, vI 114, vI 101, vI 115, vI 116]) (st := []) (c_X12_is hM 4 ⟨by omega, by omega⟩ 114 ⟨by omega, by omega⟩ 101 ⟨by omega, by omega⟩ 115 ⟨by omega, by omega⟩ 116 ⟨by omega, by omega⟩ σ hI) mv_X12_107 rfl rfl rfl (a_88 hM) dX12_withNow_78 ⟨Nat.le_of_ble_eq_true rfl, Nat.le_of_ble_eq_true rfl⟩ ⟨Nat.le_refl _, Nat.le_refl _⟩ rfl (Nat.le_of_ble_eq_true rfl) rfl (fun z63 σ64 hz63 => ?_)
          obtain ⟨r66, rfl, hr66, rfl, -⟩ := hz63
          refine j_st (st' := [vI r66]) rfl ?_
          refine j_ifR_eq (pc := 81) (tgt := 89) ⟨by omega, by omega⟩ dX12_withNow_81 rfl (fun h67 => ?_) (fun h67 => ?_)
          · refine j_aload_n (pc := 89) dX12_withNow_89 rfl rfl ?_
            refine j_iconst (pc := 90) dX12_withNow_90 ?_
            refine j_bipush (pc := 91) dX12_withNow_91 rfl ?_
            refine j_bipush (pc := 93) dX12_withNow_93 rfl ?_
            refine j_bipush (pc := 95) dX12_withNow_95 rfl ?_
            refine j_bipush (pc := 97) dX12_withNow_97 rfl ?_
            refine j_callV (pc := 99) (As := [vI 4, vI 115, vI 105, vI 100, vI 101]) (st := []) (c_X12_is hM 4 ⟨by omega, by omega⟩ 115 ⟨by omega, by omega⟩ 105 ⟨by omega, by omega⟩ 100 ⟨by omega, by omega⟩ 101 ⟨by omega, by omega⟩ σ hI) mv_X12_107 rfl rfl rfl (a_88 hM) dX12_withNow_99 ⟨Nat.le_of_ble_eq_true rfl, Nat.le_of_ble_eq_true rfl⟩ ⟨Nat.le_refl _, Nat.le_refl _⟩ rfl (Nat.le_of_ble_eq_true rfl) rfl (fun z68 σ69 hz68 => ?_)
            obtain ⟨r71, rfl, hr71, rfl, -⟩ := hz68
            refine j_st (st' := [vI r71]) rfl ?_
            refine j_ifR_eq (pc := 102) (tgt := 110) ⟨by omega, by omega⟩ dX12_withNow_102 rfl (fun h72 => ?_) (fun h72 => ?_)
            · refine j_bipush (pc := 110) dX12_withNow_110 rfl ?_
              exact j_iret (pc := 112) ⟨rfl, rfl⟩ dX12_withNow_112 rfl ⟨_, rfl, ⟨by omega, by omega⟩, rfl, by omega⟩
            · refine j_bipush (pc := 105) dX12_withNow_105 rfl ?_
              refine j_goto (pc := 107) (tgt := 112) dX12_withNow_107 rfl ?_
              exact j_iret (pc := 112) ⟨rfl, rfl⟩ dX12_withNow_112 rfl ⟨_, rfl, ⟨by omega, by omega⟩, rfl, by omega⟩
          · refine j_bipush (pc := 84) dX12_withNow_84 rfl ?_
            refine j_goto (pc := 86) (tgt := 112) dX12_withNow_86 rfl ?_
            exact j_iret (pc := 112) ⟨rfl, rfl⟩ dX12_withNow_112 rfl ⟨_, rfl, ⟨by omega, by omega⟩, rfl, by omega⟩
        · refine j_bipush (pc := 65) dX12_withNow_65 rfl ?_
          exact j_iret (pc := 67) ⟨rfl, rfl⟩ dX12_withNow_67 rfl ⟨_, rfl, ⟨by omega, by omega⟩, rfl, by omega⟩
    · refine j_bipush (pc := 31) dX12_withNow_31 rfl ?_
      exact j_iret (pc := 33) ⟨rfl, rfl⟩ dX12_withNow_33 rfl ⟨_, rfl, ⟨by omega, by omega⟩, rfl, by omega⟩
abbrev q_X12_nameNow  (σ : tw_M) : Option tw_V → tw_M → Prop := fun z τ => ∃ r : Int, z = some (vI r) ∧ (-4 ≤ r ∧ r ≤ 23) ∧ σ = τ ∧ True
set_option maxHeartbeats 4000000 in
set_option maxRecDepth 100000 in
theorem c_X12_nameNow {G : tw_G} (hM : tw_isM G) (σ : tw_M) (hI : tw_I σ) : tw_C G yX12_nameNow cX12_nameNow 1 (some .int) 3 [vR 88] σ (q_X12_nameNow σ) := by
  refine tw_met [(0, vR 88)] (by decide +kernel) rfl (Nat.le_of_ble_eq_true rfl) ?_
  refine j_aload_n (pc := 0) dX12_nameNow_0 rfl rfl ?_
  refine j_iconst (pc := 1) dX12_nameNow_1 ?_
  refine j_bipush (pc := 2) dX12_nameNow_2 rfl ?_
  refine j_bipush (pc := 4) dX12_nameNow_4 rfl ?_
  refine j_iconst (pc := 6) dX12_nameNow_6 ?_
  refine j_iconst (pc := 7) dX12_nameNow_7 ?_
  refine j_callV (pc := 8) (As := [vI 2, vI 97, vI 116, vI 0, vI 0]) (st := []) (c_X12_is hM 2 ⟨by omega, by omega⟩ 97 ⟨by omega, by omega⟩ 116 ⟨by omega, by omega⟩ 0 ⟨by omega, by omega⟩ 0 ⟨by omega, by omega⟩ σ hI) mv_X12_107 rfl rfl rfl (a_88 hM) dX12_nameNow_8 ⟨Nat.le_of_ble_eq_true rfl, Nat.le_of_ble_eq_true rfl⟩ ⟨Nat.le_refl _, Nat.le_refl _⟩ rfl (Nat.le_of_ble_eq_true rfl) rfl (fun z1 σ2 hz1 => ?_)
  obtain ⟨r4, rfl, hr4, rfl, -⟩ := hz1
  refine j_st (st' := [vI r4]) rfl ?_
  refine j_ifR_eq (pc := 11) (tgt := 17) ⟨by omega, by omega⟩ dX12_nameNow_11 rfl (fun h5 => ?_) (fun h5 => ?_)
  · refine j_aload_n (pc := 17) dX12_nameNow_17 rfl rfl ?_
    refine j_iconst (pc := 18) dX12_nameNow_18 ?_
    refine j_bipush (pc := 19) dX12_nameNow_19 rfl ?_
    refine j_bipush (pc := 21) dX12_nameNow_21 rfl ?_
    refine j_bipush (pc := 23) dX12_nameNow_23 rfl ?_
    refine j_bipush (pc := 25) dX12_nameNow_25 rfl ?_
    refine j_callV (pc := 27) (As := [vI 4, vI 114, vI 97, vI 99, vI 107]) (st := []) (c_X12_is hM 4 ⟨by omega, by omega⟩ 114 ⟨by omega, by omega⟩ 97 ⟨by omega, by omega⟩ 99 ⟨by omega, by omega⟩ 107 ⟨by omega, by omega⟩ σ hI) mv_X12_107 rfl rfl rfl (a_88 hM) dX12_nameNow_27 ⟨Nat.le_of_ble_eq_true rfl, Nat.le_of_ble_eq_true rfl⟩ ⟨Nat.le_refl _, Nat.le_refl _⟩ rfl (Nat.le_of_ble_eq_true rfl) rfl (fun z6 σ7 hz6 => ?_)
    obtain ⟨r9, rfl, hr9, rfl, -⟩ := hz6
    refine j_st (st' := [vI r9]) rfl ?_
    refine j_ifR_eq (pc := 30) (tgt := 36) ⟨by omega, by omega⟩ dX12_nameNow_30 rfl (fun h10 => ?_) (fun h10 => ?_)
    · refine j_aload_n (pc := 36) dX12_nameNow_36 rfl rfl ?_
      refine j_iconst (pc := 37) dX12_nameNow_37 ?_
      refine j_bipush (pc := 38) dX12_nameNow_38 rfl ?_
      refine j_bipush (pc := 40) dX12_nameNow_40 rfl ?_
      refine j_bipush (pc := 42) dX12_nameNow_42 rfl ?_
      refine j_iconst (pc := 44) dX12_nameNow_44 ?_
      refine j_callV (pc := 45) (As := [vI 3, vI 116, vI 111, vI 112, vI 0]) (st := []) (c_X12_is hM 3 ⟨by omega, by omega⟩ 116 ⟨by omega, by omega⟩ 111 ⟨by omega, by omega⟩ 112 ⟨by omega, by omega⟩ 0 ⟨by omega, by omega⟩ σ hI) mv_X12_107 rfl rfl rfl (a_88 hM) dX12_nameNow_45 ⟨Nat.le_of_ble_eq_true rfl, Nat.le_of_ble_eq_true rfl⟩ ⟨Nat.le_refl _, Nat.le_refl _⟩ rfl (Nat.le_of_ble_eq_true rfl) rfl (fun z11 σ12 hz11 => ?_)
      obtain ⟨r14, rfl, hr14, rfl, -⟩ := hz11
      refine j_st (st' := [vI r14]) rfl ?_
      refine j_ifR_eq (pc := 48) (tgt := 53) ⟨by omega, by omega⟩ dX12_nameNow_48 rfl (fun h15 => ?_) (fun h15 => ?_)
      · refine j_aload_n (pc := 53) dX12_nameNow_53 rfl rfl ?_
        refine j_bipush (pc := 54) dX12_nameNow_54 rfl ?_
        refine j_bipush (pc := 56) dX12_nameNow_56 rfl ?_
        refine j_bipush (pc := 58) dX12_nameNow_58 rfl ?_
        refine j_bipush (pc := 60) dX12_nameNow_60 rfl ?_
        refine j_bipush (pc := 62) dX12_nameNow_62 rfl ?_
        refine j_callV (pc := 64) (As := [vI 8, vI 115, vI 116, vI 114, vI 101]) (st := []) (c_X12_is hM 8 ⟨by omega, by omega⟩ 115 ⟨by omega, by omega⟩ 116 ⟨by omega, by omega⟩ 114 ⟨by omega, by omega⟩ 101 ⟨by omega, by omega⟩ σ hI) mv_X12_107 rfl rfl rfl (a_88 hM) dX12_nameNow_64 ⟨Nat.le_of_ble_eq_true rfl, Nat.le_of_ble_eq_true rfl⟩ ⟨Nat.le_refl _, Nat.le_refl _⟩ rfl (Nat.le_of_ble_eq_true rfl) rfl (fun z16 σ17 hz16 => ?_)
        obtain ⟨r19, rfl, hr19, rfl, -⟩ := hz16
        refine j_st (st' := [vI r19]) rfl ?_
        refine j_ifR_eq (pc := 67) (tgt := 134) ⟨by omega, by omega⟩ dX12_nameNow_67 rfl (fun h20 => ?_) (fun h20 => ?_)
        · refine j_aload_n (pc := 134) dX12_nameNow_134 rfl rfl ?_
          refine j_iconst (pc := 135) dX12_nameNow_135 ?_
          refine j_bipush (pc := 136) dX12_nameNow_136 rfl ?_
          refine j_bipush (pc := 138) dX12_nameNow_138 rfl ?_
          refine j_bipush (pc := 140) dX12_nameNow_140 rfl ?_
          refine j_bipush (pc := 142) dX12_nameNow_142 rfl ?_
          refine j_callV (pc := 144) (As := [vI 5, vI 112, vI 108, vI 97, vI 99]) (st := []) (c_X12_is hM 5 ⟨by omega, by omega⟩ 112 ⟨by omega, by omega⟩ 108 ⟨by omega, by omega⟩ 97 ⟨by omega, by omega⟩ 99 ⟨by omega, by omega⟩ σ hI) mv_X12_107 rfl rfl rfl (a_88 hM) dX12_nameNow_144 ⟨Nat.le_of_ble_eq_true rfl, Nat.le_of_ble_eq_true rfl⟩ ⟨Nat.le_refl _, Nat.le_refl _⟩ rfl (Nat.le_of_ble_eq_true rfl) rfl (fun z21 σ22 hz21 => ?_)
          obtain ⟨r24, rfl, hr24, rfl, -⟩ := hz21
          refine j_st (st' := [vI r24]) rfl ?_
          refine j_ifR_eq (pc := 147) (tgt := 167) ⟨by omega, by omega⟩ dX12_nameNow_147 rfl (fun h25 => ?_) (fun h25 => ?_)
          · refine j_aload_n (pc := 167) dX12_nameNow_167 rfl rfl ?_
            refine j_iconst (pc := 168) dX12_nameNow_168 ?_
            refine j_bipush (pc := 169) dX12_nameNow_169 rfl ?_
            refine j_bipush (pc := 171) dX12_nameNow_171 rfl ?_
            refine j_bipush (pc := 173) dX12_nameNow_173 rfl ?_
            refine j_bipush (pc := 175) dX12_nameNow_175 rfl ?_
            refine j_callV (pc := 177) (As := [vI 4, vI 114, vI 111, vI 112, vI 101]) (st := []) (c_X12_is hM 4 ⟨by omega, by omega⟩ 114 ⟨by omega, by omega⟩ 111 ⟨by omega, by omega⟩ 112 ⟨by omega, by omega⟩ 101 ⟨by omega, by omega⟩ σ hI) mv_X12_107 rfl rfl rfl (a_88 hM) dX12_nameNow_177 ⟨Nat.le_of_ble_eq_true rfl, Nat.le_of_ble_eq_true rfl⟩ ⟨Nat.le_refl _, Nat.le_refl _⟩ rfl (Nat.le_of_ble_eq_true rfl) rfl (fun z26 σ27 hz26 => ?_)
            obtain ⟨r29, rfl, hr29, rfl, -⟩ := hz26
            refine j_st (st' := [vI r29]) rfl ?_
            refine j_ifR_eq (pc := 180) (tgt := 185) ⟨by omega, by omega⟩ dX12_nameNow_180 rfl (fun h30 => ?_) (fun h30 => ?_)
            · refine j_aload_n (pc := 185) dX12_nameNow_185 rfl rfl ?_
              refine j_iconst (pc := 186) dX12_nameNow_186 ?_
              refine j_bipush (pc := 187) dX12_nameNow_187 rfl ?_
              refine j_bipush (pc := 189) dX12_nameNow_189 rfl ?_
              refine j_bipush (pc := 191) dX12_nameNow_191 rfl ?_
              refine j_bipush (pc := 193) dX12_nameNow_193 rfl ?_
              refine j_callV (pc := 195) (As := [vI 4, vI 103, vI 105, vI 118, vI 101]) (st := []) (c_X12_is hM 4 ⟨by omega, by omega⟩ 103 ⟨by omega, by omega⟩ 105 ⟨by omega, by omega⟩ 118 ⟨by omega, by omega⟩ 101 ⟨by omega, by omega⟩ σ hI) mv_X12_107 rfl rfl rfl (a_88 hM) dX12_nameNow_195 ⟨Nat.le_of_ble_eq_true rfl, Nat.le_of_ble_eq_true rfl⟩ ⟨Nat.le_refl _, Nat.le_refl _⟩ rfl (Nat.le_of_ble_eq_true rfl) rfl (fun z31 σ32 hz31 => ?_)
              obtain ⟨r34, rfl, hr34, rfl, -⟩ := hz31
              refine j_st (st' := [vI r34]) rfl ?_
              refine j_ifR_eq (pc := 198) (tgt := 203) ⟨by omega, by omega⟩ dX12_nameNow_198 rfl (fun h35 => ?_) (fun h35 => ?_)
              · refine j_aload_n (pc := 203) dX12_nameNow_203 rfl rfl ?_
                refine j_iconst (pc := 204) dX12_nameNow_204 ?_
                refine j_bipush (pc := 205) dX12_nameNow_205 rfl ?_
                refine j_bipush (pc := 207) dX12_nameNow_207 rfl ?_
                refine j_bipush (pc := 209) dX12_nameNow_209 rfl ?_
                refine j_bipush (pc := 211) dX12_nameNow_211 rfl ?_
                refine j_callV (pc := 213) (As := [vI 4, vI 102, vI 105, vI 116, vI 115]) (st := []) (c_X12_is hM 4 ⟨by omega, by omega⟩ 102 ⟨by omega, by omega⟩ 105 ⟨by omega, by omega⟩ 116 ⟨by omega, by omega⟩ 115 ⟨by omega, by omega⟩ σ hI) mv_X12_107 rfl rfl rfl (a_88 hM) dX12_nameNow_213 ⟨Nat.le_of_ble_eq_true rfl, Nat.le_of_ble_eq_true rfl⟩ ⟨Nat.le_refl _, Nat.le_refl _⟩ rfl (Nat.le_of_ble_eq_true rfl) rfl (fun z36 σ37 hz36 => ?_)
                obtain ⟨r39, rfl, hr39, rfl, -⟩ := hz36
                refine j_st (st' := [vI r39]) rfl ?_
                refine j_ifR_eq (pc := 216) (tgt := 221) ⟨by omega, by omega⟩ dX12_nameNow_216 rfl (fun h40 => ?_) (fun h40 => ?_)
                · refine j_aload_n (pc := 221) dX12_nameNow_221 rfl rfl ?_
                  refine j_iconst (pc := 222) dX12_nameNow_222 ?_
                  refine j_bipush (pc := 223) dX12_nameNow_223 rfl ?_
                  refine j_bipush (pc := 225) dX12_nameNow_225 rfl ?_
                  refine j_bipush (pc := 227) dX12_nameNow_227 rfl ?_
                  refine j_bipush (pc := 229) dX12_nameNow_229 rfl ?_
                  refine j_callV (pc := 231) (As := [vI 5, vI 104, vI 111, vI 108, vI 100]) (st := []) (c_X12_is hM 5 ⟨by omega, by omega⟩ 104 ⟨by omega, by omega⟩ 111 ⟨by omega, by omega⟩ 108 ⟨by omega, by omega⟩ 100 ⟨by omega, by omega⟩ σ hI) mv_X12_107 rfl rfl rfl (a_88 hM) dX12_nameNow_231 ⟨Nat.le_of_ble_eq_true rfl, Nat.le_of_ble_eq_true rfl⟩ ⟨Nat.le_refl _, Nat.le_refl _⟩ rfl (Nat.le_of_ble_eq_true rfl) rfl (fun z41 σ42 hz41 => ?_)
                  obtain ⟨r44, rfl, hr44, rfl, -⟩ := hz41
                  refine j_st (st' := [vI r44]) rfl ?_
                  refine j_ifR_eq (pc := 234) (tgt := 255) ⟨by omega, by omega⟩ dX12_nameNow_234 rfl (fun h45 => ?_) (fun h45 => ?_)
                  · refine j_aload_n (pc := 255) dX12_nameNow_255 rfl rfl ?_
                    refine j_iconst (pc := 256) dX12_nameNow_256 ?_
                    refine j_bipush (pc := 257) dX12_nameNow_257 rfl ?_
                    refine j_bipush (pc := 259) dX12_nameNow_259 rfl ?_
                    refine j_bipush (pc := 261) dX12_nameNow_261 rfl ?_
                    refine j_iconst (pc := 263) dX12_nameNow_263 ?_
                    refine j_callV (pc := 264) (As := [vI 3, vI 108, vI 111, vI 119, vI 0]) (st := []) (c_X12_is hM 3 ⟨by omega, by omega⟩ 108 ⟨by omega, by omega⟩ 111 ⟨by omega, by omega⟩ 119 ⟨by omega, by omega⟩ 0 ⟨by omega, by omega⟩ σ hI) mv_X12_107 rfl rfl rfl (a_88 hM) dX12_nameNow_264 ⟨Nat.le_of_ble_eq_true rfl, Nat.le_of_ble_eq_true rfl⟩ ⟨Nat.le_refl _, Nat.le_refl _⟩ rfl (Nat.le_of_ble_eq_true rfl) rfl (fun z46 σ47 hz46 => ?_)
                    obtain ⟨r49, rfl, hr49, rfl, -⟩ := hz46
                    refine j_st (st' := [vI r49]) rfl ?_
                    refine j_ifR_eq (pc := 267) (tgt := 275) ⟨by omega, by omega⟩ dX12_nameNow_267 rfl (fun h50 => ?_) (fun h50 => ?_)
                    · refine j_aload_n (pc := 275) dX12_nameNow_275 rfl rfl ?_
                      refine j_callV (pc := 276) (As := []) (st := []) (c_X12_withNow hM σ hI) mv_X12_111 rfl rfl rfl (a_88 hM) dX12_nameNow_276 ⟨Nat.le_of_ble_eq_true rfl, Nat.le_of_ble_eq_true rfl⟩ ⟨Nat.le_refl _, Nat.le_refl _⟩ rfl (Nat.le_of_ble_eq_true rfl) rfl (fun z51 σ52 hz51 => ?_)
                      obtain ⟨r54, rfl, hr54, rfl, q53_0⟩ := hz51
                      replace q53_0 : r54 = -4 ∨ 20 ≤ r54 := q53_0
                      refine j_st (st' := [vI r54]) rfl ?_
                      exact j_iret (pc := 279) ⟨rfl, rfl⟩ dX12_nameNow_279 rfl ⟨_, rfl, ⟨by omega, by omega⟩, rfl, trivial⟩
                    · refine j_bipush (pc := 270) dX12_nameNow_270 rfl ?_
                      refine j_goto (pc := 272) (tgt := 279) dX12_nameNow_272 rfl ?_
                      exact j_iret (pc := 279) ⟨rfl, rfl⟩ dX12_nameNow_279 rfl ⟨_, rfl, ⟨by omega, by omega⟩, rfl, trivial⟩
                  · refine j_aload_n (pc := 237) dX12_nameNow_237 rfl rfl ?_
                    refine j_aload_n (pc := 238) dX12_nameNow_238 rfl rfl ?_
                    refine j_getI (pc := 239) fl_X12_94 dX12_nameNow_239 (a_88 hM) rfl ?_
                    have f55 : (0 : Int) ≤ σ 88 14 ∧ σ 88 14 ≤ 400 := hI 88 14
                    refine j_iconst (pc := 242) dX12_nameNow_242 ?_
                    refine j_iadd (pc := 243) dX12_nameNow_243 ?_
                    refine j_callV (pc := 244) (As := [vI ((σ 88 14) + 4)]) (st := []) (c_X12_look hM ((σ 88 14) + 4) ⟨by omega, by omega⟩ σ hI) mv_X12_103 rfl rfl rfl (a_88 hM) dX12_nameNow_244 ⟨Nat.le_of_ble_eq_true rfl, Nat.le_of_ble_eq_true rfl⟩ ⟨Nat.le_refl _, Nat.le_refl _⟩ rfl (Nat.le_of_ble_eq_true rfl) rfl (fun z56 σ57 hz56 => ?_)
                    obtain ⟨r59, rfl, hr59, rfl, q58_0⟩ := hz56
                    replace q58_0 : (((σ 88 14) + 4) < σ 88 12 ∧ r59 = σ 98 ((σ 88 14) + 4).toNat) ∨ (¬ ((σ 88 14) + 4) < σ 88 12 ∧ r59 = -1) := q58_0
                    refine j_st (st' := [vI r59]) rfl ?_
                    refine j_bipush (pc := 247) dX12_nameNow_247 rfl ?_
                    refine j_icmpR_ne (pc := 249) (tgt := 255) ⟨by omega, by omega⟩ ⟨by omega, by omega⟩ dX12_nameNow_249 rfl (fun h60 => ?_) (fun h60 => ?_)
                    · refine j_aload_n (pc := 255) dX12_nameNow_255 rfl rfl ?_
                      refine j_iconst (pc := 256) dX12_nameNow_256 ?_
                      refine j_bipush (pc := 257) dX12_nameNow_257 rfl ?_
                      refine j_bipush (pc := 259) dX12_nameNow_259 rfl ?_
                      refine j_bipush (pc := 261) dX12_nameNow_261 rfl ?_
                      refine j_iconst (pc := 263) dX12_nameNow_263 ?_
                      refine j_callV (pc := 264) (As := [vI 3, vI 108, vI 111, vI 119, vI 0]) (st := []) (c_X12_is hM 3 ⟨by omega, by omega⟩ 108 ⟨by omega, by omega⟩ 111 ⟨by omega, by omega⟩ 119 ⟨by omega, by omega⟩ 0 ⟨by omega, by omega⟩ σ hI) mv_X12_107 rfl rfl rfl (a_88 hM) dX12_nameNow_264 ⟨Nat.le_of_ble_eq_true rfl, Nat.le_of_ble_eq_true rfl⟩ ⟨Nat.le_refl _, Nat.le_refl _⟩ rfl (Nat.le_of_ble_eq_true rfl) rfl (fun z61 σ62 hz61 => ?_)
                      obtain ⟨r64, rfl, hr64, rfl, -⟩ := hz61
                      refine j_st (st' := [vI r64]) rfl ?_
                      refine j_ifR_eq (pc := 267) (tgt := 275) ⟨by omega, by omega⟩ dX12_nameNow_267 rfl (fun h65 => ?_) (fun h65 => ?_)
                      · refine j_aload_n (pc := 275) dX12_nameNow_275 rfl rfl ?_
                        refine j_callV (pc := 276) (As := []) (st := []) (c_X12_withNow hM σ hI) mv_X12_111 rfl rfl rfl (a_88 hM) dX12_nameNow_276 ⟨Nat.le_of_ble_eq_true rfl, Nat.le_of_ble_eq_true rfl⟩ ⟨Nat.le_refl _, Nat.le_refl _⟩ rfl (Nat.le_of_ble_eq_true rfl) rfl (fun z66 σ67 hz66 => ?_)
                        obtain ⟨r69, rfl, hr69, rfl, q68_0⟩ := hz66
                        replace q68_0 : r69 = -4 ∨ 20 ≤ r69 := q68_0
                        refine j_st (st' := [vI r69]) rfl ?_
                        exact j_iret (pc := 279) ⟨rfl, rfl⟩ dX12_nameNow_279 rfl ⟨_, rfl, ⟨by omega, by omega⟩, rfl, trivial⟩
                      · refine j_bipush (pc := 270) dX12_nameNow_270 rfl ?_
                        refine j_goto (pc := 272) (tgt := 279) dX12_nameNow_272 rfl ?_
                        exact j_iret (pc := 279) ⟨rfl, rfl⟩ dX12_nameNow_279 rfl ⟨_, rfl, ⟨by omega, by omega⟩, rfl, trivial⟩
                    · refine j_bipush (pc := 252) dX12_nameNow_252 rfl ?_
                      exact j_iret (pc := 254) ⟨rfl, rfl⟩ dX12_nameNow_254 rfl ⟨_, rfl, ⟨by omega, by omega⟩, rfl, trivial⟩
                · refine j_iconst (pc := 219) dX12_nameNow_219 ?_
                  exact j_iret (pc := 220) ⟨rfl, rfl⟩ dX12_nameNow_220 rfl ⟨_, rfl, ⟨by omega, by omega⟩, rfl, trivial⟩
              · refine j_iconst (pc := 201) dX12_nameNow_201 ?_
                exact j_iret (pc := 202) ⟨rfl, rfl⟩ dX12_nameNow_202 rfl ⟨_, rfl, ⟨by omega, by omega⟩, rfl, trivial⟩
            · refine j_iconst (pc := 183) dX12_nameNow_183 ?_
              exact j_iret (pc := 184) ⟨rfl, rfl⟩ dX12_nameNow_184 rfl ⟨_, rfl, ⟨by omega, by omega⟩, rfl, trivial⟩
          · refine j_aload_n (pc := 150) dX12_nameNow_150 rfl rfl ?_
            refine j_aload_n (pc := 151) dX12_nameNow_151 rfl rfl ?_
            refine j_getI (pc := 152) fl_X12_94 dX12_nameNow_152 (a_88 hM) rfl ?_
            have f70 : (0 : Int) ≤ σ 88 14 ∧ σ 88 14 ≤ 400 := hI 88 14
            refine j_iconst (pc := 155) dX12_nameNow_155 ?_
            refine j_iadd (pc := 156) dX12_nameNow_156 ?_
            refine j_callV (pc := 157) (As := [vI ((σ 88 14) + 4)]) (st := []) (c_X12_look hM ((σ 88 14) + 4) ⟨by omega, by omega⟩ σ hI) mv_X12_103 rfl rfl rfl (a_88 hM) dX12_nameNow_157 ⟨Nat.le_of_ble_eq_true rfl, Nat.le_of_ble_eq_true rfl⟩ ⟨Nat.le_refl _, Nat.le_refl _⟩ rfl (Nat.le_of_ble_eq_true rfl) rfl (fun z71 σ72 hz71 => ?_)
            obtain ⟨r74, rfl, hr74, rfl, q73_0⟩ := hz71
            replace q73_0 : (((σ 88 14) + 4) < σ 88 12 ∧ r74 = σ 98 ((σ 88 14) + 4).toNat) ∨ (¬ ((σ 88 14) + 4) < σ 88 12 ∧ r74 = -1) := q73_0
            refine j_st (st' := [vI r74]) rfl ?_
            refine j_bipush (pc := 160) dX12_nameNow_160 rfl ?_
            refine j_icmpR_ne (pc := 162) (tgt := 167) ⟨by omega, by omega⟩ ⟨by omega, by omega⟩ dX12_nameNow_162 rfl (fun h75 => ?_) (fun h75 => ?_)
            · refine j_aload_n (pc := 167) dX12_nameNow_167 rfl rfl ?_
              refine j_iconst (pc := 168) dX12_nameNow_168 ?_
              refine j_bipush (pc := 169) dX12_nameNow_169 rfl ?_
              refine j_bipush (pc := 171) dX12_nameNow_171 rfl ?_
              refine j_bipush (pc := 173) dX12_nameNow_173 rfl ?_
              refine j_bipush (pc := 175) dX12_nameNow_175 rfl ?_
              refine j_callV (pc := 177) (As := [vI 4, vI 114, vI 111, vI 112, vI 101]) (st := []) (c_X12_is hM 4 ⟨by omega, by omega⟩ 114 ⟨by omega, by omega⟩ 111 ⟨by omega, by omega⟩ 112 ⟨by omega, by omega⟩ 101 ⟨by omega, by omega⟩ σ hI) mv_X12_107 rfl rfl rfl (a_88 hM) dX12_nameNow_177 ⟨Nat.le_of_ble_eq_true rfl, Nat.le_of_ble_eq_true rfl⟩ ⟨Nat.le_refl _, Nat.le_refl _⟩ rfl (Nat.le_of_ble_eq_true rfl) rfl (fun z76 σ77 hz76 => ?_)
              obtain ⟨r79, rfl, hr79, rfl, -⟩ := hz76
              refine j_st (st' := [vI r79]) rfl ?_
              refine j_ifR_eq (pc := 180) (tgt := 185) ⟨by omega, by omega⟩ dX12_nameNow_180 rfl (fun h80 => ?_) (fun h80 => ?_)
              · refine j_aload_n (pc := 185) dX12_nameNow_185 rfl rfl ?_
                refine j_iconst (pc := 186) dX12_nameNow_186 ?_
                refine j_bipush (pc := 187) dX12_nameNow_187 rfl ?_
                refine j_bipush (pc := 189) dX12_nameNow_189 rfl ?_
                refine j_bipush (pc := 191) dX12_nameNow_191 rfl ?_
                refine j_bipush (pc := 193) dX12_nameNow_193 rfl ?_
                refine j_callV (pc := 195) (As := [vI 4, vI 103, vI 105, vI 118, vI 101]) (st := []) (c_X12_is hM 4 ⟨by omega, by omega⟩ 103 ⟨by omega, by omega⟩ 105 ⟨by omega, by omega⟩ 118 ⟨by omega, by omega⟩ 101 ⟨by omega, by omega⟩ σ hI) mv_X12_107 rfl rfl rfl (a_88 hM) dX12_nameNow_195 ⟨Nat.le_of_ble_eq_true rfl, Nat.le_of_ble_eq_true rfl⟩ ⟨Nat.le_refl _, Nat.le_refl _⟩ rfl (Nat.le_of_ble_eq_true rfl) rfl (fun z81 σ82 hz81 => ?_)
                obtain ⟨r84, rfl, hr84, rfl, -⟩ := hz81
                refine j_st (st' := [vI r84]) rfl ?_
                refine j_ifR_eq (pc := 198) (tgt := 203) ⟨by omega, by omega⟩ dX12_nameNow_198 rfl (fun h85 => ?_) (fun h85 => ?_)
                · refine j_aload_n (pc := 203) dX12_nameNow_203 rfl rfl ?_
                  refine j_iconst (pc := 204) dX12_nameNow_204 ?_
                  refine j_bipush (pc := 205) dX12_nameNow_205 rfl ?_
                  refine j_bipush (pc := 207) dX12_nameNow_207 rfl ?_
                  refine j_bipush (pc := 209) dX12_nameNow_209 rfl ?_
                  refine j_bipush (pc := 211) dX12_nameNow_211 rfl ?_
                  refine j_callV (pc := 213) (As := [vI 4, vI 102, vI 105, vI 116, vI 115]) (st := []) (c_X12_is hM 4 ⟨by omega, by omega⟩ 102 ⟨by omega, by omega⟩ 105 ⟨by omega, by omega⟩ 116 ⟨by omega, by omega⟩ 115 ⟨by omega, by omega⟩ σ hI) mv_X12_107 rfl rfl rfl (a_88 hM) dX12_nameNow_213 ⟨Nat.le_of_ble_eq_true rfl, Nat.le_of_ble_eq_true rfl⟩ ⟨Nat.le_refl _, Nat.le_refl _⟩ rfl (Nat.le_of_ble_eq_true rfl) rfl (fun z86 σ87 hz86 => ?_)
                  obtain ⟨r89, rfl, hr89, rfl, -⟩ := hz86
                  refine j_st (st' := [vI r89]) rfl ?_
                  refine j_ifR_eq (pc := 216) (tgt := 221) ⟨by omega, by omega⟩ dX12_nameNow_216 rfl (fun h90 => ?_) (fun h90 => ?_)
                  · refine j_aload_n (pc := 221) dX12_nameNow_221 rfl rfl ?_
                    refine j_iconst (pc := 222) dX12_nameNow_222 ?_
                    refine j_bipush (pc := 223) dX12_nameNow_223 rfl ?_
                    refine j_bipush (pc := 225) dX12_nameNow_225 rfl ?_
                    refine j_bipush (pc := 227) dX12_nameNow_227 rfl ?_
                    refine j_bipush (pc := 229) dX12_nameNow_229 rfl ?_
                    refine j_callV (pc := 231) (As := [vI 5, vI 104, vI 111, vI 108, vI 100]) (st := []) (c_X12_is hM 5 ⟨by omega, by omega⟩ 104 ⟨by omega, by omega⟩ 111 ⟨by omega, by omega⟩ 108 ⟨by omega, by omega⟩ 100 ⟨by omega, by omega⟩ σ hI) mv_X12_107 rfl rfl rfl (a_88 hM) dX12_nameNow_231 ⟨Nat.le_of_ble_eq_true rfl, Nat.le_of_ble_eq_true rfl⟩ ⟨Nat.le_refl _, Nat.le_refl _⟩ rfl (Nat.le_of_ble_eq_true rfl) rfl (fun z91 σ92 hz91 => ?_)
                    obtain ⟨r94, rfl, hr94, rfl, -⟩ := hz91
                    refine j_st (st' := [vI r94]) rfl ?_
                    refine j_ifR_eq (pc := 234) (tgt := 255) ⟨by omega, by omega⟩ dX12_nameNow_234 rfl (fun h95 => ?_) (fun h95 => ?_)
                    · refine j_aload_n (pc := 255) dX12_nameNow_255 rfl rfl ?_
                      refine j_iconst (pc := 256) dX12_nameNow_256 ?_
                      refine j_bipush (pc := 257) dX12_nameNow_257 rfl ?_
                      refine j_bipush (pc := 259) dX12_nameNow_259 rfl ?_
                      refine j_bipush (pc := 261) dX12_nameNow_261 rfl ?_
                      refine j_iconst (pc := 263) dX12_nameNow_263 ?_
                      refine j_callV (pc := 264) (As := [vI 3, vI 108, vI 111, vI 119, vI 0]) (st := []) (c_X12_is hM 3 ⟨by omega, by omega⟩ 108 ⟨by omega, by omega⟩ 111 ⟨by omega, by omega⟩ 119 ⟨by omega, by omega⟩ 0 ⟨by omega, by omega⟩ σ hI) mv_X12_107 rfl rfl rfl (a_88 hM) dX12_nameNow_264 ⟨Nat.le_of_ble_eq_true rfl, Nat.le_of_ble_eq_true rfl⟩ ⟨Nat.le_refl _, Nat.le_refl _⟩ rfl (Nat.le_of_ble_eq_true rfl) rfl (fun z96 σ97 hz96 => ?_)
                      obtain ⟨r99, rfl, hr99, rfl, -⟩ := hz96
                      refine j_st (st' := [vI r99]) rfl ?_
                      refine j_ifR_eq (pc := 267) (tgt := 275) ⟨by omega, by omega⟩ dX12_nameNow_267 rfl (fun h100 => ?_) (fun h100 => ?_)
                      · refine j_aload_n (pc := 275) dX12_nameNow_275 rfl rfl ?_
                        refine j_callV (pc := 276) (As := []) (st := []) (c_X12_withNow hM σ hI) mv_X12_111 rfl rfl rfl (a_88 hM) dX12_nameNow_276 ⟨Nat.le_of_ble_eq_true rfl, Nat.le_of_ble_eq_true rfl⟩ ⟨Nat.le_refl _, Nat.le_refl _⟩ rfl (Nat.le_of_ble_eq_true rfl) rfl (fun z101 σ102 hz101 => ?_)
                        obtain ⟨r104, rfl, hr104, rfl, q103_0⟩ := hz101
                        replace q103_0 : r104 = -4 ∨ 20 ≤ r104 := q103_0
                        refine j_st (st' := [vI r104]) rfl ?_
                        exact j_iret (pc := 279) ⟨rfl, rfl⟩ dX12_nameNow_279 rfl ⟨_, rfl, ⟨by omega, by omega⟩, rfl, trivial⟩
                      · refine j_bipush (pc := 270) dX12_nameNow_270 rfl ?_
                        refine j_goto (pc := 272) (tgt := 279) dX12_nameNow_272 rfl ?_
                        exact j_iret (pc := 279) ⟨rfl, rfl⟩ dX12_nameNow_279 rfl ⟨_, rfl, ⟨by omega, by omega⟩, rfl, trivial⟩
                    · refine j_aload_n (pc := 237) dX12_nameNow_237 rfl rfl ?_
                      refine j_aload_n (pc := 238) dX12_nameNow_238 rfl rfl ?_
                      refine j_getI (pc := 239) fl_X12_94 dX12_nameNow_239 (a_88 hM) rfl ?_
                      refine j_iconst (pc := 242) dX12_nameNow_242 ?_
                      refine j_iadd (pc := 243) dX12_nameNow_243 ?_
                      refine j_callV (pc := 244) (As := [vI ((σ 88 14) + 4)]) (st := []) (c_X12_look hM ((σ 88 14) + 4) ⟨by omega, by omega⟩ σ hI) mv_X12_103 rfl rfl rfl (a_88 hM) dX12_nameNow_244 ⟨Nat.le_of_ble_eq_true rfl, Nat.le_of_ble_eq_true rfl⟩ ⟨Nat.le_refl _, Nat.le_refl _⟩ rfl (Nat.le_of_ble_eq_true rfl) rfl (fun z105 σ106 hz105 => ?_)
                      obtain ⟨r108, rfl, hr108, rfl, q107_0⟩ := hz105
                      replace q107_0 : (((σ 88 14) + 4) < σ 88 12 ∧ r108 = σ 98 ((σ 88 14) + 4).toNat) ∨ (¬ ((σ 88 14) + 4) < σ 88 12 ∧ r108 = -1) := q107_0
                      refine j_st (st' := [vI r108]) rfl ?_
                      refine j_bipush (pc := 247) dX12_nameNow_247 rfl ?_
                      refine j_icmpR_ne (pc := 249) (tgt := 255) ⟨by omega, by omega⟩ ⟨by omega, by omega⟩ dX12_nameNow_249 rfl (fun h109 => ?_) (fun h109 => ?_)
                      · refine j_aload_n (pc := 255) dX12_nameNow_255 rfl rfl ?_
                        refine j_iconst (pc := 256) dX12_nameNow_256 ?_
                        refine j_bipush (pc := 257) dX12_nameNow_257 rfl ?_
                        refine j_bipush (pc := 259) dX12_nameNow_259 rfl ?_
                        refine j_bipush (pc := 261) dX12_nameNow_261 rfl ?_
                        refine j_iconst (pc := 263) dX12_nameNow_263 ?_
                        refine j_callV (pc := 264) (As := [vI 3, vI 108, vI 111, vI 119, vI 0]) (st := []) (c_X12_is hM 3 ⟨by omega, by omega⟩ 108 ⟨by omega, by omega⟩ 111 ⟨by omega, by omega⟩ 119 ⟨by omega, by omega⟩ 0 ⟨by omega, by omega⟩ σ hI) mv_X12_107 rfl rfl rfl (a_88 hM) dX12_nameNow_264 ⟨Nat.le_of_ble_eq_true rfl, Nat.le_of_ble_eq_true rfl⟩ ⟨Nat.le_refl _, Nat.le_refl _⟩ rfl (Nat.le_of_ble_eq_true rfl) rfl (fun z110 σ111 hz110 => ?_)
                        obtain ⟨r113, rfl, hr113, rfl, -⟩ := hz110
                        refine j_st (st' := [vI r113]) rfl ?_
                        refine j_ifR_eq (pc := 267) (tgt := 275) ⟨by omega, by omega⟩ dX12_nameNow_267 rfl (fun h114 => ?_) (fun h114 => ?_)
                        · refine j_aload_n (pc := 275) dX12_nameNow_275 rfl rfl ?_
                          refine j_callV (pc := 276) (As := []) (st := []) (c_X12_withNow hM σ hI) mv_X12_111 rfl rfl rfl (a_88 hM) dX12_nameNow_276 ⟨Nat.le_of_ble_eq_true rfl, Nat.le_of_ble_eq_true rfl⟩ ⟨Nat.le_refl _, Nat.le_refl _⟩ rfl (Nat.le_of_ble_eq_true rfl) rfl (fun z115 σ116 hz115 => ?_)
                          obtain ⟨r118, rfl, hr118, rfl, q117_0⟩ := hz115
                          replace q117_0 : r118 = -4 ∨ 20 ≤ r118 := q117_0
                          refine j_st (st' := [vI r118]) rfl ?_
                          exact j_iret (pc := 279) ⟨rfl, rfl⟩ dX12_nameNow_279 rfl ⟨_, rfl, ⟨by omega, by omega⟩, rfl, trivial⟩
                        · refine j_bipush (pc := 270) dX12_nameNow_270 rfl ?_
                          refine j_goto (pc := 272) (tgt := 279) dX12_nameNow_272 rfl ?_
                          exact j_iret (pc := 279) ⟨rfl, rfl⟩ dX12_nameNow_279 rfl ⟨_, rfl, ⟨by omega, by omega⟩, rfl, trivial⟩
                      · refine j_bipush (pc := 252) dX12_nameNow_252 rfl ?_
                        exact j_iret (pc := 254) ⟨rfl, rfl⟩ dX12_nameNow_254 rfl ⟨_, rfl, ⟨by omega, by omega⟩, rfl, trivial⟩
                  · refine j_iconst (pc := 219) dX12_nameNow_219 ?_
                    exact j_iret (pc := 220) ⟨rfl, rfl⟩ dX12_nameNow_220 rfl ⟨_, rfl, ⟨by omega, by omega⟩, rfl, trivial⟩
                · refine j_iconst (pc := 201) dX12_nameNow_201 ?_
                  exact j_iret (pc := 202) ⟨rfl, rfl⟩ dX12_nameNow_202 rfl ⟨_, rfl, ⟨by omega, by omega⟩, rfl, trivial⟩
              · refine j_iconst (pc := 183) dX12_nameNow_183 ?_
                exact j_iret (pc := 184) ⟨rfl, rfl⟩ dX12_nameNow_184 rfl ⟨_, rfl, ⟨by omega, by omega⟩, rfl, trivial⟩
            · refine j_iconst (pc := 165) dX12_nameNow_165 ?_
              exact j_iret (pc := 166) ⟨rfl, rfl⟩ dX12_nameNow_166 rfl ⟨_, rfl, ⟨by omega, by omega⟩, rfl, trivial⟩
        · refine j_aload_n (pc := 70) dX12_nameNow_70 rfl rfl ?_
          refine j_aload_n (pc := 71) dX12_nameNow_71 rfl rfl ?_
          refine j_getI (pc := 72) fl_X12_94 dX12_nameNow_72 (a_88 hM) rfl ?_
          have f119 : (0 : Int) ≤ σ 88 14 ∧ σ 88 14 ≤ 400 := hI 88 14
          refine j_iconst (pc := 75) dX12_nameNow_75 ?_
          refine j_iadd (pc := 76) dX12_nameNow_76 ?_
          refine j_callV (pc := 77) (As := [vI ((σ 88 14) + 4)]) (st := []) (c_X12_look hM ((σ 88 14) + 4) ⟨by omega, by omega⟩ σ hI) mv_X12_103 rfl rfl rfl (a_88 hM) dX12_nameNow_77 ⟨Nat.le_of_ble_eq_true rfl, Nat.le_of_ble_eq_true rfl⟩ ⟨Nat.le_refl _, Nat.le_refl _⟩ rfl (Nat.le_of_ble_eq_true rfl) rfl (fun z120 σ121 hz120 => ?_)
          obtain ⟨r123, rfl, hr123, rfl, q122_0⟩ := hz120
          replace q122_0 : (((σ 88 14) + 4) < σ 88 12 ∧ r123 = σ 98 ((σ 88 14) + 4).toNat) ∨ (¬ ((σ 88 14) + 4) < σ 88 12 ∧ r123 = -1) := q122_0
          refine j_st (st' := [vI r123]) rfl ?_
          refine j_bipush (pc := 80) dX12_nameNow_80 rfl ?_
          refine j_icmpR_ne (pc := 82) (tgt := 134) ⟨by omega, by omega⟩ ⟨by omega, by omega⟩ dX12_nameNow_82 rfl (fun h124 => ?_) (fun h124 => ?_)
          · refine j_aload_n (pc := 134) dX12_nameNow_134 rfl rfl ?_
            refine j_iconst (pc := 135) dX12_nameNow_135 ?_
            refine j_bipush (pc := 136) dX12_nameNow_136 rfl ?_
            refine j_bipush (pc := 138) dX12_nameNow_138 rfl ?_
            refine j_bipush (pc := 140) dX12_nameNow_140 rfl ?_
            refine j_bipush (pc := 142) dX12_nameNow_142 rfl ?_
            refine j_callV (pc := 144) (As := [vI 5, vI 112, vI 108, vI 97, vI 99]) (st := []) (c_X12_is hM 5 ⟨by omega, by omega⟩ 112 ⟨by omega, by omega⟩ 108 ⟨by omega, by omega⟩ 97 ⟨by omega, by omega⟩ 99 ⟨by omega, by omega⟩ σ hI) mv_X12_107 rfl rfl rfl (a_88 hM) dX12_nameNow_144 ⟨Nat.le_of_ble_eq_true rfl, Nat.le_of_ble_eq_true rfl⟩ ⟨Nat.le_refl _, Nat.le_refl _⟩ rfl (Nat.le_of_ble_eq_true rfl) rfl (fun z125 σ126 hz125 => ?_)
            obtain ⟨r128, rfl, hr128, rfl, -⟩ := hz125
            refine j_st (st' := [vI r128]) rfl ?_
            refine j_ifR_eq (pc := 147) (tgt := 167) ⟨by omega, by omega⟩ dX12_nameNow_147 rfl (fun h129 => ?_) (fun h129 => ?_)
            · refine j_aload_n (pc := 167) dX12_nameNow_167 rfl rfl ?_
              refine j_iconst (pc := 168) dX12_nameNow_168 ?_
              refine j_bipush (pc := 169) dX12_nameNow_169 rfl ?_
              refine j_bipush (pc := 171) dX12_nameNow_171 rfl ?_
              refine j_bipush (pc := 173) dX12_nameNow_173 rfl ?_
              refine j_bipush (pc := 175) dX12_nameNow_175 rfl ?_
              refine j_callV (pc := 177) (As := [vI 4, vI 114, vI 111, vI 112, vI 101]) (st := []) (c_X12_is hM 4 ⟨by omega, by omega⟩ 114 ⟨by omega, by omega⟩ 111 ⟨by omega, by omega⟩ 112 ⟨by omega, by omega⟩ 101 ⟨by omega, by omega⟩ σ hI) mv_X12_107 rfl rfl rfl (a_88 hM) dX12_nameNow_177 ⟨Nat.le_of_ble_eq_true rfl, Nat.le_of_ble_eq_true rfl⟩ ⟨Nat.le_refl _, Nat.le_refl _⟩ rfl (Nat.le_of_ble_eq_true rfl) rfl (fun z130 σ131 hz130 => ?_)
              obtain ⟨r133, rfl, hr133, rfl, -⟩ := hz130
              refine j_st (st' := [vI r133]) rfl ?_
              refine j_ifR_eq (pc := 180) (tgt := 185) ⟨by omega, by omega⟩ dX12_nameNow_180 rfl (fun h134 => ?_) (fun h134 => ?_)
              · refine j_aload_n (pc := 185) dX12_nameNow_185 rfl rfl ?_
                refine j_iconst (pc := 186) dX12_nameNow_186 ?_
                refine j_bipush (pc := 187) dX12_nameNow_187 rfl ?_
                refine j_bipush (pc := 189) dX12_nameNow_189 rfl ?_
                refine j_bipush (pc := 191) dX12_nameNow_191 rfl ?_
                refine j_bipush (pc := 193) dX12_nameNow_193 rfl ?_
                refine j_callV (pc := 195) (As := [vI 4, vI 103, vI 105, vI 118, vI 101]) (st := []) (c_X12_is hM 4 ⟨by omega, by omega⟩ 103 ⟨by omega, by omega⟩ 105 ⟨by omega, by omega⟩ 118 ⟨by omega, by omega⟩ 101 ⟨by omega, by omega⟩ σ hI) mv_X12_107 rfl rfl rfl (a_88 hM) dX12_nameNow_195 ⟨Nat.le_of_ble_eq_true rfl, Nat.le_of_ble_eq_true rfl⟩ ⟨Nat.le_refl _, Nat.le_refl _⟩ rfl (Nat.le_of_ble_eq_true rfl) rfl (fun z135 σ136 hz135 => ?_)
                obtain ⟨r138, rfl, hr138, rfl, -⟩ := hz135
                refine j_st (st' := [vI r138]) rfl ?_
                refine j_ifR_eq (pc := 198) (tgt := 203) ⟨by omega, by omega⟩ dX12_nameNow_198 rfl (fun h139 => ?_) (fun h139 => ?_)
                · refine j_aload_n (pc := 203) dX12_nameNow_203 rfl rfl ?_
                  refine j_iconst (pc := 204) dX12_nameNow_204 ?_
                  refine j_bipush (pc := 205) dX12_nameNow_205 rfl ?_
                  refine j_bipush (pc := 207) dX12_nameNow_207 rfl ?_
                  refine j_bipush (pc := 209) dX12_nameNow_209 rfl ?_
                  refine j_bipush (pc := 211) dX12_nameNow_211 rfl ?_
                  refine j_callV (pc := 213) (As := [vI 4, vI 102, vI 105, vI 116, vI 115]) (st := []) (c_X12_is hM 4 ⟨by omega, by omega⟩ 102 ⟨by omega, by omega⟩ 105 ⟨by omega, by omega⟩ 116 ⟨by omega, by omega⟩ 115 ⟨by omega, by omega⟩ σ hI) mv_X12_107 rfl rfl rfl (a_88 hM) dX12_nameNow_213 ⟨Nat.le_of_ble_eq_true rfl, Nat.le_of_ble_eq_true rfl⟩ ⟨Nat.le_refl _, Nat.le_refl _⟩ rfl (Nat.le_of_ble_eq_true rfl) rfl (fun z140 σ141 hz140 => ?_)
                  obtain ⟨r143, rfl, hr143, rfl, -⟩ := hz140
                  refine j_st (st' := [vI r143]) rfl ?_
                  refine j_ifR_eq (pc := 216) (tgt := 221) ⟨by omega, by omega⟩ dX12_nameNow_216 rfl (fun h144 => ?_) (fun h144 => ?_)
                  · refine j_aload_n (pc := 221) dX12_nameNow_221 rfl rfl ?_
                    refine j_iconst (pc := 222) dX12_nameNow_222 ?_
                    refine j_bipush (pc := 223) dX12_nameNow_223 rfl ?_
                    refine j_bipush (pc := 225) dX12_nameNow_225 rfl ?_
                    refine j_bipush (pc := 227) dX12_nameNow_227 rfl ?_
                    refine j_bipush (pc := 229) dX12_nameNow_229 rfl ?_
                    refine j_callV (pc := 231) (As := [vI 5, vI 104, vI 111, vI 108, vI 100]) (st := []) (c_X12_is hM 5 ⟨by omega, by omega⟩ 104 ⟨by omega, by omega⟩ 111 ⟨by omega, by omega⟩ 108 ⟨by omega, by omega⟩ 100 ⟨by omega, by omega⟩ σ hI) mv_X12_107 rfl rfl rfl (a_88 hM) dX12_nameNow_231 ⟨Nat.le_of_ble_eq_true rfl, Nat.le_of_ble_eq_true rfl⟩ ⟨Nat.le_refl _, Nat.le_refl _⟩ rfl (Nat.le_of_ble_eq_true rfl) rfl (fun z145 σ146 hz145 => ?_)
                    obtain ⟨r148, rfl, hr148, rfl, -⟩ := hz145
                    refine j_st (st' := [vI r148]) rfl ?_
                    refine j_ifR_eq (pc := 234) (tgt := 255) ⟨by omega, by omega⟩ dX12_nameNow_234 rfl (fun h149 => ?_) (fun h149 => ?_)
                    · refine j_aload_n (pc := 255) dX12_nameNow_255 rfl rfl ?_
                      refine j_iconst (pc := 256) dX12_nameNow_256 ?_
                      refine j_bipush (pc := 257) dX12_nameNow_257 rfl ?_
                      refine j_bipush (pc := 259) dX12_nameNow_259 rfl ?_
                      refine j_bipush (pc := 261) dX12_nameNow_261 rfl ?_
                      refine j_iconst (pc := 263) dX12_nameNow_263 ?_
                      refine j_callV (pc := 264) (As := [vI 3, vI 108, vI 111, vI 119, vI 0]) (st := []) (c_X12_is hM 3 ⟨by omega, by omega⟩ 108 ⟨by omega, by omega⟩ 111 ⟨by omega, by omega⟩ 119 ⟨by omega, by omega⟩ 0 ⟨by omega, by omega⟩ σ hI) mv_X12_107 rfl rfl rfl (a_88 hM) dX12_nameNow_264 ⟨Nat.le_of_ble_eq_true rfl, Nat.le_of_ble_eq_true rfl⟩ ⟨Nat.le_refl _, Nat.le_refl _⟩ rfl (Nat.le_of_ble_eq_true rfl) rfl (fun z150 σ151 hz150 => ?_)
                      obtain ⟨r153, rfl, hr153, rfl, -⟩ := hz150
                      refine j_st (st' := [vI r153]) rfl ?_
                      refine j_ifR_eq (pc := 267) (tgt := 275) ⟨by omega, by omega⟩ dX12_nameNow_267 rfl (fun h154 => ?_) (fun h154 => ?_)
                      · refine j_aload_n (pc := 275) dX12_nameNow_275 rfl rfl ?_
                        refine j_callV (pc := 276) (As := []) (st := []) (c_X12_withNow hM σ hI) mv_X12_111 rfl rfl rfl (a_88 hM) dX12_nameNow_276 ⟨Nat.le_of_ble_eq_true rfl, Nat.le_of_ble_eq_true rfl⟩ ⟨Nat.le_refl _, Nat.le_refl _⟩ rfl (Nat.le_of_ble_eq_true rfl) rfl (fun z155 σ156 hz155 => ?_)
                        obtain ⟨r158, rfl, hr158, rfl, q157_0⟩ := hz155
                        replace q157_0 : r158 = -4 ∨ 20 ≤ r158 := q157_0
                        refine j_st (st' := [vI r158]) rfl ?_
                        exact j_iret (pc := 279) ⟨rfl, rfl⟩ dX12_nameNow_279 rfl ⟨_, rfl, ⟨by omega, by omega⟩, rfl, trivial⟩
                      · refine j_bipush (pc := 270) dX12_nameNow_270 rfl ?_
                        refine j_goto (pc := 272) (tgt := 279) dX12_nameNow_272 rfl ?_
                        exact j_iret (pc := 279) ⟨rfl, rfl⟩ dX12_nameNow_279 rfl ⟨_, rfl, ⟨by omega, by omega⟩, rfl, trivial⟩
                    · refine j_aload_n (pc := 237) dX12_nameNow_237 rfl rfl ?_
                      refine j_aload_n (pc := 238) dX12_nameNow_238 rfl rfl ?_
                      refine j_getI (pc := 239) fl_X12_94 dX12_nameNow_239 (a_88 hM) rfl ?_
                      refine j_iconst (pc := 242) dX12_nameNow_242 ?_
                      refine j_iadd (pc := 243) dX12_nameNow_243 ?_
                      refine j_callV (pc := 244) (As := [vI ((σ 88 14) + 4)]) (st := []) (c_X12_look hM ((σ 88 14) + 4) ⟨by omega, by omega⟩ σ hI) mv_X12_103 rfl rfl rfl (a_88 hM) dX12_nameNow_244 ⟨Nat.le_of_ble_eq_true rfl, Nat.le_of_ble_eq_true rfl⟩ ⟨Nat.le_refl _, Nat.le_refl _⟩ rfl (Nat.le_of_ble_eq_true rfl) rfl (fun z159 σ160 hz159 => ?_)
                      obtain ⟨r162, rfl, hr162, rfl, q161_0⟩ := hz159
                      replace q161_0 : (((σ 88 14) + 4) < σ 88 12 ∧ r162 = σ 98 ((σ 88 14) + 4).toNat) ∨ (¬ ((σ 88 14) + 4) < σ 88 12 ∧ r162 = -1) := q161_0
                      refine j_st (st' := [vI r162]) rfl ?_
                      refine j_bipush (pc := 247) dX12_nameNow_247 rfl ?_
                      refine j_icmpR_ne (pc := 249) (tgt := 255) ⟨by omega, by omega⟩ ⟨by omega, by omega⟩ dX12_nameNow_249 rfl (fun h163 => ?_) (fun h163 => ?_)
                      · refine j_aload_n (pc := 255) dX12_nameNow_255 rfl rfl ?_
                        refine j_iconst (pc := 256) dX12_nameNow_256 ?_
                        refine j_bipush (pc := 257) dX12_nameNow_257 rfl ?_
                        refine j_bipush (pc := 259) dX12_nameNow_259 rfl ?_
                        refine j_bipush (pc := 261) dX12_nameNow_261 rfl ?_
                        refine j_iconst (pc := 263) dX12_nameNow_263 ?_
                        refine j_callV (pc := 264) (As := [vI 3, vI 108, vI 111, vI 119, vI 0]) (st := []) (c_X12_is hM 3 ⟨by omega, by omega⟩ 108 ⟨by omega, by omega⟩ 111 ⟨by omega, by omega⟩ 119 ⟨by omega, by omega⟩ 0 ⟨by omega, by omega⟩ σ hI) mv_X12_107 rfl rfl rfl (a_88 hM) dX12_nameNow_264 ⟨Nat.le_of_ble_eq_true rfl, Nat.le_of_ble_eq_true rfl⟩ ⟨Nat.le_refl _, Nat.le_refl _⟩ rfl (Nat.le_of_ble_eq_true rfl) rfl (fun z164 σ165 hz164 => ?_)
                        obtain ⟨r167, rfl, hr167, rfl, -⟩ := hz164
                        refine j_st (st' := [vI r167]) rfl ?_
                        refine j_ifR_eq (pc := 267) (tgt := 275) ⟨by omega, by omega⟩ dX12_nameNow_267 rfl (fun h168 => ?_) (fun h168 => ?_)
                        · refine j_aload_n (pc := 275) dX12_nameNow_275 rfl rfl ?_
                          refine j_callV (pc := 276) (As := []) (st := []) (c_X12_withNow hM σ hI) mv_X12_111 rfl rfl rfl (a_88 hM) dX12_nameNow_276 ⟨Nat.le_of_ble_eq_true rfl, Nat.le_of_ble_eq_true rfl⟩ ⟨Nat.le_refl _, Nat.le_refl _⟩ rfl (Nat.le_of_ble_eq_true rfl) rfl (fun z169 σ170 hz169 => ?_)
                          obtain ⟨r172, rfl, hr172, rfl, q171_0⟩ := hz169
                          replace q171_0 : r172 = -4 ∨ 20 ≤ r172 := q171_0
                          refine j_st (st' := [vI r172]) rfl ?_
                          exact j_iret (pc := 279) ⟨rfl, rfl⟩ dX12_nameNow_279 rfl ⟨_, rfl, ⟨by omega, by omega⟩, rfl, trivial⟩
                        · refine j_bipush (pc := 270) dX12_nameNow_270 rfl ?_
                          refine j_goto (pc := 272) (tgt := 279) dX12_nameNow_272 rfl ?_
                          exact j_iret (pc := 279) ⟨rfl, rfl⟩ dX12_nameNow_279 rfl ⟨_, rfl, ⟨by omega, by omega⟩, rfl, trivial⟩
                      · refine j_bipush (pc := 252) dX12_nameNow_252 rfl ?_
                        exact j_iret (pc := 254) ⟨rfl, rfl⟩ dX12_nameNow_254 rfl ⟨_, rfl, ⟨by omega, by omega⟩, rfl, trivial⟩
                  · refine j_iconst (pc := 219) dX12_nameNow_219 ?_
                    exact j_iret (pc := 220) ⟨rfl, rfl⟩ dX12_nameNow_220 rfl ⟨_, rfl, ⟨by omega, by omega⟩, rfl, trivial⟩
                · refine j_iconst (pc := 201) dX12_nameNow_201 ?_
                  exact j_iret (pc := 202) ⟨rfl, rfl⟩ dX12_nameNow_202 rfl ⟨_, rfl, ⟨by omega, by omega⟩, rfl, trivial⟩
              · refine j_iconst (pc := 183) dX12_nameNow_183 ?_
                exact j_iret (pc := 184) ⟨rfl, rfl⟩ dX12_nameNow_184 rfl ⟨_, rfl, ⟨by omega, by omega⟩, rfl, trivial⟩
            · refine j_aload_n (pc := 150) dX12_nameNow_150 rfl rfl ?_
              refine j_aload_n (pc := 151) dX12_nameNow_151 rfl rfl ?_
              refine j_getI (pc := 152) fl_X12_94 dX12_nameNow_152 (a_88 hM) rfl ?_
              refine j_iconst (pc := 155) dX12_nameNow_155 ?_
              refine j_iadd (pc := 156) dX12_nameNow_156 ?_
              refine j_callV (pc := 157) (As := [vI ((σ 88 14) + 4)]) (st := []) (c_X12_look hM ((σ 88 14) + 4) ⟨by omega, by omega⟩ σ hI) mv_X12_103 rfl rfl rfl (a_88 hM) dX12_nameNow_157 ⟨Nat.le_of_ble_eq_true rfl, Nat.le_of_ble_eq_true rfl⟩ ⟨Nat.le_refl _, Nat.le_refl _⟩ rfl (Nat.le_of_ble_eq_true rfl) rfl (fun z173 σ174 hz173 => ?_)
              obtain ⟨r176, rfl, hr176, rfl, q175_0⟩ := hz173
              replace q175_0 : (((σ 88 14) + 4) < σ 88 12 ∧ r176 = σ 98 ((σ 88 14) + 4).toNat) ∨ (¬ ((σ 88 14) + 4) < σ 88 12 ∧ r176 = -1) := q175_0
              refine j_st (st' := [vI r176]) rfl ?_
              refine j_bipush (pc := 160) dX12_nameNow_160 rfl ?_
              refine j_icmpR_ne (pc := 162) (tgt := 167) ⟨by omega, by omega⟩ ⟨by omega, by omega⟩ dX12_nameNow_162 rfl (fun h177 => ?_) (fun h177 => ?_)
              · refine j_aload_n (pc := 167) dX12_nameNow_167 rfl rfl ?_
                refine j_iconst (pc := 168) dX12_nameNow_168 ?_
                refine j_bipush (pc := 169) dX12_nameNow_169 rfl ?_
                refine j_bipush (pc := 171) dX12_nameNow_171 rfl ?_
                refine j_bipush (pc := 173) dX12_nameNow_173 rfl ?_
                refine j_bipush (pc := 175) dX12_nameNow_175 rfl ?_
                refine j_callV (pc := 177) (As := [vI 4, vI 114, vI 111, vI 112, vI 101]) (st := []) (c_X12_is hM 4 ⟨by omega, by omega⟩ 114 ⟨by omega, by omega⟩ 111 ⟨by omega, by omega⟩ 112 ⟨by omega, by omega⟩ 101 ⟨by omega, by omega⟩ σ hI) mv_X12_107 rfl rfl rfl (a_88 hM) dX12_nameNow_177 ⟨Nat.le_of_ble_eq_true rfl, Nat.le_of_ble_eq_true rfl⟩ ⟨Nat.le_refl _, Nat.le_refl _⟩ rfl (Nat.le_of_ble_eq_true rfl) rfl (fun z178 σ179 hz178 => ?_)
                obtain ⟨r181, rfl, hr181, rfl, -⟩ := hz178
                refine j_st (st' := [vI r181]) rfl ?_
                refine j_ifR_eq (pc := 180) (tgt := 185) ⟨by omega, by omega⟩ dX12_nameNow_180 rfl (fun h182 => ?_) (fun h182 => ?_)
                · refine j_aload_n (pc := 185) dX12_nameNow_185 rfl rfl ?_
                  refine j_iconst (pc := 186) dX12_nameNow_186 ?_
                  refine j_bipush (pc := 187) dX12_nameNow_187 rfl ?_
                  refine j_bipush (pc := 189) dX12_nameNow_189 rfl ?_
                  refine j_bipush (pc := 191) dX12_nameNow_191 rfl ?_
                  refine j_bipush (pc := 193) dX12_nameNow_193 rfl ?_
                  refine j_callV (pc := 195) (As := [vI 4, vI 103, vI 105, vI 118, vI 101]) (st := []) (c_X12_is hM 4 ⟨by omega, by omega⟩ 103 ⟨by omega, by omega⟩ 105 ⟨by omega, by omega⟩ 118 ⟨by omega, by omega⟩ 101 ⟨by omega, by omega⟩ σ hI) mv_X12_107 rfl rfl rfl (a_88 hM) dX12_nameNow_195 ⟨Nat.le_of_ble_eq_true rfl, Nat.le_of_ble_eq_true rfl⟩ ⟨Nat.le_refl _, Nat.le_refl _⟩ rfl (Nat.le_of_ble_eq_true rfl) rfl (fun z183 σ184 hz183 => ?_)
                  obtain ⟨r186, rfl, hr186, rfl, -⟩ := hz183
                  refine j_st (st' := [vI r186]) rfl ?_
                  refine j_ifR_eq (pc := 198) (tgt := 203) ⟨by omega, by omega⟩ dX12_nameNow_198 rfl (fun h187 => ?_) (fun h187 => ?_)
                  · refine j_aload_n (pc := 203) dX12_nameNow_203 rfl rfl ?_
                    refine j_iconst (pc := 204) dX12_nameNow_204 ?_
                    refine j_bipush (pc := 205) dX12_nameNow_205 rfl ?_
                    refine j_bipush (pc := 207) dX12_nameNow_207 rfl ?_
                    refine j_bipush (pc := 209) dX12_nameNow_209 rfl ?_
                    refine j_bipush (pc := 211) dX12_nameNow_211 rfl ?_
                    refine j_callV (pc := 213) (As := [vI 4, vI 102, vI 105, vI 116, vI 115]) (st := []) (c_X12_is hM 4 ⟨by omega, by omega⟩ 102 ⟨by omega, by omega⟩ 105 ⟨by omega, by omega⟩ 116 ⟨by omega, by omega⟩ 115 ⟨by omega, by omega⟩ σ hI) mv_X12_107 rfl rfl rfl (a_88 hM) dX12_nameNow_213 ⟨Nat.le_of_ble_eq_true rfl, Nat.le_of_ble_eq_true rfl⟩ ⟨Nat.le_refl _, Nat.le_refl _⟩ rfl (Nat.le_of_ble_eq_true rfl) rfl (fun z188 σ189 hz188 => ?_)
                    obtain ⟨r191, rfl, hr191, rfl, -⟩ := hz188
                    refine j_st (st' := [vI r191]) rfl ?_
                    refine j_ifR_eq (pc := 216) (tgt := 221) ⟨by omega, by omega⟩ dX12_nameNow_216 rfl (fun h192 => ?_) (fun h192 => ?_)
                    · refine j_aload_n (pc := 221) dX12_nameNow_221 rfl rfl ?_
                      refine j_iconst (pc := 222) dX12_nameNow_222 ?_
                      refine j_bipush (pc := 223) dX12_nameNow_223 rfl ?_
                      refine j_bipush (pc := 225) dX12_nameNow_225 rfl ?_
                      refine j_bipush (pc := 227) dX12_nameNow_227 rfl ?_
                      refine j_bipush (pc := 229) dX12_nameNow_229 rfl ?_
                      refine j_callV (pc := 231) (As := [vI 5, vI 104, vI 111, vI 108, vI 100]) (st := []) (c_X12_is hM 5 ⟨by omega, by omega⟩ 104 ⟨by omega, by omega⟩ 111 ⟨by omega, by omega⟩ 108 ⟨by omega, by omega⟩ 100 ⟨by omega, by omega⟩ σ hI) mv_X12_107 rfl rfl rfl (a_88 hM) dX12_nameNow_231 ⟨Nat.le_of_ble_eq_true rfl, Nat.le_of_ble_eq_true rfl⟩ ⟨Nat.le_refl _, Nat.le_refl _⟩ rfl (Nat.le_of_ble_eq_true rfl) rfl (fun z193 σ194 hz193 => ?_)
                      obtain ⟨r196, rfl, hr196, rfl, -⟩ := hz193
                      refine j_st (st' := [vI r196]) rfl ?_
                      refine j_ifR_eq (pc := 234) (tgt := 255) ⟨by omega, by omega⟩ dX12_nameNow_234 rfl (fun h197 => ?_) (fun h197 => ?_)
                      · refine j_aload_n (pc := 255) dX12_nameNow_255 rfl rfl ?_
                        refine j_iconst (pc := 256) dX12_nameNow_256 ?_
                        refine j_bipush (pc := 257) dX12_nameNow_257 rfl ?_
                        refine j_bipush (pc := 259) dX12_nameNow_259 rfl ?_
                        refine j_bipush (pc := 261) dX12_nameNow_261 rfl ?_
                        refine j_iconst (pc := 263) dX12_nameNow_263 ?_
                        refine j_callV (pc := 264) (As := [vI 3, vI 108, vI 111, vI 119, vI 0]) (st := []) (c_X12_is hM 3 ⟨by omega, by omega⟩ 108 ⟨by omega, by omega⟩ 111 ⟨by omega, by omega⟩ 119 ⟨by omega, by omega⟩ 0 ⟨by omega, by omega⟩ σ hI) mv_X12_107 rfl rfl rfl (a_88 hM) dX12_nameNow_264 ⟨Nat.le_of_ble_eq_true rfl, Nat.le_of_ble_eq_true rfl⟩ ⟨Nat.le_refl _, Nat.le_refl _⟩ rfl (Nat.le_of_ble_eq_true rfl) rfl (fun z198 σ199 hz198 => ?_)
                        obtain ⟨r201, rfl, hr201, rfl, -⟩ := hz198
                        refine j_st (st' := [vI r201]) rfl ?_
                        refine j_ifR_eq (pc := 267) (tgt := 275) ⟨by omega, by omega⟩ dX12_nameNow_267 rfl (fun h202 => ?_) (fun h202 => ?_)
                        · refine j_aload_n (pc := 275) dX12_nameNow_275 rfl rfl ?_
                          refine j_callV (pc := 276) (As := []) (st := []) (c_X12_withNow hM σ hI) mv_X12_111 rfl rfl rfl (a_88 hM) dX12_nameNow_276 ⟨Nat.le_of_ble_eq_true rfl, Nat.le_of_ble_eq_true rfl⟩ ⟨Nat.le_refl _, Nat.le_refl _⟩ rfl (Nat.le_of_ble_eq_true rfl) rfl (fun z203 σ204 hz203 => ?_)
                          obtain ⟨r206, rfl, hr206, rfl, q205_0⟩ := hz203
                          replace q205_0 : r206 = -4 ∨ 20 ≤ r206 := q205_0
                          refine j_st (st' := [vI r206]) rfl ?_
                          exact j_iret (pc := 279) ⟨rfl, rfl⟩ dX12_nameNow_279 rfl ⟨_, rfl, ⟨by omega, by omega⟩, rfl, trivial⟩
                        · refine j_bipush (pc := 270) dX12_nameNow_270 rfl ?_
                          refine j_goto (pc := 272) (tgt := 279) dX12_nameNow_272 rfl ?_
                          exact j_iret (pc := 279) ⟨rfl, rfl⟩ dX12_nameNow_279 rfl ⟨_, rfl, ⟨by omega, by omega⟩, rfl, trivial⟩
                      · refine j_aload_n (pc := 237) dX12_nameNow_237 rfl rfl ?_
                        refine j_aload_n (pc := 238) dX12_nameNow_238 rfl rfl ?_
                        refine j_getI (pc := 239) fl_X12_94 dX12_nameNow_239 (a_88 hM) rfl ?_
                        refine j_iconst (pc := 242) dX12_nameNow_242 ?_
                        refine j_iadd (pc := 243) dX12_nameNow_243 ?_
                        refine j_callV (pc := 244) (As := [vI ((σ 88 14) + 4)]) (st := []) (c_X12_look hM ((σ 88 14) + 4) ⟨by omega, by omega⟩ σ hI) mv_X12_103 rfl rfl rfl (a_88 hM) dX12_nameNow_244 ⟨Nat.le_of_ble_eq_true rfl, Nat.le_of_ble_eq_true rfl⟩ ⟨Nat.le_refl _, Nat.le_refl _⟩ rfl (Nat.le_of_ble_eq_true rfl) rfl (fun z207 σ208 hz207 => ?_)
                        obtain ⟨r210, rfl, hr210, rfl, q209_0⟩ := hz207
                        replace q209_0 : (((σ 88 14) + 4) < σ 88 12 ∧ r210 = σ 98 ((σ 88 14) + 4).toNat) ∨ (¬ ((σ 88 14) + 4) < σ 88 12 ∧ r210 = -1) := q209_0
                        refine j_st (st' := [vI r210]) rfl ?_
                        refine j_bipush (pc := 247) dX12_nameNow_247 rfl ?_
                        refine j_icmpR_ne (pc := 249) (tgt := 255) ⟨by omega, by omega⟩ ⟨by omega, by omega⟩ dX12_nameNow_249 rfl (fun h211 => ?_) (fun h211 => ?_)
                        · refine j_aload_n (pc := 255) dX12_nameNow_255 rfl rfl ?_
                          refine j_iconst (pc := 256) dX12_nameNow_256 ?_
                          refine j_bipush (pc := 257) dX12_nameNow_257 rfl ?_
                          refine j_bipush (pc := 259) dX12_nameNow_259 rfl ?_
                          refine j_bipush (pc := 261) dX12_nameNow_261 rfl ?_
                          refine j_iconst (pc := 263) dX12_nameNow_263 ?_
                          refine j_callV (pc := 264) (As := [vI 3, vI 108, vI 111, vI 119, vI 0]) (st := []) (c_X12_is hM 3 ⟨by omega, by omega⟩ 108 ⟨by omega, by omega⟩ 111 ⟨by omega, by omega⟩ 119 ⟨by omega, by omega⟩ 0 ⟨by omega, by omega⟩ σ hI) mv_X12_107 rfl rfl rfl (a_88 hM) dX12_nameNow_264 ⟨Nat.le_of_ble_eq_true rfl, Nat.le_of_ble_eq_true rfl⟩ ⟨Nat.le_refl _, Nat.le_refl _⟩ rfl (Nat.le_of_ble_eq_true rfl) rfl (fun z212 σ213 hz212 => ?_)
                          obtain ⟨r215, rfl, hr215, rfl, -⟩ := hz212
                          refine j_st (st' := [vI r215]) rfl ?_
                          refine j_ifR_eq (pc := 267) (tgt := 275) ⟨by omega, by omega⟩ dX12_nameNow_267 rfl (fun h216 => ?_) (fun h216 => ?_)
                          · refine j_aload_n (pc := 275) dX12_nameNow_275 rfl rfl ?_
                            refine j_callV (pc := 276) (As := []) (st := []) (c_X12_withNow hM σ hI) mv_X12_111 rfl rfl rfl (a_88 hM) dX12_nameNow_276 ⟨Nat.le_of_ble_eq_true rfl, Nat.le_of_ble_eq_true rfl⟩ ⟨Nat.le_refl _, Nat.le_refl _⟩ rfl (Nat.le_of_ble_eq_true rfl) rfl (fun z217 σ218 hz217 => ?_)
                            obtain ⟨r220, rfl, hr220, rfl, q219_0⟩ := hz217
                            replace q219_0 : r220 = -4 ∨ 20 ≤ r220 := q219_0
                            refine j_st (st' := [vI r220]) rfl ?_
                            exact j_iret (pc := 279) ⟨rfl, rfl⟩ dX12_nameNow_279 rfl ⟨_, rfl, ⟨by omega, by omega⟩, rfl, trivial⟩
                          · refine j_bipush (pc := 270) dX12_nameNow_270 rfl ?_
                            refine j_goto (pc := 272) (tgt := 279) dX12_nameNow_272 rfl ?_
                            exact j_iret (pc := 279) ⟨rfl, rfl⟩ dX12_nameNow_279 rfl ⟨_, rfl, ⟨by omega, by omega⟩, rfl, trivial⟩
                        · refine j_bipush (pc := 252) dX12_nameNow_252 rfl ?_
                          exact j_iret (pc := 254) ⟨rfl, rfl⟩ dX12_nameNow_254 rfl ⟨_, rfl, ⟨by omega, by omega⟩, rfl, trivial⟩
                    · refine j_iconst (pc := 219) dX12_nameNow_219 ?_
                      exact j_iret (pc := 220) ⟨rfl, rfl⟩ dX12_nameNow_220 rfl ⟨_, rfl, ⟨by omega, by omega⟩, rfl, trivial⟩
                  · refine j_iconst (pc := 201) dX12_nameNow_201 ?_
                    exact j_iret (pc := 202) ⟨rfl, rfl⟩ dX12_nameNow_202 rfl ⟨_, rfl, ⟨by omega, by omega⟩, rfl, trivial⟩
                · refine j_iconst (pc := 183) dX12_nameNow_183 ?_
                  exact j_iret (pc := 184) ⟨rfl, rfl⟩ dX12_nameNow_184 rfl ⟨_, rfl, ⟨by omega, by omega⟩, rfl, trivial⟩
              · refine j_iconst (pc := 165) dX12_nameNow_165 ?_
                exact j_iret (pc := 166) ⟨rfl, rfl⟩ dX12_nameNow_166 rfl ⟨_, rfl, ⟨by omega, by omega⟩, rfl, trivial⟩
          · refine j_aload_n (pc := 85) dX12_nameNow_85 rfl rfl ?_
            refine j_aload_n (pc := 86) dX12_nameNow_86 rfl rfl ?_
            refine j_getI (pc := 87) fl_X12_94 dX12_nameNow_87 (a_88 hM) rfl ?_
            refine j_iconst (pc := 90) dX12_nameNow_90 ?_
            refine j_iadd (pc := 91) dX12_nameNow_91 ?_
            refine j_callV (pc := 92) (As := [vI ((σ 88 14) + 5)]) (st := []) (c_X12_look hM ((σ 88 14) + 5) ⟨by omega, by omega⟩ σ hI) mv_X12_103 rfl rfl rfl (a_88 hM) dX12_nameNow_92 ⟨Nat.le_of_ble_eq_true rfl, Nat.le_of_ble_eq_true rfl⟩ ⟨Nat.le_refl _, Nat.le_refl _⟩ rfl (Nat.le_of_ble_eq_true rfl) rfl (fun z221 σ222 hz221 => ?_)
            obtain ⟨r224, rfl, hr224, rfl, q223_0⟩ := hz221
            replace q223_0 : (((σ 88 14) + 5) < σ 88 12 ∧ r224 = σ 98 ((σ 88 14) + 5).toNat) ∨ (¬ ((σ 88 14) + 5) < σ 88 12 ∧ r224 = -1) := q223_0
            refine j_st (st' := [vI r224]) rfl ?_
            refine j_bipush (pc := 95) dX12_nameNow_95 rfl ?_
            refine j_icmpR_ne (pc := 97) (tgt := 134) ⟨by omega, by omega⟩ ⟨by omega, by omega⟩ dX12_nameNow_97 rfl (fun h225 => ?_) (fun h225 => ?_)
            · refine j_aload_n (pc := 134) dX12_nameNow_134 rfl rfl ?_
              refine j_iconst (pc := 135) dX12_nameNow_135 ?_
              refine j_bipush (pc := 136) dX12_nameNow_136 rfl ?_
              refine j_bipush (pc := 138) dX12_nameNow_138 rfl ?_
              refine j_bipush (pc := 140) dX12_nameNow_140 rfl ?_
              refine j_bipush (pc := 142) dX12_nameNow_142 rfl ?_
              refine j_callV (pc := 144) (As := [vI 5, vI 112, vI 108, vI 97, vI 99]) (st := []) (c_X12_is hM 5 ⟨by omega, by omega⟩ 112 ⟨by omega, by omega⟩ 108 ⟨by omega, by omega⟩ 97 ⟨by omega, by omega⟩ 99 ⟨by omega, by omega⟩ σ hI) mv_X12_107 rfl rfl rfl (a_88 hM) dX12_nameNow_144 ⟨Nat.le_of_ble_eq_true rfl, Nat.le_of_ble_eq_true rfl⟩ ⟨Nat.le_refl _, Nat.le_refl _⟩ rfl (Nat.le_of_ble_eq_true rfl) rfl (fun z226 σ227 hz226 => ?_)
              obtain ⟨r229, rfl, hr229, rfl, -⟩ := hz226
              refine j_st (st' := [vI r229]) rfl ?_
              refine j_ifR_eq (pc := 147) (tgt := 167) ⟨by omega, by omega⟩ dX12_nameNow_147 rfl (fun h230 => ?_) (fun h230 => ?_)
              · refine j_aload_n (pc := 167) dX12_nameNow_167 rfl rfl ?_
                refine j_iconst (pc := 168) dX12_nameNow_168 ?_
                refine j_bipush (pc := 169) dX12_nameNow_169 rfl ?_
                refine j_bipush (pc := 171) dX12_nameNow_171 rfl ?_
                refine j_bipush (pc := 173) dX12_nameNow_173 rfl ?_
                refine j_bipush (pc := 175) dX12_nameNow_175 rfl ?_
                refine j_callV (pc := 177) (As := [vI 4, vI 114, vI 111, vI 112, vI 101]) (st := []) (c_X12_is hM 4 ⟨by omega, by omega⟩ 114 ⟨by omega, by omega⟩ 111 ⟨by omega, by omega⟩ 112 ⟨by omega, by omega⟩ 101 ⟨by omega, by omega⟩ σ hI) mv_X12_107 rfl rfl rfl (a_88 hM) dX12_nameNow_177 ⟨Nat.le_of_ble_eq_true rfl, Nat.le_of_ble_eq_true rfl⟩ ⟨Nat.le_refl _, Nat.le_refl _⟩ rfl (Nat.le_of_ble_eq_true rfl) rfl (fun z231 σ232 hz231 => ?_)
                obtain ⟨r234, rfl, hr234, rfl, -⟩ := hz231
                refine j_st (st' := [vI r234]) rfl ?_
                refine j_ifR_eq (pc := 180) (tgt := 185) ⟨by omega, by omega⟩ dX12_nameNow_180 rfl (fun h235 => ?_) (fun h235 => ?_)
                · refine j_aload_n (pc := 185) dX12_nameNow_185 rfl rfl ?_
                  refine j_iconst (pc := 186) dX12_nameNow_186 ?_
                  refine j_bipush (pc := 187) dX12_nameNow_187 rfl ?_
                  refine j_bipush (pc := 189) dX12_nameNow_189 rfl ?_
                  refine j_bipush (pc := 191) dX12_nameNow_191 rfl ?_
                  refine j_bipush (pc := 193) dX12_nameNow_193 rfl ?_
                  refine j_callV (pc := 195) (As := [vI 4, vI 103, vI 105, vI 118, vI 101]) (st := []) (c_X12_is hM 4 ⟨by omega, by omega⟩ 103 ⟨by omega, by omega⟩ 105 ⟨by omega, by omega⟩ 118 ⟨by omega, by omega⟩ 101 ⟨by omega, by omega⟩ σ hI) mv_X12_107 rfl rfl rfl (a_88 hM) dX12_nameNow_195 ⟨Nat.le_of_ble_eq_true rfl, Nat.le_of_ble_eq_true rfl⟩ ⟨Nat.le_refl _, Nat.le_refl _⟩ rfl (Nat.le_of_ble_eq_true rfl) rfl (fun z236 σ237 hz236 => ?_)
                  obtain ⟨r239, rfl, hr239, rfl, -⟩ := hz236
                  refine j_st (st' := [vI r239]) rfl ?_
                  refine j_ifR_eq (pc := 198) (tgt := 203) ⟨by omega, by omega⟩ dX12_nameNow_198 rfl (fun h240 => ?_) (fun h240 => ?_)
                  · refine j_aload_n (pc := 203) dX12_nameNow_203 rfl rfl ?_
                    refine j_iconst (pc := 204) dX12_nameNow_204 ?_
                    refine j_bipush (pc := 205) dX12_nameNow_205 rfl ?_
                    refine j_bipush (pc := 207) dX12_nameNow_207 rfl ?_
                    refine j_bipush (pc := 209) dX12_nameNow_209 rfl ?_
                    refine j_bipush (pc := 211) dX12_nameNow_211 rfl ?_
                    refine j_callV (pc := 213) (As := [vI 4, vI 102, vI 105, vI 116, vI 115]) (st := []) (c_X12_is hM 4 ⟨by omega, by omega⟩ 102 ⟨by omega, by omega⟩ 105 ⟨by omega, by omega⟩ 116 ⟨by omega, by omega⟩ 115 ⟨by omega, by omega⟩ σ hI) mv_X12_107 rfl rfl rfl (a_88 hM) dX12_nameNow_213 ⟨Nat.le_of_ble_eq_true rfl, Nat.le_of_ble_eq_true rfl⟩ ⟨Nat.le_refl _, Nat.le_refl _⟩ rfl (Nat.le_of_ble_eq_true rfl) rfl (fun z241 σ242 hz241 => ?_)
                    obtain ⟨r244, rfl, hr244, rfl, -⟩ := hz241
                    refine j_st (st' := [vI r244]) rfl ?_
                    refine j_ifR_eq (pc := 216) (tgt := 221) ⟨by omega, by omega⟩ dX12_nameNow_216 rfl (fun h245 => ?_) (fun h245 => ?_)
                    · refine j_aload_n (pc := 221) dX12_nameNow_221 rfl rfl ?_
                      refine j_iconst (pc := 222) dX12_nameNow_222 ?_
                      refine j_bipush (pc := 223) dX12_nameNow_223 rfl ?_
                      refine j_bipush (pc := 225) dX12_nameNow_225 rfl ?_
                      refine j_bipush (pc := 227) dX12_nameNow_227 rfl ?_
                      refine j_bipush (pc := 229) dX12_nameNow_229 rfl ?_
                      refine j_callV (pc := 231) (As := [vI 5, vI 104, vI 111, vI 108, vI 100]) (st := []) (c_X12_is hM 5 ⟨by omega, by omega⟩ 104 ⟨by omega, by omega⟩ 111 ⟨by omega, by omega⟩ 108 ⟨by omega, by omega⟩ 100 ⟨by omega, by omega⟩ σ hI) mv_X12_107 rfl rfl rfl (a_88 hM) dX12_nameNow_231 ⟨Nat.le_of_ble_eq_true rfl, Nat.le_of_ble_eq_true rfl⟩ ⟨Nat.le_refl _, Nat.le_refl _⟩ rfl (Nat.le_of_ble_eq_true rfl) rfl (fun z246 σ247 hz246 => ?_)
                      obtain ⟨r249, rfl, hr249, rfl, -⟩ := hz246
                      refine j_st (st' := [vI r249]) rfl ?_
                      refine j_ifR_eq (pc := 234) (tgt := 255) ⟨by omega, by omega⟩ dX12_nameNow_234 rfl (fun h250 => ?_) (fun h250 => ?_)
                      · refine j_aload_n (pc := 255) dX12_nameNow_255 rfl rfl ?_
                        refine j_iconst (pc := 256) dX12_nameNow_256 ?_
                        refine j_bipush (pc := 257) dX12_nameNow_257 rfl ?_
                        refine j_bipush (pc := 259) dX12_nameNow_259 rfl ?_
                        refine j_bipush (pc := 261) dX12_nameNow_261 rfl ?_
                        refine j_iconst (pc := 263) dX12_nameNow_263 ?_
                        refine j_callV (pc := 264) (As := [vI 3, vI 108, vI 111, vI 119, vI 0]) (st := []) (c_X12_is hM 3 ⟨by omega, by omega⟩ 108 ⟨by omega, by omega⟩ 111 ⟨by omega, by omega⟩ 119 ⟨by omega, by omega⟩ 0 ⟨by omega, by omega⟩ σ hI) mv_X12_107 rfl rfl rfl (a_88 hM) dX12_nameNow_264 ⟨Nat.le_of_ble_eq_true rfl, Nat.le_of_ble_eq_true rfl⟩ ⟨Nat.le_refl _, Nat.le_refl _⟩ rfl (Nat.le_of_ble_eq_true rfl) rfl (fun z251 σ252 hz251 => ?_)
                        obtain ⟨r254, rfl, hr254, rfl, -⟩ := hz251
                        refine j_st (st' := [vI r254]) rfl ?_
                        refine j_ifR_eq (pc := 267) (tgt := 275) ⟨by omega, by omega⟩ dX12_nameNow_267 rfl (fun h255 => ?_) (fun h255 => ?_)
                        · refine j_aload_n (pc := 275) dX12_nameNow_275 rfl rfl ?_
                          refine j_callV (pc := 276) (As := []) (st := []) (c_X12_withNow hM σ hI) mv_X12_111 rfl rfl rfl (a_88 hM) dX12_nameNow_276 ⟨Nat.le_of_ble_eq_true rfl, Nat.le_of_ble_eq_true rfl⟩ ⟨Nat.le_refl _, Nat.le_refl _⟩ rfl (Nat.le_of_ble_eq_true rfl) rfl (fun z256 σ257 hz256 => ?_)
                          obtain ⟨r259, rfl, hr259, rfl, q258_0⟩ := hz256
                          replace q258_0 : r259 = -4 ∨ 20 ≤ r259 := q258_0
                          refine j_st (st' := [vI r259]) rfl ?_
                          exact j_iret (pc := 279) ⟨rfl, rfl⟩ dX12_nameNow_279 rfl ⟨_, rfl, ⟨by omega, by omega⟩, rfl, trivial⟩
                        · refine j_bipush (pc := 270) dX12_nameNow_270 rfl ?_
                          refine j_goto (pc := 272) (tgt := 279) dX12_nameNow_272 rfl ?_
                          exact j_iret (pc := 279) ⟨rfl, rfl⟩ dX12_nameNow_279 rfl ⟨_, rfl, ⟨by omega, by omega⟩, rfl, trivial⟩
                      · refine j_aload_n (pc := 237) dX12_nameNow_237 rfl rfl ?_
                        refine j_aload_n (pc := 238) dX12_nameNow_238 rfl rfl ?_
                        refine j_getI (pc := 239) fl_X12_94 dX12_nameNow_239 (a_88 hM) rfl ?_
                        refine j_iconst (pc := 242) dX12_nameNow_242 ?_
                        refine j_iadd (pc := 243) dX12_nameNow_243 ?_
                        refine j_callV (pc := 244) (As := [vI ((σ 88 14) + 4)]) (st := []) (c_X12_look hM ((σ 88 14) + 4) ⟨by omega, by omega⟩ σ hI) mv_X12_103 rfl rfl rfl (a_88 hM) dX12_nameNow_244 ⟨Nat.le_of_ble_eq_true rfl, Nat.le_of_ble_eq_true rfl⟩ ⟨Nat.le_refl _, Nat.le_refl _⟩ rfl (Nat.le_of_ble_eq_true rfl) rfl (fun z260 σ261 hz260 => ?_)
                        obtain ⟨r263, rfl, hr263, rfl, q262_0⟩ := hz260
                        replace q262_0 : (((σ 88 14) + 4) < σ 88 12 ∧ r263 = σ 98 ((σ 88 14) + 4).toNat) ∨ (¬ ((σ 88 14) + 4) < σ 88 12 ∧ r263 = -1) := q262_0
                        refine j_st (st' := [vI r263]) rfl ?_
                        refine j_bipush (pc := 247) dX12_nameNow_247 rfl ?_
                        refine j_icmpR_ne (pc := 249) (tgt := 255) ⟨by omega, by omega⟩ ⟨by omega, by omega⟩ dX12_nameNow_249 rfl (fun h264 => ?_) (fun h264 => ?_)
                        · refine j_aload_n (pc := 255) dX12_nameNow_255 rfl rfl ?_
                          refine j_iconst (pc := 256) dX12_nameNow_256 ?_
                          refine j_bipush (pc := 257) dX12_nameNow_257 rfl ?_
                          refine j_bipush (pc := 259) dX12_nameNow_259 rfl ?_
                          refine j_bipush (pc := 261) dX12_nameNow_261 rfl ?_
                          refine j_iconst (pc := 263) dX12_nameNow_263 ?_
                          refine j_callV (pc := 264) (As := [vI 3, vI 108, vI 111, vI 119, vI 0]) (st := []) (c_X12_is hM 3 ⟨by omega, by omega⟩ 108 ⟨by omega, by omega⟩ 111 ⟨by omega, by omega⟩ 119 ⟨by omega, by omega⟩ 0 ⟨by omega, by omega⟩ σ hI) mv_X12_107 rfl rfl rfl (a_88 hM) dX12_nameNow_264 ⟨Nat.le_of_ble_eq_true rfl, Nat.le_of_ble_eq_true rfl⟩ ⟨Nat.le_refl _, Nat.le_refl _⟩ rfl (Nat.le_of_ble_eq_true rfl) rfl (fun z265 σ266 hz265 => ?_)
                          obtain ⟨r268, rfl, hr268, rfl, -⟩ := hz265
                          refine j_st (st' := [vI r268]) rfl ?_
                          refine j_ifR_eq (pc := 267) (tgt := 275) ⟨by omega, by omega⟩ dX12_nameNow_267 rfl (fun h269 => ?_) (fun h269 => ?_)
                          · refine j_aload_n (pc := 275) dX12_nameNow_275 rfl rfl ?_
                            refine j_callV (pc := 276) (As := []) (st := []) (c_X12_withNow hM σ hI) mv_X12_111 rfl rfl rfl (a_88 hM) dX12_nameNow_276 ⟨Nat.le_of_ble_eq_true rfl, Nat.le_of_ble_eq_true rfl⟩ ⟨Nat.le_refl _, Nat.le_refl _⟩ rfl (Nat.le_of_ble_eq_true rfl) rfl (fun z270 σ271 hz270 => ?_)
                            obtain ⟨r273, rfl, hr273, rfl, q272_0⟩ := hz270
                            replace q272_0 : r273 = -4 ∨ 20 ≤ r273 := q272_0
                            refine j_st (st' := [vI r273]) rfl ?_
                            exact j_iret (pc := 279) ⟨rfl, rfl⟩ dX12_nameNow_279 rfl ⟨_, rfl, ⟨by omega, by omega⟩, rfl, trivial⟩
                          · refine j_bipush (pc := 270) dX12_nameNow_270 rfl ?_
                            refine j_goto (pc := 272) (tgt := 279) dX12_nameNow_272 rfl ?_
                            exact j_iret (pc := 279) ⟨rfl, rfl⟩ dX12_nameNow_279 rfl ⟨_, rfl, ⟨by omega, by omega⟩, rfl, trivial⟩
                        · refine j_bipush (pc := 252) dX12_nameNow_252 rfl ?_
                          exact j_iret (pc := 254) ⟨rfl, rfl⟩ dX12_nameNow_254 rfl ⟨_, rfl, ⟨by omega, by omega⟩, rfl, trivial⟩
                    · refine j_iconst (pc := 219) dX12_nameNow_219 ?_
                      exact j_iret (pc := 220) ⟨rfl, rfl⟩ dX12_nameNow_220 rfl ⟨_, rfl, ⟨by omega, by omega⟩, rfl, trivial⟩
                  · refine j_iconst (pc := 201) dX12_nameNow_201 ?_
                    exact j_iret (pc := 202) ⟨rfl, rfl⟩ dX12_nameNow_202 rfl ⟨_, rfl, ⟨by omega, by omega⟩, rfl, trivial⟩
                · refine j_iconst (pc := 183) dX12_nameNow_183 ?_
                  exact j_iret (pc := 184) ⟨rfl, rfl⟩ dX12_nameNow_184 rfl ⟨_, rfl, ⟨by omega, by omega⟩, rfl, trivial⟩
              · refine j_aload_n (pc := 150) dX12_nameNow_150 rfl rfl ?_
                refine j_aload_n (pc := 151) dX12_nameNow_151 rfl rfl ?_
                refine j_getI (pc := 152) fl_X12_94 dX12_nameNow_152 (a_88 hM) rfl ?_
                refine j_iconst (pc := 155) dX12_nameNow_155 ?_
                refine j_iadd (pc := 156) dX12_nameNow_156 ?_
                refine j_callV (pc := 157) (As := [vI ((σ 88 14) + 4)]) (st := []) (c_X12_look hM ((σ 88 14) + 4) ⟨by omega, by omega⟩ σ hI) mv_X12_103 rfl rfl rfl (a_88 hM) dX12_nameNow_157 ⟨Nat.le_of_ble_eq_true rfl, Nat.le_of_ble_eq_true rfl⟩ ⟨Nat.le_refl _, Nat.le_refl _⟩ rfl (Nat.le_of_ble_eq_true rfl) rfl (fun z274 σ275 hz274 => ?_)
                obtain ⟨r277, rfl, hr277, rfl, q276_0⟩ := hz274
                replace q276_0 : (((σ 88 14) + 4) < σ 88 12 ∧ r277 = σ 98 ((σ 88 14) + 4).toNat) ∨ (¬ ((σ 88 14) + 4) < σ 88 12 ∧ r277 = -1) := q276_0
                refine j_st (st' := [vI r277]) rfl ?_
                refine j_bipush (pc := 160) dX12_nameNow_160 rfl ?_
                refine j_icmpR_ne (pc := 162) (tgt := 167) ⟨by omega, by omega⟩ ⟨by omega, by omega⟩ dX12_nameNow_162 rfl (fun h278 => ?_) (fun h278 => ?_)
                · refine j_aload_n (pc := 167) dX12_nameNow_167 rfl rfl ?_
                  refine j_iconst (pc := 168) dX12_nameNow_168 ?_
                  refine j_bipush (pc := 169) dX12_nameNow_169 rfl ?_
                  refine j_bipush (pc := 171) dX12_nameNow_171 rfl ?_
                  refine j_bipush (pc := 173) dX12_nameNow_173 rfl ?_
                  refine j_bipush (pc := 175) dX12_nameNow_175 rfl ?_
                  refine j_callV (pc := 177) (As := [vI 4, vI 114, vI 111, vI 112, vI 101]) (st := []) (c_X12_is hM 4 ⟨by omega, by omega⟩ 114 ⟨by omega, by omega⟩ 111 ⟨by omega, by omega⟩ 112 ⟨by omega, by omega⟩ 101 ⟨by omega, by omega⟩ σ hI) mv_X12_107 rfl rfl rfl (a_88 hM) dX12_nameNow_177 ⟨Nat.le_of_ble_eq_true rfl, Nat.le_of_ble_eq_true rfl⟩ ⟨Nat.le_refl _, Nat.le_refl _⟩ rfl (Nat.le_of_ble_eq_true rfl) rfl (fun z279 σ280 hz279 => ?_)
                  obtain ⟨r282, rfl, hr282, rfl, -⟩ := hz279
                  refine j_st (st' := [vI r282]) rfl ?_
                  refine j_ifR_eq (pc := 180) (tgt := 185) ⟨by omega, by omega⟩ dX12_nameNow_180 rfl (fun h283 => ?_) (fun h283 => ?_)
                  · refine j_aload_n (pc := 185) dX12_nameNow_185 rfl rfl ?_
                    refine j_iconst (pc := 186) dX12_nameNow_186 ?_
                    refine j_bipush (pc := 187) dX12_nameNow_187 rfl ?_
                    refine j_bipush (pc := 189) dX12_nameNow_189 rfl ?_
                    refine j_bipush (pc := 191) dX12_nameNow_191 rfl ?_
                    refine j_bipush (pc := 193) dX12_nameNow_193 rfl ?_
                    refine j_callV (pc := 195) (As := [vI 4, vI 103, vI 105, vI 118, vI 101]) (st := []) (c_X12_is hM 4 ⟨by omega, by omega⟩ 103 ⟨by omega, by omega⟩ 105 ⟨by omega, by omega⟩ 118 ⟨by omega, by omega⟩ 101 ⟨by omega, by omega⟩ σ hI) mv_X12_107 rfl rfl rfl (a_88 hM) dX12_nameNow_195 ⟨Nat.le_of_ble_eq_true rfl, Nat.le_of_ble_eq_true rfl⟩ ⟨Nat.le_refl _, Nat.le_refl _⟩ rfl (Nat.le_of_ble_eq_true rfl) rfl (fun z284 σ285 hz284 => ?_)
                    obtain ⟨r287, rfl, hr287, rfl, -⟩ := hz284
                    refine j_st (st' := [vI r287]) rfl ?_
                    refine j_ifR_eq (pc := 198) (tgt := 203) ⟨by omega, by omega⟩ dX12_nameNow_198 rfl (fun h288 => ?_) (fun h288 => ?_)
                    · refine j_aload_n (pc := 203) dX12_nameNow_203 rfl rfl ?_
                      refine j_iconst (pc := 204) dX12_nameNow_204 ?_
                      refine j_bipush (pc := 205) dX12_nameNow_205 rfl ?_
                      refine j_bipush (pc := 207) dX12_nameNow_207 rfl ?_
                      refine j_bipush (pc := 209) dX12_nameNow_209 rfl ?_
                      refine j_bipush (pc := 211) dX12_nameNow_211 rfl ?_
                      refine j_callV (pc := 213) (As := [vI 4, vI 102, vI 105, vI 116, vI 115]) (st := []) (c_X12_is hM 4 ⟨by omega, by omega⟩ 102 ⟨by omega, by omega⟩ 105 ⟨by omega, by omega⟩ 116 ⟨by omega, by omega⟩ 115 ⟨by omega, by omega⟩ σ hI) mv_X12_107 rfl rfl rfl (a_88 hM) dX12_nameNow_213 ⟨Nat.le_of_ble_eq_true rfl, Nat.le_of_ble_eq_true rfl⟩ ⟨Nat.le_refl _, Nat.le_refl _⟩ rfl (Nat.le_of_ble_eq_true rfl) rfl (fun z289 σ290 hz289 => ?_)
                      obtain ⟨r292, rfl, hr292, rfl, -⟩ := hz289
                      refine j_st (st' := [vI r292]) rfl ?_
                      refine j_ifR_eq (pc := 216) (tgt := 221) ⟨by omega, by omega⟩ dX12_nameNow_216 rfl (fun h293 => ?_) (fun h293 => ?_)
                      · refine j_aload_n (pc := 221) dX12_nameNow_221 rfl rfl ?_
                        refine j_iconst (pc := 222) dX12_nameNow_222 ?_
                        refine j_bipush (pc := 223) dX12_nameNow_223 rfl ?_
                        refine j_bipush (pc := 225) dX12_nameNow_225 rfl ?_
                        refine j_bipush (pc := 227) dX12_nameNow_227 rfl ?_
                        refine j_bipush (pc := 229) dX12_nameNow_229 rfl ?_
                        refine j_callV (pc := 231) (As := [vI 5, vI 104, vI 111, vI 108, vI 100]) (st := []) (c_X12_is hM 5 ⟨by omega, by omega⟩ 104 ⟨by omega, by omega⟩ 111 ⟨by omega, by omega⟩ 108 ⟨by omega, by omega⟩ 100 ⟨by omega, by omega⟩ σ hI) mv_X12_107 rfl rfl rfl (a_88 hM) dX12_nameNow_231 ⟨Nat.le_of_ble_eq_true rfl, Nat.le_of_ble_eq_true rfl⟩ ⟨Nat.le_refl _, Nat.le_refl _⟩ rfl (Nat.le_of_ble_eq_true rfl) rfl (fun z294 σ295 hz294 => ?_)
                        obtain ⟨r297, rfl, hr297, rfl, -⟩ := hz294
                        refine j_st (st' := [vI r297]) rfl ?_
                        refine j_ifR_eq (pc := 234) (tgt := 255) ⟨by omega, by omega⟩ dX12_nameNow_234 rfl (fun h298 => ?_) (fun h298 => ?_)
                        · refine j_aload_n (pc := 255) dX12_nameNow_255 rfl rfl ?_
                          refine j_iconst (pc := 256) dX12_nameNow_256 ?_
                          refine j_bipush (pc := 257) dX12_nameNow_257 rfl ?_
                          refine j_bipush (pc := 259) dX12_nameNow_259 rfl ?_
                          refine j_bipush (pc := 261) dX12_nameNow_261 rfl ?_
                          refine j_iconst (pc := 263) dX12_nameNow_263 ?_
                          refine j_callV (pc := 264) (As := [vI 3, vI 108, vI 111, vI 119, vI 0]) (st := []) (c_X12_is hM 3 ⟨by omega, by omega⟩ 108 ⟨by omega, by omega⟩ 111 ⟨by omega, by omega⟩ 119 ⟨by omega, by omega⟩ 0 ⟨by omega, by omega⟩ σ hI) mv_X12_107 rfl rfl rfl (a_88 hM) dX12_nameNow_264 ⟨Nat.le_of_ble_eq_true rfl, Nat.le_of_ble_eq_true rfl⟩ ⟨Nat.le_refl _, Nat.le_refl _⟩ rfl (Nat.le_of_ble_eq_true rfl) rfl (fun z299 σ300 hz299 => ?_)
                          obtain ⟨r302, rfl, hr302, rfl, -⟩ := hz299
                          refine j_st (st' := [vI r302]) rfl ?_
                          refine j_ifR_eq (pc := 267) (tgt := 275) ⟨by omega, by omega⟩ dX12_nameNow_267 rfl (fun h303 => ?_) (fun h303 => ?_)
                          · refine j_aload_n (pc := 275) dX12_nameNow_275 rfl rfl ?_
                            refine j_callV (pc := 276) (As := []) (st := []) (c_X12_withNow hM σ hI) mv_X12_111 rfl rfl rfl (a_88 hM) dX12_nameNow_276 ⟨Nat.le_of_ble_eq_true rfl, Nat.le_of_ble_eq_true rfl⟩ ⟨Nat.le_refl _, Nat.le_refl _⟩ rfl (Nat.le_of_ble_eq_true rfl) rfl (fun z304 σ305 hz304 => ?_)
                            obtain ⟨r307, rfl, hr307, rfl, q306_0⟩ := hz304
                            replace q306_0 : r307 = -4 ∨ 20 ≤ r307 := q306_0
                            refine j_st (st' := [vI r307]) rfl ?_
                            exact j_iret (pc := 279) ⟨rfl, rfl⟩ dX12_nameNow_279 rfl ⟨_, rfl, ⟨by omega, by omega⟩, rfl, trivial⟩
                          · refine j_bipush (pc := 270) dX12_nameNow_270 rfl ?_
                            refine j_goto (pc := 272) (tgt := 279) dX12_nameNow_272 rfl ?_
                            exact j_iret (pc := 279) ⟨rfl, rfl⟩ dX12_nameNow_279 rfl ⟨_, rfl, ⟨by omega, by omega⟩, rfl, trivial⟩
                        · refine j_aload_n (pc := 237) dX12_nameNow_237 rfl rfl ?_
                          refine j_aload_n (pc := 238) dX12_nameNow_238 rfl rfl ?_
                          refine j_getI (pc := 239) fl_X12_94 dX12_nameNow_239 (a_88 hM) rfl ?_
                          refine j_iconst (pc := 242) dX12_nameNow_242 ?_
                          refine j_iadd (pc := 243) dX12_nameNow_243 ?_
                          refine j_callV (pc := 244) (As := [vI ((σ 88 14) + 4)]) (st := []) (c_X12_look hM ((σ 88 14) + 4) ⟨by omega, by omega⟩ σ hI) mv_X12_103 rfl rfl rfl (a_88 hM) dX12_nameNow_244 ⟨Nat.le_of_ble_eq_true rfl, Nat.le_of_ble_eq_true rfl⟩ ⟨Nat.le_refl _, Nat.le_refl _⟩ rfl (Nat.le_of_ble_eq_true rfl) rfl (fun z308 σ309 hz308 => ?_)
                          obtain ⟨r311, rfl, hr311, rfl, q310_0⟩ := hz308
                          replace q310_0 : (((σ 88 14) + 4) < σ 88 12 ∧ r311 = σ 98 ((σ 88 14) + 4).toNat) ∨ (¬ ((σ 88 14) + 4) < σ 88 12 ∧ r311 = -1) := q310_0
                          refine j_st (st' := [vI r311]) rfl ?_
                          refine j_bipush (pc := 247) dX12_nameNow_247 rfl ?_
                          refine j_icmpR_ne (pc := 249) (tgt := 255) ⟨by omega, by omega⟩ ⟨by omega, by omega⟩ dX12_nameNow_249 rfl (fun h312 => ?_) (fun h312 => ?_)
                          · refine j_aload_n (pc := 255) dX12_nameNow_255 rfl rfl ?_
                            refine j_iconst (pc := 256) dX12_nameNow_256 ?_
                            refine j_bipush (pc := 257) dX12_nameNow_257 rfl ?_
                            refine j_bipush (pc := 259) dX12_nameNow_259 rfl ?_
                            refine j_bipush (pc := 261) dX12_nameNow_261 rfl ?_
                            refine j_iconst (pc := 263) dX12_nameNow_263 ?_
                            refine j_callV (pc := 264) (As := [vI 3, vI 108, vI 111, vI 119, vI 0]) (st := []) (c_X12_is hM 3 ⟨by omega, by omega⟩ 108 ⟨by omega, by omega⟩ 111 ⟨by omega, by omega⟩ 119 ⟨by omega, by omega⟩ 0 ⟨by omega, by omega⟩ σ hI) mv_X12_107 rfl rfl rfl (a_88 hM) dX12_nameNow_264 ⟨Nat.le_of_ble_eq_true rfl, Nat.le_of_ble_eq_true rfl⟩ ⟨Nat.le_refl _, Nat.le_refl _⟩ rfl (Nat.le_of_ble_eq_true rfl) rfl (fun z313 σ314 hz313 => ?_)
                            obtain ⟨r316, rfl, hr316, rfl, -⟩ := hz313
                            refine j_st (st' := [vI r316]) rfl ?_
                            refine j_ifR_eq (pc := 267) (tgt := 275) ⟨by omega, by omega⟩ dX12_nameNow_267 rfl (fun h317 => ?_) (fun h317 => ?_)
                            · refine j_aload_n (pc := 275) dX12_nameNow_275 rfl rfl ?_
                              refine j_callV (pc := 276) (As := []) (st := []) (c_X12_withNow hM σ hI) mv_X12_111 rfl rfl rfl (a_88 hM) dX12_nameNow_276 ⟨Nat.le_of_ble_eq_true rfl, Nat.le_of_ble_eq_true rfl⟩ ⟨Nat.le_refl _, Nat.le_refl _⟩ rfl (Nat.le_of_ble_eq_true rfl) rfl (fun z318 σ319 hz318 => ?_)
                              obtain ⟨r321, rfl, hr321, rfl, q320_0⟩ := hz318
                              replace q320_0 : r321 = -4 ∨ 20 ≤ r321 := q320_0
                              refine j_st (st' := [vI r321]) rfl ?_
                              exact j_iret (pc := 279) ⟨rfl, rfl⟩ dX12_nameNow_279 rfl ⟨_, rfl, ⟨by omega, by omega⟩, rfl, trivial⟩
                            · refine j_bipush (pc := 270) dX12_nameNow_270 rfl ?_
                              refine j_goto (pc := 272) (tgt := 279) dX12_nameNow_272 rfl ?_
                              exact j_iret (pc := 279) ⟨rfl, rfl⟩ dX12_nameNow_279 rfl ⟨_, rfl, ⟨by omega, by omega⟩, rfl, trivial⟩
                          · refine j_bipush (pc := 252) dX12_nameNow_252 rfl ?_
                            exact j_iret (pc := 254) ⟨rfl, rfl⟩ dX12_nameNow_254 rfl ⟨_, rfl, ⟨by omega, by omega⟩, rfl, trivial⟩
                      · refine j_iconst (pc := 219) dX12_nameNow_219 ?_
                        exact j_iret (pc := 220) ⟨rfl, rfl⟩ dX12_nameNow_220 rfl ⟨_, rfl, ⟨by omega, by omega⟩, rfl, trivial⟩
                    · refine j_iconst (pc := 201) dX12_nameNow_201 ?_
                      exact j_iret (pc := 202) ⟨rfl, rfl⟩ dX12_nameNow_202 rfl ⟨_, rfl, ⟨by omega, by omega⟩, rfl, trivial⟩
                  · refine j_iconst (pc := 183) dX12_nameNow_183 ?_
                    exact j_iret (pc := 184) ⟨rfl, rfl⟩ dX12_nameNow_184 rfl ⟨_, rfl, ⟨by omega, by omega⟩, rfl, trivial⟩
                · refine j_iconst (pc := 165) dX12_nameNow_165 ?_
                  exact j_iret (pc := 166) ⟨rfl, rfl⟩ dX12_nameNow_166 rfl ⟨_, rfl, ⟨by omega, by omega⟩, rfl, trivial⟩
            · refine j_aload_n (pc := 100) dX12_nameNow_100 rfl rfl ?_
              refine j_aload_n (pc := 101) dX12_nameNow_101 rfl rfl ?_
              refine j_getI (pc := 102) fl_X12_94 dX12_nameNow_102 (a_88 hM) rfl ?_
              refine j_bipush (pc := 105) dX12_nameNow_105 rfl ?_
              refine j_iadd (pc := 107) dX12_nameNow_107 ?_
              refine j_callV (pc := 108) (As := [vI ((σ 88 14) + 6)]) (st := []) (c_X12_look hM ((σ 88 14) + 6) ⟨by omega, by omega⟩ σ hI) mv_X12_103 rfl rfl rfl (a_88 hM) dX12_nameNow_108 ⟨Nat.le_of_ble_eq_true rfl, Nat.le_of_ble_eq_true rfl⟩ ⟨Nat.le_refl _, Nat.le_refl _⟩ rfl (Nat.le_of_ble_eq_true rfl) rfl (fun z322 σ323 hz322 => ?_)
              obtain ⟨r325, rfl, hr325, rfl, q324_0⟩ := hz322
              replace q324_0 : (((σ 88 14) + 6) < σ 88 12 ∧ r325 = σ 98 ((σ 88 14) + 6).toNat) ∨ (¬ ((σ 88 14) + 6) < σ 88 12 ∧ r325 = -1) := q324_0
              refine j_st (st' := [vI r325]) rfl ?_
              refine j_bipush (pc := 111) dX12_nameNow_111 rfl ?_
              refine j_icmpR_ne (pc := 113) (tgt := 134) ⟨by omega, by omega⟩ ⟨by omega, by omega⟩ dX12_nameNow_113 rfl (fun h326 => ?_) (fun h326 => ?_)
              · refine j_aload_n (pc := 134) dX12_nameNow_134 rfl rfl ?_
                refine j_iconst (pc := 135) dX12_nameNow_135 ?_
                refine j_bipush (pc := 136) dX12_nameNow_136 rfl ?_
                refine j_bipush (pc := 138) dX12_nameNow_138 rfl ?_
                refine j_bipush (pc := 140) dX12_nameNow_140 rfl ?_
                refine j_bipush (pc := 142) dX12_nameNow_142 rfl ?_
                refine j_callV (pc := 144) (As := [vI 5, vI 112, vI 108, vI 97, vI 99]) (st := []) (c_X12_is hM 5 ⟨by omega, by omega⟩ 112 ⟨by omega, by omega⟩ 108 ⟨by omega, by omega⟩ 97 ⟨by omega, by omega⟩ 99 ⟨by omega, by omega⟩ σ hI) mv_X12_107 rfl rfl rfl (a_88 hM) dX12_nameNow_144 ⟨Nat.le_of_ble_eq_true rfl, Nat.le_of_ble_eq_true rfl⟩ ⟨Nat.le_refl _, Nat.le_refl _⟩ rfl (Nat.le_of_ble_eq_true rfl) rfl (fun z327 σ328 hz327 => ?_)
                obtain ⟨r330, rfl, hr330, rfl, -⟩ := hz327
                refine j_st (st' := [vI r330]) rfl ?_
                refine j_ifR_eq (pc := 147) (tgt := 167) ⟨by omega, by omega⟩ dX12_nameNow_147 rfl (fun h331 => ?_) (fun h331 => ?_)
                · refine j_aload_n (pc := 167) dX12_nameNow_167 rfl rfl ?_
                  refine j_iconst (pc := 168) dX12_nameNow_168 ?_
                  refine j_bipush (pc := 169) dX12_nameNow_169 rfl ?_
                  refine j_bipush (pc := 171) dX12_nameNow_171 rfl ?_
                  refine j_bipush (pc := 173) dX12_nameNow_173 rfl ?_
                  refine j_bipush (pc := 175) dX12_nameNow_175 rfl ?_
                  refine j_callV (pc := 177) (As := [vI 4, vI 114, vI 111, vI 112, vI 101]) (st := []) (c_X12_is hM 4 ⟨by omega, by omega⟩ 114 ⟨by omega, by omega⟩ 111 ⟨by omega, by omega⟩ 112 ⟨by omega, by omega⟩ 101 ⟨by omega, by omega⟩ σ hI) mv_X12_107 rfl rfl rfl (a_88 hM) dX12_nameNow_177 ⟨Nat.le_of_ble_eq_true rfl, Nat.le_of_ble_eq_true rfl⟩ ⟨Nat.le_refl _, Nat.le_refl _⟩ rfl (Nat.le_of_ble_eq_true rfl) rfl (fun z332 σ333 hz332 => ?_)
                  obtain ⟨r335, rfl, hr335, rfl, -⟩ := hz332
                  refine j_st (st' := [vI r335]) rfl ?_
                  refine j_ifR_eq (pc := 180) (tgt := 185) ⟨by omega, by omega⟩ dX12_nameNow_180 rfl (fun h336 => ?_) (fun h336 => ?_)
                  · refine j_aload_n (pc := 185) dX12_nameNow_185 rfl rfl ?_
                    refine j_iconst (pc := 186) dX12_nameNow_186 ?_
                    refine j_bipush (pc := 187) dX12_nameNow_187 rfl ?_
                    refine j_bipush (pc := 189) dX12_nameNow_189 rfl ?_
                    refine j_bipush (pc := 191) dX12_nameNow_191 rfl ?_
                    refine j_bipush (pc := 193) dX12_nameNow_193 rfl ?_
                    refine j_callV (pc := 195) (As := [vI 4, vI 103, vI 105, vI 118, vI 101]) (st := []) (c_X12_is hM 4 ⟨by omega, by omega⟩ 103 ⟨by omega, by omega⟩ 105 ⟨by omega, by omega⟩ 118 ⟨by omega, by omega⟩ 101 ⟨by omega, by omega⟩ σ hI) mv_X12_107 rfl rfl rfl (a_88 hM) dX12_nameNow_195 ⟨Nat.le_of_ble_eq_true rfl, Nat.le_of_ble_eq_true rfl⟩ ⟨Nat.le_refl _, Nat.le_refl _⟩ rfl (Nat.le_of_ble_eq_true rfl) rfl (fun z337 σ338 hz337 => ?_)
                    obtain ⟨r340, rfl, hr340, rfl, -⟩ := hz337
                    refine j_st (st' := [vI r340]) rfl ?_
                    refine j_ifR_eq (pc := 198) (tgt := 203) ⟨by omega, by omega⟩ dX12_nameNow_198 rfl (fun h341 => ?_) (fun h341 => ?_)
                    · refine j_aload_n (pc := 203) dX12_nameNow_203 rfl rfl ?_
                      refine j_iconst (pc := 204) dX12_nameNow_204 ?_
                      refine j_bipush (pc := 205) dX12_nameNow_205 rfl ?_
                      refine j_bipush (pc := 207) dX12_nameNow_207 rfl ?_
                      refine j_bipush (pc := 209) dX12_nameNow_209 rfl ?_
                      refine j_bipush (pc := 211) dX12_nameNow_211 rfl ?_
                      refine j_callV (pc := 213) (As := [vI 4, vI 102, vI 105, vI 116, vI 115]) (st := []) (c_X12_is hM 4 ⟨by omega, by omega⟩ 102 ⟨by omega, by omega⟩ 105 ⟨by omega, by omega⟩ 116 ⟨by omega, by omega⟩ 115 ⟨by omega, by omega⟩ σ hI) mv_X12_107 rfl rfl rfl (a_88 hM) dX12_nameNow_213 ⟨Nat.le_of_ble_eq_true rfl, Nat.le_of_ble_eq_true rfl⟩ ⟨Nat.le_refl _, Nat.le_refl _⟩ rfl (Nat.le_of_ble_eq_true rfl) rfl (fun z342 σ343 hz342 => ?_)
                      obtain ⟨r345, rfl, hr345, rfl, -⟩ := hz342
                      refine j_st (st' := [vI r345]) rfl ?_
                      refine j_ifR_eq (pc := 216) (tgt := 221) ⟨by omega, by omega⟩ dX12_nameNow_216 rfl (fun h346 => ?_) (fun h346 => ?_)
                      · refine j_aload_n (pc := 221) dX12_nameNow_221 rfl rfl ?_
                        refine j_iconst (pc := 222) dX12_nameNow_222 ?_
                        refine j_bipush (pc := 223) dX12_nameNow_223 rfl ?_
                        refine j_bipush (pc := 225) dX12_nameNow_225 rfl ?_
                        refine j_bipush (pc := 227) dX12_nameNow_227 rfl ?_
                        refine j_bipush (pc := 229) dX12_nameNow_229 rfl ?_
                        refine j_callV (pc := 231) (As := [vI 5, vI 104, vI 111, vI 108, vI 100]) (st := []) (c_X12_is hM 5 ⟨by omega, by omega⟩ 104 ⟨by omega, by omega⟩ 111 ⟨by omega, by omega⟩ 108 ⟨by omega, by omega⟩ 100 ⟨by omega, by omega⟩ σ hI) mv_X12_107 rfl rfl rfl (a_88 hM) dX12_nameNow_231 ⟨Nat.le_of_ble_eq_true rfl, Nat.le_of_ble_eq_true rfl⟩ ⟨Nat.le_refl _, Nat.le_refl _⟩ rfl (Nat.le_of_ble_eq_true rfl) rfl (fun z347 σ348 hz347 => ?_)
                        obtain ⟨r350, rfl, hr350, rfl, -⟩ := hz347
                        refine j_st (st' := [vI r350]) rfl ?_
                        refine j_ifR_eq (pc := 234) (tgt := 255) ⟨by omega, by omega⟩ dX12_nameNow_234 rfl (fun h351 => ?_) (fun h351 => ?_)
                        · refine j_aload_n (pc := 255) dX12_nameNow_255 rfl rfl ?_
                          refine j_iconst (pc := 256) dX12_nameNow_256 ?_
                          refine j_bipush (pc := 257) dX12_nameNow_257 rfl ?_
                          refine j_bipush (pc := 259) dX12_nameNow_259 rfl ?_
                          refine j_bipush (pc := 261) dX12_nameNow_261 rfl ?_
                          refine j_iconst (pc := 263) dX12_nameNow_263 ?_
                          refine j_callV (pc := 264) (As := [vI 3, vI 108, vI 111, vI 119, vI 0]) (st := []) (c_X12_is hM 3 ⟨by omega, by omega⟩ 108 ⟨by omega, by omega⟩ 111 ⟨by omega, by omega⟩ 119 ⟨by omega, by omega⟩ 0 ⟨by omega, by omega⟩ σ hI) mv_X12_107 rfl rfl rfl (a_88 hM) dX12_nameNow_264 ⟨Nat.le_of_ble_eq_true rfl, Nat.le_of_ble_eq_true rfl⟩ ⟨Nat.le_refl _, Nat.le_refl _⟩ rfl (Nat.le_of_ble_eq_true rfl) rfl (fun z352 σ353 hz352 => ?_)
                          obtain ⟨r355, rfl, hr355, rfl, -⟩ := hz352
                          refine j_st (st' := [vI r355]) rfl ?_
                          refine j_ifR_eq (pc := 267) (tgt := 275) ⟨by omega, by omega⟩ dX12_nameNow_267 rfl (fun h356 => ?_) (fun h356 => ?_)
                          · refine j_aload_n (pc := 275) dX12_nameNow_275 rfl rfl ?_
                            refine j_callV (pc := 276) (As := []) (st := []) (c_X12_withNow hM σ hI) mv_X12_111 rfl rfl rfl (a_88 hM) dX12_nameNow_276 ⟨Nat.le_of_ble_eq_true rfl, Nat.le_of_ble_eq_true rfl⟩ ⟨Nat.le_refl _, Nat.le_refl _⟩ rfl (Nat.le_of_ble_eq_true rfl) rfl (fun z357 σ358 hz357 => ?_)
                            obtain ⟨r360, rfl, hr360, rfl, q359_0⟩ := hz357
                            replace q359_0 : r360 = -4 ∨ 20 ≤ r360 := q359_0
                            refine j_st (st' := [vI r360]) rfl ?_
                            exact j_iret (pc := 279) ⟨rfl, rfl⟩ dX12_nameNow_279 rfl ⟨_, rfl, ⟨by omega, by omega⟩, rfl, trivial⟩
                          · refine j_bipush (pc := 270) dX12_nameNow_270 rfl ?_
                            refine j_goto (pc := 272) (tgt := 279) dX12_nameNow_272 rfl ?_
                            exact j_iret (pc := 279) ⟨rfl, rfl⟩ dX12_nameNow_279 rfl ⟨_, rfl, ⟨by omega, by omega⟩, rfl, trivial⟩
                        · refine j_aload_n (pc := 237) dX12_nameNow_237 rfl rfl ?_
                          refine j_aload_n (pc := 238) dX12_nameNow_238 rfl rfl ?_
                          refine j_getI (pc := 239) fl_X12_94 dX12_nameNow_239 (a_88 hM) rfl ?_
                          refine j_iconst (pc := 242) dX12_nameNow_242 ?_
                          refine j_iadd (pc := 243) dX12_nameNow_243 ?_
                          refine j_callV (pc := 244) (As := [vI ((σ 88 14) + 4)]) (st := []) (c_X12_look hM ((σ 88 14) + 4) ⟨by omega, by omega⟩ σ hI) mv_X12_103 rfl rfl rfl (a_88 hM) dX12_nameNow_244 ⟨Nat.le_of_ble_eq_true rfl, Nat.le_of_ble_eq_true rfl⟩ ⟨Nat.le_refl _, Nat.le_refl _⟩ rfl (Nat.le_of_ble_eq_true rfl) rfl (fun z361 σ362 hz361 => ?_)
                          obtain ⟨r364, rfl, hr364, rfl, q363_0⟩ := hz361
                          replace q363_0 : (((σ 88 14) + 4) < σ 88 12 ∧ r364 = σ 98 ((σ 88 14) + 4).toNat) ∨ (¬ ((σ 88 14) + 4) < σ 88 12 ∧ r364 = -1) := q363_0
                          refine j_st (st' := [vI r364]) rfl ?_
                          refine j_bipush (pc := 247) dX12_nameNow_247 rfl ?_
                          refine j_icmpR_ne (pc := 249) (tgt := 255) ⟨by omega, by omega⟩ ⟨by omega, by omega⟩ dX12_nameNow_249 rfl (fun h365 => ?_) (fun h365 => ?_)
                          · refine j_aload_n (pc := 255) dX12_nameNow_255 rfl rfl ?_
                            refine j_iconst (pc := 256) dX12_nameNow_256 ?_
                            refine j_bipush (pc := 257) dX12_nameNow_257 rfl ?_
                            refine j_bipush (pc := 259) dX12_nameNow_259 rfl ?_
                            refine j_bipush (pc := 261) dX12_nameNow_261 rfl ?_
                            refine j_iconst (pc := 263) dX12_nameNow_263 ?_
                            refine j_callV (pc := 264) (As := [vI 3, vI 108, vI 111, vI 119, vI 0]) (st := []) (c_X12_is hM 3 ⟨by omega, by omega⟩ 108 ⟨by omega, by omega⟩ 111 ⟨by omega, by omega⟩ 119 ⟨by omega, by omega⟩ 0 ⟨by omega, by omega⟩ σ hI) mv_X12_107 rfl rfl rfl (a_88 hM) dX12_nameNow_264 ⟨Nat.le_of_ble_eq_true rfl, Nat.le_of_ble_eq_true rfl⟩ ⟨Nat.le_refl _, Nat.le_refl _⟩ rfl (Nat.le_of_ble_eq_true rfl) rfl (fun z366 σ367 hz366 => ?_)
                            obtain ⟨r369, rfl, hr369, rfl, -⟩ := hz366
                            refine j_st (st' := [vI r369]) rfl ?_
                            refine j_ifR_eq (pc := 267) (tgt := 275) ⟨by omega, by omega⟩ dX12_nameNow_267 rfl (fun h370 => ?_) (fun h370 => ?_)
                            · refine j_aload_n (pc := 275) dX12_nameNow_275 rfl rfl ?_
                              refine j_callV (pc := 276) (As := []) (st := []) (c_X12_withNow hM σ hI) mv_X12_111 rfl rfl rfl (a_88 hM) dX12_nameNow_276 ⟨Nat.le_of_ble_eq_true rfl, Nat.le_of_ble_eq_true rfl⟩ ⟨Nat.le_refl _, Nat.le_refl _⟩ rfl (Nat.le_of_ble_eq_true rfl) rfl (fun z371 σ372 hz371 => ?_)
                              obtain ⟨r374, rfl, hr374, rfl, q373_0⟩ := hz371
                              replace q373_0 : r374 = -4 ∨ 20 ≤ r374 := q373_0
                              refine j_st (st' := [vI r374]) rfl ?_
                              exact j_iret (pc := 279) ⟨rfl, rfl⟩ dX12_nameNow_279 rfl ⟨_, rfl, ⟨by omega, by omega⟩, rfl, trivial⟩
                            · refine j_bipush (pc := 270) dX12_nameNow_270 rfl ?_
                              refine j_goto (pc := 272) (tgt := 279) dX12_nameNow_272 rfl ?_
                              exact j_iret (pc := 279) ⟨rfl, rfl⟩ dX12_nameNow_279 rfl ⟨_, rfl, ⟨by omega, by omega⟩, rfl, trivial⟩
                          · refine j_bipush (pc := 252) dX12_nameNow_252 rfl ?_
                            exact j_iret (pc := 254) ⟨rfl, rfl⟩ dX12_nameNow_254 rfl ⟨_, rfl, ⟨by omega, by omega⟩, rfl, trivial⟩
                      · refine j_iconst (pc := 219) dX12_nameNow_219 ?_
                        exact j_iret (pc := 220) ⟨rfl, rfl⟩ dX12_nameNow_220 rfl ⟨_, rfl, ⟨by omega, by omega⟩, rfl, trivial⟩
                    · refine j_iconst (pc := 201) dX12_nameNow_201 ?_
                      exact j_iret (pc := 202) ⟨rfl, rfl⟩ dX12_nameNow_202 rfl ⟨_, rfl, ⟨by omega, by omega⟩, rfl, trivial⟩
                  · refine j_iconst (pc := 183) dX12_nameNow_183 ?_
                    exact j_iret (pc := 184) ⟨rfl, rfl⟩ dX12_nameNow_184 rfl ⟨_, rfl, ⟨by omega, by omega⟩, rfl, trivial⟩
                · refine j_aload_n (pc := 150) dX12_nameNow_150 rfl rfl ?_
                  refine j_aload_n (pc := 151) dX12_nameNow_151 rfl rfl ?_
                  refine j_getI (pc := 152) fl_X12_94 dX12_nameNow_152 (a_88 hM) rfl ?_
                  refine j_iconst (pc := 155) dX12_nameNow_155 ?_
                  refine j_iadd (pc := 156) dX12_nameNow_156 ?_
                  refine j_callV (pc := 157) (As := [vI ((σ 88 14) + 4)]) (st := []) (c_X12_look hM ((σ 88 14) + 4) ⟨by omega, by omega⟩ σ hI) mv_X12_103 rfl rfl rfl (a_88 hM) dX12_nameNow_157 ⟨Nat.le_of_ble_eq_true rfl, Nat.le_of_ble_eq_true rfl⟩ ⟨Nat.le_refl _, Nat.le_refl _⟩ rfl (Nat.le_of_ble_eq_true rfl) rfl (fun z375 σ376 hz375 => ?_)
                  obtain ⟨r378, rfl, hr378, rfl, q377_0⟩ := hz375
                  replace q377_0 : (((σ 88 14) + 4) < σ 88 12 ∧ r378 = σ 98 ((σ 88 14) + 4).toNat) ∨ (¬ ((σ 88 14) + 4) < σ 88 12 ∧ r378 = -1) := q377_0
                  refine j_st (st' := [vI r378]) rfl ?_
                  refine j_bipush (pc := 160) dX12_nameNow_160 rfl ?_
                  refine j_icmpR_ne (pc := 162) (tgt := 167) ⟨by omega, by omega⟩ ⟨by omega, by omega⟩ dX12_nameNow_162 rfl (fun h379 => ?_) (fun h379 => ?_)
                  · refine j_aload_n (pc := 167) dX12_nameNow_167 rfl rfl ?_
                    refine j_iconst (pc := 168) dX12_nameNow_168 ?_
                    refine j_bipush (pc := 169) dX12_nameNow_169 rfl ?_
                    refine j_bipush (pc := 171) dX12_nameNow_171 rfl ?_
                    refine j_bipush (pc := 173) dX12_nameNow_173 rfl ?_
                    refine j_bipush (pc := 175) dX12_nameNow_175 rfl ?_
                    refine j_callV (pc := 177) (As := [vI 4, vI 114, vI 111, vI 112, vI 101]) (st := []) (c_X12_is hM 4 ⟨by omega, by omega⟩ 114 ⟨by omega, by omega⟩ 111 ⟨by omega, by omega⟩ 112 ⟨by omega, by omega⟩ 101 ⟨by omega, by omega⟩ σ hI) mv_X12_107 rfl rfl rfl (a_88 hM) dX12_nameNow_177 ⟨Nat.le_of_ble_eq_true rfl, Nat.le_of_ble_eq_true rfl⟩ ⟨Nat.le_refl _, Nat.le_refl _⟩ rfl (Nat.le_of_ble_eq_true rfl) rfl (fun z380 σ381 hz380 => ?_)
                    obtain ⟨r383, rfl, hr383, rfl, -⟩ := hz380
                    refine j_st (st' := [vI r383]) rfl ?_
                    refine j_ifR_eq (pc := 180) (tgt := 185) ⟨by omega, by omega⟩ dX12_nameNow_180 rfl (fun h384 => ?_) (fun h384 => ?_)
                    · refine j_aload_n (pc := 185) dX12_nameNow_185 rfl rfl ?_
                      refine j_iconst (pc := 186) dX12_nameNow_186 ?_
                      refine j_bipush (pc := 187) dX12_nameNow_187 rfl ?_
                      refine j_bipush (pc := 189) dX12_nameNow_189 rfl ?_
                      refine j_bipush (pc := 191) dX12_nameNow_191 rfl ?_
                      refine j_bipush (pc := 193) dX12_nameNow_193 rfl ?_
                      refine j_callV (pc := 195) (As := [vI 4, vI 103, vI 105, vI 118, vI 101]) (st := []) (c_X12_is hM 4 ⟨by omega, by omega⟩ 103 ⟨by omega, by omega⟩ 105 ⟨by omega, by omega⟩ 118 ⟨by omega, by omega⟩ 101 ⟨by omega, by omega⟩ σ hI) mv_X12_107 rfl rfl rfl (a_88 hM) dX12_nameNow_195 ⟨Nat.le_of_ble_eq_true rfl, Nat.le_of_ble_eq_true rfl⟩ ⟨Nat.le_refl _, Nat.le_refl _⟩ rfl (Nat.le_of_ble_eq_true rfl) rfl (fun z385 σ386 hz385 => ?_)
                      obtain ⟨r388, rfl, hr388, rfl, -⟩ := hz385
                      refine j_st (st' := [vI r388]) rfl ?_
                      refine j_ifR_eq (pc := 198) (tgt := 203) ⟨by omega, by omega⟩ dX12_nameNow_198 rfl (fun h389 => ?_) (fun h389 => ?_)
                      · refine j_aload_n (pc := 203) dX12_nameNow_203 rfl rfl ?_
                        refine j_iconst (pc := 204) dX12_nameNow_204 ?_
                        refine j_bipush (pc := 205) dX12_nameNow_205 rfl ?_
                        refine j_bipush (pc := 207) dX12_nameNow_207 rfl ?_
                        refine j_bipush (pc := 209) dX12_nameNow_209 rfl ?_
                        refine j_bipush (pc := 211) dX12_nameNow_211 rfl ?_
                        refine j_callV (pc := 213) (As := [vI 4, vI 102, vI 105, vI 116, vI 115]) (st := []) (c_X12_is hM 4 ⟨by omega, by omega⟩ 102 ⟨by omega, by omega⟩ 105 ⟨by omega, by omega⟩ 116 ⟨by omega, by omega⟩ 115 ⟨by omega, by omega⟩ σ hI) mv_X12_107 rfl rfl rfl (a_88 hM) dX12_nameNow_213 ⟨Nat.le_of_ble_eq_true rfl, Nat.le_of_ble_eq_true rfl⟩ ⟨Nat.le_refl _, Nat.le_refl _⟩ rfl (Nat.le_of_ble_eq_true rfl) rfl (fun z390 σ391 hz390 => ?_)
                        obtain ⟨r393, rfl, hr393, rfl, -⟩ := hz390
                        refine j_st (st' := [vI r393]) rfl ?_
                        refine j_ifR_eq (pc := 216) (tgt := 221) ⟨by omega, by omega⟩ dX12_nameNow_216 rfl (fun h394 => ?_) (fun h394 => ?_)
                        · refine j_aload_n (pc := 221) dX12_nameNow_221 rfl rfl ?_
                          refine j_iconst (pc := 222) dX12_nameNow_222 ?_
                          refine j_bipush (pc := 223) dX12_nameNow_223 rfl ?_
                          refine j_bipush (pc := 225) dX12_nameNow_225 rfl ?_
                          refine j_bipush (pc := 227) dX12_nameNow_227 rfl ?_
                          refine j_bipush (pc := 229) dX12_nameNow_229 rfl ?_
                          refine j_callV (pc := 231) (As := [vI 5, vI 104, vI 111, vI 108, vI 100]) (st := []) (c_X12_is hM 5 ⟨by omega, by omega⟩ 104 ⟨by omega, by omega⟩ 111 ⟨by omega, by omega⟩ 108 ⟨by omega, by omega⟩ 100 ⟨by omega, by omega⟩ σ hI) mv_X12_107 rfl rfl rfl (a_88 hM) dX12_nameNow_231 ⟨Nat.le_of_ble_eq_true rfl, Nat.le_of_ble_eq_true rfl⟩ ⟨Nat.le_refl _, Nat.le_refl _⟩ rfl (Nat.le_of_ble_eq_true rfl) rfl (fun z395 σ396 hz395 => ?_)
                          obtain ⟨r398, rfl, hr398, rfl, -⟩ := hz395
                          refine j_st (st' := [vI r398]) rfl ?_
                          refine j_ifR_eq (pc := 234) (tgt := 255) ⟨by omega, by omega⟩ dX12_nameNow_234 rfl (fun h399 => ?_) (fun h399 => ?_)
                          · refine j_aload_n (pc := 255) dX12_nameNow_255 rfl rfl ?_
                            refine j_iconst (pc := 256) dX12_nameNow_256 ?_
                            refine j_bipush (pc := 257) dX12_nameNow_257 rfl ?_
                            refine j_bipush (pc := 259) dX12_nameNow_259 rfl ?_
                            refine j_bipush (pc := 261) dX12_nameNow_261 rfl ?_
                            refine j_iconst (pc := 263) dX12_nameNow_263 ?_
                            refine j_callV (pc := 264) (As := [vI 3, vI 108, vI 111, vI 119, vI 0]) (st := []) (c_X12_is hM 3 ⟨by omega, by omega⟩ 108 ⟨by omega, by omega⟩ 111 ⟨by omega, by omega⟩ 119 ⟨by omega, by omega⟩ 0 ⟨by omega, by omega⟩ σ hI) mv_X12_107 rfl rfl rfl (a_88 hM) dX12_nameNow_264 ⟨Nat.le_of_ble_eq_true rfl, Nat.le_of_ble_eq_true rfl⟩ ⟨Nat.le_refl _, Nat.le_refl _⟩ rfl (Nat.le_of_ble_eq_true rfl) rfl (fun z400 σ401 hz400 => ?_)
                            obtain ⟨r403, rfl, hr403, rfl, -⟩ := hz400
                            refine j_st (st' := [vI r403]) rfl ?_
                            refine j_ifR_eq (pc := 267) (tgt := 275) ⟨by omega, by omega⟩ dX12_nameNow_267 rfl (fun h404 => ?_) (fun h404 => ?_)
                            · refine j_aload_n (pc := 275) dX12_nameNow_275 rfl rfl ?_
                              refine j_callV (pc := 276) (As := []) (st := []) (c_X12_withNow hM σ hI) mv_X12_111 rfl rfl rfl (a_88 hM) dX12_nameNow_276 ⟨Nat.le_of_ble_eq_true rfl, Nat.le_of_ble_eq_true rfl⟩ ⟨Nat.le_refl _, Nat.le_refl _⟩ rfl (Nat.le_of_ble_eq_true rfl) rfl (fun z405 σ406 hz405 => ?_)
                              obtain ⟨r408, rfl, hr408, rfl, q407_0⟩ := hz405
                              replace q407_0 : r408 = -4 ∨ 20 ≤ r408 := q407_0
                              refine j_st (st' := [vI r408]) rfl ?_
                              exact j_iret (pc := 279) ⟨rfl, rfl⟩ dX12_nameNow_279 rfl ⟨_, rfl, ⟨by omega, by omega⟩, rfl, trivial⟩
                            · refine j_bipush (pc := 270) dX12_nameNow_270 rfl ?_
                              refine j_goto (pc := 272) (tgt := 279) dX12_nameNow_272 rfl ?_
                              exact j_iret (pc := 279) ⟨rfl, rfl⟩ dX12_nameNow_279 rfl ⟨_, rfl, ⟨by omega, by omega⟩, rfl, trivial⟩
                          · refine j_aload_n (pc := 237) dX12_nameNow_237 rfl rfl ?_
                            refine j_aload_n (pc := 238) dX12_nameNow_238 rfl rfl ?_
                            refine j_getI (pc := 239) fl_X12_94 dX12_nameNow_239 (a_88 hM) rfl ?_
                            refine j_iconst (pc := 242) dX12_nameNow_242 ?_
                            refine j_iadd (pc := 243) dX12_nameNow_243 ?_
                            refine j_callV (pc := 244) (As := [vI ((σ 88 14) + 4)]) (st := []) (c_X12_look hM ((σ 88 14) + 4) ⟨by omega, by omega⟩ σ hI) mv_X12_103 rfl rfl rfl (a_88 hM) dX12_nameNow_244 ⟨Nat.le_of_ble_eq_true rfl, Nat.le_of_ble_eq_true rfl⟩ ⟨Nat.le_refl _, Nat.le_refl _⟩ rfl (Nat.le_of_ble_eq_true rfl) rfl (fun z409 σ410 hz409 => ?_)
                            obtain ⟨r412, rfl, hr412, rfl, q411_0⟩ := hz409
                            replace q411_0 : (((σ 88 14) + 4) < σ 88 12 ∧ r412 = σ 98 ((σ 88 14) + 4).toNat) ∨ (¬ ((σ 88 14) + 4) < σ 88 12 ∧ r412 = -1) := q411_0
                            refine j_st (st' := [vI r412]) rfl ?_
                            refine j_bipush (pc := 247) dX12_nameNow_247 rfl ?_
                            refine j_icmpR_ne (pc := 249) (tgt := 255) ⟨by omega, by omega⟩ ⟨by omega, by omega⟩ dX12_nameNow_249 rfl (fun h413 => ?_) (fun h413 => ?_)
                            · refine j_aload_n (pc := 255) dX12_nameNow_255 rfl rfl ?_
                              refine j_iconst (pc := 256) dX12_nameNow_256 ?_
                              refine j_bipush (pc := 257) dX12_nameNow_257 rfl ?_
                              refine j_bipush (pc := 259) dX12_nameNow_259 rfl ?_
                              refine j_bipush (pc := 261) dX12_nameNow_261 rfl ?_
                              refine j_iconst (pc := 263) dX12_nameNow_263 ?_
                              refine j_callV (pc := 264) (As := [vI 3, vI 108, vI 111, vI 119, vI 0]) (st := []) (c_X12_is hM 3 ⟨by omega, by omega⟩ 108 ⟨by omega, by omega⟩ 111 ⟨by omega, by omega⟩ 119 ⟨by omega, by omega⟩ 0 ⟨by omega, by omega⟩ σ hI) mv_X12_107 rfl rfl rfl (a_88 hM) dX12_nameNow_264 ⟨Nat.le_of_ble_eq_true rfl, Nat.le_of_ble_eq_true rfl⟩ ⟨Nat.le_refl _, Nat.le_refl _⟩ rfl (Nat.le_of_ble_eq_true rfl) rfl (fun z414 σ415 hz414 => ?_)
                              obtain ⟨r417, rfl, hr417, rfl, -⟩ := hz414
                              refine j_st (st' := [vI r417]) rfl ?_
                              refine j_ifR_eq (pc := 267) (tgt := 275) ⟨by omega, by omega⟩ dX12_nameNow_267 rfl (fun h418 => ?_) (fun h418 => ?_)
                              · refine j_aload_n (pc := 275) dX12_nameNow_275 rfl rfl ?_
                                refine j_callV (pc := 276) (As := []) (st := []) (c_X12_withNow hM σ hI) mv_X12_111 rfl rfl rfl (a_88 hM) dX12_nameNow_276 ⟨Nat.le_of_ble_eq_true rfl, Nat.le_of_ble_eq_true rfl⟩ ⟨Nat.le_refl _, Nat.le_refl _⟩ rfl (Nat.le_of_ble_eq_true rfl) rfl (fun z419 σ420 hz419 => ?_)
                                obtain ⟨r422, rfl, hr422, rfl, q421_0⟩ := hz419
                                replace q421_0 : r422 = -4 ∨ 20 ≤ r422 := q421_0
                                refine j_st (st' := [vI r422]) rfl ?_
                                exact j_iret (pc := 279) ⟨rfl, rfl⟩ dX12_nameNow_279 rfl ⟨_, rfl, ⟨by omega, by omega⟩, rfl, trivial⟩
                              · refine j_bipush (pc := 270) dX12_nameNow_270 rfl ?_
                                refine j_goto (pc := 272) (tgt := 279) dX12_nameNow_272 rfl ?_
                                exact j_iret (pc := 279) ⟨rfl, rfl⟩ dX12_nameNow_279 rfl ⟨_, rfl, ⟨by omega, by omega⟩, rfl, trivial⟩
                            · refine j_bipush (pc := 252) dX12_nameNow_252 rfl ?_
                              exact j_iret (pc := 254) ⟨rfl, rfl⟩ dX12_nameNow_254 rfl ⟨_, rfl, ⟨by omega, by omega⟩, rfl, trivial⟩
                        · refine j_iconst (pc := 219) dX12_nameNow_219 ?_
                          exact j_iret (pc := 220) ⟨rfl, rfl⟩ dX12_nameNow_220 rfl ⟨_, rfl, ⟨by omega, by omega⟩, rfl, trivial⟩
                      · refine j_iconst (pc := 201) dX12_nameNow_201 ?_
                        exact j_iret (pc := 202) ⟨rfl, rfl⟩ dX12_nameNow_202 rfl ⟨_, rfl, ⟨by omega, by omega⟩, rfl, trivial⟩
                    · refine j_iconst (pc := 183) dX12_nameNow_183 ?_
                      exact j_iret (pc := 184) ⟨rfl, rfl⟩ dX12_nameNow_184 rfl ⟨_, rfl, ⟨by omega, by omega⟩, rfl, trivial⟩
                  · refine j_iconst (pc := 165) dX12_nameNow_165 ?_
                    exact j_iret (pc := 166) ⟨rfl, rfl⟩ dX12_nameNow_166 rfl ⟨_, rfl, ⟨by omega, by omega⟩, rfl, trivial⟩
              · refine j_aload_n (pc := 116) dX12_nameNow_116 rfl rfl ?_
                refine j_aload_n (pc := 117) dX12_nameNow_117 rfl rfl ?_
                refine j_getI (pc := 118) fl_X12_94 dX12_nameNow_118 (a_88 hM) rfl ?_
                refine j_bipush (pc := 121) dX12_nameNow_121 rfl ?_
                refine j_iadd (pc := 123) dX12_nameNow_123 ?_
                refine j_callV (pc := 124) (As := [vI ((σ 88 14) + 7)]) (st := []) (c_X12_look hM ((σ 88 14) + 7) ⟨by omega, by omega⟩ σ hI) mv_X12_103 rfl rfl rfl (a_88 hM) dX12_nameNow_124 ⟨Nat.le_of_ble_eq_true rfl, Nat.le_of_ble_eq_true rfl⟩ ⟨Nat.le_refl _, Nat.le_refl _⟩ rfl (Nat.le_of_ble_eq_true rfl) rfl (fun z423 σ424 hz423 => ?_)
                obtain ⟨r426, rfl, hr426, rfl, q425_0⟩ := hz423
                replace q425_0 : (((σ 88 14) + 7) < σ 88 12 ∧ r426 = σ 98 ((σ 88 14) + 7).toNat) ∨ (¬ ((σ 88 14) + 7) < σ 88 12 ∧ r426 = -1) := q425_0
                refine j_st (st' := [vI r426]) rfl ?_
                refine j_bipush (pc := 127) dX12_nameNow_127 rfl ?_
                refine j_icmpR_ne (pc := 129) (tgt := 134) ⟨by omega, by omega⟩ ⟨by omega, by omega⟩ dX12_nameNow_129 rfl (fun h427 => ?_) (fun h427 => ?_)
                · refine j_aload_n (pc := 134) dX12_nameNow_134 rfl rfl ?_
                  refine j_iconst (pc := 135) dX12_nameNow_135 ?_
                  refine j_bipush (pc := 136) dX12_nameNow_136 rfl ?_
                  refine j_bipush (pc := 138) dX12_nameNow_138 rfl ?_
                  refine j_bipush (pc := 140) dX12_nameNow_140 rfl ?_
                  refine j_bipush (pc := 142) dX12_nameNow_142 rfl ?_
                  refine j_callV (pc := 144) (As := [vI 5, vI 112, vI 108, vI 97, vI 99]) (st := []) (c_X12_is hM 5 ⟨by omega, by omega⟩ 112 ⟨by omega, by omega⟩ 108 ⟨by omega, by omega⟩ 97 ⟨by omega, by omega⟩ 99 ⟨by omega, by omega⟩ σ hI) mv_X12_107 rfl rfl rfl (a_88 hM) dX12_nameNow_144 ⟨Nat.le_of_ble_eq_true rfl, Nat.le_of_ble_eq_true rfl⟩ ⟨Nat.le_refl _, Nat.le_refl _⟩ rfl (Nat.le_of_ble_eq_true rfl) rfl (fun z428 σ429 hz428 => ?_)
                  obtain ⟨r431, rfl, hr431, rfl, -⟩ := hz428
                  refine j_st (st' := [vI r431]) rfl ?_
                  refine j_ifR_eq (pc := 147) (tgt := 167) ⟨by omega, by omega⟩ dX12_nameNow_147 rfl (fun h432 => ?_) (fun h432 => ?_)
                  · refine j_aload_n (pc := 167) dX12_nameNow_167 rfl rfl ?_
                    refine j_iconst (pc := 168) dX12_nameNow_168 ?_
                    refine j_bipush (pc := 169) dX12_nameNow_169 rfl ?_
                    refine j_bipush (pc := 171) dX12_nameNow_171 rfl ?_
                    refine j_bipush (pc := 173) dX12_nameNow_173 rfl ?_
                    refine j_bipush (pc := 175) dX12_nameNow_175 rfl ?_
                    refine j_callV (pc := 177) (As := [vI 4, vI 114, vI 111, vI 112, vI 101]) (st := []) (c_X12_is hM 4 ⟨by omega, by omega⟩ 114 ⟨by omega, by omega⟩ 111 ⟨by omega, by omega⟩ 112 ⟨by omega, by omega⟩ 101 ⟨by omega, by omega⟩ σ hI) mv_X12_107 rfl rfl rfl (a_88 hM) dX12_nameNow_177 ⟨Nat.le_of_ble_eq_true rfl, Nat.le_of_ble_eq_true rfl⟩ ⟨Nat.le_refl _, Nat.le_refl _⟩ rfl (Nat.le_of_ble_eq_true rfl) rfl (fun z433 σ434 hz433 => ?_)
                    obtain ⟨r436, rfl, hr436, rfl, -⟩ := hz433
                    refine j_st (st' := [vI r436]) rfl ?_
                    refine j_ifR_eq (pc := 180) (tgt := 185) ⟨by omega, by omega⟩ dX12_nameNow_180 rfl (fun h437 => ?_) (fun h437 => ?_)
                    · refine j_aload_n (pc := 185) dX12_nameNow_185 rfl rfl ?_
                      refine j_iconst (pc := 186) dX12_nameNow_186 ?_
                      refine j_bipush (pc := 187) dX12_nameNow_187 rfl ?_
                      refine j_bipush (pc := 189) dX12_nameNow_189 rfl ?_
                      refine j_bipush (pc := 191) dX12_nameNow_191 rfl ?_
                      refine j_bipush (pc := 193) dX12_nameNow_193 rfl ?_
                      refine j_callV (pc := 195) (As := [vI 4, vI 103, vI 105, vI 118, vI 101]) (st := []) (c_X12_is hM 4 ⟨by omega, by omega⟩ 103 ⟨by omega, by omega⟩ 105 ⟨by omega, by omega⟩ 118 ⟨by omega, by omega⟩ 101 ⟨by omega, by omega⟩ σ hI) mv_X12_107 rfl rfl rfl (a_88 hM) dX12_nameNow_195 ⟨Nat.le_of_ble_eq_true rfl, Nat.le_of_ble_eq_true rfl⟩ ⟨Nat.le_refl _, Nat.le_refl _⟩ rfl (Nat.le_of_ble_eq_true rfl) rfl (fun z438 σ439 hz438 => ?_)
                      obtain ⟨r441, rfl, hr441, rfl, -⟩ := hz438
                      refine j_st (st' := [vI r441]) rfl ?_
                      refine j_ifR_eq (pc := 198) (tgt := 203) ⟨by omega, by omega⟩ dX12_nameNow_198 rfl (fun h442 => ?_) (fun h442 => ?_)
                      · refine j_aload_n (pc := 203) dX12_nameNow_203 rfl rfl ?_
                        refine j_iconst (pc := 204) dX12_nameNow_204 ?_
                        refine j_bipush (pc := 205) dX12_nameNow_205 rfl ?_
                        refine j_bipush (pc := 207) dX12_nameNow_207 rfl ?_
                        refine j_bipush (pc := 209) dX12_nameNow_209 rfl ?_
                        refine j_bipush (pc := 211) dX12_nameNow_211 rfl ?_
                        refine j_callV (pc := 213) (As := [vI 4, vI 102, vI 105, vI 116, vI 115]) (st := []) (c_X12_is hM 4 ⟨by omega, by omega⟩ 102 ⟨by omega, by omega⟩ 105 ⟨by omega, by omega⟩ 116 ⟨by omega, by omega⟩ 115 ⟨by omega, by omega⟩ σ hI) mv_X12_107 rfl rfl rfl (a_88 hM) dX12_nameNow_213 ⟨Nat.le_of_ble_eq_true rfl, Nat.le_of_ble_eq_true rfl⟩ ⟨Nat.le_refl _, Nat.le_refl _⟩ rfl (Nat.le_of_ble_eq_true rfl) rfl (fun z443 σ444 hz443 => ?_)
                        obtain ⟨r446, rfl, hr446, rfl, -⟩ := hz443
                        refine j_st (st' := [vI r446]) rfl ?_
                        refine j_ifR_eq (pc := 216) (tgt := 221) ⟨by omega, by omega⟩ dX12_nameNow_216 rfl (fun h447 => ?_) (fun h447 => ?_)
                        · refine j_aload_n (pc := 221) dX12_nameNow_221 rfl rfl ?_
                          refine j_iconst (pc := 222) dX12_nameNow_222 ?_
                          refine j_bipush (pc := 223) dX12_nameNow_223 rfl ?_
                          refine j_bipush (pc := 225) dX12_nameNow_225 rfl ?_
                          refine j_bipush (pc := 227) dX12_nameNow_227 rfl ?_
                          refine j_bipush (pc := 229) dX12_nameNow_229 rfl ?_
                          refine j_callV (pc := 231) (As := [vI 5, vI 104, vI 111, vI 108, vI 100]) (st := []) (c_X12_is hM 5 ⟨by omega, by omega⟩ 104 ⟨by omega, by omega⟩ 111 ⟨by omega, by omega⟩ 108 ⟨by omega, by omega⟩ 100 ⟨by omega, by omega⟩ σ hI) mv_X12_107 rfl rfl rfl (a_88 hM) dX12_nameNow_231 ⟨Nat.le_of_ble_eq_true rfl, Nat.le_of_ble_eq_true rfl⟩ ⟨Nat.le_refl _, Nat.le_refl _⟩ rfl (Nat.le_of_ble_eq_true rfl) rfl (fun z448 σ449 hz448 => ?_)
                          obtain ⟨r451, rfl, hr451, rfl, -⟩ := hz448
                          refine j_st (st' := [vI r451]) rfl ?_
                          refine j_ifR_eq (pc := 234) (tgt := 255) ⟨by omega, by omega⟩ dX12_nameNow_234 rfl (fun h452 => ?_) (fun h452 => ?_)
                          · refine j_aload_n (pc := 255) dX12_nameNow_255 rfl rfl ?_
                            refine j_iconst (pc := 256) dX12_nameNow_256 ?_
                            refine j_bipush (pc := 257) dX12_nameNow_257 rfl ?_
                            refine j_bipush (pc := 259) dX12_nameNow_259 rfl ?_
                            refine j_bipush (pc := 261) dX12_nameNow_261 rfl ?_
                            refine j_iconst (pc := 263) dX12_nameNow_263 ?_
                            refine j_callV (pc := 264) (As := [vI 3, vI 108, vI 111, vI 119, vI 0]) (st := []) (c_X12_is hM 3 ⟨by omega, by omega⟩ 108 ⟨by omega, by omega⟩ 111 ⟨by omega, by omega⟩ 119 ⟨by omega, by omega⟩ 0 ⟨by omega, by omega⟩ σ hI) mv_X12_107 rfl rfl rfl (a_88 hM) dX12_nameNow_264 ⟨Nat.le_of_ble_eq_true rfl, Nat.le_of_ble_eq_true rfl⟩ ⟨Nat.le_refl _, Nat.le_refl _⟩ rfl (Nat.le_of_ble_eq_true rfl) rfl (fun z453 σ454 hz453 => ?_)
                            obtain ⟨r456, rfl, hr456, rfl, -⟩ := hz453
                            refine j_st (st' := [vI r456]) rfl ?_
                            refine j_ifR_eq (pc := 267) (tgt := 275) ⟨by omega, by omega⟩ dX12_nameNow_267 rfl (fun h457 => ?_) (fun h457 => ?_)
                            · refine j_aload_n (pc := 275) dX12_nameNow_275 rfl rfl ?_
                              refine j_callV (pc := 276) (As := []) (st := []) (c_X12_withNow hM σ hI) mv_X12_111 rfl rfl rfl (a_88 hM) dX12_nameNow_276 ⟨Nat.le_of_ble_eq_true rfl, Nat.le_of_ble_eq_true rfl⟩ ⟨Nat.le_refl _, Nat.le_refl _⟩ rfl (Nat.le_of_ble_eq_true rfl) rfl (fun z458 σ459 hz458 => ?_)
                              obtain ⟨r461, rfl, hr461, rfl, q460_0⟩ := hz458
                              replace q460_0 : r461 = -4 ∨ 20 ≤ r461 := q460_0
                              refine j_st (st' := [vI r461]) rfl ?_
                              exact j_iret (pc := 279) ⟨rfl, rfl⟩ dX12_nameNow_279 rfl ⟨_, rfl, ⟨by omega, by omega⟩, rfl, trivial⟩
                            · refine j_bipush (pc := 270) dX12_nameNow_270 rfl ?_
                              refine j_goto (pc := 272) (tgt := 279) dX12_nameNow_272 rfl ?_
                              exact j_iret (pc := 279) ⟨rfl, rfl⟩ dX12_nameNow_279 rfl ⟨_, rfl, ⟨by omega, by omega⟩, rfl, trivial⟩
                          · refine j_aload_n (pc := 237) dX12_nameNow_237 rfl rfl ?_
                            refine j_aload_n (pc := 238) dX12_nameNow_238 rfl rfl ?_
                            refine j_getI (pc := 239) fl_X12_94 dX12_nameNow_239 (a_88 hM) rfl ?_
                            refine j_iconst (pc := 242) dX12_nameNow_242 ?_
                            refine j_iadd (pc := 243) dX12_nameNow_243 ?_
                            refine j_callV (pc := 244) (As := [vI ((σ 88 14) + 4)]) (st := []) (c_X12_look hM ((σ 88 14) + 4) ⟨by omega, by omega⟩ σ hI) mv_X12_103 rfl rfl rfl (a_88 hM) dX12_nameNow_244 ⟨Nat.le_of_ble_eq_true rfl, Nat.le_of_ble_eq_true rfl⟩ ⟨Nat.le_refl _, Nat.le_refl _⟩ rfl (Nat.le_of_ble_eq_true rfl) rfl (fun z462 σ463 hz462 => ?_)
                            obtain ⟨r465, rfl, hr465, rfl, q464_0⟩ := hz462
                            replace q464_0 : (((σ 88 14) + 4) < σ 88 12 ∧ r465 = σ 98 ((σ 88 14) + 4).toNat) ∨ (¬ ((σ 88 14) + 4) < σ 88 12 ∧ r465 = -1) := q464_0
                            refine j_st (st' := [vI r465]) rfl ?_
                            refine j_bipush (pc := 247) dX12_nameNow_247 rfl ?_
                            refine j_icmpR_ne (pc := 249) (tgt := 255) ⟨by omega, by omega⟩ ⟨by omega, by omega⟩ dX12_nameNow_249 rfl (fun h466 => ?_) (fun h466 => ?_)
                            · refine j_aload_n (pc := 255) dX12_nameNow_255 rfl rfl ?_
                              refine j_iconst (pc := 256) dX12_nameNow_256 ?_
                              refine j_bipush (pc := 257) dX12_nameNow_257 rfl ?_
                              refine j_bipush (pc := 259) dX12_nameNow_259 rfl ?_
                              refine j_bipush (pc := 261) dX12_nameNow_261 rfl ?_
                              refine j_iconst (pc := 263) dX12_nameNow_263 ?_
                              refine j_callV (pc := 264) (As := [vI 3, vI 108, vI 111, vI 119, vI 0]) (st := []) (c_X12_is hM 3 ⟨by omega, by omega⟩ 108 ⟨by omega, by omega⟩ 111 ⟨by omega, by omega⟩ 119 ⟨by omega, by omega⟩ 0 ⟨by omega, by omega⟩ σ hI) mv_X12_107 rfl rfl rfl (a_88 hM) dX12_nameNow_264 ⟨Nat.le_of_ble_eq_true rfl, Nat.le_of_ble_eq_true rfl⟩ ⟨Nat.le_refl _, Nat.le_refl _⟩ rfl (Nat.le_of_ble_eq_true rfl) rfl (fun z467 σ468 hz467 => ?_)
                              obtain ⟨r470, rfl, hr470, rfl, -⟩ := hz467
                              refine j_st (st' := [vI r470]) rfl ?_
                              refine j_ifR_eq (pc := 267) (tgt := 275) ⟨by omega, by omega⟩ dX12_nameNow_267 rfl (fun h471 => ?_) (fun h471 => ?_)
                              · refine j_aload_n (pc := 275) dX12_nameNow_275 rfl rfl ?_
                                refine j_callV (pc := 276) (As := []) (st := []) (c_X12_withNow hM σ hI) mv_X12_111 rfl rfl rfl (a_88 hM) dX12_nameNow_276 ⟨Nat.le_of_ble_eq_true rfl, Nat.le_of_ble_eq_true rfl⟩ ⟨Nat.le_refl _, Nat.le_refl _⟩ rfl (Nat.le_of_ble_eq_true rfl) rfl (fun z472 σ473 hz472 => ?_)
                                obtain ⟨r475, rfl, hr475, rfl, q474_0⟩ := hz472
                                replace q474_0 : r475 = -4 ∨ 20 ≤ r475 := q474_0
                                refine j_st (st' := [vI r475]) rfl ?_
                                exact j_iret (pc := 279) ⟨rfl, rfl⟩ dX12_nameNow_279 rfl ⟨_, rfl, ⟨by omega, by omega⟩, rfl, trivial⟩
                              · refine j_bipush (pc := 270) dX12_nameNow_270 rfl ?_
                                refine j_goto (pc := 272) (tgt := 279) dX12_nameNow_272 rfl ?_
                                exact j_iret (pc := 279) ⟨rfl, rfl⟩ dX12_nameNow_279 rfl ⟨_, rfl, ⟨by omega, by omega⟩, rfl, trivial⟩
                            · refine j_bipush (pc := 252) dX12_nameNow_252 rfl ?_
                              exact j_iret (pc := 254) ⟨rfl, rfl⟩ dX12_nameNow_254 rfl ⟨_, rfl, ⟨by omega, by omega⟩, rfl, trivial⟩
                        · refine j_iconst (pc := 219) dX12_nameNow_219 ?_
                          exact j_iret (pc := 220) ⟨rfl, rfl⟩ dX12_nameNow_220 rfl ⟨_, rfl, ⟨by omega, by omega⟩, rfl, trivial⟩
                      · refine j_iconst (pc := 201) dX12_nameNow_201 ?_
                        exact j_iret (pc := 202) ⟨rfl, rfl⟩ dX12_nameNow_202 rfl ⟨_, rfl, ⟨by omega, by omega⟩, rfl, trivial⟩
                    · refine j_iconst (pc := 183) dX12_nameNow_183 ?_
                      exact j_iret (pc := 184) ⟨rfl, rfl⟩ dX12_nameNow_184 rfl ⟨_, rfl, ⟨by omega, by omega⟩, rfl, trivial⟩
                  · refine j_aload_n (pc := 150) dX12_nameNow_150 rfl rfl ?_
                    refine j_aload_n (pc := 151) dX12_nameNow_151 rfl rfl ?_
                    refine j_getI (pc := 152) fl_X12_94 dX12_nameNow_152 (a_88 hM) rfl ?_
                    refine j_iconst (pc := 155) dX12_nameNow_155 ?_
                    refine j_iadd (pc := 156) dX12_nameNow_156 ?_
                    refine j_callV (pc := 157) (As := [vI ((σ 88 14) + 4)]) (st := []) (c_X12_look hM ((σ 88 14) + 4) ⟨by omega, by omega⟩ σ hI) mv_X12_103 rfl rfl rfl (a_88 hM) dX12_nameNow_157 ⟨Nat.le_of_ble_eq_true rfl, Nat.le_of_ble_eq_true rfl⟩ ⟨Nat.le_refl _, Nat.le_refl _⟩ rfl (Nat.le_of_ble_eq_true rfl) rfl (fun z476 σ477 hz476 => ?_)
                    obtain ⟨r479, rfl, hr479, rfl, q478_0⟩ := hz476
                    replace q478_0 : (((σ 88 14) + 4) < σ 88 12 ∧ r479 = σ 98 ((σ 88 14) + 4).toNat) ∨ (¬ ((σ 88 14) + 4) < σ 88 12 ∧ r479 = -1) := q478_0
                    refine j_st (st' := [vI r479]) rfl ?_
                    refine j_bipush (pc := 160) dX12_nameNow_160 rfl ?_
                    refine j_icmpR_ne (pc := 162) (tgt := 167) ⟨by omega, by omega⟩ ⟨by omega, by omega⟩ dX12_nameNow_162 rfl (fun h480 => ?_) (fun h480 => ?_)
                    · refine j_aload_n (pc := 167) dX12_nameNow_167 rfl rfl ?_
                      refine j_iconst (pc := 168) dX12_nameNow_168 ?_
                      refine j_bipush (pc := 169) dX12_nameNow_169 rfl ?_
                      refine j_bipush (pc := 171) dX12_nameNow_171 rfl ?_
                      refine j_bipush (pc := 173) dX12_nameNow_173 rfl ?_
                      refine j_bipush (pc := 175) dX12_nameNow_175 rfl ?_
                      refine j_callV (pc := 177) (As := [vI 4, vI 114, vI 111, vI 112, vI 101]) (st := []) (c_X12_is hM 4 ⟨by omega, by omega⟩ 114 ⟨by omega, by omega⟩ 111 ⟨by omega, by omega⟩ 112 ⟨by omega, by omega⟩ 101 ⟨by omega, by omega⟩ σ hI) mv_X12_107 rfl rfl rfl (a_88 hM) dX12_nameNow_177 ⟨Nat.le_of_ble_eq_true rfl, Nat.le_of_ble_eq_true rfl⟩ ⟨Nat.le_refl _, Nat.le_refl _⟩ rfl (Nat.le_of_ble_eq_true rfl) rfl (fun z481 σ482 hz481 => ?_)
                      obtain ⟨r484, rfl, hr484, rfl, -⟩ := hz481
                      refine j_st (st' := [vI r484]) rfl ?_
                      refine j_ifR_eq (pc := 180) (tgt := 185) ⟨by omega, by omega⟩ dX12_nameNow_180 rfl (fun h485 => ?_) (fun h485 => ?_)
                      · refine j_aload_n (pc := 185) dX12_nameNow_185 rfl rfl ?_
                        refine j_iconst (pc := 186) dX12_nameNow_186 ?_
                        refine j_bipush (pc := 187) dX12_nameNow_187 rfl ?_
                        refine j_bipush (pc := 189) dX12_nameNow_189 rfl ?_
                        refine j_bipush (pc := 191) dX12_nameNow_191 rfl ?_
                        refine j_bipush (pc := 193) dX12_nameNow_193 rfl ?_
                        refine j_callV (pc := 195) (As := [vI 4, vI 103, vI 105, vI 118, vI 101]) (st := []) (c_X12_is hM 4 ⟨by omega, by omega⟩ 103 ⟨by omega, by omega⟩ 105 ⟨by omega, by omega⟩ 118 ⟨by omega, by omega⟩ 101 ⟨by omega, by omega⟩ σ hI) mv_X12_107 rfl rfl rfl (a_88 hM) dX12_nameNow_195 ⟨Nat.le_of_ble_eq_true rfl, Nat.le_of_ble_eq_true rfl⟩ ⟨Nat.le_refl _, Nat.le_refl _⟩ rfl (Nat.le_of_ble_eq_true rfl) rfl (fun z486 σ487 hz486 => ?_)
                        obtain ⟨r489, rfl, hr489, rfl, -⟩ := hz486
                        refine j_st (st' := [vI r489]) rfl ?_
                        refine j_ifR_eq (pc := 198) (tgt := 203) ⟨by omega, by omega⟩ dX12_nameNow_198 rfl (fun h490 => ?_) (fun h490 => ?_)
                        · refine j_aload_n (pc := 203) dX12_nameNow_203 rfl rfl ?_
                          refine j_iconst (pc := 204) dX12_nameNow_204 ?_
                          refine j_bipush (pc := 205) dX12_nameNow_205 rfl ?_
                          refine j_bipush (pc := 207) dX12_nameNow_207 rfl ?_
                          refine j_bipush (pc := 209) dX12_nameNow_209 rfl ?_
                          refine j_bipush (pc := 211) dX12_nameNow_211 rfl ?_
                          refine j_callV (pc := 213) (As := [vI 4, vI 102, vI 105, vI 116, vI 115]) (st := []) (c_X12_is hM 4 ⟨by omega, by omega⟩ 102 ⟨by omega, by omega⟩ 105 ⟨by omega, by omega⟩ 116 ⟨by omega, by omega⟩ 115 ⟨by omega, by omega⟩ σ hI) mv_X12_107 rfl rfl rfl (a_88 hM) dX12_nameNow_213 ⟨Nat.le_of_ble_eq_true rfl, Nat.le_of_ble_eq_true rfl⟩ ⟨Nat.le_refl _, Nat.le_refl _⟩ rfl (Nat.le_of_ble_eq_true rfl) rfl (fun z491 σ492 hz491 => ?_)
                          obtain ⟨r494, rfl, hr494, rfl, -⟩ := hz491
                          refine j_st (st' := [vI r494]) rfl ?_
                          refine j_ifR_eq (pc := 216) (tgt := 221) ⟨by omega, by omega⟩ dX12_nameNow_216 rfl (fun h495 => ?_) (fun h495 => ?_)
                          · refine j_aload_n (pc := 221) dX12_nameNow_221 rfl rfl ?_
                            refine j_iconst (pc := 222) dX12_nameNow_222 ?_
                            refine j_bipush (pc := 223) dX12_nameNow_223 rfl ?_
                            refine j_bipush (pc := 225) dX12_nameNow_225 rfl ?_
                            refine j_bipush (pc := 227) dX12_nameNow_227 rfl ?_
                            refine j_bipush (pc := 229) dX12_nameNow_229 rfl ?_
                            refine j_callV (pc := 231) (As := [vI 5, vI 104, vI 111, vI 108, vI 100]) (st := []) (c_X12_is hM 5 ⟨by omega, by omega⟩ 104 ⟨by omega, by omega⟩ 111 ⟨by omega, by omega⟩ 108 ⟨by omega, by omega⟩ 100 ⟨by omega, by omega⟩ σ hI) mv_X12_107 rfl rfl rfl (a_88 hM) dX12_nameNow_231 ⟨Nat.le_of_ble_eq_true rfl, Nat.le_of_ble_eq_true rfl⟩ ⟨Nat.le_refl _, Nat.le_refl _⟩ rfl (Nat.le_of_ble_eq_true rfl) rfl (fun z496 σ497 hz496 => ?_)
                            obtain ⟨r499, rfl, hr499, rfl, -⟩ := hz496
                            refine j_st (st' := [vI r499]) rfl ?_
                            refine j_ifR_eq (pc := 234) (tgt := 255) ⟨by omega, by omega⟩ dX12_nameNow_234 rfl (fun h500 => ?_) (fun h500 => ?_)
                            · refine j_aload_n (pc := 255) dX12_nameNow_255 rfl rfl ?_
                              refine j_iconst (pc := 256) dX12_nameNow_256 ?_
                              refine j_bipush (pc := 257) dX12_nameNow_257 rfl ?_
                              refine j_bipush (pc := 259) dX12_nameNow_259 rfl ?_
                              refine j_bipush (pc := 261) dX12_nameNow_261 rfl ?_
                              refine j_iconst (pc := 263) dX12_nameNow_263 ?_
                              refine j_callV (pc := 264) (As := [vI 3, vI 108, vI 111, vI 119, vI 0]) (st := []) (c_X12_is hM 3 ⟨by omega, by omega⟩ 108 ⟨by omega, by omega⟩ 111 ⟨by omega, by omega⟩ 119 ⟨by omega, by omega⟩ 0 ⟨by omega, by omega⟩ σ hI) mv_X12_107 rfl rfl rfl (a_88 hM) dX12_nameNow_264 ⟨Nat.le_of_ble_eq_true rfl, Nat.le_of_ble_eq_true rfl⟩ ⟨Nat.le_refl _, Nat.le_refl _⟩ rfl (Nat.le_of_ble_eq_true rfl) rfl (fun z501 σ502 hz501 => ?_)
                              obtain ⟨r504, rfl, hr504, rfl, -⟩ := hz501
                              refine j_st (st' := [vI r504]) rfl ?_
                              refine j_ifR_eq (pc := 267) (tgt := 275) ⟨by omega, by omega⟩ dX12_nameNow_267 rfl (fun h505 => ?_) (fun h505 => ?_)
                              · refine j_aload_n (pc := 275) dX12_nameNow_275 rfl rfl ?_
                                refine j_callV (pc := 276) (As := []) (st := []) (c_X12_withNow hM σ hI) mv_X12_111 rfl rfl rfl (a_88 hM) dX12_nameNow_276 ⟨Nat.le_of_ble_eq_true rfl, Nat.le_of_ble_eq_true rfl⟩ ⟨Nat.le_refl _, Nat.le_refl _⟩ rfl (Nat.le_of_ble_eq_true rfl) rfl (fun z506 σ507 hz506 => ?_)
                                obtain ⟨r509, rfl, hr509, rfl, q508_0⟩ := hz506
                                replace q508_0 : r509 = -4 ∨ 20 ≤ r509 := q508_0
                                refine j_st (st' := [vI r509]) rfl ?_
                                exact j_iret (pc := 279) ⟨rfl, rfl⟩ dX12_nameNow_279 rfl ⟨_, rfl, ⟨by omega, by omega⟩, rfl, trivial⟩
                              · refine j_bipush (pc := 270) dX12_nameNow_270 rfl ?_
                                refine j_goto (pc := 272) (tgt := 279) dX12_nameNow_272 rfl ?_
                                exact j_iret (pc := 279) ⟨rfl, rfl⟩ dX12_nameNow_279 rfl ⟨_, rfl, ⟨by omega, by omega⟩, rfl, trivial⟩
                            · refine j_aload_n (pc := 237) dX12_nameNow_237 rfl rfl ?_
                              refine j_aload_n (pc := 238) dX12_nameNow_238 rfl rfl ?_
                              refine j_getI (pc := 239) fl_X12_94 dX12_nameNow_239 (a_88 hM) rfl ?_
                              refine j_iconst (pc := 242) dX12_nameNow_242 ?_
                              refine j_iadd (pc := 243) dX12_nameNow_243 ?_
                              refine j_callV (pc := 244) (As := [vI ((σ 88 14) + 4)]) (st := []) (c_X12_look hM ((σ 88 14) + 4) ⟨by omega, by omega⟩ σ hI) mv_X12_103 rfl rfl rfl (a_88 hM) dX12_nameNow_244 ⟨Nat.le_of_ble_eq_true rfl, Nat.le_of_ble_eq_true rfl⟩ ⟨Nat.le_refl _, Nat.le_refl _⟩ rfl (Nat.le_of_ble_eq_true rfl) rfl (fun z510 σ511 hz510 => ?_)
                              obtain ⟨r513, rfl, hr513, rfl, q512_0⟩ := hz510
                              replace q512_0 : (((σ 88 14) + 4) < σ 88 12 ∧ r513 = σ 98 ((σ 88 14) + 4).toNat) ∨ (¬ ((σ 88 14) + 4) < σ 88 12 ∧ r513 = -1) := q512_0
                              refine j_st (st' := [vI r513]) rfl ?_
                              refine j_bipush (pc := 247) dX12_nameNow_247 rfl ?_
                              refine j_icmpR_ne (pc := 249) (tgt := 255) ⟨by omega, by omega⟩ ⟨by omega, by omega⟩ dX12_nameNow_249 rfl (fun h514 => ?_) (fun h514 => ?_)
                              · refine j_aload_n (pc := 255) dX12_nameNow_255 rfl rfl ?_
                                refine j_iconst (pc := 256) dX12_nameNow_256 ?_
                                refine j_bipush (pc := 257) dX12_nameNow_257 rfl ?_
                                refine j_bipush (pc := 259) dX12_nameNow_259 rfl ?_
                                refine j_bipush (pc := 261) dX12_nameNow_261 rfl ?_
                                refine j_iconst (pc := 263) dX12_nameNow_263 ?_
                                refine j_callV (pc := 264) (As := [vI 3, vI 108, vI 111, vI 119, vI 0]) (st := []) (c_X12_is hM 3 ⟨by omega, by omega⟩ 108 ⟨by omega, by omega⟩ 111 ⟨by omega, by omega⟩ 119 ⟨by omega, by omega⟩ 0 ⟨by omega, by omega⟩ σ hI) mv_X12_107 rfl rfl rfl (a_88 hM) dX12_nameNow_264 ⟨Nat.le_of_ble_eq_true rfl, Nat.le_of_ble_eq_true rfl⟩ ⟨Nat.le_refl _, Nat.le_refl _⟩ rfl (Nat.le_of_ble_eq_true rfl) rfl (fun z515 σ516 hz515 => ?_)
                                obtain ⟨r518, rfl, hr518, rfl, -⟩ := hz515
                                refine j_st (st' := [vI r518]) rfl ?_
                                refine j_ifR_eq (pc := 267) (tgt := 275) ⟨by omega, by omega⟩ dX12_nameNow_267 rfl (fun h519 => ?_) (fun h519 => ?_)
                                · refine j_aload_n (pc := 275) dX12_nameNow_275 rfl rfl ?_
                                  refine j_callV (pc := 276) (As := []) (st := []) (c_X12_withNow hM σ hI) mv_X12_111 rfl rfl rfl (a_88 hM) dX12_nameNow_276 ⟨Nat.le_of_ble_eq_true rfl, Nat.le_of_ble_eq_true rfl⟩ ⟨Nat.le_refl _, Nat.le_refl _⟩ rfl (Nat.le_of_ble_eq_true rfl) rfl (fun z520 σ521 hz520 => ?_)
                                  obtain ⟨r523, rfl, hr523, rfl, q522_0⟩ := hz520
                                  replace q522_0 : r523 = -4 ∨ 20 ≤ r523 := q522_0
                                  refine j_st (st' := [vI r523]) rfl ?_
                                  exact j_iret (pc := 279) ⟨rfl, rfl⟩ dX12_nameNow_279 rfl ⟨_, rfl, ⟨by omega, by omega⟩, rfl, trivial⟩
                                · refine j_bipush (pc := 270) dX12_nameNow_270 rfl ?_
                                  refine j_goto (pc := 272) (tgt := 279) dX12_nameNow_272 rfl ?_
                                  exact j_iret (pc := 279) ⟨rfl, rfl⟩ dX12_nameNow_279 rfl ⟨_, rfl, ⟨by omega, by omega⟩, rfl, trivial⟩
                              · refine j_bipush (pc := 252) dX12_nameNow_252 rfl ?_
                                exact j_iret (pc := 254) ⟨rfl, rfl⟩ dX12_nameNow_254 rfl ⟨_, rfl, ⟨by omega, by omega⟩, rfl, trivial⟩
                          · refine j_iconst (pc := 219) dX12_nameNow_219 ?_
                            exact j_iret (pc := 220) ⟨rfl, rfl⟩ dX12_nameNow_220 rfl ⟨_, rfl, ⟨by omega, by omega⟩, rfl, trivial⟩
                        · refine j_iconst (pc := 201) dX12_nameNow_201 ?_
                          exact j_iret (pc := 202) ⟨rfl, rfl⟩ dX12_nameNow_202 rfl ⟨_, rfl, ⟨by omega, by omega⟩, rfl, trivial⟩
                      · refine j_iconst (pc := 183) dX12_nameNow_183 ?_
                        exact j_iret (pc := 184) ⟨rfl, rfl⟩ dX12_nameNow_184 rfl ⟨_, rfl, ⟨by omega, by omega⟩, rfl, trivial⟩
                    · refine j_iconst (pc := 165) dX12_nameNow_165 ?_
                      exact j_iret (pc := 166) ⟨rfl, rfl⟩ dX12_nameNow_166 rfl ⟨_, rfl, ⟨by omega, by omega⟩, rfl, trivial⟩
                · refine j_iconst (pc := 132) dX12_nameNow_132 ?_
                  exact j_iret (pc := 133) ⟨rfl, rfl⟩ dX12_nameNow_133 rfl ⟨_, rfl, ⟨by omega, by omega⟩, rfl, trivial⟩
      · refine j_iconst (pc := 51) dX12_nameNow_51 ?_
        exact j_iret (pc := 52) ⟨rfl, rfl⟩ dX12_nameNow_52 rfl ⟨_, rfl, ⟨by omega, by omega⟩, rfl, trivial⟩
    · refine j_bipush (pc := 33) dX12_nameNow_33 rfl ?_
      exact j_iret (pc := 35) ⟨rfl, rfl⟩ dX12_nameNow_35 rfl ⟨_, rfl, ⟨by omega, by omega⟩, rfl, trivial⟩
  · refine j_bipush (pc := 14) dX12_nameNow_14 rfl ?_
    exact j_iret (pc := 16) ⟨rfl, rfl⟩ dX12_nameNow_16 rfl ⟨_, rfl, ⟨by omega, by omega⟩, rfl, trivial⟩
abbrev q_X12_next  (σ : tw_M) : Option tw_V → tw_M → Prop := fun z τ => z = none ∧ tw_I τ ∧ tw_F (fun c j => (c = 88 ∧ (j = 13 ∨ j = 14 ∨ j = 15 ∨ j = 16 ∨ j = 17 ∨ j = 18))) σ τ ∧ (¬ τ 88 17 = 0 ∨ σ 88 17 = 0) ∧ (σ 88 13 ≤ τ 88 13) ∧ (¬ τ 88 17 = 0 ∨ τ 88 15 = 0 ∨ σ 88 13 < τ 88 13)
set_option maxHeartbeats 4000000 in
set_option maxRecDepth 100000 in
theorem l_X12_next {G : tw_G} (hM : tw_isM G) (σ : tw_M) (hI : tw_I σ) : ∀ N_ : Nat, (∀  (τ : tw_M) (hIτ : tw_I τ) (hFτ : tw_F (fun c j => (c = 88 ∧ (j = 13 ∨ j = 14 ∨ j = 15 ∨ j = 16 ∨ j = 17 ∨ j = 18))) σ τ) (i0 : σ 88 13 ≤ τ 88 13) (i1 : σ 88 17 = 0) (i2 : τ 88 17 = 0) (hm : (1000 - τ 88 13).toNat < N_), tw_J G (tw_mt RX12 cX12_next 2 none 1) (tw_E G (q_X12_next σ)) 8 [(0, vR 88)] [] τ) ∧ (∀  (τ : tw_M) (hIτ : tw_I τ) (hFτ : tw_F (fun c j => (c = 88 ∧ (j = 13 ∨ j = 14 ∨ j = 15 ∨ j = 16 ∨ j = 17 ∨ j = 18))) σ τ) (i0 : σ 88 13 < τ 88 13 ∨ (σ 88 13 ≤ τ 88 13 ∧ τ 88 13 < τ 88 12 ∧ 97 ≤ τ 98 (τ 88 13).toNat ∧ τ 98 (τ 88 13).toNat ≤ 122)) (i1 : σ 88 17 = 0) (i2 : τ 88 17 = 0) (i3 : τ 88 15 = 1) (hm : (500 - τ 88 13).toNat < N_), tw_J G (tw_mt RX12 cX12_next 2 none 1) (tw_E G (q_X12_next σ)) 82 [(0, vR 88)] [] τ) ∧ (∀  (τ : tw_M) (hIτ : tw_I τ) (hFτ : tw_F (fun c j => (c = 88 ∧ (j = 13 ∨ j = 14 ∨ j = 15 ∨ j = 16 ∨ j = 17 ∨ j = 18))) σ τ) (i0 : σ 88 13 < τ 88 13 ∨ (σ 88 13 ≤ τ 88 13 ∧ τ 88 13 < τ 88 12 ∧ 48 ≤ τ 98 (τ 88 13).toNat ∧ τ 98 (τ 88 13).toNat ≤ 57)) (i1 : σ 88 17 = 0) (i2 : τ 88 17 = 0) (i3 : τ 88 15 = 2) (hm : (500 - τ 88 13).toNat < N_), tw_J G (tw_mt RX12 cX12_next 2 none 1) (tw_E G (q_X12_next σ)) 140 [(0, vR 88)] [] τ) := by
  intro N_
  induction N_ with
  | zero => exact ⟨fun τ hIτ hFτ i0 i1 i2 hm => absurd hm (Nat.not_lt_zero _), fun τ hIτ hFτ i0 i1 i2 i3 hm => absurd hm (Nat.not_lt_zero _), fun τ hIτ hFτ i0 i1 i2 i3 hm => absurd hm (Nat.not_lt_zero _)⟩
  | succ N_ ih =>
    refine ⟨?_, ?_, ?_⟩
    · intro τ hIτ hFτ i0 i1 i2 hm
      have f12 : (0 : Int) ≤ τ 88 12 ∧ τ 88 12 ≤ 400 := hIτ 88 12
      refine j_aload_n (pc := 8) dX12_next_8 rfl rfl ?_
      refine j_aload_n (pc := 9) dX12_next_9 rfl rfl ?_
      refine j_getI (pc := 10) fl_X12_100 dX12_next_10 (a_88 hM) rfl ?_
      have f1 : (0 : Int) ≤ τ 88 13 ∧ τ 88 13 ≤ 400 := hIτ 88 13
      refine j_callV (pc := 13) (As := [vI (τ 88 13)]) (st := []) (c_X12_look hM (τ 88 13) ⟨by omega, by omega⟩ τ hIτ) mv_X12_103 rfl rfl rfl (a_88 hM) dX12_next_13 ⟨Nat.le_of_ble_eq_true rfl, Nat.le_of_ble_eq_true rfl⟩ ⟨Nat.le_refl _, Nat.le_refl _⟩ rfl (Nat.le_of_ble_eq_true rfl) rfl (fun z2 σ3 hz2 => ?_)
      obtain ⟨r5, rfl, hr5, rfl, q4_0⟩ := hz2
      replace q4_0 : ((τ 88 13) < τ 88 12 ∧ r5 = τ 98 (τ 88 13).toNat) ∨ (¬ (τ 88 13) < τ 88 12 ∧ r5 = -1) := q4_0
      refine j_st (st' := [vI r5]) rfl ?_
      refine j_bipush (pc := 16) dX12_next_16 rfl ?_
      refine j_icmpR_ne (pc := 18) (tgt := 34) ⟨by omega, by omega⟩ ⟨by omega, by omega⟩ dX12_next_18 rfl (fun h6 => ?_) (fun h6 => ?_)
      · refine j_aload_n (pc := 34) dX12_next_34 rfl rfl ?_
        refine j_aload_n (pc := 35) dX12_next_35 rfl rfl ?_
        refine j_getI (pc := 36) fl_X12_100 dX12_next_36 (a_88 hM) rfl ?_
        refine j_putI (pc := 39) fl_X12_94 fp_X12_14 dX12_next_39 (a_88 hM) rfl (j_nm (fun σ7 (eσ7 : σ7 = tw_up τ 88 14 (τ 88 13)) => ?_))
        have hIσ7 : tw_I σ7 := tw_I_up hIτ eσ7 (show (0 : Int) ≤ τ 88 13 ∧ τ 88 13 ≤ 400 from ⟨by omega, by omega⟩)
        have hFσ7 : tw_F (fun c j => (c = 88 ∧ (j = 13 ∨ j = 14 ∨ j = 15 ∨ j = 16 ∨ j = 17 ∨ j = 18))) σ σ7 := tw_F_up hFτ eσ7 (show (88 = 88 ∧ (14 = 13 ∨ 14 = 14 ∨ 14 = 15 ∨ 14 = 16 ∨ 14 = 17 ∨ 14 = 18)) from by omega)
        refine j_aload_n (pc := 42) dX12_next_42 rfl rfl ?_
        refine j_aload_n (pc := 43) dX12_next_43 rfl rfl ?_
        refine j_getI (pc := 44) fl_X12_100 dX12_next_44 (a_88 hM) rfl ?_
        refine j_topV (show σ7 88 13 = τ 88 13 from (tw_ne1 eσ7 (by omega))) ?_
        refine j_callV (pc := 47) (As := [vI (τ 88 13)]) (st := []) (c_X12_look hM (τ 88 13) ⟨by omega, by omega⟩ σ7 hIσ7) mv_X12_103 rfl rfl rfl (a_88 hM) dX12_next_47 ⟨Nat.le_of_ble_eq_true rfl, Nat.le_of_ble_eq_true rfl⟩ ⟨Nat.le_refl _, Nat.le_refl _⟩ rfl (Nat.le_of_ble_eq_true rfl) rfl (fun z8 σ9 hz8 => ?_)
        obtain ⟨r11, rfl, hr11, rfl, q10_0⟩ := hz8
        replace q10_0 : ((τ 88 13) < σ7 88 12 ∧ r11 = σ7 98 (τ 88 13).toNat) ∨ (¬ (τ 88 13) < σ7 88 12 ∧ r11 = -1) := q10_0
        have y12 : σ7 88 12 = τ 88 12 := (tw_ne1 eσ7 (by omega))
        have f13 : (0 : Int) ≤ τ 88 12 ∧ τ 88 12 ≤ 400 := hIτ 88 12
        have y14 : σ7 98 ((τ 88 13).toNat) = τ 98 ((τ 88 13).toNat) := (tw_ne1 eσ7 (by omega))
        refine j_st (st' := [vI r11]) rfl ?_
        refine j_istore_n (pc := 50) (i := 1) (ls' := [(0, vR 88), (1, vI r11)]) [1, 0] dX12_next_50 rfl (Nat.le_of_ble_eq_true rfl) rfl rfl ?_
        refine j_iload_n (pc := 51) dX12_next_51 rfl rfl ?_
        refine j_ifR_ge (pc := 52) (tgt := 63) ⟨by omega, by omega⟩ dX12_next_52 rfl (fun h15 => ?_) (fun h15 => ?_)
        · refine j_iload_n (pc := 63) dX12_next_63 rfl rfl ?_
          refine j_i2l (pc := 64) dX12_next_64 ?_
          rw [w32_eq (a := r11) (by omega) (by omega)]
          refine j_ldc2 (pc := 65) (z := 97) dX12_next_65 (tw_in (i := 1445) (by decide +kernel) (by decide +kernel)) ?_
          refine j_ldc2 (pc := 68) (z := 122) dX12_next_68 (tw_in (i := 1446) (by decide +kernel) (by decide +kernel)) ?_
          refine j_callS (pc := 71) (As := [vL r11, vL 97, vL 122]) (st := []) (c_X12_in r11 ⟨by omega, by omega⟩ 97 ⟨by omega, by omega⟩ 122 ⟨by omega, by omega⟩ σ7 hIσ7) ms_X12_82 rfl dX12_next_71 ⟨Nat.le_of_ble_eq_true rfl, Nat.le_of_ble_eq_true rfl⟩ ⟨Nat.le_refl _, Nat.le_refl _⟩ rfl (Nat.le_of_ble_eq_true rfl) rfl (fun z16 σ17 hz16 => ?_)
          obtain ⟨r19, rfl, hr19, rfl, q18_0⟩ := hz16
          replace q18_0 : (r19 = 1 ∧ (97 : Int) ≤ r11 ∧ r11 ≤ (122 : Int)) ∨ (r19 = 0 ∧ ¬ ((97 : Int) ≤ r11 ∧ r11 ≤ (122 : Int))) := q18_0
          refine j_st (st' := [vI r19]) rfl ?_
          refine j_ifR_eq (pc := 74) (tgt := 116) ⟨by omega, by omega⟩ dX12_next_74 rfl (fun h20 => ?_) (fun h20 => ?_)
          · refine j_iload_n (pc := 116) dX12_next_116 rfl rfl ?_
            refine j_i2l (pc := 117) dX12_next_117 ?_
            rw [w32_eq (a := r11) (by omega) (by omega)]
            refine j_ldc2 (pc := 118) (z := 48) dX12_next_118 (tw_in (i := 1447) (by decide +kernel) (by decide +kernel)) ?_
            refine j_ldc2 (pc := 121) (z := 57) dX12_next_121 (tw_in (i := 1448) (by decide +kernel) (by decide +kernel)) ?_
            refine j_callS (pc := 124) (As := [vL r11, vL 48, vL 57]) (st := []) (c_X12_in r11 ⟨by omega, by omega⟩ 48 ⟨by omega, by omega⟩ 57 ⟨by omega, by omega⟩ σ7 hIσ7) ms_X12_82 rfl dX12_next_124 ⟨Nat.le_of_ble_eq_true rfl, Nat.le_of_ble_eq_true rfl⟩ ⟨Nat.le_refl _, Nat.le_refl _⟩ rfl (Nat.le_of_ble_eq_true rfl) rfl (fun z21 σ22 hz21 => ?_)
            obtain ⟨r24, rfl, hr24, rfl, q23_0⟩ := hz21
            replace q23_0 : (r24 = 1 ∧ (48 : Int) ≤ r11 ∧ r11 ≤ (57 : Int)) ∨ (r24 = 0 ∧ ¬ ((48 : Int) ≤ r11 ∧ r11 ≤ (57 : Int))) := q23_0
            refine j_st (st' := [vI r24]) rfl ?_
            refine j_ifR_eq (pc := 127) (tgt := 243) ⟨by omega, by omega⟩ dX12_next_127 rfl (fun h25 => ?_) (fun h25 => ?_)
            · refine j_aload_n (pc := 243) dX12_next_243 rfl rfl ?_
              refine j_iconst (pc := 244) dX12_next_244 ?_
              refine j_putI (pc := 245) fl_X12_115 fp_X12_15 dX12_next_245 (a_88 hM) rfl (j_nm (fun σ26 (eσ26 : σ26 = tw_up σ7 88 15 3) => ?_))
              have hIσ26 : tw_I σ26 := tw_I_up hIσ7 eσ26 (show (-2147483648 : Int) ≤ 3 ∧ 3 ≤ 2147483647 from ⟨by omega, by omega⟩)
              have hFσ26 : tw_F (fun c j => (c = 88 ∧ (j = 13 ∨ j = 14 ∨ j = 15 ∨ j = 16 ∨ j = 17 ∨ j = 18))) σ σ26 := tw_F_up hFσ7 eσ26 (show (88 = 88 ∧ (15 = 13 ∨ 15 = 14 ∨ 15 = 15 ∨ 15 = 16 ∨ 15 = 17 ∨ 15 = 18)) from by omega)
              refine j_aload_n (pc := 248) dX12_next_248 rfl rfl ?_
              refine j_iload_n (pc := 249) dX12_next_249 rfl rfl ?_
              refine j_bipush (pc := 250) dX12_next_250 rfl ?_
              refine j_icmpR_ne (pc := 252) (tgt := 259) ⟨by omega, by omega⟩ ⟨by omega, by omega⟩ dX12_next_252 rfl (fun h27 => ?_) (fun h27 => ?_)
              · refine j_iconst (pc := 259) dX12_next_259 ?_
                refine j_iconst (pc := 260) dX12_next_260 ?_
                refine j_callV (pc := 261) (As := [vI 0, vI 1]) (st := []) (c_X12_needs hM 0 ⟨by omega, by omega⟩ 1 ⟨by omega, by omega⟩ σ26 hIσ26) mv_X12_129 rfl rfl rfl (a_88 hM) dX12_next_261 ⟨Nat.le_of_ble_eq_true rfl, Nat.le_of_ble_eq_true rfl⟩ ⟨Nat.le_refl _, Nat.le_refl _⟩ rfl (Nat.le_of_ble_eq_true rfl) rfl (fun z28 σ29 hz28 => ?_)
                obtain ⟨rfl, hIσ29, hGσ29, q30_0⟩ := hz28
                replace q30_0 : (¬ (0 : Int) = 0 ∧ σ29 88 17 = σ26 88 17) ∨ ((0 : Int) = 0 ∧ σ26 88 17 = 0 ∧ σ29 88 17 = (1 : Int)) ∨ ((0 : Int) = 0 ∧ ¬ σ26 88 17 = 0 ∧ σ29 88 17 = σ26 88 17) := q30_0
                have y32 : σ26 88 17 = τ 88 17 := ((tw_ne1 eσ26 (by omega))).trans (tw_ne1 eσ7 (by omega))
                have f33 : (0 : Int) ≤ τ 88 17 ∧ τ 88 17 ≤ 5 := hIτ 88 17
                have hFσ29 : tw_F (fun c j => (c = 88 ∧ (j = 13 ∨ j = 14 ∨ j = 15 ∨ j = 16 ∨ j = 17 ∨ j = 18))) σ σ29 := tw_F_tr hFσ26 hGσ29 (fun c j q => (show (c = 88 ∧ (j = 13 ∨ j = 14 ∨ j = 15 ∨ j = 16 ∨ j = 17 ∨ j = 18)) from by replace q : (c = 88 ∧ (j = 17 ∨ j = 18)) := q; omega))
                refine j_st (st' := []) rfl ?_
                refine j_aload_n (pc := 264) dX12_next_264 rfl rfl ?_
                refine j_dup (pc := 265) dX12_next_265 rfl ?_
                refine j_getI (pc := 266) fl_X12_100 dX12_next_266 (a_88 hM) rfl ?_
                refine j_topV (show σ29 88 13 = τ 88 13 from (((hGσ29 88 13 (show ¬ ((88 = 88 ∧ (13 = 17 ∨ 13 = 18))) from by omega))).trans (tw_ne1 eσ26 (by omega))).trans (tw_ne1 eσ7 (by omega))) ?_
                refine j_iconst (pc := 269) dX12_next_269 ?_
                refine j_iadd (pc := 270) dX12_next_270 ?_
                refine j_putI (pc := 271) fl_X12_100 fp_X12_13 dX12_next_271 (a_88 hM) rfl (j_nm (fun σ34 (eσ34 : σ34 = tw_up σ29 88 13 ((τ 88 13) + 1)) => ?_))
                have hIσ34 : tw_I σ34 := tw_I_up hIσ29 eσ34 (show (0 : Int) ≤ (τ 88 13) + 1 ∧ (τ 88 13) + 1 ≤ 400 from ⟨by omega, by omega⟩)
                have hFσ34 : tw_F (fun c j => (c = 88 ∧ (j = 13 ∨ j = 14 ∨ j = 15 ∨ j = 16 ∨ j = 17 ∨ j = 18))) σ σ34 := tw_F_up hFσ29 eσ34 (show (88 = 88 ∧ (13 = 13 ∨ 13 = 14 ∨ 13 = 15 ∨ 13 = 16 ∨ 13 = 17 ∨ 13 = 18)) from by omega)
                have y35 : σ34 88 17 = σ29 88 17 := (tw_ne1 eσ34 (by omega))
                have f36 : (0 : Int) ≤ σ29 88 17 ∧ σ29 88 17 ≤ 5 := hIσ29 88 17
                have y37 : σ34 88 13 = (τ 88 13) + 1 := (tw_eq1 eσ34)
                have y38 : σ34 88 17 = σ29 88 17 := (tw_ne1 eσ34 (by omega))
                have y39 : σ34 88 15 = 3 := (((tw_ne1 eσ34 (by omega))).trans (hGσ29 88 15 (show ¬ ((88 = 88 ∧ (15 = 17 ∨ 15 = 18))) from by omega))).trans (tw_eq1 eσ26)
                have y40 : σ34 88 13 = (τ 88 13) + 1 := (tw_eq1 eσ34)
                exact j_vret (pc := 274) ⟨rfl, rfl⟩ dX12_next_274 rfl ⟨rfl, hIσ34, hFσ34, by omega, by omega, by omega⟩
              · refine j_iconst (pc := 255) dX12_next_255 ?_
                refine j_goto (pc := 256) (tgt := 260) dX12_next_256 rfl ?_
                refine j_iconst (pc := 260) dX12_next_260 ?_
                refine j_callV (pc := 261) (As := [vI 1, vI 1]) (st := []) (c_X12_needs hM 1 ⟨by omega, by omega⟩ 1 ⟨by omega, by omega⟩ σ26 hIσ26) mv_X12_129 rfl rfl rfl (a_88 hM) dX12_next_261 ⟨Nat.le_of_ble_eq_true rfl, Nat.le_of_ble_eq_true rfl⟩ ⟨Nat.le_refl _, Nat.le_refl _⟩ rfl (Nat.le_of_ble_eq_true rfl) rfl (fun z41 σ42 hz41 => ?_)
                obtain ⟨rfl, hIσ42, hGσ42, q43_0⟩ := hz41
                replace q43_0 : (¬ (1 : Int) = 0 ∧ σ42 88 17 = σ26 88 17) ∨ ((1 : Int) = 0 ∧ σ26 88 17 = 0 ∧ σ42 88 17 = (1 : Int)) ∨ ((1 : Int) = 0 ∧ ¬ σ26 88 17 = 0 ∧ σ42 88 17 = σ26 88 17) := q43_0
                have y45 : σ26 88 17 = τ 88 17 := ((tw_ne1 eσ26 (by omega))).trans (tw_ne1 eσ7 (by omega))
                have f46 : (0 : Int) ≤ τ 88 17 ∧ τ 88 17 ≤ 5 := hIτ 88 17
                have hFσ42 : tw_F (fun c j => (c = 88 ∧ (j = 13 ∨ j = 14 ∨ j = 15 ∨ j = 16 ∨ j = 17 ∨ j = 18))) σ σ42 := tw_F_tr hFσ26 hGσ42 (fun c j q => (show (c = 88 ∧ (j = 13 ∨ j = 14 ∨ j = 15 ∨ j = 16 ∨ j = 17 ∨ j = 18)) from by replace q : (c = 88 ∧ (j = 17 ∨ j = 18)) := q; omega))
                refine j_st (st' := []) rfl ?_
                refine j_aload_n (pc := 264) dX12_next_264 rfl rfl ?_
                refine j_dup (pc := 265) dX12_next_265 rfl ?_
                refine j_getI (pc := 266) fl_X12_100 dX12_next_266 (a_88 hM) rfl ?_
                refine j_topV (show σ42 88 13 = τ 88 13 from (((hGσ42 88 13 (show ¬ ((88 = 88 ∧ (13 = 17 ∨ 13 = 18))) from by omega))).trans (tw_ne1 eσ26 (by omega))).trans (tw_ne1 eσ7 (by omega))) ?_
                refine j_iconst (pc := 269) dX12_next_269 ?_
                refine j_iadd (pc := 270) dX12_next_270 ?_
                refine j_putI (pc := 271) fl_X12_100 fp_X12_13 dX12_next_271 (a_88 hM) rfl (j_nm (fun σ47 (eσ47 : σ47 = tw_up σ42 88 13 ((τ 88 13) + 1)) => ?_))
                have hIσ47 : tw_I σ47 := tw_I_up hIσ42 eσ47 (show (0 : Int) ≤ (τ 88 13) + 1 ∧ (τ 88 13) + 1 ≤ 400 from ⟨by omega, by omega⟩)
                have hFσ47 : tw_F (fun c j => (c = 88 ∧ (j = 13 ∨ j = 14 ∨ j = 15 ∨ j = 16 ∨ j = 17 ∨ j = 18))) σ σ47 := tw_F_up hFσ42 eσ47 (show (88 = 88 ∧ (13 = 13 ∨ 13 = 14 ∨ 13 = 15 ∨ 13 = 16 ∨ 13 = 17 ∨ 13 = 18)) from by omega)
                have y48 : σ47 88 17 = σ42 88 17 := (tw_ne1 eσ47 (by omega))
                have f49 : (0 : Int) ≤ σ42 88 17 ∧ σ42 88 17 ≤ 5 := hIσ42 88 17
                have y50 : σ47 88 13 = (τ 88 13) + 1 := (tw_eq1 eσ47)
                have y51 : σ47 88 17 = σ42 88 17 := (tw_ne1 eσ47 (by omega))
                have y52 : σ47 88 15 = 3 := (((tw_ne1 eσ47 (by omega))).trans (hGσ42 88 15 (show ¬ ((88 = 88 ∧ (15 = 17 ∨ 15 = 18))) from by omega))).trans (tw_eq1 eσ26)
                have y53 : σ47 88 13 = (τ 88 13) + 1 := (tw_eq1 eσ47)
                exact j_vret (pc := 274) ⟨rfl, rfl⟩ dX12_next_274 rfl ⟨rfl, hIσ47, hFσ47, by omega, by omega, by omega⟩
            · refine j_aload_n (pc := 130) dX12_next_130 rfl rfl ?_
              refine j_iconst (pc := 131) dX12_next_131 ?_
              refine j_putI (pc := 132) fl_X12_115 fp_X12_15 dX12_next_132 (a_88 hM) rfl (j_nm (fun σ54 (eσ54 : σ54 = tw_up σ7 88 15 2) => ?_))
              have hIσ54 : tw_I σ54 := tw_I_up hIσ7 eσ54 (show (-2147483648 : Int) ≤ 2 ∧ 2 ≤ 2147483647 from ⟨by omega, by omega⟩)
              have hFσ54 : tw_F (fun c j => (c = 88 ∧ (j = 13 ∨ j = 14 ∨ j = 15 ∨ j = 16 ∨ j = 17 ∨ j = 18))) σ σ54 := tw_F_up hFσ7 eσ54 (show (88 = 88 ∧ (15 = 13 ∨ 15 = 14 ∨ 15 = 15 ∨ 15 = 16 ∨ 15 = 17 ∨ 15 = 18)) from by omega)
              refine j_aload_n (pc := 135) dX12_next_135 rfl rfl ?_
              refine j_iconst (pc := 136) dX12_next_136 ?_
              refine j_putI (pc := 137) fl_X12_126 fp_X12_16 dX12_next_137 (a_88 hM) rfl (j_nm (fun σ55 (eσ55 : σ55 = tw_up σ54 88 16 0) => ?_))
              have hIσ55 : tw_I σ55 := tw_I_up hIσ54 eσ55 (show (-2147483648 : Int) ≤ 0 ∧ 0 ≤ 2147483647 from ⟨by omega, by omega⟩)
              have hFσ55 : tw_F (fun c j => (c = 88 ∧ (j = 13 ∨ j = 14 ∨ j = 15 ∨ j = 16 ∨ j = 17 ∨ j = 18))) σ σ55 := tw_F_up hFσ54 eσ55 (show (88 = 88 ∧ (16 = 13 ∨ 16 = 14 ∨ 16 = 15 ∨ 16 = 16 ∨ 16 = 17 ∨ 16 = 18)) from by omega)
              refine j_ls (ls' := [(0, vR 88)]) [0] rfl ?_
              have y56 : σ55 88 13 = τ 88 13 := (((tw_ne1 eσ55 (by omega))).trans (tw_ne1 eσ54 (by omega))).trans (tw_ne1 eσ7 (by omega))
              have y57 : σ55 88 12 = τ 88 12 := (((tw_ne1 eσ55 (by omega))).trans (tw_ne1 eσ54 (by omega))).trans (tw_ne1 eσ7 (by omega))
              have y58 : σ55 98 ((σ55 88 13).toNat) = τ 98 ((σ55 88 13).toNat) := (((tw_ne1 eσ55 (by omega))).trans (tw_ne1 eσ54 (by omega))).trans (tw_ne1 eσ7 (by omega))
              have y59 : σ55 88 17 = τ 88 17 := (((tw_ne1 eσ55 (by omega))).trans (tw_ne1 eσ54 (by omega))).trans (tw_ne1 eσ7 (by omega))
              have f60 : (0 : Int) ≤ τ 88 17 ∧ τ 88 17 ≤ 5 := hIτ 88 17
              have y61 : σ55 88 15 = 2 := ((tw_ne1 eσ55 (by omega))).trans (tw_eq1 eσ54)
              have y62 : σ55 88 13 = τ 88 13 := (((tw_ne1 eσ55 (by omega))).trans (tw_ne1 eσ54 (by omega))).trans (tw_ne1 eσ7 (by omega))
              exact ih.2.2 σ55 hIσ55 hFσ55 (show σ 88 13 < σ55 88 13 ∨ (σ 88 13 ≤ σ55 88 13 ∧ σ55 88 13 < σ55 88 12 ∧ 48 ≤ σ55 98 (σ55 88 13).toNat ∧ σ55 98 (σ55 88 13).toNat ≤ 57) from (by first | omega | (have y9 : σ55 98 (σ55 88 13).toNat = _ := (tw_ne1 eσ55 (by omega)).trans (tw_ne1 eσ54 (by omega)); rw [show σ55 88 13 = τ 88 13 from (((tw_ne1 eσ55 (by omega))).trans (tw_ne1 eσ54 (by omega))).trans (tw_ne1 eσ7 (by omega))] at y9 ⊢; omega))) (show σ 88 17 = 0 from by omega) (show σ55 88 17 = 0 from by omega) (show σ55 88 15 = 2 from by omega) (show (500 - σ55 88 13).toNat < N_ from by omega)
          · refine j_aload_n (pc := 77) dX12_next_77 rfl rfl ?_
            refine j_iconst (pc := 78) dX12_next_78 ?_
            refine j_putI (pc := 79) fl_X12_115 fp_X12_15 dX12_next_79 (a_88 hM) rfl (j_nm (fun σ63 (eσ63 : σ63 = tw_up σ7 88 15 1) => ?_))
            have hIσ63 : tw_I σ63 := tw_I_up hIσ7 eσ63 (show (-2147483648 : Int) ≤ 1 ∧ 1 ≤ 2147483647 from ⟨by omega, by omega⟩)
            have hFσ63 : tw_F (fun c j => (c = 88 ∧ (j = 13 ∨ j = 14 ∨ j = 15 ∨ j = 16 ∨ j = 17 ∨ j = 18))) σ σ63 := tw_F_up hFσ7 eσ63 (show (88 = 88 ∧ (15 = 13 ∨ 15 = 14 ∨ 15 = 15 ∨ 15 = 16 ∨ 15 = 17 ∨ 15 = 18)) from by omega)
            refine j_ls (ls' := [(0, vR 88)]) [0] rfl ?_
            have y64 : σ63 88 13 = τ 88 13 := ((tw_ne1 eσ63 (by omega))).trans (tw_ne1 eσ7 (by omega))
            have y65 : σ63 88 12 = τ 88 12 := ((tw_ne1 eσ63 (by omega))).trans (tw_ne1 eσ7 (by omega))
            have y66 : σ63 98 ((σ63 88 13).toNat) = τ 98 ((σ63 88 13).toNat) := ((tw_ne1 eσ63 (by omega))).trans (tw_ne1 eσ7 (by omega))
            have y67 : σ63 88 17 = τ 88 17 := ((tw_ne1 eσ63 (by omega))).trans (tw_ne1 eσ7 (by omega))
            have f68 : (0 : Int) ≤ τ 88 17 ∧ τ 88 17 ≤ 5 := hIτ 88 17
            have y69 : σ63 88 15 = 1 := (tw_eq1 eσ63)
            have y70 : σ63 88 13 = τ 88 13 := ((tw_ne1 eσ63 (by omega))).trans (tw_ne1 eσ7 (by omega))
            exact ih.2.1 σ63 hIσ63 hFσ63 (show σ 88 13 < σ63 88 13 ∨ (σ 88 13 ≤ σ63 88 13 ∧ σ63 88 13 < σ63 88 12 ∧ 97 ≤ σ63 98 (σ63 88 13).toNat ∧ σ63 98 (σ63 88 13).toNat ≤ 122) from (by first | omega | (have y9 : σ63 98 (σ63 88 13).toNat = _ := tw_ne1 eσ63 (by omega); rw [show σ63 88 13 = τ 88 13 from ((tw_ne1 eσ63 (by omega))).trans (tw_ne1 eσ7 (by omega))] at y9 ⊢; omega))) (show σ 88 17 = 0 from by omega) (show σ63 88 17 = 0 from by omega) (show σ63 88 15 = 1 from by omega) (show (500 - σ63 88 13).toNat < N_ from by omega)
        · refine j_aload_n (pc := 55) dX12_next_55 rfl rfl ?_
          refine j_iconst (pc := 56) dX12_next_56 ?_
          refine j_putI (pc := 57) fl_X12_115 fp_X12_15 dX12_next_57 (a_88 hM) rfl (j_nm (fun σ71 (eσ71 : σ71 = tw_up σ7 88 15 0) => ?_))
          have hIσ71 : tw_I σ71 := tw_I_up hIσ7 eσ71 (show (-2147483648 : Int) ≤ 0 ∧ 0 ≤ 2147483647 from ⟨by omega, by omega⟩)
          have hFσ71 : tw_F (fun c j => (c = 88 ∧ (j = 13 ∨ j = 14 ∨ j = 15 ∨ j = 16 ∨ j = 17 ∨ j = 18))) σ σ71 := tw_F_up hFσ7 eσ71 (show (88 = 88 ∧ (15 = 13 ∨ 15 = 14 ∨ 15 = 15 ∨ 15 = 16 ∨ 15 = 17 ∨ 15 = 18)) from by omega)
          refine j_goto (pc := 60) (tgt := 274) dX12_next_60 rfl ?_
          have y72 : σ71 88 17 = τ 88 17 := ((tw_ne1 eσ71 (by omega))).trans (tw_ne1 eσ7 (by omega))
          have f73 : (0 : Int) ≤ τ 88 17 ∧ τ 88 17 ≤ 5 := hIτ 88 17
          have y74 : σ71 88 13 = τ 88 13 := ((tw_ne1 eσ71 (by omega))).trans (tw_ne1 eσ7 (by omega))
          have y75 : σ71 88 17 = τ 88 17 := ((tw_ne1 eσ71 (by omega))).trans (tw_ne1 eσ7 (by omega))
          have y76 : σ71 88 15 = 0 := (tw_eq1 eσ71)
          have y77 : σ71 88 13 = τ 88 13 := ((tw_ne1 eσ71 (by omega))).trans (tw_ne1 eσ7 (by omega))
          exact j_vret (pc := 274) ⟨rfl, rfl⟩ dX12_next_274 rfl ⟨rfl, hIσ71, hFσ71, by omega, by omega, by omega⟩
      · refine j_aload_n (pc := 21) dX12_next_21 rfl rfl ?_
        refine j_dup (pc := 22) dX12_next_22 rfl ?_
        refine j_getI (pc := 23) fl_X12_100 dX12_next_23 (a_88 hM) rfl ?_
        refine j_iconst (pc := 26) dX12_next_26 ?_
        refine j_iadd (pc := 27) dX12_next_27 ?_
        refine j_putI (pc := 28) fl_X12_100 fp_X12_13 dX12_next_28 (a_88 hM) rfl (j_nm (fun σ78 (eσ78 : σ78 = tw_up τ 88 13 ((τ 88 13) + 1)) => ?_))
        have hIσ78 : tw_I σ78 := tw_I_up hIτ eσ78 (show (0 : Int) ≤ (τ 88 13) + 1 ∧ (τ 88 13) + 1 ≤ 400 from ⟨by omega, by omega⟩)
        have hFσ78 : tw_F (fun c j => (c = 88 ∧ (j = 13 ∨ j = 14 ∨ j = 15 ∨ j = 16 ∨ j = 17 ∨ j = 18))) σ σ78 := tw_F_up hFτ eσ78 (show (88 = 88 ∧ (13 = 13 ∨ 13 = 14 ∨ 13 = 15 ∨ 13 = 16 ∨ 13 = 17 ∨ 13 = 18)) from by omega)
        refine j_goto (pc := 31) (tgt := 8) dX12_next_31 rfl ?_
        refine j_ls (ls' := [(0, vR 88)]) [0] rfl ?_
        have y79 : σ78 88 13 = (τ 88 13) + 1 := (tw_eq1 eσ78)
        have y80 : σ78 88 17 = τ 88 17 := (tw_ne1 eσ78 (by omega))
        have f81 : (0 : Int) ≤ τ 88 17 ∧ τ 88 17 ≤ 5 := hIτ 88 17
        have y82 : σ78 88 13 = (τ 88 13) + 1 := (tw_eq1 eσ78)
        exact ih.1 σ78 hIσ78 hFσ78 (show σ 88 13 ≤ σ78 88 13 from by omega) (show σ 88 17 = 0 from by omega) (show σ78 88 17 = 0 from by omega) (show (1000 - σ78 88 13).toNat < N_ from by omega)
    · intro τ hIτ hFτ i0 i1 i2 i3 hm
      have f12 : (0 : Int) ≤ τ 88 12 ∧ τ 88 12 ≤ 400 := hIτ 88 12
      refine j_aload_n (pc := 82) dX12_next_82 rfl rfl ?_
      refine j_aload_n (pc := 83) dX12_next_83 rfl rfl ?_
      refine j_getI (pc := 84) fl_X12_100 dX12_next_84 (a_88 hM) rfl ?_
      have f83 : (0 : Int) ≤ τ 88 13 ∧ τ 88 13 ≤ 400 := hIτ 88 13
      refine j_callV (pc := 87) (As := [vI (τ 88 13)]) (st := []) (c_X12_look hM (τ 88 13) ⟨by omega, by omega⟩ τ hIτ) mv_X12_103 rfl rfl rfl (a_88 hM) dX12_next_87 ⟨Nat.le_of_ble_eq_true rfl, Nat.le_of_ble_eq_true rfl⟩ ⟨Nat.le_refl _, Nat.le_refl _⟩ rfl (Nat.le_of_ble_eq_true rfl) rfl (fun z84 σ85 hz84 => ?_)
      obtain ⟨r87, rfl, hr87, rfl, q86_0⟩ := hz84
      replace q86_0 : ((τ 88 13) < τ 88 12 ∧ r87 = τ 98 (τ 88 13).toNat) ∨ (¬ (τ 88 13) < τ 88 12 ∧ r87 = -1) := q86_0
      refine j_st (st' := [vI r87]) rfl ?_
      refine j_i2l (pc := 90) dX12_next_90 ?_
      rw [w32_eq (a := r87) (by omega) (by omega)]
      refine j_ldc2 (pc := 91) (z := 97) dX12_next_91 (tw_in (i := 1445) (by decide +kernel) (by decide +kernel)) ?_
      refine j_ldc2 (pc := 94) (z := 122) dX12_next_94 (tw_in (i := 1446) (by decide +kernel) (by decide +kernel)) ?_
      refine j_callS (pc := 97) (As := [vL r87, vL 97, vL 122]) (st := []) (c_X12_in r87 ⟨by omega, by omega⟩ 97 ⟨by omega, by omega⟩ 122 ⟨by omega, by omega⟩ τ hIτ) ms_X12_82 rfl dX12_next_97 ⟨Nat.le_of_ble_eq_true rfl, Nat.le_of_ble_eq_true rfl⟩ ⟨Nat.le_refl _, Nat.le_refl _⟩ rfl (Nat.le_of_ble_eq_true rfl) rfl (fun z88 σ89 hz88 => ?_)
      obtain ⟨r91, rfl, hr91, rfl, q90_0⟩ := hz88
      replace q90_0 : (r91 = 1 ∧ (97 : Int) ≤ r87 ∧ r87 ≤ (122 : Int)) ∨ (r91 = 0 ∧ ¬ ((97 : Int) ≤ r87 ∧ r87 ≤ (122 : Int))) := q90_0
      refine j_st (st' := [vI r91]) rfl ?_
      refine j_ifR_eq (pc := 100) (tgt := 274) ⟨by omega, by omega⟩ dX12_next_100 rfl (fun h92 => ?_) (fun h92 => ?_)
      · exact j_vret (pc := 274) ⟨rfl, rfl⟩ dX12_next_274 rfl ⟨rfl, hIτ, hFτ, by omega, by omega, by omega⟩
      · refine j_aload_n (pc := 103) dX12_next_103 rfl rfl ?_
        refine j_dup (pc := 104) dX12_next_104 rfl ?_
        refine j_getI (pc := 105) fl_X12_100 dX12_next_105 (a_88 hM) rfl ?_
        refine j_iconst (pc := 108) dX12_next_108 ?_
        refine j_iadd (pc := 109) dX12_next_109 ?_
        refine j_putI (pc := 110) fl_X12_100 fp_X12_13 dX12_next_110 (a_88 hM) rfl (j_nm (fun σ93 (eσ93 : σ93 = tw_up τ 88 13 ((τ 88 13) + 1)) => ?_))
        have hIσ93 : tw_I σ93 := tw_I_up hIτ eσ93 (show (0 : Int) ≤ (τ 88 13) + 1 ∧ (τ 88 13) + 1 ≤ 400 from ⟨by omega, by omega⟩)
        have hFσ93 : tw_F (fun c j => (c = 88 ∧ (j = 13 ∨ j = 14 ∨ j = 15 ∨ j = 16 ∨ j = 17 ∨ j = 18))) σ σ93 := tw_F_up hFτ eσ93 (show (88 = 88 ∧ (13 = 13 ∨ 13 = 14 ∨ 13 = 15 ∨ 13 = 16 ∨ 13 = 17 ∨ 13 = 18)) from by omega)
        refine j_goto (pc := 113) (tgt := 82) dX12_next_113 rfl ?_
        refine j_ls (ls' := [(0, vR 88)]) [0] rfl ?_
        have y94 : σ93 88 13 = (τ 88 13) + 1 := (tw_eq1 eσ93)
        have y95 : σ93 88 12 = τ 88 12 := (tw_ne1 eσ93 (by omega))
        have f96 : (0 : Int) ≤ τ 88 12 ∧ τ 88 12 ≤ 400 := hIτ 88 12
        have y97 : σ93 98 ((σ93 88 13).toNat) = τ 98 ((σ93 88 13).toNat) := (tw_ne1 eσ93 (by omega))
        have y98 : σ93 88 17 = τ 88 17 := (tw_ne1 eσ93 (by omega))
        have f99 : (0 : Int) ≤ τ 88 17 ∧ τ 88 17 ≤ 5 := hIτ 88 17
        have y100 : σ93 88 15 = τ 88 15 := (tw_ne1 eσ93 (by omega))
        have f101 : (-2147483648 : Int) ≤ τ 88 15 ∧ τ 88 15 ≤ 2147483647 := hIτ 88 15
        have y102 : σ93 88 13 = (τ 88 13) + 1 := (tw_eq1 eσ93)
        exact ih.2.1 σ93 hIσ93 hFσ93 (show σ 88 13 < σ93 88 13 ∨ (σ 88 13 ≤ σ93 88 13 ∧ σ93 88 13 < σ93 88 12 ∧ 97 ≤ σ93 98 (σ93 88 13).toNat ∧ σ93 98 (σ93 88 13).toNat ≤ 122) from (by first | omega | (have y9 : σ93 98 (σ93 88 13).toNat = _ := tw_ne1 eσ93 (by omega); rw [show σ93 88 13 = τ 88 13 from (tw_eq1 eσ93)] at y9 ⊢; omega))) (show σ 88 17 = 0 from by omega) (show σ93 88 17 = 0 from by omega) (show σ93 88 15 = 1 from by omega) (show (500 - σ93 88 13).toNat < N_ from by omega)
    · intro τ hIτ hFτ i0 i1 i2 i3 hm
      have f12 : (0 : Int) ≤ τ 88 12 ∧ τ 88 12 ≤ 400 := hIτ 88 12
      refine j_aload_n (pc := 140) dX12_next_140 rfl rfl ?_
      refine j_aload_n (pc := 141) dX12_next_141 rfl rfl ?_
      refine j_getI (pc := 142) fl_X12_100 dX12_next_142 (a_88 hM) rfl ?_
      have f103 : (0 : Int) ≤ τ 88 13 ∧ τ 88 13 ≤ 400 := hIτ 88 13
      refine j_callV (pc := 145) (As := [vI (τ 88 13)]) (st := []) (c_X12_look hM (τ 88 13) ⟨by omega, by omega⟩ τ hIτ) mv_X12_103 rfl rfl rfl (a_88 hM) dX12_next_145 ⟨Nat.le_of_ble_eq_true rfl, Nat.le_of_ble_eq_true rfl⟩ ⟨Nat.le_refl _, Nat.le_refl _⟩ rfl (Nat.le_of_ble_eq_true rfl) rfl (fun z104 σ105 hz104 => ?_)
      obtain ⟨r107, rfl, hr107, rfl, q106_0⟩ := hz104
      replace q106_0 : ((τ 88 13) < τ 88 12 ∧ r107 = τ 98 (τ 88 13).toNat) ∨ (¬ (τ 88 13) < τ 88 12 ∧ r107 = -1) := q106_0
      refine j_st (st' := [vI r107]) rfl ?_
      refine j_i2l (pc := 148) dX12_next_148 ?_
      rw [w32_eq (a := r107) (by omega) (by omega)]
      refine j_ldc2 (pc := 149) (z := 48) dX12_next_149 (tw_in (i := 1447) (by decide +kernel) (by decide +kernel)) ?_
      refine j_ldc2 (pc := 152) (z := 57) dX12_next_152 (tw_in (i := 1448) (by decide +kernel) (by decide +kernel)) ?_
      refine j_callS (pc := 155) (As := [vL r107, vL 48, vL 57]) (st := []) (c_X12_in r107 ⟨by omega, by omega⟩ 48 ⟨by omega, by omega⟩ 57 ⟨by omega, by omega⟩ τ hIτ) ms_X12_82 rfl dX12_next_155 ⟨Nat.le_of_ble_eq_true rfl, Nat.le_of_ble_eq_true rfl⟩ ⟨Nat.le_refl _, Nat.le_refl _⟩ rfl (Nat.le_of_ble_eq_true rfl) rfl (fun z108 σ109 hz108 => ?_)
      obtain ⟨r111, rfl, hr111, rfl, q110_0⟩ := hz108
      replace q110_0 : (r111 = 1 ∧ (48 : Int) ≤ r107 ∧ r107 ≤ (57 : Int)) ∨ (r111 = 0 ∧ ¬ ((48 : Int) ≤ r107 ∧ r107 ≤ (57 : Int))) := q110_0
      refine j_st (st' := [vI r111]) rfl ?_
      refine j_ifR_eq (pc := 158) (tgt := 217) ⟨by omega, by omega⟩ dX12_next_158 rfl (fun h112 => ?_) (fun h112 => ?_)
      · refine j_aload_n (pc := 217) dX12_next_217 rfl rfl ?_
        refine j_aload_n (pc := 218) dX12_next_218 rfl rfl ?_
        refine j_getI (pc := 219) fl_X12_100 dX12_next_219 (a_88 hM) rfl ?_
        refine j_aload_n (pc := 222) dX12_next_222 rfl rfl ?_
        refine j_getI (pc := 223) fl_X12_94 dX12_next_223 (a_88 hM) rfl ?_
        have f113 : (0 : Int) ≤ τ 88 14 ∧ τ 88 14 ≤ 400 := hIτ 88 14
        refine j_isub (pc := 226) dX12_next_226 ?_
        refine j_iconst (pc := 227) dX12_next_227 ?_
        refine j_icmpR_gt (pc := 228) (tgt := 235) ⟨by omega, by omega⟩ ⟨by omega, by omega⟩ dX12_next_228 rfl (fun h114 => ?_) (fun h114 => ?_)
        · refine j_iconst (pc := 235) dX12_next_235 ?_
          refine j_iconst (pc := 236) dX12_next_236 ?_
          refine j_callV (pc := 237) (As := [vI 0, vI 1]) (st := []) (c_X12_needs hM 0 ⟨by omega, by omega⟩ 1 ⟨by omega, by omega⟩ τ hIτ) mv_X12_129 rfl rfl rfl (a_88 hM) dX12_next_237 ⟨Nat.le_of_ble_eq_true rfl, Nat.le_of_ble_eq_true rfl⟩ ⟨Nat.le_refl _, Nat.le_refl _⟩ rfl (Nat.le_of_ble_eq_true rfl) rfl (fun z115 σ116 hz115 => ?_)
          obtain ⟨rfl, hIσ116, hGσ116, q117_0⟩ := hz115
          replace q117_0 : (¬ (0 : Int) = 0 ∧ σ116 88 17 = τ 88 17) ∨ ((0 : Int) = 0 ∧ τ 88 17 = 0 ∧ σ116 88 17 = (1 : Int)) ∨ ((0 : Int) = 0 ∧ ¬ τ 88 17 = 0 ∧ σ116 88 17 = τ 88 17) := q117_0
          have hFσ116 : tw_F (fun c j => (c = 88 ∧ (j = 13 ∨ j = 14 ∨ j = 15 ∨ j = 16 ∨ j = 17 ∨ j = 18))) σ σ116 := tw_F_tr hFτ hGσ116 (fun c j q => (show (c = 88 ∧ (j = 13 ∨ j = 14 ∨ j = 15 ∨ j = 16 ∨ j = 17 ∨ j = 18)) from by replace q : (c = 88 ∧ (j = 17 ∨ j = 18)) := q; omega))
          refine j_st (st' := []) rfl ?_
          refine j_goto (pc := 240) (tgt := 274) dX12_next_240 rfl ?_
          have y119 : σ116 88 13 = τ 88 13 := (hGσ116 88 13 (show ¬ ((88 = 88 ∧ (13 = 17 ∨ 13 = 18))) from by omega))
          have y120 : σ116 88 15 = τ 88 15 := (hGσ116 88 15 (show ¬ ((88 = 88 ∧ (15 = 17 ∨ 15 = 18))) from by omega))
          have f121 : (-2147483648 : Int) ≤ τ 88 15 ∧ τ 88 15 ≤ 2147483647 := hIτ 88 15
          have y122 : σ116 88 13 = τ 88 13 := (hGσ116 88 13 (show ¬ ((88 = 88 ∧ (13 = 17 ∨ 13 = 18))) from by omega))
          exact j_vret (pc := 274) ⟨rfl, rfl⟩ dX12_next_274 rfl ⟨rfl, hIσ116, hFσ116, by omega, by omega, by omega⟩
        · refine j_iconst (pc := 231) dX12_next_231 ?_
          refine j_goto (pc := 232) (tgt := 236) dX12_next_232 rfl ?_
          refine j_iconst (pc := 236) dX12_next_236 ?_
          refine j_callV (pc := 237) (As := [vI 1, vI 1]) (st := []) (c_X12_needs hM 1 ⟨by omega, by omega⟩ 1 ⟨by omega, by omega⟩ τ hIτ) mv_X12_129 rfl rfl rfl (a_88 hM) dX12_next_237 ⟨Nat.le_of_ble_eq_true rfl, Nat.le_of_ble_eq_true rfl⟩ ⟨Nat.le_refl _, Nat.le_refl _⟩ rfl (Nat.le_of_ble_eq_true rfl) rfl (fun z123 σ124 hz123 => ?_)
          obtain ⟨rfl, hIσ124, hGσ124, q125_0⟩ := hz123
          replace q125_0 : (¬ (1 : Int) = 0 ∧ σ124 88 17 = τ 88 17) ∨ ((1 : Int) = 0 ∧ τ 88 17 = 0 ∧ σ124 88 17 = (1 : Int)) ∨ ((1 : Int) = 0 ∧ ¬ τ 88 17 = 0 ∧ σ124 88 17 = τ 88 17) := q125_0
          have hFσ124 : tw_F (fun c j => (c = 88 ∧ (j = 13 ∨ j = 14 ∨ j = 15 ∨ j = 16 ∨ j = 17 ∨ j = 18))) σ σ124 := tw_F_tr hFτ hGσ124 (fun c j q => (show (c = 88 ∧ (j = 13 ∨ j = 14 ∨ j = 15 ∨ j = 16 ∨ j = 17 ∨ j = 18)) from by replace q : (c = 88 ∧ (j = 17 ∨ j = 18)) := q; omega))
          refine j_st (st' := []) rfl ?_
          refine j_goto (pc := 240) (tgt := 274) dX12_next_240 rfl ?_
          have y127 : σ124 88 13 = τ 88 13 := (hGσ124 88 13 (show ¬ ((88 = 88 ∧ (13 = 17 ∨ 13 = 18))) from by omega))
          have y128 : σ124 88 15 = τ 88 15 := (hGσ124 88 15 (show ¬ ((88 = 88 ∧ (15 = 17 ∨ 15 = 18))) from by omega))
          have f129 : (-2147483648 : Int) ≤ τ 88 15 ∧ τ 88 15 ≤ 2147483647 := hIτ 88 15
          have y130 : σ124 88 13 = τ 88 13 := (hGσ124 88 13 (show ¬ ((88 = 88 ∧ (13 = 17 ∨ 13 = 18))) from by omega))
          exact j_vret (pc := 274) ⟨rfl, rfl⟩ dX12_next_274 rfl ⟨rfl, hIσ124, hFσ124, by omega, by omega, by omega⟩
      · refine j_aload_n (pc := 161) dX12_next_161 rfl rfl ?_
        refine j_aload_n (pc := 162) dX12_next_162 rfl rfl ?_
        refine j_getI (pc := 163) fl_X12_100 dX12_next_163 (a_88 hM) rfl ?_
        refine j_aload_n (pc := 166) dX12_next_166 rfl rfl ?_
        refine j_getI (pc := 167) fl_X12_94 dX12_next_167 (a_88 hM) rfl ?_
        have f131 : (0 : Int) ≤ τ 88 14 ∧ τ 88 14 ≤ 400 := hIτ 88 14
        refine j_isub (pc := 170) dX12_next_170 ?_
        refine j_iconst (pc := 171) dX12_next_171 ?_
        refine j_icmpR_ge (pc := 172) (tgt := 197) ⟨by omega, by omega⟩ ⟨by omega, by omega⟩ dX12_next_172 rfl (fun h132 => ?_) (fun h132 => ?_)
        · refine j_aload_n (pc := 197) dX12_next_197 rfl rfl ?_
          refine j_getI (pc := 198) fl_X12_126 dX12_next_198 (a_88 hM) rfl ?_
          have f133 : (-2147483648 : Int) ≤ τ 88 16 ∧ τ 88 16 ≤ 2147483647 := hIτ 88 16
          refine j_putI (pc := 201) fl_X12_126 fp_X12_16 dX12_next_201 (a_88 hM) rfl (j_nm (fun σ134 (eσ134 : σ134 = tw_up τ 88 16 (τ 88 16)) => ?_))
          have hIσ134 : tw_I σ134 := tw_I_up hIτ eσ134 (show (-2147483648 : Int) ≤ τ 88 16 ∧ τ 88 16 ≤ 2147483647 from ⟨by omega, by omega⟩)
          have hFσ134 : tw_F (fun c j => (c = 88 ∧ (j = 13 ∨ j = 14 ∨ j = 15 ∨ j = 16 ∨ j = 17 ∨ j = 18))) σ σ134 := tw_F_up hFτ eσ134 (show (88 = 88 ∧ (16 = 13 ∨ 16 = 14 ∨ 16 = 15 ∨ 16 = 16 ∨ 16 = 17 ∨ 16 = 18)) from by omega)
          refine j_aload_n (pc := 204) dX12_next_204 rfl rfl ?_
          refine j_dup (pc := 205) dX12_next_205 rfl ?_
          refine j_getI (pc := 206) fl_X12_100 dX12_next_206 (a_88 hM) rfl ?_
          refine j_topV (show σ134 88 13 = τ 88 13 from (tw_ne1 eσ134 (by omega))) ?_
          refine j_iconst (pc := 209) dX12_next_209 ?_
          refine j_iadd (pc := 210) dX12_next_210 ?_
          refine j_putI (pc := 211) fl_X12_100 fp_X12_13 dX12_next_211 (a_88 hM) rfl (j_nm (fun σ135 (eσ135 : σ135 = tw_up σ134 88 13 ((τ 88 13) + 1)) => ?_))
          have hIσ135 : tw_I σ135 := tw_I_up hIσ134 eσ135 (show (0 : Int) ≤ (τ 88 13) + 1 ∧ (τ 88 13) + 1 ≤ 400 from ⟨by omega, by omega⟩)
          have hFσ135 : tw_F (fun c j => (c = 88 ∧ (j = 13 ∨ j = 14 ∨ j = 15 ∨ j = 16 ∨ j = 17 ∨ j = 18))) σ σ135 := tw_F_up hFσ134 eσ135 (show (88 = 88 ∧ (13 = 13 ∨ 13 = 14 ∨ 13 = 15 ∨ 13 = 16 ∨ 13 = 17 ∨ 13 = 18)) from by omega)
          refine j_goto (pc := 214) (tgt := 140) dX12_next_214 rfl ?_
          refine j_ls (ls' := [(0, vR 88)]) [0] rfl ?_
          have y136 : σ135 88 13 = (τ 88 13) + 1 := (tw_eq1 eσ135)
          have y137 : σ135 88 12 = τ 88 12 := ((tw_ne1 eσ135 (by omega))).trans (tw_ne1 eσ134 (by omega))
          have f138 : (0 : Int) ≤ τ 88 12 ∧ τ 88 12 ≤ 400 := hIτ 88 12
          have y139 : σ135 98 ((σ135 88 13).toNat) = τ 98 ((σ135 88 13).toNat) := ((tw_ne1 eσ135 (by omega))).trans (tw_ne1 eσ134 (by omega))
          have y140 : σ135 88 17 = τ 88 17 := ((tw_ne1 eσ135 (by omega))).trans (tw_ne1 eσ134 (by omega))
          have f141 : (0 : Int) ≤ τ 88 17 ∧ τ 88 17 ≤ 5 := hIτ 88 17
          have y142 : σ135 88 15 = τ 88 15 := ((tw_ne1 eσ135 (by omega))).trans (tw_ne1 eσ134 (by omega))
          have f143 : (-2147483648 : Int) ≤ τ 88 15 ∧ τ 88 15 ≤ 2147483647 := hIτ 88 15
          have y144 : σ135 88 13 = (τ 88 13) + 1 := (tw_eq1 eσ135)
          exact ih.2.2 σ135 hIσ135 hFσ135 (show σ 88 13 < σ135 88 13 ∨ (σ 88 13 ≤ σ135 88 13 ∧ σ135 88 13 < σ135 88 12 ∧ 48 ≤ σ135 98 (σ135 88 13).toNat ∧ σ135 98 (σ135 88 13).toNat ≤ 57) from (by first | omega | (have y9 : σ135 98 (σ135 88 13).toNat = _ := (tw_ne1 eσ135 (by omega)).trans (tw_ne1 eσ134 (by omega)); rw [show σ135 88 13 = τ 88 13 from (tw_eq1 eσ135)] at y9 ⊢; omega))) (show σ 88 17 = 0 from by omega) (show σ135 88 17 = 0 from by omega) (show σ135 88 15 = 2 from by omega) (show (500 - σ135 88 13).toNat < N_ from by omega)
        · refine j_bipush (pc := 175) dX12_next_175 rfl ?_
          refine j_aload_n (pc := 177) dX12_next_177 rfl rfl ?_
          refine j_getI (pc := 178) fl_X12_126 dX12_next_178 (a_88 hM) rfl ?_
          have f145 : (-2147483648 : Int) ≤ τ 88 16 ∧ τ 88 16 ≤ 2147483647 := hIτ 88 16
          refine j_imul (pc := 181) dX12_next_181 ?_
          refine j_top (fun z146 ez146 hz146 => ?_)
          refine j_aload_n (pc := 182) dX12_next_182 rfl rfl ?_
          refine j_aload_n (pc := 183) dX12_next_183 rfl rfl ?_
          refine j_getI (pc := 184) fl_X12_100 dX12_next_184 (a_88 hM) rfl ?_
          refine j_callV (pc := 187) (As := [vI (τ 88 13)]) (st := [vI z146, vR 88]) (c_X12_look hM (τ 88 13) ⟨by omega, by omega⟩ τ hIτ) mv_X12_103 rfl rfl rfl (a_88 hM) dX12_next_187 ⟨Nat.le_of_ble_eq_true rfl, Nat.le_of_ble_eq_true rfl⟩ ⟨Nat.le_refl _, Nat.le_refl _⟩ rfl (Nat.le_of_ble_eq_true rfl) rfl (fun z147 σ148 hz147 => ?_)
          obtain ⟨r150, rfl, hr150, rfl, q149_0⟩ := hz147
          replace q149_0 : ((τ 88 13) < τ 88 12 ∧ r150 = τ 98 (τ 88 13).toNat) ∨ (¬ (τ 88 13) < τ 88 12 ∧ r150 = -1) := q149_0
          refine j_st (st' := [vI r150, vI z146, vR 88]) rfl ?_
          refine j_iadd (pc := 190) dX12_next_190 ?_
          refine j_top (fun z151 ez151 hz151 => ?_)
          refine j_bipush (pc := 191) dX12_next_191 rfl ?_
          refine j_isub (pc := 193) dX12_next_193 ?_
          refine j_top (fun z152 ez152 hz152 => ?_)
          refine j_goto (pc := 194) (tgt := 201) dX12_next_194 rfl ?_
          refine j_putI (pc := 201) fl_X12_126 fp_X12_16 dX12_next_201 (a_88 hM) rfl (j_nm (fun σ153 (eσ153 : σ153 = tw_up τ 88 16 z152) => ?_))
          have hIσ153 : tw_I σ153 := tw_I_up hIτ eσ153 (show (-2147483648 : Int) ≤ z152 ∧ z152 ≤ 2147483647 from ⟨by omega, by omega⟩)
          have hFσ153 : tw_F (fun c j => (c = 88 ∧ (j = 13 ∨ j = 14 ∨ j = 15 ∨ j = 16 ∨ j = 17 ∨ j = 18))) σ σ153 := tw_F_up hFτ eσ153 (show (88 = 88 ∧ (16 = 13 ∨ 16 = 14 ∨ 16 = 15 ∨ 16 = 16 ∨ 16 = 17 ∨ 16 = 18)) from by omega)
          refine j_aload_n (pc := 204) dX12_next_204 rfl rfl ?_
          refine j_dup (pc := 205) dX12_next_205 rfl ?_
          refine j_getI (pc := 206) fl_X12_100 dX12_next_206 (a_88 hM) rfl ?_
          refine j_topV (show σ153 88 13 = τ 88 13 from (tw_ne1 eσ153 (by omega))) ?_
          refine j_iconst (pc := 209) dX12_next_209 ?_
          refine j_iadd (pc := 210) dX12_next_210 ?_
          refine j_putI (pc := 211) fl_X12_100 fp_X12_13 dX12_next_211 (a_88 hM) rfl (j_nm (fun σ154 (eσ154 : σ154 = tw_up σ153 88 13 ((τ 88 13) + 1)) => ?_))
          have hIσ154 : tw_I σ154 := tw_I_up hIσ153 eσ154 (show (0 : Int) ≤ (τ 88 13) + 1 ∧ (τ 88 13) + 1 ≤ 400 from ⟨by omega, by omega⟩)
          have hFσ154 : tw_F (fun c j => (c = 88 ∧ (j = 13 ∨ j = 14 ∨ j = 15 ∨ j = 16 ∨ j = 17 ∨ j = 18))) σ σ154 := tw_F_up hFσ153 eσ154 (show (88 = 88 ∧ (13 = 13 ∨ 13 = 14 ∨ 13 = 15 ∨ 13 = 16 ∨ 13 = 17 ∨ 13 = 18)) from by omega)
          refine j_goto (pc := 214) (tgt := 140) dX12_next_214 rfl ?_
          refine j_ls (ls' := [(0, vR 88)]) [0] rfl ?_
          have y155 : σ154 88 13 = (τ 88 13) + 1 := (tw_eq1 eσ154)
          have y156 : σ154 88 12 = τ 88 12 := ((tw_ne1 eσ154 (by omega))).trans (tw_ne1 eσ153 (by omega))
          have f157 : (0 : Int) ≤ τ 88 12 ∧ τ 88 12 ≤ 400 := hIτ 88 12
          have y158 : σ154 98 ((σ154 88 13).toNat) = τ 98 ((σ154 88 13).toNat) := ((tw_ne1 eσ154 (by omega))).trans (tw_ne1 eσ153 (by omega))
          have y159 : σ154 88 17 = τ 88 17 := ((tw_ne1 eσ154 (by omega))).trans (tw_ne1 eσ153 (by omega))
          have f160 : (0 : Int) ≤ τ 88 17 ∧ τ 88 17 ≤ 5 := hIτ 88 17
          have y161 : σ154 88 15 = τ 88 15 := ((tw_ne1 eσ154 (by omega))).trans (tw_ne1 eσ153 (by omega))
          have f162 : (-2147483648 : Int) ≤ τ 88 15 ∧ τ 88 15 ≤ 2147483647 := hIτ 88 15
          have y163 : σ154 88 13 = (τ 88 13) + 1 := (tw_eq1 eσ154)
          exact ih.2.2 σ154 hIσ154 hFσ154 (show σ 88 13 < σ154 88 13 ∨ (σ 88 13 ≤ σ154 88 13 ∧ σ154 88 13 < σ154 88 12 ∧ 48 ≤ σ154 98 (σ154 88 13).toNat ∧ σ154 98 (σ154 88 13).toNat ≤ 57) from (by first | omega | (have y9 : σ154 98 (σ154 88 13).toNat = _ := (tw_ne1 eσ154 (by omega)).trans (tw_ne1 eσ153 (by omega)); rw [show σ154 88 13 = τ 88 13 from (tw_eq1 eσ154)] at y9 ⊢; omega))) (show σ 88 17 = 0 from by omega) (show σ154 88 17 = 0 from by omega) (show σ154 88 15 = 2 from by omega) (show (500 - σ154 88 13).toNat < N_ from by omega)
set_option maxHeartbeats 4000000 in
set_option maxRecDepth 100000 in
theorem c_X12_next {G : tw_G} (hM : tw_isM G) (σ : tw_M) (hI : tw_I σ) : tw_C G yX12_next cX12_next 2 none 1 [vR 88] σ (q_X12_next σ) := by
  refine tw_met [(0, vR 88)] (by decide +kernel) rfl (Nat.le_of_ble_eq_true rfl) ?_
  refine j_aload_n (pc := 0) dX12_next_0 rfl rfl ?_
  refine j_getI (pc := 1) fl_X12_91 dX12_next_1 (a_88 hM) rfl ?_
  have f164 : (0 : Int) ≤ σ 88 17 ∧ σ 88 17 ≤ 5 := hI 88 17
  refine j_ifR_le (pc := 4) (tgt := 8) ⟨by omega, by omega⟩ dX12_next_4 rfl (fun h165 => ?_) (fun h165 => ?_)
  · refine j_ls (ls' := [(0, vR 88)]) [0] rfl ?_
    exact (l_X12_next hM σ hI (((1000 - σ 88 13).toNat) + 1)).1 σ hI (tw_F_rf) (show σ 88 13 ≤ σ 88 13 from by omega) (show σ 88 17 = 0 from by omega) (show σ 88 17 = 0 from by omega) (Nat.lt_succ_self _)
  · exact j_vret (pc := 7) ⟨rfl, rfl⟩ dX12_next_7 rfl ⟨rfl, hI, (tw_F_rf), by omega, by omega, by omega⟩
abbrev q_X12_isNumber (a : Int) (b : Int) (σ : tw_M) : Option tw_V → tw_M → Prop := fun z τ => z = none ∧ tw_I τ ∧ tw_F (fun c j => (c = 88 ∧ (j = 17 ∨ j = 18))) σ τ ∧ (¬ τ 88 17 = 0 ∨ (σ 88 17 = 0 ∧ a ≤ σ 88 16 ∧ σ 88 16 ≤ b))
set_option maxHeartbeats 4000000 in
set_option maxRecDepth 100000 in
theorem c_X12_isNumber {G : tw_G} (hM : tw_isM G) (a : Int) (ha : -2147483648 ≤ a ∧ a ≤ 2147483647) (b : Int) (hb : -2147483648 ≤ b ∧ b ≤ 2147483647) (σ : tw_M) (hI : tw_I σ) : tw_C G yX12_isNumber cX12_isNumber 3 none 1 [vR 88, vI a, vI b] σ (q_X12_isNumber a b σ) := by
  refine tw_met [(0, vR 88), (1, vI a), (2, vI b)] (by decide +kernel) rfl (Nat.le_of_ble_eq_true rfl) ?_
  refine j_aload_n (pc := 0) dX12_isNumber_0 rfl rfl ?_
  refine j_getI (pc := 1) fl_X12_91 dX12_isNumber_1 (a_88 hM) rfl ?_
  have f1 : (0 : Int) ≤ σ 88 17 ∧ σ 88 17 ≤ 5 := hI 88 17
  refine j_ifR_ne (pc := 4) (tgt := 25) ⟨by omega, by omega⟩ dX12_isNumber_4 rfl (fun h2 => ?_) (fun h2 => ?_)
  · refine j_aload_n (pc := 25) dX12_isNumber_25 rfl rfl ?_
    refine j_getI (pc := 26) fl_X12_91 dX12_isNumber_26 (a_88 hM) rfl ?_
    refine j_ifR_ne (pc := 29) (tgt := 49) ⟨by omega, by omega⟩ dX12_isNumber_29 rfl (fun h3 => ?_) (fun h3 => by exfalso; omega)
    exact j_vret (pc := 49) ⟨rfl, rfl⟩ dX12_isNumber_49 rfl ⟨rfl, hI, (tw_F_rf), by omega⟩
  · refine j_aload_n (pc := 7) dX12_isNumber_7 rfl rfl ?_
    refine j_aload_n (pc := 8) dX12_isNumber_8 rfl rfl ?_
    refine j_getI (pc := 9) fl_X12_115 dX12_isNumber_9 (a_88 hM) rfl ?_
    have f4 : (-2147483648 : Int) ≤ σ 88 15 ∧ σ 88 15 ≤ 2147483647 := hI 88 15
    refine j_iconst (pc := 12) dX12_isNumber_12 ?_
    refine j_icmpR_ne (pc := 13) (tgt := 20) ⟨by omega, by omega⟩ ⟨by omega, by omega⟩ dX12_isNumber_13 rfl (fun h5 => ?_) (fun h5 => ?_)
    · refine j_iconst (pc := 20) dX12_isNumber_20 ?_
      refine j_iconst (pc := 21) dX12_isNumber_21 ?_
      refine j_callV (pc := 22) (As := [vI 0, vI 2]) (st := []) (c_X12_needs hM 0 ⟨by omega, by omega⟩ 2 ⟨by omega, by omega⟩ σ hI) mv_X12_129 rfl rfl rfl (a_88 hM) dX12_isNumber_22 ⟨Nat.le_of_ble_eq_true rfl, Nat.le_of_ble_eq_true rfl⟩ ⟨Nat.le_refl _, Nat.le_refl _⟩ rfl (Nat.le_of_ble_eq_true rfl) rfl (fun z6 σ7 hz6 => ?_)
      obtain ⟨rfl, hIσ7, hGσ7, q8_0⟩ := hz6
      replace q8_0 : (¬ (0 : Int) = 0 ∧ σ7 88 17 = σ 88 17) ∨ ((0 : Int) = 0 ∧ σ 88 17 = 0 ∧ σ7 88 17 = (2 : Int)) ∨ ((0 : Int) = 0 ∧ ¬ σ 88 17 = 0 ∧ σ7 88 17 = σ 88 17) := q8_0
      have hFσ7 : tw_F (fun c j => (c = 88 ∧ (j = 17 ∨ j = 18))) σ σ7 := tw_F_tr (tw_F_rf) hGσ7 (fun c j q => (show (c = 88 ∧ (j = 17 ∨ j = 18)) from by replace q : (c = 88 ∧ (j = 17 ∨ j = 18)) := q; omega))
      refine j_st (st' := []) rfl ?_
      refine j_aload_n (pc := 25) dX12_isNumber_25 rfl rfl ?_
      refine j_getI (pc := 26) fl_X12_91 dX12_isNumber_26 (a_88 hM) rfl ?_
      have f10 : (0 : Int) ≤ σ7 88 17 ∧ σ7 88 17 ≤ 5 := hIσ7 88 17
      refine j_ifR_ne (pc := 29) (tgt := 49) ⟨by omega, by omega⟩ dX12_isNumber_29 rfl (fun h11 => ?_) (fun h11 => ?_)
      · exact j_vret (pc := 49) ⟨rfl, rfl⟩ dX12_isNumber_49 rfl ⟨rfl, hIσ7, hFσ7, by omega⟩
      · refine j_aload_n (pc := 32) dX12_isNumber_32 rfl rfl ?_
        refine j_aload_n (pc := 33) dX12_isNumber_33 rfl rfl ?_
        refine j_getI (pc := 34) fl_X12_126 dX12_isNumber_34 (a_88 hM) rfl ?_
        refine j_topV (show σ7 88 16 = σ 88 16 from (hGσ7 88 16 (show ¬ ((88 = 88 ∧ (16 = 17 ∨ 16 = 18))) from by omega))) ?_
        have f12 : (-2147483648 : Int) ≤ σ 88 16 ∧ σ 88 16 ≤ 2147483647 := hI 88 16
        refine j_i2l (pc := 37) dX12_isNumber_37 ?_
        rw [w32_eq (a := σ 88 16) (by omega) (by omega)]
        refine j_iload_n (pc := 38) dX12_isNumber_38 rfl rfl ?_
        refine j_i2l (pc := 39) dX12_isNumber_39 ?_
        rw [w32_eq (a := a) (by omega) (by omega)]
        refine j_iload_n (pc := 40) dX12_isNumber_40 rfl rfl ?_
        refine j_i2l (pc := 41) dX12_isNumber_41 ?_
        rw [w32_eq (a := b) (by omega) (by omega)]
        refine j_callS (pc := 42) (As := [vL (σ 88 16), vL a, vL b]) (st := [vR 88]) (c_X12_in (σ 88 16) ⟨by omega, by omega⟩ a ⟨by omega, by omega⟩ b ⟨by omega, by omega⟩ σ7 hIσ7) ms_X12_82 rfl dX12_isNumber_42 ⟨Nat.le_of_ble_eq_true rfl, Nat.le_of_ble_eq_true rfl⟩ ⟨Nat.le_refl _, Nat.le_refl _⟩ rfl (Nat.le_of_ble_eq_true rfl) rfl (fun z13 σ14 hz13 => ?_)
        obtain ⟨r16, rfl, hr16, rfl, q15_0⟩ := hz13
        replace q15_0 : (r16 = 1 ∧ a ≤ (σ 88 16) ∧ (σ 88 16) ≤ b) ∨ (r16 = 0 ∧ ¬ (a ≤ (σ 88 16) ∧ (σ 88 16) ≤ b)) := q15_0
        refine j_st (st' := [vI r16, vR 88]) rfl ?_
        refine j_iconst (pc := 45) dX12_isNumber_45 ?_
        refine j_callV (pc := 46) (As := [vI r16, vI 3]) (st := []) (c_X12_needs hM r16 ⟨by omega, by omega⟩ 3 ⟨by omega, by omega⟩ σ7 hIσ7) mv_X12_129 rfl rfl rfl (a_88 hM) dX12_isNumber_46 ⟨Nat.le_of_ble_eq_true rfl, Nat.le_of_ble_eq_true rfl⟩ ⟨Nat.le_refl _, Nat.le_refl _⟩ rfl (Nat.le_of_ble_eq_true rfl) rfl (fun z17 σ18 hz17 => ?_)
        obtain ⟨rfl, hIσ18, hGσ18, q19_0⟩ := hz17
        replace q19_0 : (¬ r16 = 0 ∧ σ18 88 17 = σ7 88 17) ∨ (r16 = 0 ∧ σ7 88 17 = 0 ∧ σ18 88 17 = (3 : Int)) ∨ (r16 = 0 ∧ ¬ σ7 88 17 = 0 ∧ σ18 88 17 = σ7 88 17) := q19_0
        have hFσ18 : tw_F (fun c j => (c = 88 ∧ (j = 17 ∨ j = 18))) σ σ18 := tw_F_tr hFσ7 hGσ18 (fun c j q => (show (c = 88 ∧ (j = 17 ∨ j = 18)) from by replace q : (c = 88 ∧ (j = 17 ∨ j = 18)) := q; omega))
        refine j_st (st' := []) rfl ?_
        exact j_vret (pc := 49) ⟨rfl, rfl⟩ dX12_isNumber_49 rfl ⟨rfl, hIσ18, hFσ18, by omega⟩
    · refine j_iconst (pc := 16) dX12_isNumber_16 ?_
      refine j_goto (pc := 17) (tgt := 21) dX12_isNumber_17 rfl ?_
      refine j_iconst (pc := 21) dX12_isNumber_21 ?_
      refine j_callV (pc := 22) (As := [vI 1, vI 2]) (st := []) (c_X12_needs hM 1 ⟨by omega, by omega⟩ 2 ⟨by omega, by omega⟩ σ hI) mv_X12_129 rfl rfl rfl (a_88 hM) dX12_isNumber_22 ⟨Nat.le_of_ble_eq_true rfl, Nat.le_of_ble_eq_true rfl⟩ ⟨Nat.le_refl _, Nat.le_refl _⟩ rfl (Nat.le_of_ble_eq_true rfl) rfl (fun z21 σ22 hz21 => ?_)
      obtain ⟨rfl, hIσ22, hGσ22, q23_0⟩ := hz21
      replace q23_0 : (¬ (1 : Int) = 0 ∧ σ22 88 17 = σ 88 17) ∨ ((1 : Int) = 0 ∧ σ 88 17 = 0 ∧ σ22 88 17 = (2 : Int)) ∨ ((1 : Int) = 0 ∧ ¬ σ 88 17 = 0 ∧ σ22 88 17 = σ 88 17) := q23_0
      have hFσ22 : tw_F (fun c j => (c = 88 ∧ (j = 17 ∨ j = 18))) σ σ22 := tw_F_tr (tw_F_rf) hGσ22 (fun c j q => (show (c = 88 ∧ (j = 17 ∨ j = 18)) from by replace q : (c = 88 ∧ (j = 17 ∨ j = 18)) := q; omega))
      refine j_st (st' := []) rfl ?_
      refine j_aload_n (pc := 25) dX12_isNumber_25 rfl rfl ?_
      refine j_getI (pc := 26) fl_X12_91 dX12_isNumber_26 (a_88 hM) rfl ?_
      have f25 : (0 : Int) ≤ σ22 88 17 ∧ σ22 88 17 ≤ 5 := hIσ22 88 17
      refine j_ifR_ne (pc := 29) (tgt := 49) ⟨by omega, by omega⟩ dX12_isNumber_29 rfl (fun h26 => ?_) (fun h26 => ?_)
      · exact j_vret (pc := 49) ⟨rfl, rfl⟩ dX12_isNumber_49 rfl ⟨rfl, hIσ22, hFσ22, by omega⟩
      · refine j_aload_n (pc := 32) dX12_isNumber_32 rfl rfl ?_
        refine j_aload_n (pc := 33) dX12_isNumber_33 rfl rfl ?_
        refine j_getI (pc := 34) fl_X12_126 dX12_isNumber_34 (a_88 hM) rfl ?_
        refine j_topV (show σ22 88 16 = σ 88 16 from (hGσ22 88 16 (show ¬ ((88 = 88 ∧ (16 = 17 ∨ 16 = 18))) from by omega))) ?_
        have f27 : (-2147483648 : Int) ≤ σ 88 16 ∧ σ 88 16 ≤ 2147483647 := hI 88 16
        refine j_i2l (pc := 37) dX12_isNumber_37 ?_
        rw [w32_eq (a := σ 88 16) (by omega) (by omega)]
        refine j_iload_n (pc := 38) dX12_isNumber_38 rfl rfl ?_
        refine j_i2l (pc := 39) dX12_isNumber_39 ?_
        rw [w32_eq (a := a) (by omega) (by omega)]
        refine j_iload_n (pc := 40) dX12_isNumber_40 rfl rfl ?_
        refine j_i2l (pc := 41) dX12_isNumber_41 ?_
        rw [w32_eq (a := b) (by omega) (by omega)]
        refine j_callS (pc := 42) (As := [vL (σ 88 16), vL a, vL b]) (st := [vR 88]) (c_X12_in (σ 88 16) ⟨by omega, by omega⟩ a ⟨by omega, by omega⟩ b ⟨by omega, by omega⟩ σ22 hIσ22) ms_X12_82 rfl dX12_isNumber_42 ⟨Nat.le_of_ble_eq_true rfl, Nat.le_of_ble_eq_true rfl⟩ ⟨Nat.le_refl _, Nat.le_refl _⟩ rfl (Nat.le_of_ble_eq_true rfl) rfl (fun z28 σ29 hz28 => ?_)
        obtain ⟨r31, rfl, hr31, rfl, q30_0⟩ := hz28
        replace q30_0 : (r31 = 1 ∧ a ≤ (σ 88 16) ∧ (σ 88 16) ≤ b) ∨ (r31 = 0 ∧ ¬ (a ≤ (σ 88 16) ∧ (σ 88 16) ≤ b)) := q30_0
        refine j_st (st' := [vI r31, vR 88]) rfl ?_
        refine j_iconst (pc := 45) dX12_isNumber_45 ?_
        refine j_callV (pc := 46) (As := [vI r31, vI 3]) (st := []) (c_X12_needs hM r31 ⟨by omega, by omega⟩ 3 ⟨by omega, by omega⟩ σ22 hIσ22) mv_X12_129 rfl rfl rfl (a_88 hM) dX12_isNumber_46 ⟨Nat.le_of_ble_eq_true rfl, Nat.le_of_ble_eq_true rfl⟩ ⟨Nat.le_refl _, Nat.le_refl _⟩ rfl (Nat.le_of_ble_eq_true rfl) rfl (fun z32 σ33 hz32 => ?_)
        obtain ⟨rfl, hIσ33, hGσ33, q34_0⟩ := hz32
        replace q34_0 : (¬ r31 = 0 ∧ σ33 88 17 = σ22 88 17) ∨ (r31 = 0 ∧ σ22 88 17 = 0 ∧ σ33 88 17 = (3 : Int)) ∨ (r31 = 0 ∧ ¬ σ22 88 17 = 0 ∧ σ33 88 17 = σ22 88 17) := q34_0
        have hFσ33 : tw_F (fun c j => (c = 88 ∧ (j = 17 ∨ j = 18))) σ σ33 := tw_F_tr hFσ22 hGσ33 (fun c j q => (show (c = 88 ∧ (j = 17 ∨ j = 18)) from by replace q : (c = 88 ∧ (j = 17 ∨ j = 18)) := q; omega))
        refine j_st (st' := []) rfl ?_
        exact j_vret (pc := 49) ⟨rfl, rfl⟩ dX12_isNumber_49 rfl ⟨rfl, hIσ33, hFσ33, by omega⟩
abbrev q_X12_readNumber (a : Int) (b : Int) (σ : tw_M) : Option tw_V → tw_M → Prop := fun z τ => ∃ r : Int, z = some (vI r) ∧ (-2147483648 ≤ r ∧ r ≤ 2147483647) ∧ tw_I τ ∧ tw_F (fun c j => (c = 88 ∧ (j = 13 ∨ j = 14 ∨ j = 15 ∨ j = 16 ∨ j = 17 ∨ j = 18))) σ τ ∧ (¬ τ 88 17 = 0 ∨ (σ 88 17 = 0 ∧ a ≤ r ∧ r ≤ b)) ∧ (σ 88 13 ≤ τ 88 13) ∧ (¬ τ 88 17 = 0 ∨ τ 88 15 = 0 ∨ σ 88 13 < τ 88 13)
set_option maxHeartbeats 4000000 in
set_option maxRecDepth 100000 in
theorem c_X12_readNumber {G : tw_G} (hM : tw_isM G) (a : Int) (ha : -2147483648 ≤ a ∧ a ≤ 2147483647) (b : Int) (hb : -2147483648 ≤ b ∧ b ≤ 2147483647) (σ : tw_M) (hI : tw_I σ) : tw_C G yX12_readNumber cX12_readNumber 4 (some .int) 2 [vR 88, vI a, vI b] σ (q_X12_readNumber a b σ) := by
  refine tw_met [(0, vR 88), (1, vI a), (2, vI b)] (by decide +kernel) rfl (Nat.le_of_ble_eq_true rfl) ?_
  refine j_aload_n (pc := 0) dX12_readNumber_0 rfl rfl ?_
  refine j_iload_n (pc := 1) dX12_readNumber_1 rfl rfl ?_
  refine j_iload_n (pc := 2) dX12_readNumber_2 rfl rfl ?_
  refine j_callV (pc := 3) (As := [vI a, vI b]) (st := []) (c_X12_isNumber hM a ⟨by omega, by omega⟩ b ⟨by omega, by omega⟩ σ hI) mv_X12_133 rfl rfl rfl (a_88 hM) dX12_readNumber_3 ⟨Nat.le_of_ble_eq_true rfl, Nat.le_of_ble_eq_true rfl⟩ ⟨Nat.le_refl _, Nat.le_refl _⟩ rfl (Nat.le_of_ble_eq_true rfl) rfl (fun z1 σ2 hz1 => ?_)
  obtain ⟨rfl, hIσ2, hGσ2, q3_0⟩ := hz1
  replace q3_0 : ¬ σ2 88 17 = 0 ∨ (σ 88 17 = 0 ∧ a ≤ σ 88 16 ∧ σ 88 16 ≤ b) := q3_0
  have hFσ2 : tw_F (fun c j => (c = 88 ∧ (j = 13 ∨ j = 14 ∨ j = 15 ∨ j = 16 ∨ j = 17 ∨ j = 18))) σ σ2 := tw_F_tr (tw_F_rf) hGσ2 (fun c j q => (show (c = 88 ∧ (j = 13 ∨ j = 14 ∨ j = 15 ∨ j = 16 ∨ j = 17 ∨ j = 18)) from by replace q : (c = 88 ∧ (j = 17 ∨ j = 18)) := q; omega))
  refine j_st (st' := []) rfl ?_
  refine j_aload_n (pc := 6) dX12_readNumber_6 rfl rfl ?_
  refine j_getI (pc := 7) fl_X12_126 dX12_readNumber_7 (a_88 hM) rfl ?_
  refine j_topV (show σ2 88 16 = σ 88 16 from (hGσ2 88 16 (show ¬ ((88 = 88 ∧ (16 = 17 ∨ 16 = 18))) from by omega))) ?_
  have f5 : (-2147483648 : Int) ≤ σ 88 16 ∧ σ 88 16 ≤ 2147483647 := hI 88 16
  refine j_istore_n (pc := 10) (i := 3) (ls' := [(0, vR 88), (3, vI (σ 88 16))]) [1, 0] dX12_readNumber_10 rfl (Nat.le_of_ble_eq_true rfl) rfl rfl ?_
  refine j_aload_n (pc := 11) dX12_readNumber_11 rfl rfl ?_
  refine j_callV (pc := 12) (As := []) (st := []) (c_X12_next hM σ2 hIσ2) mv_X12_137 rfl rfl rfl (a_88 hM) dX12_readNumber_12 ⟨Nat.le_of_ble_eq_true rfl, Nat.le_of_ble_eq_true rfl⟩ ⟨Nat.le_refl _, Nat.le_refl _⟩ rfl (Nat.le_of_ble_eq_true rfl) rfl (fun z6 σ7 hz6 => ?_)
  obtain ⟨rfl, hIσ7, hGσ7, q8_0, q8_1, q8_2⟩ := hz6
  replace q8_0 : ¬ σ7 88 17 = 0 ∨ σ2 88 17 = 0 := q8_0
  replace q8_1 : σ2 88 13 ≤ σ7 88 13 := q8_1
  have y10 : σ2 88 13 = σ 88 13 := (hGσ2 88 13 (show ¬ ((88 = 88 ∧ (13 = 17 ∨ 13 = 18))) from by omega))
  have f11 : (0 : Int) ≤ σ 88 13 ∧ σ 88 13 ≤ 400 := hI 88 13
  replace q8_2 : ¬ σ7 88 17 = 0 ∨ σ7 88 15 = 0 ∨ σ2 88 13 < σ7 88 13 := q8_2
  have y12 : σ2 88 13 = σ 88 13 := (hGσ2 88 13 (show ¬ ((88 = 88 ∧ (13 = 17 ∨ 13 = 18))) from by omega))
  have hFσ7 : tw_F (fun c j => (c = 88 ∧ (j = 13 ∨ j = 14 ∨ j = 15 ∨ j = 16 ∨ j = 17 ∨ j = 18))) σ σ7 := tw_F_tr hFσ2 hGσ7 (fun c j q => (show (c = 88 ∧ (j = 13 ∨ j = 14 ∨ j = 15 ∨ j = 16 ∨ j = 17 ∨ j = 18)) from by replace q : (c = 88 ∧ (j = 13 ∨ j = 14 ∨ j = 15 ∨ j = 16 ∨ j = 17 ∨ j = 18)) := q; omega))
  refine j_st (st' := []) rfl ?_
  refine j_iload_n (pc := 15) dX12_readNumber_15 rfl rfl ?_
  exact j_iret (pc := 16) ⟨rfl, rfl⟩ dX12_readNumber_16 rfl ⟨_, rfl, ⟨by omega, by omega⟩, hIσ7, hFσ7, by omega, by omega, by omega⟩
