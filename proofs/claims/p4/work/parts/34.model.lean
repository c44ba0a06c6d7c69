/-! 34.model -/
theorem dX12_needs_0 : decode cX12_needs 0 = .ok (.iload_n 1, 1) := by decide +kernel
theorem dX12_needs_1 : decode cX12_needs 1 = .ok (.ifCond .ne 23, 3) := by decide +kernel
theorem dX12_needs_4 : decode cX12_needs 4 = .ok (.aload_n 0, 1) := by decide +kernel
theorem dX12_needs_5 : decode cX12_needs 5 = .ok (.getfield 91, 3) := by decide +kernel
theorem dX12_needs_8 : decode cX12_needs 8 = .ok (.ifCond .ne 16, 3) := by decide +kernel
theorem dX12_needs_11 : decode cX12_needs 11 = .ok (.aload_n 0, 1) := by decide +kernel
theorem dX12_needs_12 : decode cX12_needs 12 = .ok (.iload_n 2, 1) := by decide +kernel
theorem dX12_needs_13 : decode cX12_needs 13 = .ok (.putfield 91, 3) := by decide +kernel
theorem dX12_needs_16 : decode cX12_needs 16 = .ok (.aload_n 0, 1) := by decide +kernel
theorem dX12_needs_17 : decode cX12_needs 17 = .ok (.aload_n 0, 1) := by decide +kernel
theorem dX12_needs_18 : decode cX12_needs 18 = .ok (.getfield 94, 3) := by decide +kernel
theorem dX12_needs_21 : decode cX12_needs 21 = .ok (.putfield 97, 3) := by decide +kernel
theorem dX12_needs_24 : decode cX12_needs 24 = .ok (.return_, 1) := by decide +kernel
theorem dX12_look_0 : decode cX12_look 0 = .ok (.iload_n 1, 1) := by decide +kernel
theorem dX12_look_1 : decode cX12_look 1 = .ok (.aload_n 0, 1) := by decide +kernel
theorem dX12_look_2 : decode cX12_look 2 = .ok (.getfield 86, 3) := by decide +kernel
theorem dX12_look_5 : decode cX12_look 5 = .ok (.if_icmp .ge 12, 3) := by decide +kernel
theorem dX12_look_8 : decode cX12_look 8 = .ok (.aload_n 0, 1) := by decide +kernel
theorem dX12_look_9 : decode cX12_look 9 = .ok (.getfield 38, 3) := by decide +kernel
theorem dX12_look_12 : decode cX12_look 12 = .ok (.iload_n 1, 1) := by decide +kernel
theorem dX12_look_13 : decode cX12_look 13 = .ok (.iaload, 1) := by decide +kernel
theorem dX12_look_14 : decode cX12_look 14 = .ok (.goto 4, 3) := by decide +kernel
theorem dX12_look_17 : decode cX12_look 17 = .ok (.iconst (-1), 1) := by decide +kernel
theorem dX12_look_18 : decode cX12_look 18 = .ok (.ireturn, 1) := by decide +kernel
theorem dX12_is_0 : decode cX12_is 0 = .ok (.aload_n 0, 1) := by decide +kernel
theorem dX12_is_1 : decode cX12_is 1 = .ok (.getfield 100, 3) := by decide +kernel
theorem dX12_is_4 : decode cX12_is 4 = .ok (.aload_n 0, 1) := by decide +kernel
theorem dX12_is_5 : decode cX12_is 5 = .ok (.getfield 94, 3) := by decide +kernel
theorem dX12_is_8 : decode cX12_is 8 = .ok (.isub, 1) := by decide +kernel
theorem dX12_is_9 : decode cX12_is 9 = .ok (.iload_n 1, 1) := by decide +kernel
theorem dX12_is_10 : decode cX12_is 10 = .ok (.if_icmp .ne 73, 3) := by decide +kernel
theorem dX12_is_13 : decode cX12_is 13 = .ok (.aload_n 0, 1) := by decide +kernel
theorem dX12_is_14 : decode cX12_is 14 = .ok (.aload_n 0, 1) := by decide +kernel
theorem dX12_is_15 : decode cX12_is 15 = .ok (.getfield 94, 3) := by decide +kernel
theorem dX12_is_18 : decode cX12_is 18 = .ok (.invokevirtual 103, 3) := by decide +kernel
theorem dX12_is_21 : decode cX12_is 21 = .ok (.iload_n 2, 1) := by decide +kernel
theorem dX12_is_22 : decode cX12_is 22 = .ok (.if_icmp .ne 61, 3) := by decide +kernel
theorem dX12_is_25 : decode cX12_is 25 = .ok (.aload_n 0, 1) := by decide +kernel
theorem dX12_is_26 : decode cX12_is 26 = .ok (.aload_n 0, 1) := by decide +kernel
theorem dX12_is_27 : decode cX12_is 27 = .ok (.getfield 94, 3) := by decide +kernel
theorem dX12_is_30 : decode cX12_is 30 = .ok (.iconst 1, 1) := by decide +kernel
theorem dX12_is_31 : decode cX12_is 31 = .ok (.iadd, 1) := by decide +kernel
theorem dX12_is_32 : decode cX12_is 32 = .ok (.invokevirtual 103, 3) := by decide +kernel
theorem dX12_is_35 : decode cX12_is 35 = .ok (.iload_n 3, 1) := by decide +kernel
theorem dX12_is_36 : decode cX12_is 36 = .ok (.if_icmp .ne 47, 3) := by decide +kernel
theorem dX12_is_39 : decode cX12_is 39 = .ok (.iload_n 1, 1) := by decide +kernel
theorem dX12_is_40 : decode cX12_is 40 = .ok (.iconst 3, 1) := by decide +kernel
theorem dX12_is_41 : decode cX12_is 41 = .ok (.if_icmp .lt 18, 3) := by decide +kernel
theorem dX12_is_44 : decode cX12_is 44 = .ok (.aload_n 0, 1) := by decide +kernel
theorem dX12_is_45 : decode cX12_is 45 = .ok (.aload_n 0, 1) := by decide +kernel
theorem dX12_is_46 : decode cX12_is 46 = .ok (.getfield 94, 3) := by decide +kernel
theorem dX12_is_49 : decode cX12_is 49 = .ok (.iconst 2, 1) := by decide +kernel
theorem dX12_is_50 : decode cX12_is 50 = .ok (.iadd, 1) := by decide +kernel
theorem dX12_is_51 : decode cX12_is 51 = .ok (.invokevirtual 103, 3) := by decide +kernel
theorem dX12_is_54 : decode cX12_is 54 = .ok (.iload 4, 2) := by decide +kernel
theorem dX12_is_56 : decode cX12_is 56 = .ok (.if_icmp .ne 27, 3) := by decide +kernel
theorem dX12_is_59 : decode cX12_is 59 = .ok (.iload_n 1, 1) := by decide +kernel
theorem dX12_is_60 : decode cX12_is 60 = .ok (.iconst 4, 1) := by decide +kernel
theorem dX12_is_61 : decode cX12_is 61 = .ok (.if_icmp .lt 18, 3) := by decide +kernel
theorem dX12_is_64 : decode cX12_is 64 = .ok (.aload_n 0, 1) := by decide +kernel
theorem dX12_is_65 : decode cX12_is 65 = .ok (.aload_n 0, 1) := by decide +kernel
theorem dX12_is_66 : decode cX12_is 66 = .ok (.getfield 94, 3) := by decide +kernel
theorem dX12_is_69 : decode cX12_is 69 = .ok (.iconst 3, 1) := by decide +kernel
theorem dX12_is_70 : decode cX12_is 70 = .ok (.iadd, 1) := by decide +kernel
theorem dX12_is_71 : decode cX12_is 71 = .ok (.invokevirtual 103, 3) := by decide +kernel
theorem dX12_is_74 : decode cX12_is 74 = .ok (.iload 5, 2) := by decide +kernel
theorem dX12_is_76 : decode cX12_is 76 = .ok (.if_icmp .ne 7, 3) := by decide +kernel
theorem dX12_is_79 : decode cX12_is 79 = .ok (.iconst 1, 1) := by decide +kernel
theorem dX12_is_80 : decode cX12_is 80 = .ok (.goto 4, 3) := by decide +kernel
theorem dX12_is_83 : decode cX12_is 83 = .ok (.iconst 0, 1) := by decide +kernel
theorem dX12_is_84 : decode cX12_is 84 = .ok (.ireturn, 1) := by decide +kernel
theorem dX12_withNow_0 : decode cX12_withNow 0 = .ok (.aload_n 0, 1) := by decide +kernel
theorem dX12_withNow_1 : decode cX12_withNow 1 = .ok (.iconst 5, 1) := by decide +kernel
theorem dX12_withNow_2 : decode cX12_withNow 2 = .ok (.bipush 99, 2) := by decide +kernel
theorem dX12_withNow_4 : decode cX12_withNow 4 = .ok (.bipush 114, 2) := by decide +kernel
theorem dX12_withNow_6 : decode cX12_withNow 6 = .ok (.bipush 97, 2) := by decide +kernel
theorem dX12_withNow_8 : decode cX12_withNow 8 = .ok (.bipush 99, 2) := by decide +kernel
theorem dX12_withNow_10 : decode cX12_withNow 10 = .ok (.invokevirtual 107, 3) := by decide +kernel
theorem dX12_withNow_13 : decode cX12_withNow 13 = .ok (.ifCond .eq 21, 3) := by decide +kernel
theorem dX12_withNow_16 : decode cX12_withNow 16 = .ok (.aload_n 0, 1) := by decide +kernel
theorem dX12_withNow_17 : decode cX12_withNow 17 = .ok (.aload_n 0, 1) := by decide +kernel
theorem dX12_withNow_18 : decode cX12_withNow 18 = .ok (.getfield 94, 3) := by decide +kernel
theorem dX12_withNow_21 : decode cX12_withNow 21 = .ok (.iconst 4, 1) := by decide +kernel
theorem dX12_withNow_22 : decode cX12_withNow 22 = .ok (.iadd, 1) := by decide +kernel
theorem dX12_withNow_23 : decode cX12_withNow 23 = .ok (.invokevirtual 103, 3) := by decide +kernel
theorem dX12_withNow_26 : decode cX12_withNow 26 = .ok (.bipush 107, 2) := by decide +kernel
theorem dX12_withNow_28 : decode cX12_withNow 28 = .ok (.if_icmp .ne 6, 3) := by decide +kernel
theorem dX12_withNow_31 : decode cX12_withNow 31 = .ok (.bipush 20, 2) := by decide +kernel
theorem dX12_withNow_33 : decode cX12_withNow 33 = .ok (.ireturn, 1) := by decide +kernel
theorem dX12_withNow_34 : decode cX12_withNow 34 = .ok (.aload_n 0, 1) := by decide +kernel
theorem dX12_withNow_35 : decode cX12_withNow 35 = .ok (.iconst 5, 1) := by decide +kernel
theorem dX12_withNow_36 : decode cX12_withNow 36 = .ok (.bipush 108, 2) := by decide +kernel
theorem dX12_withNow_38 : decode cX12_withNow 38 = .ok (.bipush 101, 2) := by decide +kernel
theorem dX12_withNow_40 : decode cX12_withNow 40 = .ok (.bipush 100, 2) := by decide +kernel
theorem dX12_withNow_42 : decode cX12_withNow 42 = .ok (.bipush 103, 2) := by decide +kernel
theorem dX12_withNow_44 : decode cX12_withNow 44 = .ok (.invokevirtual 107, 3) := by decide +kernel
theorem dX12_withNow_47 : decode cX12_withNow 47 = .ok (.ifCond .eq 21, 3) := by decide +kernel
theorem dX12_withNow_50 : decode cX12_withNow 50 = .ok (.aload_n 0, 1) := by decide +kernel
theorem dX12_withNow_51 : decode cX12_withNow 51 = .ok (.aload_n 0, 1) := by decide +kernel
theorem dX12_withNow_52 : decode cX12_withNow 52 = .ok (.getfield 94, 3) := by decide +kernel
theorem dX12_withNow_55 : decode cX12_withNow 55 = .ok (.iconst 4, 1) := by decide +kernel
theorem dX12_withNow_56 : decode cX12_withNow 56 = .ok (.iadd, 1) := by decide +kernel
theorem dX12_withNow_57 : decode cX12_withNow 57 = .ok (.invokevirtual 103, 3) := by decide +kernel
theorem dX12_withNow_60 : decode cX12_withNow 60 = .ok (.bipush 101, 2) := by decide +kernel
theorem dX12_withNow_62 : decode cX12_withNow 62 = .ok (.if_icmp .ne 6, 3) := by decide +kernel
theorem dX12_withNow_65 : decode cX12_withNow 65 = .ok (.bipush 21, 2) := by decide +kernel
theorem dX12_withNow_67 : decode cX12_withNow 67 = .ok (.ireturn, 1) := by decide +kernel
theorem dX12_withNow_68 : decode cX12_withNow 68 = .ok (.aload_n 0, 1) := by decide +kernel
theorem dX12_withNow_69 : decode cX12_withNow 69 = .ok (.iconst 4, 1) := by decide +kernel
theorem dX12_withNow_70 : decode cX12_withNow 70 = .ok (.bipush 114, 2) := by decide +kernel
theorem dX12_withNow_72 : decode cX12_withNow 72 = .ok (.bipush 101, 2) := by decide +kernel
theorem dX12_withNow_74 : decode cX12_withNow 74 = .ok (.bipush 115, 2) := by decide +kernel
theorem dX12_withNow_76 : decode cX12_withNow 76 = .ok (.bipush 116, 2) := by decide +kernel
theorem dX12_withNow_78 : decode cX12_withNow 78 = .ok (.invokevirtual 107, 3) := by decide +kernel
theorem dX12_withNow_81 : decode cX12_withNow 81 = .ok (.ifCond .eq 8, 3) := by decide +kernel
theorem dX12_withNow_84 : decode cX12_withNow 84 = .ok (.bipush 22, 2) := by decide +kernel
theorem dX12_withNow_86 : decode cX12_withNow 86 = .ok (.goto 26, 3) := by decide +kernel
theorem dX12_withNow_89 : decode cX12_withNow 89 = .ok (.aload_n 0, 1) := by decide +kernel
theorem dX12_withNow_90 : decode cX12_withNow 90 = .ok (.iconst 4, 1) := by decide +kernel
theorem dX12_withNow_91 : decode cX12_withNow 91 = .ok (.bipush 115, 2) := by decide +kernel
theorem dX12_withNow_93 : decode cX12_withNow 93 = .ok (.bipush 105, 2) := by decide +kernel
theorem dX12_withNow_95 : decode cX12_withNow 95 = .ok (.bipush 100, 2) := by decide +kernel
theorem dX12_withNow_97 : decode cX12_withNow 97 = .ok (.bipush 101, 2) := by decide +kernel
theorem dX12_withNow_99 : decode cX12_withNow 99 = .ok (.invokevirtual 107, 3) := by decide +kernel
theorem dX12_withNow_102 : decode cX12_withNow 102 = .ok (.ifCond .eq 8, 3) := by decide +kernel
theorem dX12_withNow_105 : decode cX12_withNow 105 = .ok (.bipush 23, 2) := by decide +kernel
theorem dX12_withNow_107 : decode cX12_withNow 107 = .ok (.goto 5, 3) := by decide +kernel
theorem dX12_withNow_110 : decode cX12_withNow 110 = .ok (.bipush (-4), 2) := by decide +kernel
theorem dX12_withNow_112 : decode cX12_withNow 112 = .ok (.ireturn, 1) := by decide +kernel
theorem dX12_nameNow_0 : decode cX12_nameNow 0 = .ok (.aload_n 0, 1) := by decide +kernel
theorem dX12_nameNow_1 : decode cX12_nameNow 1 = .ok (.iconst 2, 1) := by decide +kernel
theorem dX12_nameNow_2 : decode cX12_nameNow 2 = .ok (.bipush 97, 2) := by decide +kernel
theorem dX12_nameNow_4 : decode cX12_nameNow 4 = .ok (.bipush 116, 2) := by decide +kernel
theorem dX12_nameNow_6 : decode cX12_nameNow 6 = .ok (.iconst 0, 1) := by decide +kernel
theorem dX12_nameNow_7 : decode cX12_nameNow 7 = .ok (.iconst 0, 1) := by decide +kernel
theorem dX12_nameNow_8 : decode cX12_nameNow 8 = .ok (.invokevirtual 107, 3) := by decide +kernel
theorem dX12_nameNow_11 : decode cX12_nameNow 11 = .ok (.ifCond .eq 6, 3) := by decide +kernel
theorem dX12_nameNow_14 : decode cX12_nameNow 14 = .ok (.bipush 10, 2) := by decide +kernel
theorem dX12_nameNow_16 : decode cX12_nameNow 16 = .ok (.ireturn, 1) := by decide +kernel
theorem dX12_nameNow_17 : decode cX12_nameNow 17 = .ok (.aload_n 0, 1) := by decide +kernel
theorem dX12_nameNow_18 : decode cX12_nameNow 18 = .ok (.iconst 4, 1) := by decide +kernel
theorem dX12_nameNow_19 : decode cX12_nameNow 19 = .ok (.bipush 114, 2) := by decide +kernel
theorem dX12_nameNow_21 : decode cX12_nameNow 21 = .ok (.bipush 97, 2) := by decide +kernel
theorem dX12_nameNow_23 : decode cX12_nameNow 23 = .ok (.bipush 99, 2) := by decide +kernel
theorem dX12_nameNow_25 : decode cX12_nameNow 25 = .ok (.bipush 107, 2) := by decide +kernel
theorem dX12_nameNow_27 : decode cX12_nameNow 27 = .ok (.invokevirtual 107, 3) := by decide +kernel
theorem dX12_nameNow_30 : decode cX12_nameNow 30 = .ok (.ifCond .eq 6, 3) := by decide +kernel
theorem dX12_nameNow_33 : decode cX12_nameNow 33 = .ok (.bipush 11, 2) := by decide +kernel
theorem dX12_nameNow_35 : decode cX12_nameNow 35 = .ok (.ireturn, 1) := by decide +kernel
theorem dX12_nameNow_36 : decode cX12_nameNow 36 = .ok (.aload_n 0, 1) := by decide +kernel
theorem dX12_nameNow_37 : decode cX12_nameNow 37 = .ok (.iconst 3, 1) := by decide +kernel
theorem dX12_nameNow_38 : decode cX12_nameNow 38 = .ok (.bipush 116, 2) := by decide +kernel
theorem dX12_nameNow_40 : decode cX12_nameNow 40 = .ok (.bipush 111, 2) := by decide +kernel
theorem dX12_nameNow_42 : decode cX12_nameNow 42 = .ok (.bipush 112, 2) := by decide +kernel
theorem dX12_nameNow_44 : decode cX12_nameNow 44 = .ok (.iconst 0, 1) := by decide +kernel
theorem dX12_nameNow_45 : decode cX12_nameNow 45 = .ok (.invokevirtual 107, 3) := by decide +kernel
theorem dX12_nameNow_48 : decode cX12_nameNow 48 = .ok (.ifCond .eq 5, 3) := by decide +kernel
theorem dX12_nameNow_51 : decode cX12_nameNow 51 = .ok (.iconst 0, 1) := by decide +kernel
theorem dX12_nameNow_52 : decode cX12_nameNow 52 = .ok (.ireturn, 1) := by decide +kernel
theorem dX12_nameNow_53 : decode cX12_nameNow 53 = .ok (.aload_n 0, 1) := by decide +kernel
theorem dX12_nameNow_54 : decode cX12_nameNow 54 = .ok (.bipush 8, 2) := by decide +kernel
theorem dX12_nameNow_56 : decode cX12_nameNow 56 = .ok (.bipush 115, 2) := by decide +kernel
theorem dX12_nameNow_58 : decode cX12_nameNow 58 = .ok (.bipush 116, 2) := by decide +kernel
theorem dX12_nameNow_60 : decode cX12_nameNow 60 = .ok (.bipush 114, 2) := by decide +kernel
theorem dX12_nameNow_62 : decode cX12_nameNow 62 = .ok (.bipush 101, 2) := by decide +kernel
theorem dX12_nameNow_64 : decode cX12_nameNow 64 = .ok (.invokevirtual 107, 3) := by decide +kernel
theorem dX12_nameNow_67 : decode cX12_nameNow 67 = .ok (.ifCond .eq 67, 3) := by decide +kernel
theorem dX12_nameNow_70 : decode cX12_nameNow 70 = .ok (.aload_n 0, 1) := by decide +kernel
theorem dX12_nameNow_71 : decode cX12_nameNow 71 = .ok (.aload_n 0, 1) := by decide +kernel
theorem dX12_nameNow_72 : decode cX12_nameNow 72 = .ok (.getfield 94, 3) := by decide +kernel
theorem dX12_nameNow_75 : decode cX12_nameNow 75 = .ok (.iconst 4, 1) := by decide +kernel
theorem dX12_nameNow_76 : decode cX12_nameNow 76 = .ok (.iadd, 1) := by decide +kernel
theorem dX12_nameNow_77 : decode cX12_nameNow 77 = .ok (.invokevirtual 103, 3) := by decide +kernel
theorem dX12_nameNow_80 : decode cX12_nameNow 80 = .ok (.bipush 110, 2) := by decide +kernel
theorem dX12_nameNow_82 : decode cX12_nameNow 82 = .ok (.if_icmp .ne 52, 3) := by decide +kernel
theorem dX12_nameNow_85 : decode cX12_nameNow 85 = .ok (.aload_n 0, 1) := by decide +kernel
theorem dX12_nameNow_86 : decode cX12_nameNow 86 = .ok (.aload_n 0, 1) := by decide +kernel
theorem dX12_nameNow_87 : decode cX12_nameNow 87 = .ok (.getfield 94, 3) := by decide +kernel
theorem dX12_nameNow_90 : decode cX12_nameNow 90 = .ok (.iconst 5, 1) := by decide +kernel
theorem dX12_nameNow_91 : decode cX12_nameNow 91 = .ok (.iadd, 1) := by decide +kernel
theorem dX12_nameNow_92 : decode cX12_nameNow 92 = .ok (.invokevirtual 103, 3) := by decide +kernel
theorem dX12_nameNow_95 : decode cX12_nameNow 95 = .ok (.bipush 103, 2) := by decide +kernel
theorem dX12_nameNow_97 : decode cX12_nameNow 97 = .ok (.if_icmp .ne 37, 3) := by decide +kernel
theorem dX12_nameNow_100 : decode cX12_nameNow 100 = .ok (.aload_n 0, 1) := by decide +kernel
theorem dX12_nameNow_101 : decode cX12_nameNow 101 = .ok (.aload_n 0, 1) := by decide +kernel
theorem dX12_nameNow_102 : decode cX12_nameNow 102 = .ok (.getfield 94, 3) := by decide +kernel
theorem dX12_nameNow_105 : decode cX12_nameNow 105 = .ok (.bipush 6, 2) := by decide +kernel
theorem dX12_nameNow_107 : decode cX12_nameNow 107 = .ok (.iadd, 1) := by decide +kernel
theorem dX12_nameNow_108 : decode cX12_nameNow 108 = .ok (.invokevirtual 103, 3) := by decide +kernel
theorem dX12_nameNow_111 : decode cX12_nameNow 111 = .ok (.bipush 116, 2) := by decide +kernel
theorem dX12_nameNow_113 : decode cX12_nameNow 113 = .ok (.if_icmp .ne 21, 3) := by decide +kernel
theorem dX12_nameNow_116 : decode cX12_nameNow 116 = .ok (.aload_n 0, 1) := by decide +kernel
theorem dX12_nameNow_117 : decode cX12_nameNow 117 = .ok (.aload_n 0, 1) := by decide +kernel
theorem dX12_nameNow_118 : decode cX12_nameNow 118 = .ok (.getfield 94, 3) := by decide +kernel
theorem dX12_nameNow_121 : decode cX12_nameNow 121 = .ok (.bipush 7, 2) := by decide +kernel
theorem dX12_nameNow_123 : decode cX12_nameNow 123 = .ok (.iadd, 1) := by decide +kernel
theorem dX12_nameNow_124 : decode cX12_nameNow 124 = .ok (.invokevirtual 103, 3) := by decide +kernel
theorem dX12_nameNow_127 : decode cX12_nameNow 127 = .ok (.bipush 104, 2) := by decide +kernel
theorem dX12_nameNow_129 : decode cX12_nameNow 129 = .ok (.if_icmp .ne 5, 3) := by decide +kernel
theorem dX12_nameNow_132 : decode cX12_nameNow 132 = .ok (.iconst 1, 1) := by decide +kernel
theorem dX12_nameNow_133 : decode cX12_nameNow 133 = .ok (.ireturn, 1) := by decide +kernel
theorem dX12_nameNow_134 : decode cX12_nameNow 134 = .ok (.aload_n 0, 1) := by decide +kernel
theorem dX12_nameNow_135 : decode cX12_nameNow 135 = .ok (.iconst 5, 1) := by decide +kernel
theorem dX12_nameNow_136 : decode cX12_nameNow 136 = .ok (.bipush 112, 2) := by decide +kernel
theorem dX12_nameNow_138 : decode cX12_nameNow 138 = .ok (.bipush 108, 2) := by decide +kernel
theorem dX12_nameNow_140 : decode cX12_nameNow 140 = .ok (.bipush 97, 2) := by decide +kernel
theorem dX12_nameNow_142 : decode cX12_nameNow 142 = .ok (.bipush 99, 2) := by decide +kernel
theorem dX12_nameNow_144 : decode cX12_nameNow 144 = .ok (.invokevirtual 107, 3) := by decide +kernel
theorem dX12_nameNow_147 : decode cX12_nameNow 147 = .ok (.ifCond .eq 20, 3) := by decide +kernel
theorem dX12_nameNow_150 : decode cX12_nameNow 150 = .ok (.aload_n 0, 1) := by decide +kernel
theorem dX12_nameNow_151 : decode cX12_nameNow 151 = .ok (.aload_n 0, 1) := by decide +kernel
theorem dX12_nameNow_152 : decode cX12_nameNow 152 = .ok (.getfield 94, 3) := by decide +kernel
theorem dX12_nameNow_155 : decode cX12_nameNow 155 = .ok (.iconst 4, 1) := by decide +kernel
theorem dX12_nameNow_156 : decode cX12_nameNow 156 = .ok (.iadd, 1) := by decide +kernel
theorem dX12_nameNow_157 : decode cX12_nameNow 157 = .ok (.invokevirtual 103, 3) := by decide +kernel
theorem dX12_nameNow_160 : decode cX12_nameNow 160 = .ok (.bipush 101, 2) := by decide +kernel
theorem dX12_nameNow_162 : decode cX12_nameNow 162 = .ok (.if_icmp .ne 5, 3) := by decide +kernel
theorem dX12_nameNow_165 : decode cX12_nameNow 165 = .ok (.iconst 2, 1) := by decide +kernel
theorem dX12_nameNow_166 : decode cX12_nameNow 166 = .ok (.ireturn, 1) := by decide +kernel
theorem dX12_nameNow_167 : decode cX12_nameNow 167 = .ok (.aload_n 0, 1) := by decide +kernel
theorem dX12_nameNow_168 : decode cX12_nameNow 168 = .ok (.iconst 4, 1) := by decide +kernel
theorem dX12_nameNow_169 : decode cX12_nameNow 169 = .ok (.bipush 114, 2) := by decide +kernel
theorem dX12_nameNow_171 : decode cX12_nameNow 171 = .ok (.bipush 111, 2) := by decide +kernel
theorem dX12_nameNow_173 : decode cX12_nameNow 173 = .ok (.bipush 112, 2) := by decide +kernel
theorem dX12_nameNow_175 : decode cX12_nameNow 175 = .ok (.bipush 101, 2) := by decide +kernel
theorem dX12_nameNow_177 : decode cX12_nameNow 177 = .ok (.invokevirtual 107, 3) := by decide +kernel
theorem dX12_nameNow_180 : decode cX12_nameNow 180 = .ok (.ifCond .eq 5, 3) := by decide +kernel
theorem dX12_nameNow_183 : decode cX12_nameNow 183 = .ok (.iconst 3, 1) := by decide +kernel
theorem dX12_nameNow_184 : decode cX12_nameNow 184 = .ok (.ireturn, 1) := by decide +kernel
theorem dX12_nameNow_185 : decode cX12_nameNow 185 = .ok (.aload_n 0, 1) := by decide +kernel
theorem dX12_nameNow_186 : decode cX12_nameNow 186 = .ok (.iconst 4, 1) := by decide +kernel
theorem dX12_nameNow_187 : decode cX12_nameNow 187 = .ok (.bipush 103, 2) := by decide +kernel
theorem dX12_nameNow_189 : decode cX12_nameNow 189 = .ok (.bipush 105, 2) := by decide +kernel
theorem dX12_nameNow_191 : decode cX12_nameNow 191 = .ok (.bipush 118, 2) := by decide +kernel
theorem dX12_nameNow_193 : decode cX12_nameNow 193 = .ok (.bipush 101, 2) := by decide +kernel
theorem dX12_nameNow_195 : decode cX12_nameNow 195 = .ok (.invokevirtual 107, 3) := by decide +kernel
theorem dX12_nameNow_198 : decode cX12_nameNow 198 = .ok (.ifCond .eq 5, 3) := by decide +kernel
theorem dX12_nameNow_201 : decode cX12_nameNow 201 = .ok (.iconst 4, 1) := by decide +kernel
theorem dX12_nameNow_202 : decode cX12_nameNow 202 = .ok (.ireturn, 1) := by decide +kernel
theorem dX12_nameNow_203 : decode cX12_nameNow 203 = .ok (.aload_n 0, 1) := by decide +kernel
theorem dX12_nameNow_204 : decode cX12_nameNow 204 = .ok (.iconst 4, 1) := by decide +kernel
theorem dX12_nameNow_205 : decode cX12_nameNow 205 = .ok (.bipush 102, 2) := by decide +kernel
theorem dX12_nameNow_207 : decode cX12_nameNow 207 = .ok (.bipush 105, 2) := by decide +kernel
theorem dX12_nameNow_209 : decode cX12_nameNow 209 = .ok (.bipush 116, 2) := by decide +kernel
theorem dX12_nameNow_211 : decode cX12_nameNow 211 = .ok (.bipush 115, 2) := by decide +kernel
theorem dX12_nameNow_213 : decode cX12_nameNow 213 = .ok (.invokevirtual 107, 3) := by decide +kernel
theorem dX12_nameNow_216 : decode cX12_nameNow 216 = .ok (.ifCond .eq 5, 3) := by decide +kernel
theorem dX12_nameNow_219 : decode cX12_nameNow 219 = .ok (.iconst 5, 1) := by decide +kernel
theorem dX12_nameNow_220 : decode cX12_nameNow 220 = .ok (.ireturn, 1) := by decide +kernel
theorem dX12_nameNow_221 : decode cX12_nameNow 221 = .ok (.aload_n 0, 1) := by decide +kernel
theorem dX12_nameNow_222 : decode cX12_nameNow 222 = .ok (.iconst 5, 1) := by decide +kernel
theorem dX12_nameNow_223 : decode cX12_nameNow 223 = .ok (.bipush 104, 2) := by decide +kernel
theorem dX12_nameNow_225 : decode cX12_nameNow 225 = .ok (.bipush 111, 2) := by decide +kernel
theorem dX12_nameNow_227 : decode cX12_nameNow 227 = .ok (.bipush 108, 2) := by decide +kernel
theorem dX12_nameNow_229 : decode cX12_nameNow 229 = .ok (.bipush 100, 2) := by decide +kernel
theorem dX12_nameNow_231 : decode cX12_nameNow 231 = .ok (.invokevirtual 107, 3) := by decide +kernel
theorem dX12_nameNow_234 : decode cX12_nameNow 234 = .ok (.ifCond .eq 21, 3) := by decide +kernel
theorem dX12_nameNow_237 : decode cX12_nameNow 237 = .ok (.aload_n 0, 1) := by decide +kernel
theorem dX12_nameNow_238 : decode cX12_nameNow 238 = .ok (.aload_n 0, 1) := by decide +kernel
theorem dX12_nameNow_239 : decode cX12_nameNow 239 = .ok (.getfield 94, 3) := by decide +kernel
theorem dX12_nameNow_242 : decode cX12_nameNow 242 = .ok (.iconst 4, 1) := by decide +kernel
theorem dX12_nameNow_243 : decode cX12_nameNow 243 = .ok (.iadd, 1) := by decide +kernel
theorem dX12_nameNow_244 : decode cX12_nameNow 244 = .ok (.invokevirtual 103, 3) := by decide +kernel
theorem dX12_nameNow_247 : decode cX12_nameNow 247 = .ok (.bipush 115, 2) := by decide +kernel
theorem dX12_nameNow_249 : decode cX12_nameNow 249 = .ok (.if_icmp .ne 6, 3) := by decide +kernel
theorem dX12_nameNow_252 : decode cX12_nameNow 252 = .ok (.bipush 7, 2) := by decide +kernel
theorem dX12_nameNow_254 : decode cX12_nameNow 254 = .ok (.ireturn, 1) := by decide +kernel
theorem dX12_nameNow_255 : decode cX12_nameNow 255 = .ok (.aload_n 0, 1) := by decide +kernel
theorem dX12_nameNow_256 : decode cX12_nameNow 256 = .ok (.iconst 3, 1) := by decide +kernel
theorem dX12_nameNow_257 : decode cX12_nameNow 257 = .ok (.bipush 108, 2) := by decide +kernel
theorem dX12_nameNow_259 : decode cX12_nameNow 259 = .ok (.bipush 111, 2) := by decide +kernel
theorem dX12_nameNow_261 : decode cX12_nameNow 261 = .ok (.bipush 119, 2) := by decide +kernel
theorem dX12_nameNow_263 : decode cX12_nameNow 263 = .ok (.iconst 0, 1) := by decide +kernel
theorem dX12_nameNow_264 : decode cX12_nameNow 264 = .ok (.invokevirtual 107, 3) := by decide +kernel
theorem dX12_nameNow_267 : decode cX12_nameNow 267 = .ok (.ifCond .eq 8, 3) := by decide +kernel
theorem dX12_nameNow_270 : decode cX12_nameNow 270 = .ok (.bipush 8, 2) := by decide +kernel
theorem dX12_nameNow_272 : decode cX12_nameNow 272 = .ok (.goto 7, 3) := by decide +kernel
theorem dX12_nameNow_275 : decode cX12_nameNow 275 = .ok (.aload_n 0, 1) := by decide +kernel
theorem dX12_nameNow_276 : decode cX12_nameNow 276 = .ok (.invokevirtual 111, 3) := by decide +kernel
theorem dX12_nameNow_279 : decode cX12_nameNow 279 = .ok (.ireturn, 1) := by decide +kernel
theorem dX12_next_0 : decode cX12_next 0 = .ok (.aload_n 0, 1) := by decide +kernel
theorem dX12_next_1 : decode cX12_next 1 = .ok (.getfield 91, 3) := by decide +kernel
theorem dX12_next_4 : decode cX12_next 4 = .ok (.ifCond .le 4, 3) := by decide +kernel
theorem dX12_next_7 : decode cX12_next 7 = .ok (.return_, 1) := by decide +kernel
theorem dX12_next_8 : decode cX12_next 8 = .ok (.aload_n 0, 1) := by decide +kernel
theorem dX12_next_9 : decode cX12_next 9 = .ok (.aload_n 0, 1) := by decide +kernel
theorem dX12_next_10 : decode cX12_next 10 = .ok (.getfield 100, 3) := by decide +kernel
theorem dX12_next_13 : decode cX12_next 13 = .ok (.invokevirtual 103, 3) := by decide +kernel
theorem dX12_next_16 : decode cX12_next 16 = .ok (.bipush 32, 2) := by decide +kernel
theorem dX12_next_18 : decode cX12_next 18 = .ok (.if_icmp .ne 16, 3) := by decide +kernel
theorem dX12_next_21 : decode cX12_next 21 = .ok (.aload_n 0, 1) := by decide +kernel
theorem dX12_next_22 : decode cX12_next 22 = .ok (.dup, 1) := by decide +kernel
theorem dX12_next_23 : decode cX12_next 23 = .ok (.getfield 100, 3) := by decide +kernel
theorem dX12_next_26 : decode cX12_next 26 = .ok (.iconst 1, 1) := by decide +kernel
theorem dX12_next_27 : decode cX12_next 27 = .ok (.iadd, 1) := by decide +kernel
theorem dX12_next_28 : decode cX12_next 28 = .ok (.putfield 100, 3) := by decide +kernel
theorem dX12_next_31 : decode cX12_next 31 = .ok (.goto (-23), 3) := by decide +kernel
theorem dX12_next_34 : decode cX12_next 34 = .ok (.aload_n 0, 1) := by decide +kernel
theorem dX12_next_35 : decode cX12_next 35 = .ok (.aload_n 0, 1) := by decide +kernel
theorem dX12_next_36 : decode cX12_next 36 = .ok (.getfield 100, 3) := by decide +kernel
theorem dX12_next_39 : decode cX12_next 39 = .ok (.putfield 94, 3) := by decide +kernel
theorem dX12_next_42 : decode cX12_next 42 = .ok (.aload_n 0, 1) := by decide +kernel
theorem dX12_next_43 : decode cX12_next 43 = .ok (.aload_n 0, 1) := by decide +kernel
theorem dX12_next_44 : decode cX12_next 44 = .ok (.getfield 100, 3) := by decide +kernel
theorem dX12_next_47 : decode cX12_next 47 = .ok (.invokevirtual 103, 3) := by decide +kernel
theorem dX12_next_50 : decode cX12_next 50 = .ok (.istore_n 1, 1) := by decide +kernel
theorem dX12_next_51 : decode cX12_next 51 = .ok (.iload_n 1, 1) := by decide +kernel
theorem dX12_next_52 : decode cX12_next 52 = .ok (.ifCond .ge 11, 3) := by decide +kernel
theorem dX12_next_55 : decode cX12_next 55 = .ok (.aload_n 0, 1) := by decide +kernel
theorem dX12_next_56 : decode cX12_next 56 = .ok (.iconst 0, 1) := by decide +kernel
theorem dX12_next_57 : decode cX12_next 57 = .ok (.putfield 115, 3) := by decide +kernel
theorem dX12_next_60 : decode cX12_next 60 = .ok (.goto 214, 3) := by decide +kernel
theorem dX12_next_63 : decode cX12_next 63 = .ok (.iload_n 1, 1) := by decide +kernel
theorem dX12_next_64 : decode cX12_next 64 = .ok (.i2l, 1) := by decide +kernel
theorem dX12_next_65 : decode cX12_next 65 = .ok (.ldc2_w 118, 3) := by decide +kernel
theorem dX12_next_68 : decode cX12_next 68 = .ok (.ldc2_w 120, 3) := by decide +kernel
theorem dX12_next_71 : decode cX12_next 71 = .ok (.invokestatic 82, 3) := by decide +kernel
theorem dX12_next_74 : decode cX12_next 74 = .ok (.ifCond .eq 42, 3) := by decide +kernel
theorem dX12_next_77 : decode cX12_next 77 = .ok (.aload_n 0, 1) := by decide +kernel
theorem dX12_next_78 : decode cX12_next 78 = .ok (.iconst 1, 1) := by decide +kernel
theorem dX12_next_79 : decode cX12_next 79 = .ok (.putfield 115, 3) := by decide +kernel
theorem dX12_next_82 : decode cX12_next 82 = .ok (.aload_n 0, 1) := by decide +kernel
theorem dX12_next_83 : decode cX12_next 83 = .ok (.aload_n 0, 1) := by decide +kernel
theorem dX12_next_84 : decode cX12_next 84 = .ok (.getfield 100, 3) := by decide +kernel
theorem dX12_next_87 : decode cX12_next 87 = .ok (.invokevirtual 103, 3) := by decide +kernel
theorem dX12_next_90 : decode cX12_next 90 = .ok (.i2l, 1) := by decide +kernel
theorem dX12_next_91 : decode cX12_next 91 = .ok (.ldc2_w 118, 3) := by decide +kernel
theorem dX12_next_94 : decode cX12_next 94 = .ok (.ldc2_w 120, 3) := by decide +kernel
theorem dX12_next_97 : decode cX12_next 97 = .ok (.invokestatic 82, 3) := by decide +kernel
theorem dX12_next_100 : decode cX12_next 100 = .ok (.ifCond .eq 174, 3) := by decide +kernel
theorem dX12_next_103 : decode cX12_next 103 = .ok (.aload_n 0, 1) := by decide +kernel
theorem dX12_next_104 : decode cX12_next 104 = .ok (.dup, 1) := by decide +kernel
theorem dX12_next_105 : decode cX12_next 105 = .ok (.getfield 100, 3) := by decide +kernel
theorem dX12_next_108 : decode cX12_next 108 = .ok (.iconst 1, 1) := by decide +kernel
theorem dX12_next_109 : decode cX12_next 109 = .ok (.iadd, 1) := by decide +kernel
theorem dX12_next_110 : decode cX12_next 110 = .ok (.putfield 100, 3) := by decide +kernel
theorem dX12_next_113 : decode cX12_next 113 = .ok (.goto (-31), 3) := by decide +kernel
theorem dX12_next_116 : decode cX12_next 116 = .ok (.iload_n 1, 1) := by decide +kernel
theorem dX12_next_117 : decode cX12_next 117 = .ok (.i2l, 1) := by decide +kernel
theorem dX12_next_118 : decode cX12_next 118 = .ok (.ldc2_w 122, 3) := by decide +kernel
theorem dX12_next_121 : decode cX12_next 121 = .ok (.ldc2_w 124, 3) := by decide +kernel
theorem dX12_next_124 : decode cX12_next 124 = .ok (.invokestatic 82, 3) := by decide +kernel
theorem dX12_next_127 : decode cX12_next 127 = .ok (.ifCond .eq 116, 3) := by decide +kernel
theorem dX12_next_130 : decode cX12_next 130 = .ok (.aload_n 0, 1) := by decide +kernel
theorem dX12_next_131 : decode cX12_next 131 = .ok (.iconst 2, 1) := by decide +kernel
theorem dX12_next_132 : decode cX12_next 132 = .ok (.putfield 115, 3) := by decide +kernel
theorem dX12_next_135 : decode cX12_next 135 = .ok (.aload_n 0, 1) := by decide +kernel
theorem dX12_next_136 : decode cX12_next 136 = .ok (.iconst 0, 1) := by decide +kernel
theorem dX12_next_137 : decode cX12_next 137 = .ok (.putfield 126, 3) := by decide +kernel
theorem dX12_next_140 : decode cX12_next 140 = .ok (.aload_n 0, 1) := by decide +kernel
theorem dX12_next_141 : decode cX12_next 141 = .ok (.aload_n 0, 1) := by decide +kernel
theorem dX12_next_142 : decode cX12_next 142 = .ok (.getfield 100, 3) := by decide +kernel
theorem dX12_next_145 : decode cX12_next 145 = .ok (.invokevirtual 103, 3) := by decide +kernel
theorem dX12_next_148 : decode cX12_next 148 = .ok (.i2l, 1) := by decide +kernel
theorem dX12_next_149 : decode cX12_next 149 = .ok (.ldc2_w 122, 3) := by decide +kernel
theorem dX12_next_152 : decode cX12_next 152 = .ok (.ldc2_w 124, 3) := by decide +kernel
theorem dX12_next_155 : decode cX12_next 155 = .ok (.invokestatic 82, 3) := by decide +kernel
theorem dX12_next_158 : decode cX12_next 158 = .ok (.ifCond .eq 59, 3) := by decide +kernel
theorem dX12_next_161 : decode cX12_next 161 = .ok (.aload_n 0, 1) := by decide +kernel
theorem dX12_next_162 : decode cX12_next 162 = .ok (.aload_n 0, 1) := by decide +kernel
theorem dX12_next_163 : decode cX12_next 163 = .ok (.getfield 100, 3) := by decide +kernel
theorem dX12_next_166 : decode cX12_next 166 = .ok (.aload_n 0, 1) := by decide +kernel
theorem dX12_next_167 : decode cX12_next 167 = .ok (.getfield 94, 3) := by decide +kernel
theorem dX12_next_170 : decode cX12_next 170 = .ok (.isub, 1) := by decide +kernel
theorem dX12_next_171 : decode cX12_next 171 = .ok (.iconst 3, 1) := by decide +kernel
theorem dX12_next_172 : decode cX12_next 172 = .ok (.if_icmp .ge 25, 3) := by decide +kernel
theorem dX12_next_175 : decode cX12_next 175 = .ok (.bipush 10, 2) := by decide +kernel
theorem dX12_next_177 : decode cX12_next 177 = .ok (.aload_n 0, 1) := by decide +kernel
theorem dX12_next_178 : decode cX12_next 178 = .ok (.getfield 126, 3) := by decide +kernel
theorem dX12_next_181 : decode cX12_next 181 = .ok (.imul, 1) := by decide +kernel
theorem dX12_next_182 : decode cX12_next 182 = .ok (.aload_n 0, 1) := by decide +kernel
theorem dX12_next_183 : decode cX12_next 183 = .ok (.aload_n 0, 1) := by decide +kernel
theorem dX12_next_184 : decode cX12_next 184 = .ok (.getfield 100, 3) := by decide +kernel
theorem dX12_next_187 : decode cX12_next 187 = .ok (.invokevirtual 103, 3) := by decide +kernel
theorem dX12_next_190 : decode cX12_next 190 = .ok (.iadd, 1) := by decide +kernel
theorem dX12_next_191 : decode cX12_next 191 = .ok (.bipush 48, 2) := by decide +kernel
theorem dX12_next_193 : decode cX12_next 193 = .ok (.isub, 1) := by decide +kernel
theorem dX12_next_194 : decode cX12_next 194 = .ok (.goto 7, 3) := by decide +kernel
theorem dX12_next_197 : decode cX12_next 197 = .ok (.aload_n 0, 1) := by decide +kernel
theorem dX12_next_198 : decode cX12_next 198 = .ok (.getfield 126, 3) := by decide +kernel
theorem dX12_next_201 : decode cX12_next 201 = .ok (.putfield 126, 3) := by decide +kernel
theorem dX12_next_204 : decode cX12_next 204 = .ok (.aload_n 0, 1) := by decide +kernel
theorem dX12_next_205 : decode cX12_next 205 = .ok (.dup, 1) := by decide +kernel
theorem dX12_next_206 : decode cX12_next 206 = .ok (.getfield 100, 3) := by decide +kernel
theorem dX12_next_209 : decode cX12_next 209 = .ok (.iconst 1, 1) := by decide +kernel
theorem dX12_next_210 : decode cX12_next 210 = .ok (.iadd, 1) := by decide +kernel
theorem dX12_next_211 : decode cX12_next 211 = .ok (.putfield 100, 3) := by decide +kernel
theorem dX12_next_214 : decode cX12_next 214 = .ok (.goto (-74), 3) := by decide +kernel
theorem dX12_next_217 : decode cX12_next 217 = .ok (.aload_n 0, 1) := by decide +kernel
theorem dX12_next_218 : decode cX12_next 218 = .ok (.aload_n 0, 1) := by decide +kernel
theorem dX12_next_219 : decode cX12_next 219 = .ok (.getfield 100, 3) := by decide +kernel
theorem dX12_next_222 : decode cX12_next 222 = .ok (.aload_n 0, 1) := by decide +kernel
theorem dX12_next_223 : decode cX12_next 223 = .ok (.getfield 94, 3) := by decide +kernel
theorem dX12_next_226 : decode cX12_next 226 = .ok (.isub, 1) := by decide +kernel
theorem dX12_next_227 : decode cX12_next 227 = .ok (.iconst 3, 1) := by decide +kernel
theorem dX12_next_228 : decode cX12_next 228 = .ok (.if_icmp .gt 7, 3) := by decide +kernel
theorem dX12_next_231 : decode cX12_next 231 = .ok (.iconst 1, 1) := by decide +kernel
theorem dX12_next_232 : decode cX12_next 232 = .ok (.goto 4, 3) := by decide +kernel
theorem dX12_next_235 : decode cX12_next 235 = .ok (.iconst 0, 1) := by decide +kernel
theorem dX12_next_236 : decode cX12_next 236 = .ok (.iconst 1, 1) := by decide +kernel
theorem dX12_next_237 : decode cX12_next 237 = .ok (.invokevirtual 129, 3) := by decide +kernel
theorem dX12_next_240 : decode cX12_next 240 = .ok (.goto 34, 3) := by decide +kernel
theorem dX12_next_243 : decode cX12_next 243 = .ok (.aload_n 0, 1) := by decide +kernel
theorem dX12_next_244 : decode cX12_next 244 = .ok (.iconst 3, 1) := by decide +kernel
theorem dX12_next_245 : decode cX12_next 245 = .ok (.putfield 115, 3) := by decide +kernel
theorem dX12_next_248 : decode cX12_next 248 = .ok (.aload_n 0, 1) := by decide +kernel
theorem dX12_next_249 : decode cX12_next 249 = .ok (.iload_n 1, 1) := by decide +kernel
theorem dX12_next_250 : decode cX12_next 250 = .ok (.bipush 59, 2) := by decide +kernel
theorem dX12_next_252 : decode cX12_next 252 = .ok (.if_icmp .ne 7, 3) := by decide +kernel
theorem dX12_next_255 : decode cX12_next 255 = .ok (.iconst 1, 1) := by decide +kernel
theorem dX12_next_256 : decode cX12_next 256 = .ok (.goto 4, 3) := by decide +kernel
theorem dX12_next_259 : decode cX12_next 259 = .ok (.iconst 0, 1) := by decide +kernel
theorem dX12_next_260 : decode cX12_next 260 = .ok (.iconst 1, 1) := by decide +kernel
theorem dX12_next_261 : decode cX12_next 261 = .ok (.invokevirtual 129, 3) := by decide +kernel
theorem dX12_next_264 : decode cX12_next 264 = .ok (.aload_n 0, 1) := by decide +kernel
theorem dX12_next_265 : decode cX12_next 265 = .ok (.dup, 1) := by decide +kernel
theorem dX12_next_266 : decode cX12_next 266 = .ok (.getfield 100, 3) := by decide +kernel
theorem dX12_next_269 : decode cX12_next 269 = .ok (.iconst 1, 1) := by decide +kernel
theorem dX12_next_270 : decode cX12_next 270 = .ok (.iadd, 1) := by decide +kernel
theorem dX12_next_271 : decode cX12_next 271 = .ok (.putfield 100, 3) := by decide +kernel
theorem dX12_next_274 : decode cX12_next 274 = .ok (.return_, 1) := by decide +kernel
theorem dX12_isNumber_0 : decode cX12_isNumber 0 = .ok (.aload_n 0, 1) := by decide +kernel
theorem dX12_isNumber_1 : decode cX12_isNumber 1 = .ok (.getfield 91, 3) := by decide +kernel
theorem dX12_isNumber_4 : decode cX12_isNumber 4 = .ok (.ifCond .ne 21, 3) := by decide +kernel
theorem dX12_isNumber_7 : decode cX12_isNumber 7 = .ok (.aload_n 0, 1) := by decide +kernel
theorem dX12_isNumber_8 : decode cX12_isNumber 8 = .ok (.aload_n 0, 1) := by decide +kernel
theorem dX12_isNumber_9 : decode cX12_isNumber 9 = .ok (.getfield 115, 3) := by decide +kernel
theorem dX12_isNumber_12 : decode cX12_isNumber 12 = .ok (.iconst 2, 1) := by decide +kernel
theorem dX12_isNumber_13 : decode cX12_isNumber 13 = .ok (.if_icmp .ne 7, 3) := by decide +kernel
theorem dX12_isNumber_16 : decode cX12_isNumber 16 = .ok (.iconst 1, 1) := by decide +kernel
theorem dX12_isNumber_17 : decode cX12_isNumber 17 = .ok (.goto 4, 3) := by decide +kernel
theorem dX12_isNumber_20 : decode cX12_isNumber 20 = .ok (.iconst 0, 1) := by decide +kernel
theorem dX12_isNumber_21 : decode cX12_isNumber 21 = .ok (.iconst 2, 1) := by decide +kernel
theorem dX12_isNumber_22 : decode cX12_isNumber 22 = .ok (.invokevirtual 129, 3) := by decide +kernel
theorem dX12_isNumber_25 : decode cX12_isNumber 25 = .ok (.aload_n 0, 1) := by decide +kernel
theorem dX12_isNumber_26 : decode cX12_isNumber 26 = .ok (.getfield 91, 3) := by decide +kernel
theorem dX12_isNumber_29 : decode cX12_isNumber 29 = .ok (.ifCond .ne 20, 3) := by decide +kernel
theorem dX12_isNumber_32 : decode cX12_isNumber 32 = .ok (.aload_n 0, 1) := by decide +kernel
theorem dX12_isNumber_33 : decode cX12_isNumber 33 = .ok (.aload_n 0, 1) := by decide +kernel
theorem dX12_isNumber_34 : decode cX12_isNumber 34 = .ok (.getfield 126, 3) := by decide +kernel
theorem dX12_isNumber_37 : decode cX12_isNumber 37 = .ok (.i2l, 1) := by decide +kernel
theorem dX12_isNumber_38 : decode cX12_isNumber 38 = .ok (.iload_n 1, 1) := by decide +kernel
theorem dX12_isNumber_39 : decode cX12_isNumber 39 = .ok (.i2l, 1) := by decide +kernel
theorem dX12_isNumber_40 : decode cX12_isNumber 40 = .ok (.iload_n 2, 1) := by decide +kernel
theorem dX12_isNumber_41 : decode cX12_isNumber 41 = .ok (.i2l, 1) := by decide +kernel
theorem dX12_isNumber_42 : decode cX12_isNumber 42 = .ok (.invokestatic 82, 3) := by decide +kernel
theorem dX12_isNumber_45 : decode cX12_isNumber 45 = .ok (.iconst 3, 1) := by decide +kernel
theorem dX12_isNumber_46 : decode cX12_isNumber 46 = .ok (.invokevirtual 129, 3) := by decide +kernel
theorem dX12_isNumber_49 : decode cX12_isNumber 49 = .ok (.return_, 1) := by decide +kernel
theorem dX12_readNumber_0 : decode cX12_readNumber 0 = .ok (.aload_n 0, 1) := by decide +kernel
theorem dX12_readNumber_1 : decode cX12_readNumber 1 = .ok (.iload_n 1, 1) := by decide +kernel
theorem dX12_readNumber_2 : decode cX12_readNumber 2 = .ok (.iload_n 2, 1) := by decide +kernel
theorem dX12_readNumber_3 : decode cX12_readNumber 3 = .ok (.invokevirtual 133, 3) := by decide +kernel
theorem dX12_readNumber_6 : decode cX12_readNumber 6 = .ok (.aload_n 0, 1) := by decide +kernel
theorem dX12_readNumber_7 : decode cX12_readNumber 7 = .ok (.getfield 126, 3) := by decide +kernel
theorem dX12_readNumber_10 : decode cX12_readNumber 10 = .ok (.istore_n 3, 1) := by decide +kernel
theorem dX12_readNumber_11 : decode cX12_readNumber 11 = .ok (.aload_n 0, 1) := by decide +kernel
theorem dX12_readNumber_12 : decode cX12_readNumber 12 = .ok (.invokevirtual 137, 3) := by decide +kernel
theorem dX12_readNumber_15 : decode cX12_readNumber 15 = .ok (.iload_n 3, 1) := by decide +kernel
theorem dX12_readNumber_16 : decode cX12_readNumber 16 = .ok (.ireturn, 1) := by decide +kernel
abbrev q_X12_needs (g : Int) (c : Int) (σ : tw_M) : Option tw_V → tw_M → Prop := fun z τ => z = none ∧ tw_I τ ∧ tw_F (fun c j => (c = 88 ∧ (j = 17 ∨ j = 18))) σ τ ∧ ((¬ g = 0 ∧ τ 88 17 = σ 88 17) ∨ (g = 0 ∧ σ 88 17 = 0 ∧ τ 88 17 = c) ∨ (g = 0 ∧ ¬ σ 88 17 = 0 ∧ τ 88 17 = σ 88 17)) ∧ ((¬ g = 0 ∧ τ 88 17 = σ 88 17 ∧ τ 88 18 = σ 88 18) ∨ (g = 0 ∧ σ 88 17 = 0 ∧ τ 88 17 = c ∧ τ 88 18 = σ 88 14) ∨ (g = 0 ∧ ¬ σ 88 17 = 0 ∧ τ 88 17 = σ 88 17 ∧ τ 88 18 = σ 88 18)) ∧ (aM τ = need (decide (¬ g = 0)) c (aM σ))
set_option maxHeartbeats 4000000 in
set_option maxRecDepth 100000 in
theorem c_X12_needs {G : tw_G} (hM : tw_isM G) (g : Int) (hg : 0 ≤ g ∧ g ≤ 1) (c : Int) (hc : 1 ≤ c ∧ c ≤ 5) (σ : tw_M) (hI : tw_I σ) : tw_C G yX12_needs cX12_needs 3 none 0 [vR 88, vI g, vI c] σ (q_X12_needs g c σ) := by
  refine tw_met [(0, vR 88), (1, vI g), (2, vI c)] (by decide +kernel) rfl (Nat.le_of_ble_eq_true rfl) ?_
  refine j_iload_n (pc := 0) dX12_needs_0 rfl rfl ?_
  refine j_ifR_ne (pc := 1) (tgt := 24) ⟨by omega, by omega⟩ dX12_needs_1 rfl (fun h1 => ?_) (fun h1 => ?_)
  · exact j_vret (pc := 24) ⟨rfl, rfl⟩ dX12_needs_24 rfl ⟨rfl, hI, (tw_F_rf), by omega, by omega, (by first | exact aM_needt (fun _ => decide_eq_true (by omega)) | exact aM_need (by omega) (fun _ => decide_eq_false (by omega)) (by omega))⟩
  · refine j_aload_n (pc := 4) dX12_needs_4 rfl rfl ?_
    refine j_getI (pc := 5) fl_X12_91 dX12_needs_5 (a_88 hM) rfl ?_
    have f2 : (0 : Int) ≤ σ 88 17 ∧ σ 88 17 ≤ 5 := hI 88 17
    refine j_ifR_ne (pc := 8) (tgt := 24) ⟨by omega, by omega⟩ dX12_needs_8 rfl (fun h3 => ?_) (fun h3 => ?_)
    · exact j_vret (pc := 24) ⟨rfl, rfl⟩ dX12_needs_24 rfl ⟨rfl, hI, (tw_F_rf), by omega, by omega, (by first | exact aM_needt (fun _ => decide_eq_true (by omega)) | exact aM_need (by omega) (fun _ => decide_eq_false (by omega)) (by omega))⟩
    · refine j_aload_n (pc := 11) dX12_needs_11 rfl rfl ?_
      refine j_iload_n (pc := 12) dX12_needs_12 rfl rfl ?_
      refine j_putI (pc := 13) fl_X12_91 fp_X12_17 dX12_needs_13 (a_88 hM) rfl (j_nm (fun σ4 (eσ4 : σ4 = tw_up σ 88 17 c) => ?_))
      have hIσ4 : tw_I σ4 := tw_I_up hI eσ4 (show (0 : Int) ≤ c ∧ c ≤ 5 from ⟨by omega, by omega⟩)
      have hFσ4 : tw_F (fun c j => (c = 88 ∧ (j = 17 ∨ j = 18))) σ σ4 := tw_F_up (tw_F_rf) eσ4 (show (88 = 88 ∧ (17 = 17 ∨ 17 = 18)) from by omega)
      refine j_aload_n (pc := 16) dX12_needs_16 rfl rfl ?_
      refine j_aload_n (pc := 17) dX12_needs_17 rfl rfl ?_
      refine j_getI (pc := 18) fl_X12_94 dX12_needs_18 (a_88 hM) rfl ?_
      refine j_topV (show σ4 88 14 = σ 88 14 from (tw_ne1 eσ4 (by omega))) ?_
      have f5 : (0 : Int) ≤ σ 88 14 ∧ σ 88 14 ≤ 400 := hI 88 14
      refine j_putI (pc := 21) fl_X12_97 fp_X12_18 dX12_needs_21 (a_88 hM) rfl (j_nm (fun σ6 (eσ6 : σ6 = tw_up σ4 88 18 (σ 88 14)) => ?_))
      have hIσ6 : tw_I σ6 := tw_I_up hIσ4 eσ6 (show (-2147483648 : Int) ≤ σ 88 14 ∧ σ 88 14 ≤ 2147483647 from ⟨by omega, by omega⟩)
      have hFσ6 : tw_F (fun c j => (c = 88 ∧ (j = 17 ∨ j = 18))) σ σ6 := tw_F_up hFσ4 eσ6 (show (88 = 88 ∧ (18 = 17 ∨ 18 = 18)) from by omega)
      have y7 : σ6 88 17 = c := ((tw_ne1 eσ6 (by omega))).trans (tw_eq1 eσ4)
      have y8 : σ6 88 17 = c := ((tw_ne1 eσ6 (by omega))).trans (tw_eq1 eσ4)
      have y9 : σ6 88 18 = σ 88 14 := (tw_eq1 eσ6)
      exact j_vret (pc := 24) ⟨rfl, rfl⟩ dX12_needs_24 rfl ⟨rfl, hIσ6, hFσ6, by omega, by omega, (by first | exact aM_needt (fun _ => decide_eq_true (by omega)) | exact aM_need (by omega) (fun _ => decide_eq_false (by omega)) (by omega))⟩
abbrev q_X12_look (p : Int) (σ : tw_M) : Option tw_V → tw_M → Prop := fun z τ => ∃ r : Int, z = some (vI r) ∧ (-2147483648 ≤ r ∧ r ≤ 2147483647) ∧ σ = τ ∧ ((p < σ 88 12 ∧ r = σ 98 p.toNat) ∨ (¬ p < σ 88 12 ∧ r = -1)) ∧ (r = fM σ p)
set_option maxHeartbeats 4000000 in
set_option maxRecDepth 100000 in
theorem c_X12_look {G : tw_G} (hM : tw_isM G) (p : Int) (hp : 0 ≤ p ∧ p ≤ 2147483647) (σ : tw_M) (hI : tw_I σ) : tw_C G yX12_look cX12_look 2 (some .int) 0 [vR 88, vI p] σ (q_X12_look p σ) := by
  refine tw_met [(0, vR 88), (1, vI p)] (by decide +kernel) rfl (Nat.le_of_ble_eq_true rfl) ?_
  refine j_iload_n (pc := 0) dX12_look_0 rfl rfl ?_
  refine j_aload_n (pc := 1) dX12_look_1 rfl rfl ?_
  refine j_getI (pc := 2) fl_X12_86 dX12_look_2 (a_88 hM) rfl ?_
  have f1 : (0 : Int) ≤ σ 88 12 ∧ σ 88 12 ≤ 400 := hI 88 12
  refine j_icmpR_ge (pc := 5) (tgt := 17) ⟨by omega, by omega⟩ ⟨by omega, by omega⟩ dX12_look_5 rfl (fun h2 => ?_) (fun h2 => ?_)
  · refine j_iconst (pc := 17) dX12_look_17 ?_
    exact j_iret (pc := 18) ⟨rfl, rfl⟩ dX12_look_18 rfl ⟨_, rfl, ⟨by omega, by omega⟩, rfl, by omega, (by first | exact Eq.trans (by omega) (fM_at ⟨by omega, by omega⟩).symm | exact Eq.trans (by omega) (fM_no (by omega)).symm)⟩
  · refine j_aload_n (pc := 8) dX12_look_8 rfl rfl ?_
    refine j_getR (pc := 9) (r := 98) fl_X12_38 dX12_look_9 (a_88 hM) rfl ?_
    refine j_iload_n (pc := 12) dX12_look_12 rfl rfl ?_
    refine j_iald (pc := 13) dX12_look_13 (a_98 hM) (by omega) (by omega) (by decide) ?_
    have f3 : (-2147483648 : Int) ≤ σ 98 (p.toNat) ∧ σ 98 (p.toNat) ≤ 2147483647 := hI 98 (p.toNat)
    refine j_goto (pc := 14) (tgt := 18) dX12_look_14 rfl ?_
    exact j_iret (pc := 18) ⟨rfl, rfl⟩ dX12_look_18 rfl ⟨_, rfl, ⟨by omega, by omega⟩, rfl, by omega, (by first | exact Eq.trans (by omega) (fM_at ⟨by omega, by omega⟩).symm | exact Eq.trans (by omega) (fM_no (by omega)).symm)⟩
abbrev q_X12_is (n : Int) (a : Int) (b : Int) (c : Int) (d : Int) (σ : tw_M) : Option tw_V → tw_M → Prop := fun z τ => ∃ r : Int, z = some (vI r) ∧ (0 ≤ r ∧ r ≤ 1) ∧ σ = τ ∧ ((r = 1 ∧ σ 88 13 - σ 88 14 = n ∧ fM σ (σ 88 14) = a ∧ fM σ (σ 88 14 + 1) = b ∧ (n < 3 ∨ fM σ (σ 88 14 + 2) = c) ∧ (n < 4 ∨ fM σ (σ 88 14 + 3) = d)) ∨ (r = 0 ∧ ¬ (σ 88 13 - σ 88 14 = n ∧ fM σ (σ 88 14) = a ∧ fM σ (σ 88 14 + 1) = b ∧ (n < 3 ∨ fM σ (σ 88 14 + 2) = c) ∧ (n < 4 ∨ fM σ (σ 88 14 + 3) = d))))
set_option maxHeartbeats 4000000 in
set_option maxRecDepth 100000 in
theorem c_X12_is {G : tw_G} (hM : tw_isM G) (n : Int) (hn : -2147483648 ≤ n ∧ n ≤ 2147483647) (a : Int) (ha : -2147483648 ≤ a ∧ a ≤ 2147483647) (b : Int) (hb : -2147483648 ≤ b ∧ b ≤ 2147483647) (c : Int) (hc : -2147483648 ≤ c ∧ c ≤ 2147483647) (d : Int) (hd : -2147483648 ≤ d ∧ d ≤ 2147483647) (σ : tw_M) (hI : tw_I σ) : tw_C G yX12_is cX12_is 6 (some .boolean) 1 [vR 88, vI n, vI a, vI b, vI c, vI d] σ (q_X12_is n a b c d σ) := by
  refine tw_met [(0, vR 88), (1, vI n), (2, vI a), (3, vI b), (4, vI c), (5, vI d)] (by decide +kernel) rfl (Nat.le_of_ble_eq_true rfl) ?_
  refine j_aload_n (pc := 0) dX12_is_0 rfl rfl ?_
  refine j_getI (pc := 1) fl_X12_100 dX12_is_1 (a_88 hM) rfl ?_
  have f1 : (0 : Int) ≤ σ 88 13 ∧ σ 88 13 ≤ 400 := hI 88 13
  refine j_aload_n (pc := 4) dX12_is_4 rfl rfl ?_
  refine j_getI (pc := 5) fl_X12_94 dX12_is_5 (a_88 hM) rfl ?_
  have f2 : (0 : Int) ≤ σ 88 14 ∧ σ 88 14 ≤ 400 := hI 88 14
  refine j_isub (pc := 8) dX12_is_8 ?_
  refine j_iload_n (pc := 9) dX12_is_9 rfl rfl ?_
  refine j_icmpR_ne (pc := 10) (tgt := 83) ⟨by omega, by omega⟩ ⟨by omega, by omega⟩ dX12_is_10 rfl (fun h3 => ?_) (fun h3 => ?_)
  · refine j_iconst (pc := 83) dX12_is_83 ?_
    exact j_zret (pc := 84) ⟨rfl, rfl⟩ dX12_is_84 rfl (nar_bool (by omega) (by omega)) ⟨_, rfl, ⟨by omega, by omega⟩, rfl, by omega⟩
  · refine j_aload_n (pc := 13) dX12_is_13 rfl rfl ?_
    refine j_aload_n (pc := 14) dX12_is_14 rfl rfl ?_
    refine j_getI (pc := 15) fl_X12_94 dX12_is_15 (a_88 hM) rfl ?_
    refine j_callV (pc := 18) (As := [vI (σ 88 14)]) (st := []) (c_X12_look hM (σ 88 14) ⟨by omega, by omega⟩ σ hI) mv_X12_103 rfl rfl rfl (a_88 hM) dX12_is_18 ⟨Nat.le_of_ble_eq_true rfl, Nat.le_of_ble_eq_true rfl⟩ ⟨Nat.le_refl _, Nat.le_refl _⟩ rfl (Nat.le_of_ble_eq_true rfl) rfl (fun z4 σ5 hz4 => ?_)
    obtain ⟨r7, rfl, hr7, rfl, q6_0, q6_1⟩ := hz4
    replace q6_0 : ((σ 88 14) < σ 88 12 ∧ r7 = σ 98 (σ 88 14).toNat) ∨ (¬ (σ 88 14) < σ 88 12 ∧ r7 = -1) := q6_0
    replace q6_1 : r7 = fM σ (σ 88 14) := q6_1
    refine j_st (st' := [vI r7]) rfl ?_
    refine j_iload_n (pc := 21) dX12_is_21 rfl rfl ?_
    refine j_icmpR_ne (pc := 22) (tgt := 83) ⟨by omega, by omega⟩ ⟨by omega, by omega⟩ dX12_is_22 rfl (fun h8 => ?_) (fun h8 => ?_)
    · refine j_iconst (pc := 83) dX12_is_83 ?_
      exact j_zret (pc := 84) ⟨rfl, rfl⟩ dX12_is_84 rfl (nar_bool (by omega) (by omega)) ⟨_, rfl, ⟨by omega, by omega⟩, rfl, by omega⟩
    · refine j_aload_n (pc := 25) dX12_is_25 rfl rfl ?_
      refine j_aload_n (pc := 26) dX12_is_26 rfl rfl ?_
      refine j_getI (pc := 27) fl_X12_94 dX12_is_27 (a_88 hM) rfl ?_
      refine j_iconst (pc := 30) dX12_is_30 ?_
      refine j_iadd (pc := 31) dX12_is_31 ?_
      refine j_callV (pc := 32) (As := [vI ((σ 88 14) + 1)]) (st := []) (c_X12_look hM ((σ 88 14) + 1) ⟨by omega, by omega⟩ σ hI) mv_X12_103 rfl rfl rfl (a_88 hM) dX12_is_32 ⟨Nat.le_of_ble_eq_true rfl, Nat.le_of_ble_eq_true rfl⟩ ⟨Nat.le_refl _, Nat.le_refl _⟩ rfl (Nat.le_of_ble_eq_true rfl) rfl (fun z9 σ10 hz9 => ?_)
      obtain ⟨r12, rfl, hr12, rfl, q11_0, q11_1⟩ := hz9
      replace q11_0 : (((σ 88 14) + 1) < σ 88 12 ∧ r12 = σ 98 ((σ 88 14) + 1).toNat) ∨ (¬ ((σ 88 14) + 1) < σ 88 12 ∧ r12 = -1) := q11_0
      replace q11_1 : r12 = fM σ ((σ 88 14) + 1) := q11_1
      refine j_st (st' := [vI r12]) rfl ?_
      refine j_iload_n (pc := 35) dX12_is_35 rfl rfl ?_
      refine j_icmpR_ne (pc := 36) (tgt := 83) ⟨by omega, by omega⟩ ⟨by omega, by omega⟩ dX12_is_36 rfl (fun h13 => ?_) (fun h13 => ?_)
      · refine j_iconst (pc := 83) dX12_is_83 ?_
        exact j_zret (pc := 84) ⟨rfl, rfl⟩ dX12_is_84 rfl (nar_bool (by omega) (by omega)) ⟨_, rfl, ⟨by omega, by omega⟩, rfl, by omega⟩
      · refine j_iload_n (pc := 39) dX12_is_39 rfl rfl ?_
        refine j_iconst (pc := 40) dX12_is_40 ?_
        refine j_icmpR_lt (pc := 41) (tgt := 59) ⟨by omega, by omega⟩ ⟨by omega, by omega⟩ dX12_is_41 rfl (fun h14 => ?_) (fun h14 => ?_)
        · refine j_iload_n (pc := 59) dX12_is_59 rfl rfl ?_
          refine j_iconst (pc := 60) dX12_is_60 ?_
          refine j_icmpR_lt (pc := 61) (tgt := 79) ⟨by omega, by omega⟩ ⟨by omega, by omega⟩ dX12_is_61 rfl (fun h15 => ?_) (fun h15 => by exfalso; omega)
          refine j_iconst (pc := 79) dX12_is_79 ?_
          refine j_goto (pc := 80) (tgt := 84) dX12_is_80 rfl ?_
          exact j_zret (pc := 84) ⟨rfl, rfl⟩ dX12_is_84 rfl (nar_bool (by omega) (by omega)) ⟨_, rfl, ⟨by omega, by omega⟩, rfl, by omega⟩
        · refine j_aload_n (pc := 44) dX12_is_44 rfl rfl ?_
          refine j_aload_n (pc := 45) dX12_is_45 rfl rfl ?_
          refine j_getI (pc := 46) fl_X12_94 dX12_is_46 (a_88 hM) rfl ?_
          refine j_iconst (pc := 49) dX12_is_49 ?_
          refine j_iadd (pc := 50) dX12_is_50 ?_
          refine j_callV (pc := 51) (As := [vI ((σ 88 14) + 2)]) (st := []) (c_X12_look hM ((σ 88 14) + 2) ⟨by omega, by omega⟩ σ hI) mv_X12_103 rfl rfl rfl (a_88 hM) dX12_is_51 ⟨Nat.le_of_ble_eq_true rfl, Nat.le_of_ble_eq_true rfl⟩ ⟨Nat.le_refl _, Nat.le_refl _⟩ rfl (Nat.le_of_ble_eq_true rfl) rfl (fun z16 σ17 hz16 => ?_)
          obtain ⟨r19, rfl, hr19, rfl, q18_0, q18_1⟩ := hz16
          replace q18_0 : (((σ 88 14) + 2) < σ 88 12 ∧ r19 = σ 98 ((σ 88 14) + 2).toNat) ∨ (¬ ((σ 88 14) + 2) < σ 88 12 ∧ r19 = -1) := q18_0
          replace q18_1 : r19 = fM σ ((σ 88 14) + 2) := q18_1
          refine j_st (st' := [vI r19]) rfl ?_
          refine j_iload (pc := 54) dX12_is_54 rfl ?_
          refine j_icmpR_ne (pc := 56) (tgt := 83) ⟨by omega, by omega⟩ ⟨by omega, by omega⟩ dX12_is_56 rfl (fun h20 => ?_) (fun h20 => ?_)
          · refine j_iconst (pc := 83) dX12_is_83 ?_
            exact j_zret (pc := 84) ⟨rfl, rfl⟩ dX12_is_84 rfl (nar_bool (by omega) (by omega)) ⟨_, rfl, ⟨by omega, by omega⟩, rfl, by omega⟩
          · refine j_iload_n (pc := 59) dX12_is_59 rfl rfl ?_
            refine j_iconst (pc := 60) dX12_is_60 ?_
            refine j_icmpR_lt (pc := 61) (tgt := 79) ⟨by omega, by omega⟩ ⟨by omega, by omega⟩ dX12_is_61 rfl (fun h21 => ?_) (fun h21 => ?_)
            · refine j_iconst (pc := 79) dX12_is_79 ?_
              refine j_goto (pc := 80) (tgt := 84) dX12_is_80 rfl ?_
              exact j_zret (pc := 84) ⟨rfl, rfl⟩ dX12_is_84 rfl (nar_bool (by omega) (by omega)) ⟨_, rfl, ⟨by omega, by omega⟩, rfl, by omega⟩
            · refine j_aload_n (pc := 64) dX12_is_64 rfl rfl ?_
              refine j_aload_n (pc := 65) dX12_is_65 rfl rfl ?_
              refine j_getI (pc := 66) fl_X12_94 dX12_is_66 (a_88 hM) rfl ?_
              refine j_iconst (pc := 69) dX12_is_69 ?_
              refine j_iadd (pc := 70) dX12_is_70 ?_
              refine j_callV (pc := 71) (As := [vI ((σ 88 14) + 3)]) (st := []) (c_X12_look hM ((σ 88 14) + 3) ⟨by omega, by omega⟩ σ hI) mv_X12_103 rfl rfl rfl (a_88 hM) dX12_is_71 ⟨Nat.le_of_ble_eq_true rfl, Nat.le_of_ble_eq_true rfl⟩ ⟨Nat.le_refl _, Nat.le_refl _⟩ rfl (Nat.le_of_ble_eq_true rfl) rfl (fun z22 σ23 hz22 => ?_)
              obtain ⟨r25, rfl, hr25, rfl, q24_0, q24_1⟩ := hz22
              replace q24_0 : (((σ 88 14) + 3) < σ 88 12 ∧ r25 = σ 98 ((σ 88 14) + 3).toNat) ∨ (¬ ((σ 88 14) + 3) < σ 88 12 ∧ r25 = -1) := q24_0
              replace q24_1 : r25 = fM σ ((σ 88 14) + 3) := q24_1
              refine j_st (st' := [vI r25]) rfl ?_
              refine j_iload (pc := 74) dX12_is_74 rfl ?_
              refine j_icmpR_ne (pc := 76) (tgt := 83) ⟨by omega, by omega⟩ ⟨by omega, by omega⟩ dX12_is_76 rfl (fun h26 => ?_) (fun h26 => ?_)
              · refine j_iconst (pc := 83) dX12_is_83 ?_
                exact j_zret (pc := 84) ⟨rfl, rfl⟩ dX12_is_84 rfl (nar_bool (by omega) (by omega)) ⟨_, rfl, ⟨by omega, by omega⟩, rfl, by omega⟩
              · refine j_iconst (pc := 79) dX12_is_79 ?_
                refine j_goto (pc := 80) (tgt := 84) dX12_is_80 rfl ?_
                exact j_zret (pc := 84) ⟨rfl, rfl⟩ dX12_is_84 rfl (nar_bool (by omega) (by omega)) ⟨_, rfl, ⟨by omega, by omega⟩, rfl, by omega⟩
abbrev q_X12_withNow  (σ : tw_M) : Option tw_V → tw_M → Prop := fun z τ => ∃ r : Int, z = some (vI r) ∧ (-4 ≤ r ∧ r ≤ 23) ∧ σ = τ ∧ (r = -4 ∨ 20 ≤ r) ∧ ((r = -4 ∧ wnm (fM σ) 1 (σ 88 14) (σ 88 13) = -1) ∨ (r = 20 + wnm (fM σ) 1 (σ 88 14) (σ 88 13) ∧ 0 ≤ wnm (fM σ) 1 (σ 88 14) (σ 88 13) ∧ wnm (fM σ) 1 (σ 88 14) (σ 88 13) ≤ 3))
set_option maxHeartbeats 4000000 in
set_option maxRecDepth 100000 in
theorem c_X12_withNow {G : tw_G} (hM : tw_isM G) (σ : tw_M) (hI : tw_I σ) : tw_C G yX12_withNow cX12_withNow 1 (some .int) 2 [vR 88] σ (q_X12_withNow σ) := by
  refine tw_met [(0, vR 88)] (by decide +kernel) rfl (Nat.le_of_ble_eq_true rfl) ?_
  have n10 := nmE_10 (fM σ) (σ 88 14) (σ 88 13)
  have n11 := nmE_11 (fM σ) (σ 88 14) (σ 88 13)
  have n12 := nmE_12 (fM σ) (σ 88 14) (σ 88 13)
  have n13 := nmE_13 (fM σ) (σ 88 14) (σ 88 13)
  obtain ⟨W, hW⟩ : ∃ W, W = wnm (fM σ) 1 (σ 88 14) (σ 88 13) := ⟨_, rfl⟩
  have hW2 := hW
  unfold wnm at hW2
  refine j_aload_n (pc := 0) dX12_withNow_0 rfl rfl ?_
  refine j_iconst (pc := 1) dX12_withNow_1 ?_
  refine j_bipush (pc := 2) dX12_withNow_2 rfl ?_
  refine j_bipush (pc := 4) dX12_withNow_4 rfl ?_
  refine j_bipush (pc := 6) dX12_withNow_6 rfl ?_
  refine j_bipush (pc := 8) dX12_withNow_8 rfl ?_
  refine j_callV (pc := 10) (As := [vI 5, vI 99, vI 114, vI 97, vI 99]) (st := []) (c_X12_is hM 5 ⟨by omega, by omega⟩ 99 ⟨by omega, by omega⟩ 114 ⟨by omega, by omega⟩ 97 ⟨by omega, by omega⟩ 99 ⟨by omega, by omega⟩ σ hI) mv_X12_107 rfl rfl rfl (a_88 hM) dX12_withNow_10 ⟨Nat.le_of_ble_eq_true rfl, Nat.le_of_ble_eq_true rfl⟩ ⟨Nat.le_refl _, Nat.le_refl _⟩ rfl (Nat.le_of_ble_eq_true rfl) rfl (fun z1 σ2 hz1 => ?_)
  obtain ⟨r4, rfl, hr4, rfl, q3_0⟩ := hz1
  replace q3_0 : (r4 = 1 ∧ σ 88 13 - σ 88 14 = (5 : Int) ∧ fM σ (σ 88 14) = (99 : Int) ∧ fM σ (σ 88 14 + 1) = (114 : Int) ∧ ((5 : Int) < 3 ∨ fM σ (σ 88 14 + 2) = (97 : Int)) ∧ ((5 : Int) < 4 ∨ fM σ (σ 88 14 + 3) = (99 : Int))) ∨ (r4 = 0 ∧ ¬ (σ 88 13 - σ 88 14 = (5 : Int) ∧ fM σ (σ 88 14) = (99 : Int) ∧ fM σ (σ 88 14 + 1) = (114 : Int) ∧ ((5 : Int) < 3 ∨ fM σ (σ 88 14 + 2) = (97 : Int)) ∧ ((5 : Int) < 4 ∨ fM σ (σ 88 14 + 3) = (99 : Int)))) := q3_0
  refine j_st (st' := [vI r4]) rfl ?_
  refine j_ifR_eq (pc := 13) (tgt := 34) ⟨by omega, by omega⟩ dX12_withNow_13 rfl (fun h5 => ?_) (fun h5 => ?_)
  · refine j_aload_n (pc := 34) dX12_withNow_34 rfl rfl ?_
    refine j_iconst (pc := 35) dX12_withNow_35 ?_
    refine j_bipush (pc := 36) dX12_withNow_36 rfl ?_
    refine j_bipush (pc := 38) dX12_withNow_38 rfl ?_
    refine j_bipush (pc := 40) dX12_withNow_40 rfl ?_
    refine j_bipush (pc := 42) dX12_withNow_42 rfl ?_
    refine j_callV (pc := 44) (As := [vI 5, vI 108, vI 101, vI 100, vI 103]) (st := []) (c_X12_is hM 5 ⟨by omega, by omega⟩ 108 ⟨by omega, by omega⟩ 101 ⟨by omega, by omega⟩ 100 ⟨by omega, by omega⟩ 103 ⟨by omega, by omega⟩ σ hI) mv_X12_107 rfl rfl rfl (a_88 hM) dX12_withNow_44 ⟨Nat.le_of_ble_eq_true rfl, Nat.le_of_ble_eq_true rfl⟩ ⟨Nat.le_refl _, Nat.le_refl _⟩ rfl (Nat.le_of_ble_eq_true rfl) rfl (fun z6 σ7 hz6 => ?_)
    obtain ⟨r9, rfl, hr9, rfl, q8_0⟩ := hz6
    replace q8_0 : (r9 = 1 ∧ σ 88 13 - σ 88 14 = (5 : Int) ∧ fM σ (σ 88 14) = (108 : Int) ∧ fM σ (σ 88 14 + 1) = (101 : Int) ∧ ((5 : Int) < 3 ∨ fM σ (σ 88 14 + 2) = (100 : Int)) ∧ ((5 : Int) < 4 ∨ fM σ (σ 88 14 + 3) = (103 : Int))) ∨ (r9 = 0 ∧ ¬ (σ 88 13 - σ 88 14 = (5 : Int) ∧ fM σ (σ 88 14) = (108 : Int) ∧ fM σ (σ 88 14 + 1) = (101 : Int) ∧ ((5 : Int) < 3 ∨ fM σ (σ 88 14 + 2) = (100 : Int)) ∧ ((5 : Int) < 4 ∨ fM σ (σ 88 14 + 3) = (103 : Int)))) := q8_0
    refine j_st (st' := [vI r9]) rfl ?_
    refine j_ifR_eq (pc := 47) (tgt := 68) ⟨by omega, by omega⟩ dX12_withNow_47 rfl (fun h10 => ?_) (fun h10 => ?_)
    · refine j_aload_n (pc := 68) dX12_withNow_68 rfl rfl ?_
      refine j_iconst (pc := 69) dX12_withNow_69 ?_
      refine j_bipush (pc := 70) dX12_withNow_70 rfl ?_
      refine j_bipush (pc := 72) dX12_withNow_72 rfl ?_
      refine j_bipush (pc := 74) dX12_withNow_74 rfl ?_
      refine j_bipush (pc := 76) dX12_withNow_76 rfl ?_
      refine j_callV (pc := 78) (As := [vI 4, vI 114, vI 101, vI 115, vI 116]) (st := []) (c_X12_is hM 4 ⟨by omega, by omega⟩ 114 ⟨by omega, by omega⟩ 101 ⟨by omega, by omega⟩ 115 ⟨by omega, by omega⟩ 116 ⟨by omega, by omega⟩ σ hI) mv_X12_107 rfl rfl rfl (a_88 hM) dX12_withNow_78 ⟨Nat.le_of_ble_eq_true rfl, Nat.le_of_ble_eq_true rfl⟩ ⟨Nat.le_refl _, Nat.le_refl _⟩ rfl (Nat.le_of_ble_eq_true rfl) rfl (fun z11 σ12 hz11 => ?_)
      obtain ⟨r14, rfl, hr14, rfl, q13_0⟩ := hz11
      replace q13_0 : (r14 = 1 ∧ σ 88 13 - σ 88 14 = (4 : Int) ∧ fM σ (σ 88 14) = (114 : Int) ∧ fM σ (σ 88 14 + 1) = (101 : Int) ∧ ((4 : Int) < 3 ∨ fM σ (σ 88 14 + 2) = (115 : Int)) ∧ ((4 : Int) < 4 ∨ fM σ (σ 88 14 + 3) = (116 : Int))) ∨ (r14 = 0 ∧ ¬ (σ 88 13 - σ 88 14 = (4 : Int) ∧ fM σ (σ 88 14) = (114 : Int) ∧ fM σ (σ 88 14 + 1) = (101 : Int) ∧ ((4 : Int) < 3 ∨ fM σ (σ 88 14 + 2) = (115 : Int)) ∧ ((4 : Int) < 4 ∨ fM σ (σ 88 14 + 3) = (116 : Int)))) := q13_0
      refine j_st (st' := [vI r14]) rfl ?_
      refine j_ifR_eq (pc := 81) (tgt := 89) ⟨by omega, by omega⟩ dX12_withNow_81 rfl (fun h15 => ?_) (fun h15 => ?_)
      · refine j_aload_n (pc := 89) dX12_withNow_89 rfl rfl ?_
        refine j_iconst (pc := 90) dX12_withNow_90 ?_
        refine j_bipush (pc := 91) dX12_withNow_91 rfl ?_
        refine j_bipush (pc := 93) dX12_withNow_93 rfl ?_
        refine j_bipush (pc := 95) dX12_withNow_95 rfl ?_
        refine j_bipush (pc := 97) dX12_withNow_97 rfl ?_
        refine j_callV (pc := 99) (As := [vI 4, vI 115, vI 105, vI 100, vI 101]) (st := []) (c_X12_is hM 4 ⟨by omega, by omega⟩ 115 ⟨by omega, by omega⟩ 105 ⟨by omega, by omega⟩ 100 ⟨by omega, by omega⟩ 101 ⟨by omega, by omega⟩ σ hI) mv_X12_107 rfl rfl rfl (a_88 hM) dX12_withNow_99 ⟨Nat.le_of_ble_eq_true rfl, Nat.le_of_ble_eq_true rfl⟩ ⟨Nat.le_refl _, Nat.le_refl _⟩ rfl (Nat.le_of_ble_eq_true rfl) rfl (fun z16 σ17 hz16 => ?_)
        obtain ⟨r19, rfl, hr19, rfl, q18_0⟩ := hz16
        replace q18_0 : (r19 = 1 ∧ σ 88 13 - σ 88 14 = (4 : Int) ∧ fM σ (σ 88 14) = (115 : Int) ∧ fM σ (σ 88 14 + 1) = (105 : Int) ∧ ((4 : Int) < 3 ∨ fM σ (σ 88 14 + 2) = (100 : Int)) ∧ ((4 : Int) < 4 ∨ fM σ (σ 88 14 + 3) = (101 : Int))) ∨ (r19 = 0 ∧ ¬ (σ 88 13 - σ 88 14 = (4 : Int) ∧ fM σ (σ 88 14) = (115 : Int) ∧ fM σ (σ 88 14 + 1) = (105 : Int) ∧ ((4 : Int) < 3 ∨ fM σ (σ 88 14 + 2) = (100 : Int)) ∧ ((4 : Int) < 4 ∨ fM σ (σ 88 14 + 3) = (101 : Int)))) := q18_0
        refine j_st (st' := [vI r19]) rfl ?_
        refine j_ifR_eq (pc := 102) (tgt := 110) ⟨by omega, by omega⟩ dX12_withNow_102 rfl (fun h20 => ?_) (fun h20 => ?_)
        · refine j_bipush (pc := 110) dX12_withNow_110 rfl ?_
          exact j_iret (pc := 112) ⟨rfl, rfl⟩ dX12_withNow_112 rfl ⟨_, rfl, ⟨by omega, by omega⟩, rfl, by omega, (by rw [← hW]; (repeat' split at hW2) <;> omega)⟩
        · refine j_bipush (pc := 105) dX12_withNow_105 rfl ?_
          refine j_goto (pc := 107) (tgt := 112) dX12_withNow_107 rfl ?_
          exact j_iret (pc := 112) ⟨rfl, rfl⟩ dX12_withNow_112 rfl ⟨_, rfl, ⟨by omega, by omega⟩, rfl, by omega, (by rw [← hW]; (repeat' split at hW2) <;> omega)⟩
      · refine j_bipush (pc := 84) dX12_withNow_84 rfl ?_
        refine j_goto (pc := 86) (tgt := 112) dX12_withNow_86 rfl ?_
        exact j_iret (pc := 112) ⟨rfl, rfl⟩ dX12_withNow_112 rfl ⟨_, rfl, ⟨by omega, by omega⟩, rfl, by omega, (by rw [← hW]; (repeat' split at hW2) <;> omega)⟩
    · refine j_aload_n (pc := 50) dX12_withNow_50 rfl rfl ?_
      refine j_aload_n (pc := 51) dX12_withNow_51 rfl rfl ?_
      refine j_getI (pc := 52) fl_X12_94 dX12_withNow_52 (a_88 hM) rfl ?_
      have f21 : (0 : Int) ≤ σ 88 14 ∧ σ 88 14 ≤ 400 := hI 88 14
      refine j_iconst (pc := 55) dX12_withNow_55 ?_
      refine j_iadd (pc := 56) dX12_withNow_56 ?_
      refine j_callV (pc := 57) (As := [vI ((σ 88 14) + 4)]) (st := []) (c_X12_look hM ((σ 88 14) + 4) ⟨by omega, by omega⟩ σ hI) mv_X12_103 rfl rfl rfl (a_88 hM) dX12_withNow_57 ⟨Nat.le_of_ble_eq_true rfl, Nat.le_of_ble_eq_true rfl⟩ ⟨Nat.le_refl _, Nat.le_refl _⟩ rfl (Nat.le_of_ble_eq_true rfl) rfl (fun z22 σ23 hz22 => ?_)
      obtain ⟨r25, rfl, hr25, rfl, q24_0, q24_1⟩ := hz22
      replace q24_0 : (((σ 88 14) + 4) < σ 88 12 ∧ r25 = σ 98 ((σ 88 14) + 4).toNat) ∨ (¬ ((σ 88 14) + 4) < σ 88 12 ∧ r25 = -1) := q24_0
      replace q24_1 : r25 = fM σ ((σ 88 14) + 4) := q24_1
      refine j_st (st' := [vI r25]) rfl ?_
      refine j_bipush (pc := 60) dX12_withNow_60 rfl ?_
      refine j_icmpR_ne (pc := 62) (tgt := 68) ⟨by omega, by omega⟩ ⟨by omega, by omega⟩ dX12_withNow_62 rfl (fun h26 => ?_) (fun h26 => ?_)
      · refine j_aload_n (pc := 68) dX12_withNow_68 rfl rfl ?_
        refine j_iconst (pc := 69) dX12_withNow_69 ?_
        refine j_bipush (pc := 70) dX12_withNow_70 rfl ?_
        refine j_bipush (pc := 72) dX12_withNow_72 rfl ?_
        refine j_bipush (pc := 74) dX12_withNow_74 rfl ?_
        refine j_bipush (pc := 76) dX12_withNow_76 rfl ?_
        refine j_callV (pc := 78) (As := [vI 4, vI 114, vI 101, vI 115, vI 116]) (st := []) (c_X12_is hM 4 ⟨by omega, by omega⟩ 114 ⟨by omega, by omega⟩ 101 ⟨by omega, by omega⟩ 115 ⟨by omega, by omega⟩ 116 ⟨by omega, by omega⟩ σ hI) mv_X12_107 rfl rfl rfl (a_88 hM) dX12_withNow_78 ⟨Nat.le_of_ble_eq_true rfl, Nat.le_of_ble_eq_true rfl⟩ ⟨Nat.le_refl _, Nat.le_refl _⟩ rfl (Nat.le_of_ble_eq_true rfl) rfl (fun z27 σ28 hz27 => ?_)
        obtain ⟨r30, rfl, hr30, rfl, q29_0⟩ := hz27
        replace q29_0 : (r30 = 1 ∧ σ 88 13 - σ 88 14 = (4 : Int) ∧ fM σ (σ 88 14) = (114 : Int) ∧ fM σ (σ 88 14 + 1) = (101 : Int) ∧ ((4 : Int) < 3 ∨ fM σ (σ 88 14 + 2) = (115 : Int)) ∧ ((4 : Int) < 4 ∨ fM σ (σ 88 14 + 3) = (116 : Int))) ∨ (r30 = 0 ∧ ¬ (σ 88 13 - σ 88 14 = (4 : Int) ∧ fM σ (σ 88 14) = (114 : Int) ∧ fM σ (σ 88 14 + 1) = (101 : Int) ∧ ((4 : Int) < 3 ∨ fM σ (σ 88 14 + 2) = (115 : Int)) ∧ ((4 : Int) < 4 ∨ fM σ (σ 88 14 + 3) = (116 : Int)))) := q29_0
        refine j_st (st' := [vI r30]) rfl ?_
        refine j_ifR_eq (pc := 81) (tgt := 89) ⟨by omega, by omega⟩ dX12_withNow_81 rfl (fun h31 => ?_) (fun h31 => ?_)
        · refine j_aload_n (pc := 89) dX12_withNow_89 rfl rfl ?_
          refine j_iconst (pc := 90) dX12_withNow_90 ?_
          refine j_bipush (pc := 91) dX12_withNow_91 rfl ?_
          refine j_bipush (pc := 93) dX12_withNow_93 rfl ?_
          refine j_bipush (pc := 95) dX12_withNow_95 rfl ?_
          refine j_bipush (pc := 97) dX12_withNow_97 rfl ?_
          refine j_callV (pc := 99) (As := [vI 4, vI 115, vI 105, vI 100, vI 101]) (st := []) (c_X12_is hM 4 ⟨by omega, by omega⟩ 115 ⟨by omega, by omega⟩ 105 ⟨by omega, by omega⟩ 100 ⟨by omega, by omega⟩ 101 ⟨by omega, by omega⟩ σ hI) mv_X12_107 rfl rfl rfl (a_88 hM) dX12_withNow_99 ⟨Nat.le_of_ble_eq_true rfl, Nat.le_of_ble_eq_true rfl⟩ ⟨Nat.le_refl _, Nat.le_refl _⟩ rfl (Nat.le_of_ble_eq_true rfl) rfl (fun z32 σ33 hz32 => ?_)
          obtain ⟨r35, rfl, hr35, rfl, q34_0⟩ := hz32
          replace q34_0 : (r35 = 1 ∧ σ 88 13 - σ 88 14 = (4 : Int) ∧ fM σ (σ 88 14) = (115 : Int) ∧ fM σ (σ 88 14 + 1) = (105 : Int) ∧ ((4 : Int) < 3 ∨ fM σ (σ 88 14 + 2) = (100 : Int)) ∧ ((4 : Int) < 4 ∨ fM σ (σ 88 14 + 3) = (101 : Int))) ∨ (r35 = 0 ∧ ¬ (σ 88 13 - σ 88 14 = (4 : Int) ∧ fM σ (σ 88 14) = (115 : Int) ∧ fM σ (σ 88 14 + 1) = (105 : Int) ∧ ((4 : Int) < 3 ∨ fM σ (σ 88 14 + 2) = (100 : Int)) ∧ ((4 : Int) < 4 ∨ fM σ (σ 88 14 + 3) = (101 : Int)))) := q34_0
          refine j_st (st' := [vI r35]) rfl ?_
          refine j_ifR_eq (pc := 102) (tgt := 110) ⟨by omega, by omega⟩ dX12_withNow_102 rfl (fun h36 => ?_) (fun h36 => ?_)
          · refine j_bipush (pc := 110) dX12_withNow_110 rfl ?_
            exact j_iret (pc := 112) ⟨rfl, rfl⟩ dX12_withNow_112 rfl ⟨_, rfl, ⟨by omega, by omega⟩, rfl, by omega, (by rw [← hW]; (repeat' split at hW2) <;> omega)⟩
          · refine j_bipush (pc := 105) dX12_withNow_105 rfl ?_
            refine j_goto (pc := 107) (tgt := 112) dX12_withNow_107 rfl ?_
            exact j_iret (pc := 112) ⟨rfl, rfl⟩ dX12_withNow_112 rfl ⟨_, rfl, ⟨by omega, by omega⟩, rfl, by omega, (by rw [← hW]; (repeat' split at hW2) <;> omega)⟩
        · refine j_bipush (pc := 84) dX12_withNow_84 rfl ?_
          refine j_goto (pc := 86) (tgt := 112) dX12_withNow_86 rfl ?_
          exact j_iret (pc := 112) ⟨rfl, rfl⟩ dX12_withNow_112 rfl ⟨_, rfl, ⟨by omega, by omega⟩, rfl, by omega, (by rw [← hW]; (repeat' split at hW2) <;> omega)⟩
      · refine j_bipush (pc := 65) dX12_withNow_65 rfl ?_
        exact j_iret (pc := 67) ⟨rfl, rfl⟩ dX12_withNow_67 rfl ⟨_, rfl, ⟨by omega, by omega⟩, rfl, by omega, (by rw [← hW]; (repeat' split at hW2) <;> omega)⟩
  · refine j_aload_n (pc := 16) dX12_withNow_16 rfl rfl ?_
    refine j_aload_n (pc := 17) dX12_withNow_17 rfl rfl ?_
    refine j_getI (pc := 18) fl_X12_94 dX12_withNow_18 (a_88 hM) rfl ?_
    have f37 : (0 : Int) ≤ σ 88 14 ∧ σ 88 14 ≤ 400 := hI 88 14
    refine j_iconst (pc := 21) dX12_withNow_21 ?_
    refine j_iadd (pc := 22) dX12_withNow_22 ?_
    refine j_callV (pc := 23) (As := [vI ((σ 88 14) + 4)]) (st := []) (c_X12_look hM ((σ 88 14) + 4) ⟨by omega, by omega⟩ σ hI) mv_X12_103 rfl rfl rfl (a_88 hM) dX12_withNow_23 ⟨Nat.le_of_ble_eq_true rfl, Nat.le_of_ble_eq_true rfl⟩ ⟨Nat.le_refl _, Nat.le_refl _⟩ rfl (Nat.le_of_ble_eq_true rfl) rfl (fun z38 σ39 hz38 => ?_)
    obtain ⟨r41, rfl, hr41, rfl, q40_0, q40_1⟩ := hz38
    replace q40_0 : (((σ 88 14) + 4) < σ 88 12 ∧ r41 = σ 98 ((σ 88 14) + 4).toNat) ∨ (¬ ((σ 88 14) + 4) < σ 88 12 ∧ r41 = -1) := q40_0
    replace q40_1 : r41 = fM σ ((σ 88 14) + 4) := q40_1
    refine j_st (st' := [vI r41]) rfl ?_
    refine j_bipush (pc := 26) dX12_withNow_26 rfl ?_
    refine j_icmpR_ne (pc := 28) (tgt := 34) ⟨by omega, by omega⟩ ⟨by omega, by omega⟩ dX12_withNow_28 rfl (fun h42 => ?_) (fun h42 => ?_)
    · refine j_aload_n (pc := 34) dX12_withNow_34 rfl rfl ?_
      refine j_iconst (pc := 35) dX12_withNow_35 ?_
      refine j_bipush (pc := 36) dX12_withNow_36 rfl ?_
      refine j_bipush (pc := 38) dX12_withNow_38 rfl ?_
      refine j_bipush (pc := 40) dX12_withNow_40 rfl ?_
      refine j_bipush (pc := 42) dX12_withNow_42 rfl ?_
      refine j_callV (pc := 44) (As := [vI 5, vI 108, vI 101, vI 100, vI 103]) (st := []) (c_X12_is hM 5 ⟨by omega, by omega⟩ 108 ⟨by omega, by omega⟩ 101 ⟨by omega, by omega⟩ 100 ⟨by omega, by omega⟩ 103 ⟨by omega, by omega⟩ σ hI) mv_X12_107 rfl rfl rfl (a_88 hM) dX12_withNow_44 ⟨Nat.le_of_ble_eq_true rfl, Nat.le_of_ble_eq_true rfl⟩ ⟨Nat.le_refl _, Nat.le_refl _⟩ rfl (Nat.le_of_ble_eq_true rfl) rfl (fun z43 σ44 hz43 => ?_)
      obtain ⟨r46, rfl, hr46, rfl, q45_0⟩ := hz43
      replace q45_0 : (r46 = 1 ∧ σ 88 13 - σ 88 14 = (5 : Int) ∧ fM σ (σ 88 14) = (108 : Int) ∧ fM σ (σ 88 14 + 1) = (101 : Int) ∧ ((5 : Int) < 3 ∨ fM σ (σ 88 14 + 2) = (100 : Int)) ∧ ((5 : Int) < 4 ∨ fM σ (σ 88 14 + 3) = (103 : Int))) ∨ (r46 = 0 ∧ ¬ (σ 88 13 - σ 88 14 = (5 : Int) ∧ fM σ (σ 88 14) = (108 : Int) ∧ fM σ (σ 88 14 + 1) = (101 : Int) ∧ ((5 : Int) < 3 ∨ fM σ (σ 88 14 + 2) = (100 : Int)) ∧ ((5 : Int) < 4 ∨ fM σ (σ 88 14 + 3) = (103 : Int)))) := q45_0
      refine j_st (st' := [vI r46]) rfl ?_
      refine j_ifR_eq (pc := 47) (tgt := 68) ⟨by omega, by omega⟩ dX12_withNow_47 rfl (fun h47 => ?_) (fun h47 => ?_)
      · refine j_aload_n (pc := 68) dX12_withNow_68 rfl rfl ?_
        refine j_iconst (pc := 69) dX12_withNow_69 ?_
        refine j_bipush (pc := 70) dX12_withNow_70 rfl ?_
        refine j_bipush (pc := 72) dX12_withNow_72 rfl ?_
        refine j_bipush (pc := 74) dX12_withNow_74 rfl ?_
        refine j_bipush (pc := 76) dX12_withNow_76 rfl ?_
        refine j_callV (pc := 78) (As := [vI 4, vI 114, vI 101, vI 115, vI 116]) (st := []) (c_X12_is hM 4 ⟨by omega, by omega⟩ 114 ⟨by omega, by omega⟩ 101 ⟨by omega, by omega⟩ 115 ⟨by omega, by omega⟩ 116 ⟨by omega, by omega⟩ σ hI) mv_X12_107 rfl rfl rfl (a_88 hM) dX12_withNow_78 ⟨Nat.le_of_ble_eq_true rfl, Nat.le_of_ble_eq_true rfl⟩ ⟨Nat.le_refl _, Nat.le_refl _⟩ rfl (Nat.le_of_ble_eq_true rfl) rfl (fun z48 σ49 hz48 => ?_)
        obtain ⟨r51, rfl, hr51, rfl, q50_0⟩ := hz48
        replace q50_0 : (r51 = 1 ∧ σ 88 13 - σ 88 14 = (4 : Int) ∧ fM σ (σ 88 14) = (114 : Int) ∧ fM σ (σ 88 14 + 1) = (101 : Int) ∧ ((4 : Int) < 3 ∨ fM σ (σ 88 14 + 2) = (115 : Int)) ∧ ((4 : Int) < 4 ∨ fM σ (σ 88 14 + 3) = (116 : Int))) ∨ (r51 = 0 ∧ ¬ (σ 88 13 - σ 88 14 = (4 : Int) ∧ fM σ (σ 88 14) = (114 : Int) ∧ fM σ (σ 88 14 + 1) = (101 : Int) ∧ ((4 : Int) < 3 ∨ fM σ (σ 88 14 + 2) = (115 : Int)) ∧ ((4 : Int) < 4 ∨ fM σ (σ 88 14 + 3) = (116 : Int)))) := q50_0
        refine j_st (st' := [vI r51]) rfl ?_
        refine j_ifR_eq (pc := 81) (tgt := 89) ⟨by omega, by omega⟩ dX12_withNow_81 rfl (fun h52 => ?_) (fun h52 => ?_)
        · refine j_aload_n (pc := 89) dX12_withNow_89 rfl rfl ?_
          refine j_iconst (pc := 90) dX12_withNow_90 ?_
          refine j_bipush (pc := 91) dX12_withNow_91 rfl ?_
          refine j_bipush (pc := 93) dX12_withNow_93 rfl ?_
          refine j_bipush (pc := 95) dX12_withNow_95 rfl ?_
          refine j_bipush (pc := 97) dX12_withNow_97 rfl ?_
          refine j_callV (pc := 99) (As := [vI 4, vI 115, vI 105, vI 100, vI 101]) (st := []) (c_X12_is hM 4 ⟨by omega, by omega⟩ 115 ⟨by omega, by omega⟩ 105 ⟨by omega, by omega⟩ 100 ⟨by omega, by omega⟩ 101 ⟨by omega, by omega⟩ σ hI) mv_X12_107 rfl rfl rfl (a_88 hM) dX12_withNow_99 ⟨Nat.le_of_ble_eq_true rfl, Nat.le_of_ble_eq_true rfl⟩ ⟨Nat.le_refl _, Nat.le_refl _⟩ rfl (Nat.le_of_ble_eq_true rfl) rfl (fun z53 σ54 hz53 => ?_)
          obtain ⟨r56, rfl, hr56, rfl, q55_0⟩ := hz53
          replace q55_0 : (r56 = 1 ∧ σ 88 13 - σ 88 14 = (4 : Int) ∧ fM σ (σ 88 14) = (115 : Int) ∧ fM σ (σ 88 14 + 1) = (105 : Int) ∧ ((4 : Int) < 3 ∨ fM σ (σ 88 14 + 2) = (100 : Int)) ∧ ((4 : Int) < 4 ∨ fM σ (σ 88 14 + 3) = (101 : Int))) ∨ (r56 = 0 ∧ ¬ (σ 88 13 - σ 88 14 = (4 : Int) ∧ fM σ (σ 88 14) = (115 : Int) ∧ fM σ (σ 88 14 + 1) = (105 : Int) ∧ ((4 : Int) < 3 ∨ fM σ (σ 88 14 + 2) = (100 : Int)) ∧ ((4 : Int) < 4 ∨ fM σ (σ 88 14 + 3) = (101 : Int)))) := q55_0
          refine j_st (st' := [vI r56]) rfl ?_
          refine j_ifR_eq (pc := 102) (tgt := 110) ⟨by omega, by omega⟩ dX12_withNow_102 rfl (fun h57 => ?_) (fun h57 => ?_)
          · refine j_bipush (pc := 110) dX12_withNow_110 rfl ?_
            exact j_iret (pc := 112) ⟨rfl, rfl⟩ dX12_withNow_112 rfl ⟨_, rfl, ⟨by omega, by omega⟩, rfl, by omega, (by rw [← hW]; (repeat' split at hW2) <;> omega)⟩
          · refine j_bipush (pc := 105) dX12_withNow_105 rfl ?_
            refine j_goto (pc := 107) (tgt := 112) dX12_withNow_107 rfl ?_
            exact j_iret (pc := 112) ⟨rfl, rfl⟩ dX12_withNow_112 rfl ⟨_, rfl, ⟨by omega, by omega⟩, rfl, by omega, (by rw [← hW]; (repeat' split at hW2) <;> omega)⟩
        · refine j_bipush (pc := 84) dX12_withNow_84 rfl ?_
          refine j_goto (pc := 86) (tgt := 112) dX12_withNow_86 rfl ?_
          exact j_iret (pc := 112) ⟨rfl, rfl⟩ dX12_withNow_112 rfl ⟨_, rfl, ⟨by omega, by omega⟩, rfl, by omega, (by rw [← hW]; (repeat' split at hW2) <;> omega)⟩
      · refine j_aload_n (pc := 50) dX12_withNow_50 rfl rfl ?_
        refine j_aload_n (pc := 51) dX12_withNow_51 rfl rfl ?_
        refine j_getI (pc := 52) fl_X12_94 dX12_withNow_52 (a_88 hM) rfl ?_
        refine j_iconst (pc := 55) dX12_withNow_55 ?_
        refine j_iadd (pc := 56) dX12_withNow_56 ?_
        refine j_callV (pc := 57) (As := [vI ((σ 88 14) + 4)]) (st := []) (c_X12_look hM ((σ 88 14) + 4) ⟨by omega, by omega⟩ σ hI) mv_X12_103 rfl rfl rfl (a_88 hM) dX12_withNow_57 ⟨Nat.le_of_ble_eq_true rfl, Nat.le_of_ble_eq_true rfl⟩ ⟨Nat.le_refl _, Nat.le_refl _⟩ rfl (Nat.le_of_ble_eq_true rfl) rfl (fun z58 σ59 hz58 => ?_)
        obtain ⟨r61, rfl, hr61, rfl, q60_0, q60_1⟩ := hz58
        replace q60_0 : (((σ 88 14) + 4) < σ 88 12 ∧ r61 = σ 98 ((σ 88 14) + 4).toNat) ∨ (¬ ((σ 88 14) + 4) < σ 88 12 ∧ r61 = -1) := q60_0
        replace q60_1 : r61 = fM σ ((σ 88 14) + 4) := q60_1
        refine j_st (st' := [vI r61]) rfl ?_
        refine j_bipush (pc := 60) dX12_withNow_60 rfl ?_
        refine j_icmpR_ne (pc := 62) (tgt := 68) ⟨by omega, by omega⟩ ⟨by omega, by omega⟩ dX12_withNow_62 rfl (fun h62 => ?_) (fun h62 => ?_)
        · refine j_aload_n (pc := 68) dX12_withNow_68 rfl rfl ?_
          refine j_iconst (pc := 69) dX12_withNow_69 ?_
          refine j_bipush (pc := 70) dX12_withNow_70 rfl ?_
          refine j_bipush (pc := 72) dX12_withNow_72 rfl ?_
          refine j_bipush (pc := 74) dX12_withNow_74 rfl ?_
          refine j_bipush (pc := 76) dX12_withNow_76 rfl ?_
          refine j_callV (pc := 78) (As := [vI 4, vI 114, vI 101, vI 115, vI 116]) (st := []) (c_X12_is hM 4 ⟨by omega, by omega⟩ 114 ⟨by omega, by omega⟩ 101 ⟨by omega, by omega⟩ 115 ⟨by omega, by omega⟩ 116 ⟨by omega, by omega⟩ σ hI) mv_X12_107 rfl rfl rfl (a_88 hM) dX12_withNow_78 ⟨Nat.le_of_ble_eq_true rfl, Nat.le_of_ble_eq_true rfl⟩ ⟨Nat.le_refl _, Nat.le_refl _⟩ rfl (Nat.le_of_ble_eq_true rfl) rfl (fun z63 σ64 hz63 => ?_)
          obtain ⟨r66, rfl, hr66, rfl, q65_0⟩ := hz63
          replace q65_0 : (r66 = 1 ∧ σ 88 13 - σ 88 14 = (4 : Int) ∧ fM σ (σ 88 14) = (114 : Int) ∧ fM σ (σ 88 14 + 1) = (101 : Int) ∧ ((4 : Int) < 3 ∨ fM σ (σ 88 14 + 2) = (115 : Int)) ∧ ((4 : Int) < 4 ∨ fM σ (σ 88 14 + 3) = (116 : Int))) ∨ (r66 = 0 ∧ ¬ (σ 88 13 - σ 88 14 = (4 : Int) ∧ fM σ (σ 88 14) = (114 : Int) ∧ fM σ (σ 88 14 + 1) = (101 : Int) ∧ ((4 : Int) < 3 ∨ fM σ (σ 88 14 + 2) = (115 : Int)) ∧ ((4 : Int) < 4 ∨ fM σ (σ 88 14 + 3) = (116 : Int)))) := q65_0
          refine j_st (st' := [vI r66]) rfl ?_
          refine j_ifR_eq (pc := 81) (tgt := 89) ⟨by omega, by omega⟩ dX12_withNow_81 rfl (fun h67 => ?_) (fun h67 => ?_)
          · refine j_aload_n (pc := 89) dX12_withNow_89 rfl rfl ?_
            refine j_iconst (pc := 90) dX12_withNow_90 ?_
            refine j_bipush (pc := 91) dX12_withNow_91 rfl ?_
            refine j_bipush (pc := 93) dX12_withNow_93 rfl ?_
            refine j_bipush (pc := 95) dX12_withNow_95 rfl ?_
            refine j_bipush (pc := 97) dX12_withNow_97 rfl ?_
            refine j_callV (pc := 99) (As := [vI 4, vI 115, vI 105, vI 100, vI 101]) (st := []) (c_X12_is hM 4 ⟨by omega, by omega⟩ 115 ⟨by omega, by omega⟩ 105 ⟨by omega, by omega⟩ 100 ⟨by omega, by omega⟩ 101 ⟨by omega, by omega⟩ σ hI) mv_X12_107 rfl rfl rfl (a_88 hM) dX12_withNow_99 ⟨Nat.le_of_ble_eq_true rfl, Nat.le_of_ble_eq_true rfl⟩ ⟨Nat.le_refl _, Nat.le_refl _⟩ rfl (Nat.le_of_ble_eq_true rfl) rfl (fun z68 σ69 hz68 => ?_)
            obtain ⟨r71, rfl, hr71, rfl, q70_0⟩ := hz68
            replace q70_0 : (r71 = 1 ∧ σ 88 13 - σ 88 14 = (4 : Int) ∧ fM σ (σ 88 14) = (115 : Int) ∧ fM σ (σ 88 14 + 1) = (105 : Int) ∧ ((4 : Int) < 3 ∨ fM σ (σ 88 14 + 2) = (100 : Int)) ∧ ((4 : Int) < 4 ∨ fM σ (σ 88 14 + 3) = (101 : Int))) ∨ (r71 = 0 ∧ ¬ (σ 88 13 - σ 88 14 = (4 : Int) ∧ fM σ (σ 88 14) = (115 : Int) ∧ fM σ (σ 88 14 + 1) = (105 : Int) ∧ ((4 : Int) < 3 ∨ fM σ (σ 88 14 + 2) = (100 : Int)) ∧ ((4 : Int) < 4 ∨ fM σ (σ 88 14 + 3) = (101 : Int)))) := q70_0
            refine j_st (st' := [vI r71]) rfl ?_
            refine j_ifR_eq (pc := 102) (tgt := 110) ⟨by omega, by omega⟩ dX12_withNow_102 rfl (fun h72 => ?_) (fun h72 => ?_)
            · refine j_bipush (pc := 110) dX12_withNow_110 rfl ?_
              exact j_iret (pc := 112) ⟨rfl, rfl⟩ dX12_withNow_112 rfl ⟨_, rfl, ⟨by omega, by omega⟩, rfl, by omega, (by rw [← hW]; (repeat' split at hW2) <;> omega)⟩
            · refine j_bipush (pc := 105) dX12_withNow_105 rfl ?_
              refine j_goto (pc := 107) (tgt := 112) dX12_withNow_107 rfl ?_
              exact j_iret (pc := 112) ⟨rfl, rfl⟩ dX12_withNow_112 rfl ⟨_, rfl, ⟨by omega, by omega⟩, rfl, by omega, (by rw [← hW]; (repeat' split at hW2) <;> omega)⟩
          · refine j_bipush (pc := 84) dX12_withNow_84 rfl ?_
            refine j_goto (pc := 86) (tgt := 112) dX12_withNow_86 rfl ?_
            exact j_iret (pc := 112) ⟨rfl, rfl⟩ dX12_withNow_112 rfl ⟨_, rfl, ⟨by omega, by omega⟩, rfl, by omega, (by rw [← hW]; (repeat' split at hW2) <;> omega)⟩
        · refine j_bipush (pc := 65) dX12_withNow_65 rfl ?_
          exact j_iret (pc := 67) ⟨rfl, rfl⟩ dX12_withNow_67 rfl ⟨_, rfl, ⟨by omega, by omega⟩, rfl, by omega, (by rw [← hW]; (repeat' split at hW2) <;> omega)⟩
    · refine j_bipush (pc := 31) dX12_withNow_31 rfl ?_
      exact j_iret (pc := 33) ⟨rfl, rfl⟩ dX12_withNow_33 rfl ⟨_, rfl, ⟨by omega, by omega⟩, rfl, by omega, (by rw [← hW]; (repeat' split at hW2) <;> omega)⟩
abbrev q_X12_nameNow  (σ : tw_M) : Option tw_V → tw_M → Prop := fun z τ => ∃ r : Int, z = some (vI r) ∧ (-4 ≤ r ∧ r ≤ 23) ∧ σ = τ ∧ ((lnm (fM σ) 1 (σ 88 14) (σ 88 13) = -1 ∧ (r = -4 ∨ 20 ≤ r)) ∨ (lnm (fM σ) 1 (σ 88 14) (σ 88 13) = 9 ∧ r = 10) ∨ (lnm (fM σ) 1 (σ 88 14) (σ 88 13) = 10 ∧ r = 11) ∨ (0 ≤ lnm (fM σ) 1 (σ 88 14) (σ 88 13) ∧ lnm (fM σ) 1 (σ 88 14) (σ 88 13) ≤ 8 ∧ ¬ lnm (fM σ) 1 (σ 88 14) (σ 88 13) = 6 ∧ r = lnm (fM σ) 1 (σ 88 14) (σ 88 13)))
set_option maxHeartbeats 4000000 in
set_option maxRecDepth 100000 in
theorem c_X12_nameNow {G : tw_G} (hM : tw_isM G) (σ : tw_M) (hI : tw_I σ) : tw_C G yX12_nameNow cX12_nameNow 1 (some .int) 3 [vR 88] σ (q_X12_nameNow σ) := by
  refine tw_met [(0, vR 88)] (by decide +kernel) rfl (Nat.le_of_ble_eq_true rfl) ?_
  have n0 := nmE_0 (fM σ) (σ 88 14) (σ 88 13)
  have n1 := nmE_1 (fM σ) (σ 88 14) (σ 88 13)
  have n2 := nmE_2 (fM σ) (σ 88 14) (σ 88 13)
  have n3 := nmE_3 (fM σ) (σ 88 14) (σ 88 13)
  have n4 := nmE_4 (fM σ) (σ 88 14) (σ 88 13)
  have n5 := nmE_5 (fM σ) (σ 88 14) (σ 88 13)
  have n6 := nmE_6 (fM σ) (σ 88 14) (σ 88 13)
  have n7 := nmE_7 (fM σ) (σ 88 14) (σ 88 13)
  have n8 := nmE_8 (fM σ) (σ 88 14) (σ 88 13)
  have n9 := nmE_9 (fM σ) (σ 88 14) (σ 88 13)
  obtain ⟨W, hW⟩ : ∃ W, W = lnm (fM σ) 1 (σ 88 14) (σ 88 13) := ⟨_, rfl⟩
  have hW2 := hW
  unfold lnm at hW2
  refine j_aload_n (pc := 0) dX12_nameNow_0 rfl rfl ?_
  refine j_iconst (pc := 1) dX12_nameNow_1 ?_
  refine j_bipush (pc := 2) dX12_nameNow_2 rfl ?_
  refine j_bipush (pc := 4) dX12_nameNow_4 rfl ?_
  refine j_iconst (pc := 6) dX12_nameNow_6 ?_
  refine j_iconst (pc := 7) dX12_nameNow_7 ?_
  refine j_callV (pc := 8) (As := [vI 2, vI 97, vI 116, vI 0, vI 0]) (st := []) (c_X12_is hM 2 ⟨by omega, by omega⟩ 97 ⟨by omega, by omega⟩ 116 ⟨by omega, by omega⟩ 0 ⟨by omega, by omega⟩ 0 ⟨by omega, by omega⟩ σ hI) mv_X12_107 rfl rfl rfl (a_88 hM) dX12_nameNow_8 ⟨Nat.le_of_ble_eq_true rfl, Nat.le_of_ble_eq_true rfl⟩ ⟨Nat.le_refl _, Nat.le_refl _⟩ rfl (Nat.le_of_ble_eq_true rfl) rfl (fun z1 σ2 hz1 => ?_)
  obtain ⟨r4, rfl, hr4, rfl, q3_0⟩ := hz1
  replace q3_0 : (r4 = 1 ∧ σ 88 13 - σ 88 14 = (2 : Int) ∧ fM σ (σ 88 14) = (97 : Int) ∧ fM σ (σ 88 14 + 1) = (116 : Int) ∧ ((2 : Int) < 3 ∨ fM σ (σ 88 14 + 2) = (0 : Int)) ∧ ((2 : Int) < 4 ∨ fM σ (σ 88 14 + 3) = (0 : Int))) ∨ (r4 = 0 ∧ ¬ (σ 88 13 - σ 88 14 = (2 : Int) ∧ fM σ (σ 88 14) = (97 : Int) ∧ fM σ (σ 88 14 + 1) = (116 : Int) ∧ ((2 : Int) < 3 ∨ fM σ (σ 88 14 + 2) = (0 : Int)) ∧ ((2 : Int) < 4 ∨ fM σ (σ 88 14 + 3) = (0 : Int)))) := q3_0
  refine j_st (st' := [vI r4]) rfl ?_
  refine j_ifR_eq (pc := 11) (tgt := 17) ⟨by omega, by omega⟩ dX12_nameNow_11 rfl (fun h5 => ?_) (fun h5 => ?_)
  · refine j_aload_n (pc := 17) dX12_nameNow_17 rfl rfl ?_
    refine j_iconst (pc := 18) dX12_nameNow_18 ?_
    refine j_bipush (pc := 19) dX12_nameNow_19 rfl ?_
    refine j_bipush (pc := 21) dX12_nameNow_21 rfl ?_
    refine j_bipush (pc := 23) dX12_nameNow_23 rfl ?_
    refine j_bipush (pc := 25) dX12_nameNow_25 rfl ?_
    refine j_callV (pc := 27) (As := [vI 4, vI 114, vI 97, vI 99, vI 107]) (st := []) (c_X12_is hM 4 ⟨by omega, by omega⟩ 114 ⟨by omega, by omega⟩ 97 ⟨by omega, by omega⟩ 99 ⟨by omega, by omega⟩ 107 ⟨by omega, by omega⟩ σ hI) mv_X12_107 rfl rfl rfl (a_88 hM) dX12_nameNow_27 ⟨Nat.le_of_ble_eq_true rfl, Nat.le_of_ble_eq_true rfl⟩ ⟨Nat.le_refl _, Nat.le_refl _⟩ rfl (Nat.le_of_ble_eq_true rfl) rfl (fun z6 σ7 hz6 => ?_)
    obtain ⟨r9, rfl, hr9, rfl, q8_0⟩ := hz6
    replace q8_0 : (r9 = 1 ∧ σ 88 13 - σ 88 14 = (4 : Int) ∧ fM σ (σ 88 14) = (114 : Int) ∧ fM σ (σ 88 14 + 1) = (97 : Int) ∧ ((4 : Int) < 3 ∨ fM σ (σ 88 14 + 2) = (99 : Int)) ∧ ((4 : Int) < 4 ∨ fM σ (σ 88 14 + 3) = (107 : Int))) ∨ (r9 = 0 ∧ ¬ (σ 88 13 - σ 88 14 = (4 : Int) ∧ fM σ (σ 88 14) = (114 : Int) ∧ fM σ (σ 88 14 + 1) = (97 : Int) ∧ ((4 : Int) < 3 ∨ fM σ (σ 88 14 + 2) = (99 : Int)) ∧ ((4 : Int) < 4 ∨ fM σ (σ 88 14 + 3) = (107 : Int)))) := q8_0
    refine j_st (st' := [vI r9]) rfl ?_
    refine j_ifR_eq (pc := 30) (tgt := 36) ⟨by omega, by omega⟩ dX12_nameNow_30 rfl (fun h10 => ?_) (fun h10 => ?_)
    · refine j_aload_n (pc := 36) dX12_nameNow_36 rfl rfl ?_
      refine j_iconst (pc := 37) dX12_nameNow_37 ?_
      refine j_bipush (pc := 38) dX12_nameNow_38 rfl ?_
      refine j_bipush (pc := 40) dX12_nameNow_40 rfl ?_
      refine j_bipush (pc := 42) dX12_nameNow_42 rfl ?_
      refine j_iconst (pc := 44) dX12_nameNow_44 ?_
      refine j_callV (pc := 45) (As := [vI 3, vI 116, vI 111, vI 112, vI 0]) (st := []) (c_X12_is hM 3 ⟨by omega, by omega⟩ 116 ⟨by omega, by omega⟩ 111 ⟨by omega, by omega⟩ 112 ⟨by omega, by omega⟩ 0 ⟨by omega, by omega⟩ σ hI) mv_X12_107 rfl rfl rfl (a_88 hM) dX12_nameNow_45 ⟨Nat.le_of_ble_eq_true rfl, Nat.le_of_ble_eq_true rfl⟩ ⟨Nat.le_refl _, Nat.le_refl _⟩ rfl (Nat.le_of_ble_eq_true rfl) rfl (fun z11 σ12 hz11 => ?_)
      obtain ⟨r14, rfl, hr14, rfl, q13_0⟩ := hz11
      replace q13_0 : (r14 = 1 ∧ σ 88 13 - σ 88 14 = (3 : Int) ∧ fM σ (σ 88 14) = (116 : Int) ∧ fM σ (σ 88 14 + 1) = (111 : Int) ∧ ((3 : Int) < 3 ∨ fM σ (σ 88 14 + 2) = (112 : Int)) ∧ ((3 : Int) < 4 ∨ fM σ (σ 88 14 + 3) = (0 : Int))) ∨ (r14 = 0 ∧ ¬ (σ 88 13 - σ 88 14 = (3 : Int) ∧ fM σ (σ 88 14) = (116 : Int) ∧ fM σ (σ 88 14 + 1) = (111 : Int) ∧ ((3 : Int) < 3 ∨ fM σ (σ 88 14 + 2) = (112 : Int)) ∧ ((3 : Int) < 4 ∨ fM σ (σ 88 14 + 3) = (0 : Int)))) := q13_0
      refine j_st (st' := [vI r14]) rfl ?_
      refine j_ifR_eq (pc := 48) (tgt := 53) ⟨by omega, by omega⟩ dX12_nameNow_48 rfl (fun h15 => ?_) (fun h15 => ?_)
      · refine j_aload_n (pc := 53) dX12_nameNow_53 rfl rfl ?_
        refine j_bipush (pc := 54) dX12_nameNow_54 rfl ?_
        refine j_bipush (pc := 56) dX12_nameNow_56 rfl ?_
        refine j_bipush (pc := 58) dX12_nameNow_58 rfl ?_
        refine j_bipush (pc := 60) dX12_nameNow_60 rfl ?_
        refine j_bipush (pc := 62) dX12_nameNow_62 rfl ?_
        refine j_callV (pc := 64) (As := [vI 8, vI 115, vI 116, vI 114, vI 101]) (st := []) (c_X12_is hM 8 ⟨by omega, by omega⟩ 115 ⟨by omega, by omega⟩ 116 ⟨by omega, by omega⟩ 114 ⟨by omega, by omega⟩ 101 ⟨by omega, by omega⟩ σ hI) mv_X12_107 rfl rfl rfl (a_88 hM) dX12_nameNow_64 ⟨Nat.le_of_ble_eq_true rfl, Nat.le_of_ble_eq_true rfl⟩ ⟨Nat.le_refl _, Nat.le_refl _⟩ rfl (Nat.le_of_ble_eq_true rfl) rfl (fun z16 σ17 hz16 => ?_)
        obtain ⟨r19, rfl, hr19, rfl, q18_0⟩ := hz16
        replace q18_0 : (r19 = 1 ∧ σ 88 13 - σ 88 14 = (8 : Int) ∧ fM σ (σ 88 14) = (115 : Int) ∧ fM σ (σ 88 14 + 1) = (116 : Int) ∧ ((8 : Int) < 3 ∨ fM σ (σ 88 14 + 2) = (114 : Int)) ∧ ((8 : Int) < 4 ∨ fM σ (σ 88 14 + 3) = (101 : Int))) ∨ (r19 = 0 ∧ ¬ (σ 88 13 - σ 88 14 = (8 : Int) ∧ fM σ (σ 88 14) = (115 : Int) ∧ fM σ (σ 88 14 + 1) = (116 : Int) ∧ ((8 : Int) < 3 ∨ fM σ (σ 88 14 + 2) = (114 : Int)) ∧ ((8 : Int) < 4 ∨ fM σ (σ 88 14 + 3) = (101 : Int)))) := q18_0
        refine j_st (st' := [vI r19]) rfl ?_
        refine j_ifR_eq (pc := 67) (tgt := 134) ⟨by omega, by omega⟩ dX12_nameNow_67 rfl (fun h20 => ?_) (fun h20 => ?_)
        · refine j_aload_n (pc := 134) dX12_nameNow_134 rfl rfl ?_
          refine j_iconst (pc := 135) dX12_nameNow_135 ?_
          refine j_bipush (pc := 136) dX12_nameNow_136 rfl ?_
          refine j_bipush (pc := 138) dX12_nameNow_138 rfl ?_
          refine j_bipush (pc := 140) dX12_nameNow_140 rfl ?_
          refine j_bipush (pc := 142) dX12_nameNow_142 rfl ?_
          refine j_callV (pc := 144) (As := [vI 5, vI 112, vI 108, vI 97, vI 99]) (st := []) (c_X12_is hM 5 ⟨by omega, by omega⟩ 112 ⟨by omega, by omega⟩ 108 ⟨by omega, by omega⟩ 97 ⟨by omega, by omega⟩ 99 ⟨by omega, by omega⟩ σ hI) mv_X12_107 rfl rfl rfl (a_88 hM) dX12_nameNow_144 ⟨Nat.le_of_ble_eq_true rfl, Nat.le_of_ble_eq_true rfl⟩ ⟨Nat.le_refl _, Nat.le_refl _⟩ rfl (Nat.le_of_ble_eq_true rfl) rfl (fun z21 σ22 hz21 => ?_)
          obtain ⟨r24, rfl, hr24, rfl, q23_0⟩ := hz21
          replace q23_0 : (r24 = 1 ∧ σ 88 13 - σ 88 14 = (5 : Int) ∧ fM σ (σ 88 14) = (112 : Int) ∧ fM σ (σ 88 14 + 1) = (108 : Int) ∧ ((5 : Int) < 3 ∨ fM σ (σ 88 14 + 2) = (97 : Int)) ∧ ((5 : Int) < 4 ∨ fM σ (σ 88 14 + 3) = (99 : Int))) ∨ (r24 = 0 ∧ ¬ (σ 88 13 - σ 88 14 = (5 : Int) ∧ fM σ (σ 88 14) = (112 : Int) ∧ fM σ (σ 88 14 + 1) = (108 : Int) ∧ ((5 : Int) < 3 ∨ fM σ (σ 88 14 + 2) = (97 : Int)) ∧ ((5 : Int) < 4 ∨ fM σ (σ 88 14 + 3) = (99 : Int)))) := q23_0
          refine j_st (st' := [vI r24]) rfl ?_
          refine j_ifR_eq (pc := 147) (tgt := 167) ⟨by omega, by omega⟩ dX12_nameNow_147 rfl (fun h25 => ?_) (fun h25 => ?_)
          · refine j_aload_n (pc := 167) dX12_nameNow_167 rfl rfl ?_
            refine j_iconst (pc := 168) dX12_nameNow_168 ?_
            refine j_bipush (pc := 169) dX12_nameNow_169 rfl ?_
            refine j_bipush (pc := 171) dX12_nameNow_171 rfl ?_
            refine j_bipush (pc := 173) dX12_nameNow_173 rfl ?_
            refine j_bipush (pc := 175) dX12_nameNow_175 rfl ?_
            refine j_callV (pc := 177) (As := [vI 4, vI 114, vI 111, vI 112, vI 101]) (st := []) (c_X12_is hM 4 ⟨by omega, by omega⟩ 114 ⟨by omega, by omega⟩ 111 ⟨by omega, by omega⟩ 112 ⟨by omega, by omega⟩ 101 ⟨by omega, by omega⟩ σ hI) mv_X12_107 rfl rfl rfl (a_88 hM) dX12_nameNow_177 ⟨Nat.le_of_ble_eq_true rfl, Nat.le_of_ble_eq_true rfl⟩ ⟨Nat.le_refl _, Nat.le_refl _⟩ rfl (Nat.le_of_ble_eq_true rfl) rfl (fun z26 σ27 hz26 => ?_)
            obtain ⟨r29, rfl, hr29, rfl, q28_0⟩ := hz26
            replace q28_0 : (r29 = 1 ∧ σ 88 13 - σ 88 14 = (4 : Int) ∧ fM σ (σ 88 14) = (114 : Int) ∧ fM σ (σ 88 14 + 1) = (111 : Int) ∧ ((4 : Int) < 3 ∨ fM σ (σ 88 14 + 2) = (112 : Int)) ∧ ((4 : Int) < 4 ∨ fM σ (σ 88 14 + 3) = (101 : Int))) ∨ (r29 = 0 ∧ ¬ (σ 88 13 - σ 88 14 = (4 : Int) ∧ fM σ (σ 88 14) = (114 : Int) ∧ fM σ (σ 88 14 + 1) = (111 : Int) ∧ ((4 : Int) < 3 ∨ fM σ (σ 88 14 + 2) = (112 : Int)) ∧ ((4 : Int) < 4 ∨ fM σ (σ 88 14 + 3) = (101 : Int)))) := q28_0
            refine j_st (st' := [vI r29]) rfl ?_
            refine j_ifR_eq (pc := 180) (tgt := 185) ⟨by omega, by omega⟩ dX12_nameNow_180 rfl (fun h30 => ?_) (fun h30 => ?_)
            · refine j_aload_n (pc := 185) dX12_nameNow_185 rfl rfl ?_
              refine j_iconst (pc := 186) dX12_nameNow_186 ?_
              refine j_bipush (pc := 187) dX12_nameNow_187 rfl ?_
              refine j_bipush (pc := 189) dX12_nameNow_189 rfl ?_
              refine j_bipush (pc := 191) dX12_nameNow_191 rfl ?_
              refine j_bipush (pc := 193) dX12_nameNow_193 rfl ?_
              refine j_callV (pc := 195) (As := [vI 4, vI 103, vI 105, vI 118, vI 101]) (st := []) (c_X12_is hM 4 ⟨by omega, by omega⟩ 103 ⟨by omega, by omega⟩ 105 ⟨by omega, by omega⟩ 118 ⟨by omega, by omega⟩ 101 ⟨by omega, by omega⟩ σ hI) mv_X12_107 rfl rfl rfl (a_88 hM) dX12_nameNow_195 ⟨Nat.le_of_ble_eq_true rfl, Nat.le_of_ble_eq_true rfl⟩ ⟨Nat.le_refl _, Nat.le_refl _⟩ rfl (Nat.le_of_ble_eq_true rfl) rfl (fun z31 σ32 hz31 => ?_)
              obtain ⟨r34, rfl, hr34, rfl, q33_0⟩ := hz31
              replace q33_0 : (r34 = 1 ∧ σ 88 13 - σ 88 14 = (4 : Int) ∧ fM σ (σ 88 14) = (103 : Int) ∧ fM σ (σ 88 14 + 1) = (105 : Int) ∧ ((4 : Int) < 3 ∨ fM σ (σ 88 14 + 2) = (118 : Int)) ∧ ((4 : Int) < 4 ∨ fM σ (σ 88 14 + 3) = (101 : Int))) ∨ (r34 = 0 ∧ ¬ (σ 88 13 - σ 88 14 = (4 : Int) ∧ fM σ (σ 88 14) = (103 : Int) ∧ fM σ (σ 88 14 + 1) = (105 : Int) ∧ ((4 : Int) < 3 ∨ fM σ (σ 88 14 + 2) = (118 : Int)) ∧ ((4 : Int) < 4 ∨ fM σ (σ 88 14 + 3) = (101 : Int)))) := q33_0
              refine j_st (st' := [vI r34]) rfl ?_
              refine j_ifR_eq (pc := 198) (tgt := 203) ⟨by omega, by omega⟩ dX12_nameNow_198 rfl (fun h35 => ?_) (fun h35 => ?_)
              · refine j_aload_n (pc := 203) dX12_nameNow_203 rfl rfl ?_
                refine j_iconst (pc := 204) dX12_nameNow_204 ?_
                refine j_bipush (pc := 205) dX12_nameNow_205 rfl ?_
                refine j_bipush (pc := 207) dX12_nameNow_207 rfl ?_
                refine j_bipush (pc := 209) dX12_nameNow_209 rfl ?_
                refine j_bipush (pc := 211) dX12_nameNow_211 rfl ?_
                refine j_callV (pc := 213) (As := [vI 4, vI 102, vI 105, vI 116, vI 115]) (st := []) (c_X12_is hM 4 ⟨by omega, by omega⟩ 102 ⟨by omega, by omega⟩ 105 ⟨by omega, by omega⟩ 116 ⟨by omega, by omega⟩ 115 ⟨by omega, by omega⟩ σ hI) mv_X12_107 rfl rfl rfl (a_88 hM) dX12_nameNow_213 ⟨Nat.le_of_ble_eq_true rfl, Nat.le_of_ble_eq_true rfl⟩ ⟨Nat.le_refl _, Nat.le_refl _⟩ rfl (Nat.le_of_ble_eq_true rfl) rfl (fun z36 σ37 hz36 => ?_)
                obtain ⟨r39, rfl, hr39, rfl, q38_0⟩ := hz36
                replace q38_0 : (r39 = 1 ∧ σ 88 13 - σ 88 14 = (4 : Int) ∧ fM σ (σ 88 14) = (102 : Int) ∧ fM σ (σ 88 14 + 1) = (105 : Int) ∧ ((4 : Int) < 3 ∨ fM σ (σ 88 14 + 2) = (116 : Int)) ∧ ((4 : Int) < 4 ∨ fM σ (σ 88 14 + 3) = (115 : Int))) ∨ (r39 = 0 ∧ ¬ (σ 88 13 - σ 88 14 = (4 : Int) ∧ fM σ (σ 88 14) = (102 : Int) ∧ fM σ (σ 88 14 + 1) = (105 : Int) ∧ ((4 : Int) < 3 ∨ fM σ (σ 88 14 + 2) = (116 : Int)) ∧ ((4 : Int) < 4 ∨ fM σ (σ 88 14 + 3) = (115 : Int)))) := q38_0
                refine j_st (st' := [vI r39]) rfl ?_
                refine j_ifR_eq (pc := 216) (tgt := 221) ⟨by omega, by omega⟩ dX12_nameNow_216 rfl (fun h40 => ?_) (fun h40 => ?_)
                · refine j_aload_n (pc := 221) dX12_nameNow_221 rfl rfl ?_
                  refine j_iconst (pc := 222) dX12_nameNow_222 ?_
                  refine j_bipush (pc := 223) dX12_nameNow_223 rfl ?_
                  refine j_bipush (pc := 225) dX12_nameNow_225 rfl ?_
                  refine j_bipush (pc := 227) dX12_nameNow_227 rfl ?_
                  refine j_bipush (pc := 229) dX12_nameNow_229 rfl ?_
                  refine j_callV (pc := 231) (As := [vI 5, vI 104, vI 111, vI 108, vI 100]) (st := []) (c_X12_is hM 5 ⟨by omega, by omega⟩ 104 ⟨by omega, by omega⟩ 111 ⟨by omega, by omega⟩ 108 ⟨by omega, by omega⟩ 100 ⟨by omega, by omega⟩ σ hI) mv_X12_107 rfl rfl rfl (a_88 hM) dX12_nameNow_231 ⟨Nat.le_of_ble_eq_true rfl, Nat.le_of_ble_eq_true rfl⟩ ⟨Nat.le_refl _, Nat.le_refl _⟩ rfl (Nat.le_of_ble_eq_true rfl) rfl (fun z41 σ42 hz41 => ?_)
                  obtain ⟨r44, rfl, hr44, rfl, q43_0⟩ := hz41
                  replace q43_0 : (r44 = 1 ∧ σ 88 13 - σ 88 14 = (5 : Int) ∧ fM σ (σ 88 14) = (104 : Int) ∧ fM σ (σ 88 14 + 1) = (111 : Int) ∧ ((5 : Int) < 3 ∨ fM σ (σ 88 14 + 2) = (108 : Int)) ∧ ((5 : Int) < 4 ∨ fM σ (σ 88 14 + 3) = (100 : Int))) ∨ (r44 = 0 ∧ ¬ (σ 88 13 - σ 88 14 = (5 : Int) ∧ fM σ (σ 88 14) = (104 : Int) ∧ fM σ (σ 88 14 + 1) = (111 : Int) ∧ ((5 : Int) < 3 ∨ fM σ (σ 88 14 + 2) = (108 : Int)) ∧ ((5 : Int) < 4 ∨ fM σ (σ 88 14 + 3) = (100 : Int)))) := q43_0
                  refine j_st (st' := [vI r44]) rfl ?_
                  refine j_ifR_eq (pc := 234) (tgt := 255) ⟨by omega, by omega⟩ dX12_nameNow_234 rfl (fun h45 => ?_) (fun h45 => ?_)
                  · refine j_aload_n (pc := 255) dX12_nameNow_255 rfl rfl ?_
                    refine j_iconst (pc := 256) dX12_nameNow_256 ?_
                    refine j_bipush (pc := 257) dX12_nameNow_257 rfl ?_
                    refine j_bipush (pc := 259) dX12_nameNow_259 rfl ?_
                    refine j_bipush (pc := 261) dX12_nameNow_261 rfl ?_
                    refine j_iconst (pc := 263) dX12_nameNow_263 ?_
                    refine j_callV (pc := 264) (As := [vI 3, vI 108, vI 111, vI 119, vI 0]) (st := []) (c_X12_is hM 3 ⟨by omega, by omega⟩ 108 ⟨by omega, by omega⟩ 111 ⟨by omega, by omega⟩ 119 ⟨by omega, by omega⟩ 0 ⟨by omega, by omega⟩ σ hI) mv_X12_107 rfl rfl rfl (a_88 hM) dX12_nameNow_264 ⟨Nat.le_of_ble_eq_true rfl, Nat.le_of_ble_eq_true rfl⟩ ⟨Nat.le_refl _, Nat.le_refl _⟩ rfl (Nat.le_of_ble_eq_true rfl) rfl (fun z46 σ47 hz46 => ?_)
                    obtain ⟨r49, rfl, hr49, rfl, q48_0⟩ := hz46
                    replace q48_0 : (r49 = 1 ∧ σ 88 13 - σ 88 14 = (3 : Int) ∧ fM σ (σ 88 14) = (108 : Int) ∧ fM σ (σ 88 14 + 1) = (111 : Int) ∧ ((3 : Int) < 3 ∨ fM σ (σ 88 14 + 2) = (119 : Int)) ∧ ((3 : Int) < 4 ∨ fM σ (σ 88 14 + 3) = (0 : Int))) ∨ (r49 = 0 ∧ ¬ (σ 88 13 - σ 88 14 = (3 : Int) ∧ fM σ (σ 88 14) = (108 : Int) ∧ fM σ (σ 88 14 + 1) = (111 : Int) ∧ ((3 : Int) < 3 ∨ fM σ (σ 88 14 + 2) = (119 : Int)) ∧ ((3 : Int) < 4 ∨ fM σ (σ 88 14 + 3) = (0 : Int)))) := q48_0
                    refine j_st (st' := [vI r49]) rfl ?_
                    refine j_ifR_eq (pc := 267) (tgt := 275) ⟨by omega, by omega⟩ dX12_nameNow_267 rfl (fun h50 => ?_) (fun h50 => ?_)
                    · refine j_aload_n (pc := 275) dX12_nameNow_275 rfl rfl ?_
                      refine j_callV (pc := 276) (As := []) (st := []) (c_X12_withNow hM σ hI) mv_X12_111 rfl rfl rfl (a_88 hM) dX12_nameNow_276 ⟨Nat.le_of_ble_eq_true rfl, Nat.le_of_ble_eq_true rfl⟩ ⟨Nat.le_refl _, Nat.le_refl _⟩ rfl (Nat.le_of_ble_eq_true rfl) rfl (fun z51 σ52 hz51 => ?_)
                      obtain ⟨r54, rfl, hr54, rfl, q53_0, q53_1⟩ := hz51
                      replace q53_0 : r54 = -4 ∨ 20 ≤ r54 := q53_0
                      replace q53_1 : (r54 = -4 ∧ wnm (fM σ) 1 (σ 88 14) (σ 88 13) = -1) ∨ (r54 = 20 + wnm (fM σ) 1 (σ 88 14) (σ 88 13) ∧ 0 ≤ wnm (fM σ) 1 (σ 88 14) (σ 88 13) ∧ wnm (fM σ) 1 (σ 88 14) (σ 88 13) ≤ 3) := q53_1
                      refine j_st (st' := [vI r54]) rfl ?_
                      exact j_iret (pc := 279) ⟨rfl, rfl⟩ dX12_nameNow_279 rfl ⟨_, rfl, ⟨by omega, by omega⟩, rfl, (by rw [← hW]; (repeat' split at hW2) <;> omega)⟩
                    · refine j_bipush (pc := 270) dX12_nameNow_270 rfl ?_
                      refine j_goto (pc := 272) (tgt := 279) dX12_nameNow_272 rfl ?_
                      exact j_iret (pc := 279) ⟨rfl, rfl⟩ dX12_nameNow_279 rfl ⟨_, rfl, ⟨by omega, by omega⟩, rfl, (by rw [← hW]; (repeat' split at hW2) <;> omega)⟩
                  · refine j_aload_n (pc := 237) dX12_nameNow_237 rfl rfl ?_
                    refine j_aload_n (pc := 238) dX12_nameNow_238 rfl rfl ?_
                    refine j_getI (pc := 239) fl_X12_94 dX12_nameNow_239 (a_88 hM) rfl ?_
                    have f55 : (0 : Int) ≤ σ 88 14 ∧ σ 88 14 ≤ 400 := hI 88 14
                    refine j_iconst (pc := 242) dX12_nameNow_242 ?_
                    refine j_iadd (pc := 243) dX12_nameNow_243 ?_
                    refine j_callV (pc := 244) (As := [vI ((σ 88 14) + 4)]) (st := []) (c_X12_look hM ((σ 88 14) + 4) ⟨by omega, by omega⟩ σ hI) mv_X12_103 rfl rfl rfl (a_88 hM) dX12_nameNow_244 ⟨Nat.le_of_ble_eq_true rfl, Nat.le_of_ble_eq_true rfl⟩ ⟨Nat.le_refl _, Nat.le_refl _⟩ rfl (Nat.le_of_ble_eq_true rfl) rfl (fun z56 σ57 hz56 => ?_)
                    obtain ⟨r59, rfl, hr59, rfl, q58_0, q58_1⟩ := hz56
                    replace q58_0 : (((σ 88 14) + 4) < σ 88 12 ∧ r59 = σ 98 ((σ 88 14) + 4).toNat) ∨ (¬ ((σ 88 14) + 4) < σ 88 12 ∧ r59 = -1) := q58_0
                    replace q58_1 : r59 = fM σ ((σ 88 14) + 4) := q58_1
                    refine j_st (st' := [vI r59]) rfl ?_
                    refine j_bipush (pc := 247) dX12_nameNow_247 rfl ?_
                    refine j_icmpR_ne (pc := 249) (tgt := 255) ⟨by omega, by omega⟩ ⟨by omega, by omega⟩ dX12_nameNow_249 rfl (fun h60 => ?_) (fun h60 => ?_)
                    · refine j_aload_n (pc := 255) dX12_nameNow_255 rfl rfl ?_
                      refine j_iconst (pc := 256) dX12_nameNow_256 ?_
                      refine j_bipush (pc := 257) dX12_nameNow_257 rfl ?_
                      refine j_bipush (pc := 259) dX12_nameNow_259 rfl ?_
                      refine j_bipush (pc := 261) dX12_nameNow_261 rfl ?_
                      refine j_iconst (pc := 263) dX12_nameNow_263 ?_
                      refine j_callV (pc := 264) (As := [vI 3, vI 108, vI 111, vI 119, vI 0]) (st := []) (c_X12_is hM 3 ⟨by omega, by omega⟩ 108 ⟨by omega, by omega⟩ 111 ⟨by omega, by omega⟩ 119 ⟨by omega, by omega⟩ 0 ⟨by omega, by omega⟩ σ hI) mv_X12_107 rfl rfl rfl (a_88 hM) dX12_nameNow_264 ⟨Nat.le_of_ble_eq_true rfl, Nat.le_of_ble_eq_true rfl⟩ ⟨Nat.le_refl _, Nat.le_refl _⟩ rfl (Nat.le_of_ble_eq_true rfl) rfl (fun z61 σ62 hz61 => ?_)
                      obtain ⟨r64, rfl, hr64, rfl, q63_0⟩ := hz61
                      replace q63_0 : (r64 = 1 ∧ σ 88 13 - σ 88 14 = (3 : Int) ∧ fM σ (σ 88 14) = (108 : Int) ∧ fM σ (σ 88 14 + 1) = (111 : Int) ∧ ((3 : Int) < 3 ∨ fM σ (σ 88 14 + 2) = (119 : Int)) ∧ ((3 : Int) < 4 ∨ fM σ (σ 88 14 + 3) = (0 : Int))) ∨ (r64 = 0 ∧ ¬ (σ 88 13 - σ 88 14 = (3 : Int) ∧ fM σ (σ 88 14) = (108 : Int) ∧ fM σ (σ 88 14 + 1) = (111 : Int) ∧ ((3 : Int) < 3 ∨ fM σ (σ 88 14 + 2) = (119 : Int)) ∧ ((3 : Int) < 4 ∨ fM σ (σ 88 14 + 3) = (0 : Int)))) := q63_0
                      refine j_st (st' := [vI r64]) rfl ?_
                      refine j_ifR_eq (pc := 267) (tgt := 275) ⟨by omega, by omega⟩ dX12_nameNow_267 rfl (fun h65 => ?_) (fun h65 => ?_)
                      · refine j_aload_n (pc := 275) dX12_nameNow_275 rfl rfl ?_
                        refine j_callV (pc := 276) (As := []) (st := []) (c_X12_withNow hM σ hI) mv_X12_111 rfl rfl rfl (a_88 hM) dX12_nameNow_276 ⟨Nat.le_of_ble_eq_true rfl, Nat.le_of_ble_eq_true rfl⟩ ⟨Nat.le_refl _, Nat.le_refl _⟩ rfl (Nat.le_of_ble_eq_true rfl) rfl (fun z66 σ67 hz66 => ?_)
                        obtain ⟨r69, rfl, hr69, rfl, q68_0, q68_1⟩ := hz66
                        replace q68_0 : r69 = -4 ∨ 20 ≤ r69 := q68_0
                        replace q68_1 : (r69 = -4 ∧ wnm (fM σ) 1 (σ 88 14) (σ 88 13) = -1) ∨ (r69 = 20 + wnm (fM σ) 1 (σ 88 14) (σ 88 13) ∧ 0 ≤ wnm (fM σ) 1 (σ 88 14) (σ 88 13) ∧ wnm (fM σ) 1 (σ 88 14) (σ 88 13) ≤ 3) := q68_1
                        refine j_st (st' := [vI r69]) rfl ?_
                        exact j_iret (pc := 279) ⟨rfl, rfl⟩ dX12_nameNow_279 rfl ⟨_, rfl, ⟨by omega, by omega⟩, rfl, (by rw [← hW]; (repeat' split at hW2) <;> omega)⟩
                      · refine j_bipush (pc := 270) dX12_nameNow_270 rfl ?_
                        refine j_goto (pc := 272) (tgt := 279) dX12_nameNow_272 rfl ?_
                        exact j_iret (pc := 279) ⟨rfl, rfl⟩ dX12_nameNow_279 rfl ⟨_, rfl, ⟨by omega, by omega⟩, rfl, (by rw [← hW]; (repeat' split at hW2) <;> omega)⟩
                    · refine j_bipush (pc := 252) dX12_nameNow_252 rfl ?_
                      exact j_iret (pc := 254) ⟨rfl, rfl⟩ dX12_nameNow_254 rfl ⟨_, rfl, ⟨by omega, by omega⟩, rfl, (by rw [← hW]; (repeat' split at hW2) <;> omega)⟩
                · refine j_iconst (pc := 219) dX12_nameNow_219 ?_
                  exact j_iret (pc := 220) ⟨rfl, rfl⟩ dX12_nameNow_220 rfl ⟨_, rfl, ⟨by omega, by omega⟩, rfl, (by rw [← hW]; (repeat' split at hW2) <;> omega)⟩
              · refine j_iconst (pc := 201) dX12_nameNow_201 ?_
                exact j_iret (pc := 202) ⟨rfl, rfl⟩ dX12_nameNow_202 rfl ⟨_, rfl, ⟨by omega, by omega⟩, rfl, (by rw [← hW]; (repeat' split at hW2) <;> omega)⟩
            · refine j_iconst (pc := 183) dX12_nameNow_183 ?_
              exact j_iret (pc := 184) ⟨rfl, rfl⟩ dX12_nameNow_184 rfl ⟨_, rfl, ⟨by omega, by omega⟩, rfl, (by rw [← hW]; (repeat' split at hW2) <;> omega)⟩
          · refine j_aload_n (pc := 150) dX12_nameNow_150 rfl rfl ?_
            refine j_aload_n (pc := 151) dX12_nameNow_151 rfl rfl ?_
            refine j_getI (pc := 152) fl_X12_94 dX12_nameNow_152 (a_88 hM) rfl ?_
            have f70 : (0 : Int) ≤ σ 88 14 ∧ σ 88 14 ≤ 400 := hI 88 14
            refine j_iconst (pc := 155) dX12_nameNow_155 ?_
            refine j_iadd (pc := 156) dX12_nameNow_156 ?_
            refine j_callV (pc := 157) (As := [vI ((σ 88 14) + 4)]) (st := []) (c_X12_look hM ((σ 88 14) + 4) ⟨by omega, by omega⟩ σ hI) mv_X12_103 rfl rfl rfl (a_88 hM) dX12_nameNow_157 ⟨Nat.le_of_ble_eq_true rfl, Nat.le_of_ble_eq_true rfl⟩ ⟨Nat.le_refl _, Nat.le_refl _⟩ rfl (Nat.le_of_ble_eq_true rfl) rfl (fun z71 σ72 hz71 => ?_)
            obtain ⟨r74, rfl, hr74, rfl, q73_0, q73_1⟩ := hz71
            replace q73_0 : (((σ 88 14) + 4) < σ 88 12 ∧ r74 = σ 98 ((σ 88 14) + 4).toNat) ∨ (¬ ((σ 88 14) + 4) < σ 88 12 ∧ r74 = -1) := q73_0
            replace q73_1 : r74 = fM σ ((σ 88 14) + 4) := q73_1
            refine j_st (st' := [vI r74]) rfl ?_
            refine j_bipush (pc := 160) dX12_nameNow_160 rfl ?_
            refine j_icmpR_ne (pc := 162) (tgt := 167) ⟨by omega, by omega⟩ ⟨by omega, by omega⟩ dX12_nameNow_162 rfl (fun h75 => ?_) (fun h75 => ?_)
            · refine j_aload_n (pc := 167) dX12_nameNow_167 rfl rfl ?_
              refine j_iconst (pc := 168) dX12_nameNow_168 ?_
              refine j_bipush (pc := 169) dX12_nameNow_169 rfl ?_
              refine j_bipush (pc := 171) dX12_nameNow_171 rfl ?_
              refine j_bipush (pc := 173) dX12_nameNow_173 rfl ?_
              refine j_bipush (pc := 175) dX12_nameNow_175 rfl ?_
              refine j_callV (pc := 177) (As := [vI 4, vI 114, vI 111, vI 112, vI 101]) (st := []) (c_X12_is hM 4 ⟨by omega, by omega⟩ 114 ⟨by omega, by omega⟩ 111 ⟨by omega, by omega⟩ 112 ⟨by omega, by omega⟩ 101 ⟨by omega, by omega⟩ σ hI) mv_X12_107 rfl rfl rfl (a_88 hM) dX12_nameNow_177 ⟨Nat.le_of_ble_eq_true rfl, Nat.le_of_ble_eq_true rfl⟩ ⟨Nat.le_refl _, Nat.le_refl _⟩ rfl (Nat.le_of_ble_eq_true rfl) rfl (fun z76 σ77 hz76 => ?_)
              obtain ⟨r79, rfl, hr79, rfl, q78_0⟩ := hz76
              replace q78_0 : (r79 = 1 ∧ σ 88 13 - σ 88 14 = (4 : Int) ∧ fM σ (σ 88 14) = (114 : Int) ∧ fM σ (σ 88 14 + 1) = (111 : Int) ∧ ((4 : Int) < 3 ∨ fM σ (σ 88 14 + 2) = (112 : Int)) ∧ ((4 : Int) < 4 ∨ fM σ (σ 88 14 + 3) = (101 : Int))) ∨ (r79 = 0 ∧ ¬ (σ 88 13 - σ 88 14 = (4 : Int) ∧ fM σ (σ 88 14) = (114 : Int) ∧ fM σ (σ 88 14 + 1) = (111 : Int) ∧ ((4 : Int) < 3 ∨ fM σ (σ 88 14 + 2) = (112 : Int)) ∧ ((4 : Int) < 4 ∨ fM σ (σ 88 14 + 3) = (101 : Int)))) := q78_0
              refine j_st (st' := [vI r79]) rfl ?_
              refine j_ifR_eq (pc := 180) (tgt := 185) ⟨by omega, by omega⟩ dX12_nameNow_180 rfl (fun h80 => ?_) (fun h80 => ?_)
              · refine j_aload_n (pc := 185) dX12_nameNow_185 rfl rfl ?_
                refine j_iconst (pc := 186) dX12_nameNow_186 ?_
                refine j_bipush (pc := 187) dX12_nameNow_187 rfl ?_
                refine j_bipush (pc := 189) dX12_nameNow_189 rfl ?_
                refine j_bipush (pc := 191) dX12_nameNow_191 rfl ?_
                refine j_bipush (pc := 193) dX12_nameNow_193 rfl ?_
                refine j_callV (pc := 195) (As := [vI 4, vI 103, vI 105, vI 118, vI 101]) (st := []) (c_X12_is hM 4 ⟨by omega, by omega⟩ 103 ⟨by omega, by omega⟩ 105 ⟨by omega, by omega⟩ 118 ⟨by omega, by omega⟩ 101 ⟨by omega, by omega⟩ σ hI) mv_X12_107 rfl rfl rfl (a_88 hM) dX12_nameNow_195 ⟨Nat.le_of_ble_eq_true rfl, Nat.le_of_ble_eq_true rfl⟩ ⟨Nat.le_refl _, Nat.le_refl _⟩ rfl (Nat.le_of_ble_eq_true rfl) rfl (fun z81 σ82 hz81 => ?_)
                obtain ⟨r84, rfl, hr84, rfl, q83_0⟩ := hz81
                replace q83_0 : (r84 = 1 ∧ σ 88 13 - σ 88 14 = (4 : Int) ∧ fM σ (σ 88 14) = (103 : Int) ∧ fM σ (σ 88 14 + 1) = (105 : Int) ∧ ((4 : Int) < 3 ∨ fM σ (σ 88 14 + 2) = (118 : Int)) ∧ ((4 : Int) < 4 ∨ fM σ (σ 88 14 + 3) = (101 : Int))) ∨ (r84 = 0 ∧ ¬ (σ 88 13 - σ 88 14 = (4 : Int) ∧ fM σ (σ 88 14) = (103 : Int) ∧ fM σ (σ 88 14 + 1) = (105 : Int) ∧ ((4 : Int) < 3 ∨ fM σ (σ 88 14 + 2) = (118 : Int)) ∧ ((4 : Int) < 4 ∨ fM σ (σ 88 14 + 3) = (101 : Int)))) := q83_0
                refine j_st (st' := [vI r84]) rfl ?_
                refine j_ifR_eq (pc := 198) (tgt := 203) ⟨by omega, by omega⟩ dX12_nameNow_198 rfl (fun h85 => ?_) (fun h85 => ?_)
                · refine j_aload_n (pc := 203) dX12_nameNow_203 rfl rfl ?_
                  refine j_iconst (pc := 204) dX12_nameNow_204 ?_
                  refine j_bipush (pc := 205) dX12_nameNow_205 rfl ?_
                  refine j_bipush (pc := 207) dX12_nameNow_207 rfl ?_
                  refine j_bipush (pc := 209) dX12_nameNow_209 rfl ?_
                  refine j_bipush (pc := 211) dX12_nameNow_211 rfl ?_
                  refine j_callV (pc := 213) (As := [vI 4, vI 102, vI 105, vI 116, vI 115]) (st := []) (c_X12_is hM 4 ⟨by omega, by omega⟩ 102 ⟨by omega, by omega⟩ 105 ⟨by omega, by omega⟩ 116 ⟨by omega, by omega⟩ 115 ⟨by omega, by omega⟩ σ hI) mv_X12_107 rfl rfl rfl (a_88 hM) dX12_nameNow_213 ⟨Nat.le_of_ble_eq_true rfl, Nat.le_of_ble_eq_true rfl⟩ ⟨Nat.le_refl _, Nat.le_refl _⟩ rfl (Nat.le_of_ble_eq_true rfl) rfl (fun z86 σ87 hz86 => ?_)
                  obtain ⟨r89, rfl, hr89, rfl, q88_0⟩ := hz86
                  replace q88_0 : (r89 = 1 ∧ σ 88 13 - σ 88 14 = (4 : Int) ∧ fM σ (σ 88 14) = (102 : Int) ∧ fM σ (σ 88 14 + 1) = (105 : Int) ∧ ((4 : Int) < 3 ∨ fM σ (σ 88 14 + 2) = (116 : Int)) ∧ ((4 : Int) < 4 ∨ fM σ (σ 88 14 + 3) = (115 : Int))) ∨ (r89 = 0 ∧ ¬ (σ 88 13 - σ 88 14 = (4 : Int) ∧ fM σ (σ 88 14) = (102 : Int) ∧ fM σ (σ 88 14 + 1) = (105 : Int) ∧ ((4 : Int) < 3 ∨ fM σ (σ 88 14 + 2) = (116 : Int)) ∧ ((4 : Int) < 4 ∨ fM σ (σ 88 14 + 3) = (115 : Int)))) := q88_0
                  refine j_st (st' := [vI r89]) rfl ?_
                  refine j_ifR_eq (pc := 216) (tgt := 221) ⟨by omega, by omega⟩ dX12_nameNow_216 rfl (fun h90 => ?_) (fun h90 => ?_)
                  · refine j_aload_n (pc := 221) dX12_nameNow_221 rfl rfl ?_
                    refine j_iconst (pc := 222) dX12_nameNow_222 ?_
                    refine j_bipush (pc := 223) dX12_nameNow_223 rfl ?_
                    refine j_bipush (pc := 225) dX12_nameNow_225 rfl ?_
                    refine j_bipush (pc := 227) dX12_nameNow_227 rfl ?_
                    refine j_bipush (pc := 229) dX12_nameNow_229 rfl ?_
                    refine j_callV (pc := 231) (As := [vI 5, vI 104, vI 111, vI 108, vI 100]) (st := []) (c_X12_is hM 5 ⟨by omega, by omega⟩ 104 ⟨by omega, by omega⟩ 111 ⟨by omega, by omega⟩ 108 ⟨by omega, by omega⟩ 100 ⟨by omega, by omega⟩ σ hI) mv_X12_107 rfl rfl rfl (a_88 hM) dX12_nameNow_231 ⟨Nat.le_of_ble_eq_true rfl, Nat.le_of_ble_eq_true rfl⟩ ⟨Nat.le_refl _, Nat.le_refl _⟩ rfl (Nat.le_of_ble_eq_true rfl) rfl (fun z91 σ92 hz91 => ?_)
                    obtain ⟨r94, rfl, hr94, rfl, q93_0⟩ := hz91
                    replace q93_0 : (r94 = 1 ∧ σ 88 13 - σ 88 14 = (5 : Int) ∧ fM σ (σ 88 14) = (104 : Int) ∧ fM σ (σ 88 14 + 1) = (111 : Int) ∧ ((5 : Int) < 3 ∨ fM σ (σ 88 14 + 2) = (108 : Int)) ∧ ((5 : Int) < 4 ∨ fM σ (σ 88 14 + 3) = (100 : Int))) ∨ (r94 = 0 ∧ ¬ (σ 88 13 - σ 88 14 = (5 : Int) ∧ fM σ (σ 88 14) = (104 : Int) ∧ fM σ (σ 88 14 + 1) = (111 : Int) ∧ ((5 : Int) < 3 ∨ fM σ (σ 88 14 + 2) = (108 : Int)) ∧ ((5 : Int) < 4 ∨ fM σ (σ 88 14 + 3) = (100 : Int)))) := q93_0
                    refine j_st (st' := [vI r94]) rfl ?_
                    refine j_ifR_eq (pc := 234) (tgt := 255) ⟨by omega, by omega⟩ dX12_nameNow_234 rfl (fun h95 => ?_) (fun h95 => ?_)
                    · refine j_aload_n (pc := 255) dX12_nameNow_255 rfl rfl ?_
                      refine j_iconst (pc := 256) dX12_nameNow_256 ?_
                      refine j_bipush (pc := 257) dX12_nameNow_257 rfl ?_
                      refine j_bipush (pc := 259) dX12_nameNow_259 rfl ?_
                      refine j_bipush (pc := 261) dX12_nameNow_261 rfl ?_
                      refine j_iconst (pc := 263) dX12_nameNow_263 ?_
                      refine j_callV (pc := 264) (As := [vI 3, vI 108, vI 111, vI 119, vI 0]) (st := []) (c_X12_is hM 3 ⟨by omega, by omega⟩ 108 ⟨by omega, by omega⟩ 111 ⟨by omega, by omega⟩ 119 ⟨by omega, by omega⟩ 0 ⟨by omega, by omega⟩ σ hI) mv_X12_107 rfl rfl rfl (a_88 hM) dX12_nameNow_264 ⟨Nat.le_of_ble_eq_true rfl, Nat.le_of_ble_eq_true rfl⟩ ⟨Nat.le_refl _, Nat.le_refl _⟩ rfl (Nat.le_of_ble_eq_true rfl) rfl (fun z96 σ97 hz96 => ?_)
                      obtain ⟨r99, rfl, hr99, rfl, q98_0⟩ := hz96
                      replace q98_0 : (r99 = 1 ∧ σ 88 13 - σ 88 14 = (3 : Int) ∧ fM σ (σ 88 14) = (108 : Int) ∧ fM σ (σ 88 14 + 1) = (111 : Int) ∧ ((3 : Int) < 3 ∨ fM σ (σ 88 14 + 2) = (119 : Int)) ∧ ((3 : Int) < 4 ∨ fM σ (σ 88 14 + 3) = (0 : Int))) ∨ (r99 = 0 ∧ ¬ (σ 88 13 - σ 88 14 = (3 : Int) ∧ fM σ (σ 88 14) = (108 : Int) ∧ fM σ (σ 88 14 + 1) = (111 : Int) ∧ ((3 : Int) < 3 ∨ fM σ (σ 88 14 + 2) = (119 : Int)) ∧ ((3 : Int) < 4 ∨ fM σ (σ 88 14 + 3) = (0 : Int)))) := q98_0
                      refine j_st (st' := [vI r99]) rfl ?_
                      refine j_ifR_eq (pc := 267) (tgt := 275) ⟨by omega, by omega⟩ dX12_nameNow_267 rfl (fun h100 => ?_) (fun h100 => ?_)
                      · refine j_aload_n (pc := 275) dX12_nameNow_275 rfl rfl ?_
                        refine j_callV (pc := 276) (As := []) (st := []) (c_X12_withNow hM σ hI) mv_X12_111 rfl rfl rfl (a_88 hM) dX12_nameNow_276 ⟨Nat.le_of_ble_eq_true rfl, Nat.le_of_ble_eq_true rfl⟩ ⟨Nat.le_refl _, Nat.le_refl _⟩ rfl (Nat.le_of_ble_eq_true rfl) rfl (fun z101 σ102 hz101 => ?_)
                        obtain ⟨r104, rfl, hr104, rfl, q103_0, q103_1⟩ := hz101
                        replace q103_0 : r104 = -4 ∨ 20 ≤ r104 := q103_0
                        replace q103_1 : (r104 = -4 ∧ wnm (fM σ) 1 (σ 88 14) (σ 88 13) = -1) ∨ (r104 = 20 + wnm (fM σ) 1 (σ 88 14) (σ 88 13) ∧ 0 ≤ wnm (fM σ) 1 (σ 88 14) (σ 88 13) ∧ wnm (fM σ) 1 (σ 88 14) (σ 88 13) ≤ 3) := q103_1
                        refine j_st (st' := [vI r104]) rfl ?_
                        exact j_iret (pc := 279) ⟨rfl, rfl⟩ dX12_nameNow_279 rfl ⟨_, rfl, ⟨by omega, by omega⟩, rfl, (by rw [← hW]; (repeat' split at hW2) <;> omega)⟩
                      · refine j_bipush (pc := 270) dX12_nameNow_270 rfl ?_
                        refine j_goto (pc := 272) (tgt := 279) dX12_nameNow_272 rfl ?_
                        exact j_iret (pc := 279) ⟨rfl, rfl⟩ dX12_nameNow_279 rfl ⟨_, rfl, ⟨by omega, by omega⟩, rfl, (by rw [← hW]; (repeat' split at hW2) <;> omega)⟩
                    · refine j_aload_n (pc := 237) dX12_nameNow_237 rfl rfl ?_
                      refine j_aload_n (pc := 238) dX12_nameNow_238 rfl rfl ?_
                      refine j_getI (pc := 239) fl_X12_94 dX12_nameNow_239 (a_88 hM) rfl ?_
                      refine j_iconst (pc := 242) dX12_nameNow_242 ?_
                      refine j_iadd (pc := 243) dX12_nameNow_243 ?_
                      refine j_callV (pc := 244) (As := [vI ((σ 88 14) + 4)]) (st := []) (c_X12_look hM ((σ 88 14) + 4) ⟨by omega, by omega⟩ σ hI) mv_X12_103 rfl rfl rfl (a_88 hM) dX12_nameNow_244 ⟨Nat.le_of_ble_eq_true rfl, Nat.le_of_ble_eq_true rfl⟩ ⟨Nat.le_refl _, Nat.le_refl _⟩ rfl (Nat.le_of_ble_eq_true rfl) rfl (fun z105 σ106 hz105 => ?_)
                      obtain ⟨r108, rfl, hr108, rfl, q107_0, q107_1⟩ := hz105
                      replace q107_0 : (((σ 88 14) + 4) < σ 88 12 ∧ r108 = σ 98 ((σ 88 14) + 4).toNat) ∨ (¬ ((σ 88 14) + 4) < σ 88 12 ∧ r108 = -1) := q107_0
                      replace q107_1 : r108 = fM σ ((σ 88 14) + 4) := q107_1
                      refine j_st (st' := [vI r108]) rfl ?_
                      refine j_bipush (pc := 247) dX12_nameNow_247 rfl ?_
                      refine j_icmpR_ne (pc := 249) (tgt := 255) ⟨by omega, by omega⟩ ⟨by omega, by omega⟩ dX12_nameNow_249 rfl (fun h109 => ?_) (fun h109 => ?_)
                      · refine j_aload_n (pc := 255) dX12_nameNow_255 rfl rfl ?_
                        refine j_iconst (pc := 256) dX12_nameNow_256 ?_
                        refine j_bipush (pc := 257) dX12_nameNow_257 rfl ?_
                        refine j_bipush (pc := 259) dX12_nameNow_259 rfl ?_
                        refine j_bipush (pc := 261) dX12_nameNow_261 rfl ?_
                        refine j_iconst (pc := 263) dX12_nameNow_263 ?_
                        refine j_callV (pc := 264) (As := [vI 3, vI 108, vI 111, vI 119, vI 0]) (st := []) (c_X12_is hM 3 ⟨by omega, by omega⟩ 108 ⟨by omega, by omega⟩ 111 ⟨by omega, by omega⟩ 119 ⟨by omega, by omega⟩ 0 ⟨by omega, by omega⟩ σ hI) mv_X12_107 rfl rfl rfl (a_88 hM) dX12_nameNow_264 ⟨Nat.le_of_ble_eq_true rfl, Nat.le_of_ble_eq_true rfl⟩ ⟨Nat.le_refl _, Nat.le_refl _⟩ rfl (Nat.le_of_ble_eq_true rfl) rfl (fun z110 σ111 hz110 => ?_)
                        obtain ⟨r113, rfl, hr113, rfl, q112_0⟩ := hz110
                        replace q112_0 : (r113 = 1 ∧ σ 88 13 - σ 88 14 = (3 : Int) ∧ fM σ (σ 88 14) = (108 : Int) ∧ fM σ (σ 88 14 + 1) = (111 : Int) ∧ ((3 : Int) < 3 ∨ fM σ (σ 88 14 + 2) = (119 : Int)) ∧ ((3 : Int) < 4 ∨ fM σ (σ 88 14 + 3) = (0 : Int))) ∨ (r113 = 0 ∧ ¬ (σ 88 13 - σ 88 14 = (3 : Int) ∧ fM σ (σ 88 14) = (108 : Int) ∧ fM σ (σ 88 14 + 1) = (111 : Int) ∧ ((3 : Int) < 3 ∨ fM σ (σ 88 14 + 2) = (119 : Int)) ∧ ((3 : Int) < 4 ∨ fM σ (σ 88 14 + 3) = (0 : Int)))) := q112_0
                        refine j_st (st' := [vI r113]) rfl ?_
                        refine j_ifR_eq (pc := 267) (tgt := 275) ⟨by omega, by omega⟩ dX12_nameNow_267 rfl (fun h114 => ?_) (fun h114 => ?_)
                        · refine j_aload_n (pc := 275) dX12_nameNow_275 rfl rfl ?_
                          refine j_callV (pc := 276) (As := []) (st := []) (c_X12_withNow hM σ hI) mv_X12_111 rfl rfl rfl (a_88 hM) dX12_nameNow_276 ⟨Nat.le_of_ble_eq_true rfl, Nat.le_of_ble_eq_true rfl⟩ ⟨Nat.le_refl _, Nat.le_refl _⟩ rfl (Nat.le_of_ble_eq_true rfl) rfl (fun z115 σ116 hz115 => ?_)
                          obtain ⟨r118, rfl, hr118, rfl, q117_0, q117_1⟩ := hz115
                          replace q117_0 : r118 = -4 ∨ 20 ≤ r118 := q117_0
                          replace q117_1 : (r118 = -4 ∧ wnm (fM σ) 1 (σ 88 14) (σ 88 13) = -1) ∨ (r118 = 20 + wnm (fM σ) 1 (σ 88 14) (σ 88 13) ∧ 0 ≤ wnm (fM σ) 1 (σ 88 14) (σ 88 13) ∧ wnm (fM σ) 1 (σ 88 14) (σ 88 13) ≤ 3) := q117_1
                          refine j_st (st' := [vI r118]) rfl ?_
                          exact j_iret (pc := 279) ⟨rfl, rfl⟩ dX12_nameNow_279 rfl ⟨_, rfl, ⟨by omega, by omega⟩, rfl, (by rw [← hW]; (repeat' split at hW2) <;> omega)⟩
                        · refine j_bipush (pc := 270) dX12_nameNow_270 rfl ?_
                          refine j_goto (pc := 272) (tgt := 279) dX12_nameNow_272 rfl ?_
                          exact j_iret (pc := 279) ⟨rfl, rfl⟩ dX12_nameNow_279 rfl ⟨_, rfl, ⟨by omega, by omega⟩, rfl, (by rw [← hW]; (repeat' split at hW2) <;> omega)⟩
                      · refine j_bipush (pc := 252) dX12_nameNow_252 rfl ?_
                        exact j_iret (pc := 254) ⟨rfl, rfl⟩ dX12_nameNow_254 rfl ⟨_, rfl, ⟨by omega, by omega⟩, rfl, (by rw [← hW]; (repeat' split at hW2) <;> omega)⟩
                  · refine j_iconst (pc := 219) dX12_nameNow_219 ?_
                    exact j_iret (pc := 220) ⟨rfl, rfl⟩ dX12_nameNow_220 rfl ⟨_, rfl, ⟨by omega, by omega⟩, rfl, (by rw [← hW]; (repeat' split at hW2) <;> omega)⟩
                · refine j_iconst (pc := 201) dX12_nameNow_201 ?_
                  exact j_iret (pc := 202) ⟨rfl, rfl⟩ dX12_nameNow_202 rfl ⟨_, rfl, ⟨by omega, by omega⟩, rfl, (by rw [← hW]; (repeat' split at hW2) <;> omega)⟩
              · refine j_iconst (pc := 183) dX12_nameNow_183 ?_
                exact j_iret (pc := 184) ⟨rfl, rfl⟩ dX12_nameNow_184 rfl ⟨_, rfl, ⟨by omega, by omega⟩, rfl, (by rw [← hW]; (repeat' split at hW2) <;> omega)⟩
            · refine j_iconst (pc := 165) dX12_nameNow_165 ?_
              exact j_iret (pc := 166) ⟨rfl, rfl⟩ dX12_nameNow_166 rfl ⟨_, rfl, ⟨by omega, by omega⟩, rfl, (by rw [← hW]; (repeat' split at hW2) <;> omega)⟩
        · refine j_aload_n (pc := 70) dX12_nameNow_70 rfl rfl ?_
          refine j_aload_n (pc := 71) dX12_nameNow_71 rfl rfl ?_
          refine j_getI (pc := 72) fl_X12_94 dX12_nameNow_72 (a_88 hM) rfl ?_
          have f119 : (0 : Int) ≤ σ 88 14 ∧ σ 88 14 ≤ 400 := hI 88 14
          refine j_iconst (pc := 75) dX12_nameNow_75 ?_
          refine j_iadd (pc := 76) dX12_nameNow_76 ?_
          refine j_callV (pc := 77) (As := [vI ((σ 88 14) + 4)]) (st := []) (c_X12_look hM ((σ 88 14) + 4) ⟨by omega, by omega⟩ σ hI) mv_X12_103 rfl rfl rfl (a_88 hM) dX12_nameNow_77 ⟨Nat.le_of_ble_eq_true rfl, Nat.le_of_ble_eq_true rfl⟩ ⟨Nat.le_refl _, Nat.le_refl _⟩ rfl (Nat.le_of_ble_eq_true rfl) rfl (fun z120 σ121 hz120 => ?_)
          obtain ⟨r123, rfl, hr123, rfl, q122_0, q122_1⟩ := hz120
          replace q122_0 : (((σ 88 14) + 4) < σ 88 12 ∧ r123 = σ 98 ((σ 88 14) + 4).toNat) ∨ (¬ ((σ 88 14) + 4) < σ 88 12 ∧ r123 = -1) := q122_0
          replace q122_1 : r123 = fM σ ((σ 88 14) + 4) := q122_1
          refine j_st (st' := [vI r123]) rfl ?_
          refine j_bipush (pc := 80) dX12_nameNow_80 rfl ?_
          refine j_icmpR_ne (pc := 82) (tgt := 134) ⟨by omega, by omega⟩ ⟨by omega, by omega⟩ dX12_nameNow_82 rfl (fun h124 => ?_) (fun h124 => ?_)
          · refine j_aload_n (pc := 134) dX12_nameNow_134 rfl rfl ?_
            refine j_iconst (pc := 135) dX12_nameNow_135 ?_
            refine j_bipush (pc := 136) dX12_nameNow_136 rfl ?_
            refine j_bipush (pc := 138) dX12_nameNow_138 rfl ?_
            refine j_bipush (pc := 140) dX12_nameNow_140 rfl ?_
            refine j_bipush (pc := 142) dX12_nameNow_142 rfl ?_
            refine j_callV (pc := 144) (As := [vI 5, vI 112, vI 108, vI 97, vI 99]) (st := []) (c_X12_is hM 5 ⟨by omega, by omega⟩ 112 ⟨by omega, by omega⟩ 108 ⟨by omega, by omega⟩ 97 ⟨by omega, by omega⟩ 99 ⟨by omega, by omega⟩ σ hI) mv_X12_107 rfl rfl rfl (a_88 hM) dX12_nameNow_144 ⟨Nat.le_of_ble_eq_true rfl, Nat.le_of_ble_eq_true rfl⟩ ⟨Nat.le_refl _, Nat.le_refl _⟩ rfl (Nat.le_of_ble_eq_true rfl) rfl (fun z125 σ126 hz125 => ?_)
            obtain ⟨r128, rfl, hr128, rfl, q127_0⟩ := hz125
            replace q127_0 : (r128 = 1 ∧ σ 88 13 - σ 88 14 = (5 : Int) ∧ fM σ (σ 88 14) = (112 : Int) ∧ fM σ (σ 88 14 + 1) = (108 : Int) ∧ ((5 : Int) < 3 ∨ fM σ (σ 88 14 + 2) = (97 : Int)) ∧ ((5 : Int) < 4 ∨ fM σ (σ 88 14 + 3) = (99 : Int))) ∨ (r128 = 0 ∧ ¬ (σ 88 13 - σ 88 14 = (5 : Int) ∧ fM σ (σ 88 14) = (112 : Int) ∧ fM σ (σ 88 14 + 1) = (108 : Int) ∧ ((5 : Int) < 3 ∨ fM σ (σ 88 14 + 2) = (97 : Int)) ∧ ((5 : Int) < 4 ∨ fM σ (σ 88 14 + 3) = (99 : Int)))) := q127_0
            refine j_st (st' := [vI r128]) rfl ?_
            refine j_ifR_eq (pc := 147) (tgt := 167) ⟨by omega, by omega⟩ dX12_nameNow_147 rfl (fun h129 => ?_) (fun h129 => ?_)
            · refine j_aload_n (pc := 167) dX12_nameNow_167 rfl rfl ?_
              refine j_iconst (pc := 168) dX12_nameNow_168 ?_
              refine j_bipush (pc := 169) dX12_nameNow_169 rfl ?_
              refine j_bipush (pc := 171) dX12_nameNow_171 rfl ?_
              refine j_bipush (pc := 173) dX12_nameNow_173 rfl ?_
              refine j_bipush (pc := 175) dX12_nameNow_175 rfl ?_
              refine j_callV (pc := 177) (As := [vI 4, vI 114, vI 111, vI 112, vI 101]) (st := []) (c_X12_is hM 4 ⟨by omega, by omega⟩ 114 ⟨by omega, by omega⟩ 111 ⟨by omega, by omega⟩ 112 ⟨by omega, by omega⟩ 101 ⟨by omega, by omega⟩ σ hI) mv_X12_107 rfl rfl rfl (a_88 hM) dX12_nameNow_177 ⟨Nat.le_of_ble_eq_true rfl, Nat.le_of_ble_eq_true rfl⟩ ⟨Nat.le_refl _, Nat.le_refl _⟩ rfl (Nat.le_of_ble_eq_true rfl) rfl (fun z130 σ131 hz130 => ?_)
              obtain ⟨r133, rfl, hr133, rfl, q132_0⟩ := hz130
              replace q132_0 : (r133 = 1 ∧ σ 88 13 - σ 88 14 = (4 : Int) ∧ fM σ (σ 88 14) = (114 : Int) ∧ fM σ (σ 88 14 + 1) = (111 : Int) ∧ ((4 : Int) < 3 ∨ fM σ (σ 88 14 + 2) = (112 : Int)) ∧ ((4 : Int) < 4 ∨ fM σ (σ 88 14 + 3) = (101 : Int))) ∨ (r133 = 0 ∧ ¬ (σ 88 13 - σ 88 14 = (4 : Int) ∧ fM σ (σ 88 14) = (114 : Int) ∧ fM σ (σ 88 14 + 1) = (111 : Int) ∧ ((4 : Int) < 3 ∨ fM σ (σ 88 14 + 2) = (112 : Int)) ∧ ((4 : Int) < 4 ∨ fM σ (σ 88 14 + 3) = (101 : Int)))) := q132_0
              refine j_st (st' := [vI r133]) rfl ?_
              refine j_ifR_eq (pc := 180) (tgt := 185) ⟨by omega, by omega⟩ dX12_nameNow_180 rfl (fun h134 => ?_) (fun h134 => ?_)
              · refine j_aload_n (pc := 185) dX12_nameNow_185 rfl rfl ?_
                refine j_iconst (pc := 186) dX12_nameNow_186 ?_
                refine j_bipush (pc := 187) dX12_nameNow_187 rfl ?_
                refine j_bipush (pc := 189) dX12_nameNow_189 rfl ?_
                refine j_bipush (pc := 191) dX12_nameNow_191 rfl ?_
                refine j_bipush (pc := 193) dX12_nameNow_193 rfl ?_
                refine j_callV (pc := 195) (As := [vI 4, vI 103, vI 105, vI 118, vI 101]) (st := []) (c_X12_is hM 4 ⟨by omega, by omega⟩ 103 ⟨by omega, by omega⟩ 105 ⟨by omega, by omega⟩ 118 ⟨by omega, by omega⟩ 101 ⟨by omega, by omega⟩ σ hI) mv_X12_107 rfl rfl rfl (a_88 hM) dX12_nameNow_195 ⟨Nat.le_of_ble_eq_true rfl, Nat.le_of_ble_eq_true rfl⟩ ⟨Nat.le_refl _, Nat.le_refl _⟩ rfl (Nat.le_of_ble_eq_true rfl) rfl (fun z135 σ136 hz135 => ?_)
                obtain ⟨r138, rfl, hr138, rfl, q137_0⟩ := hz135
                replace q137_0 : (r138 = 1 ∧ σ 88 13 - σ 88 14 = (4 : Int) ∧ fM σ (σ 88 14) = (103 : Int) ∧ fM σ (σ 88 14 + 1) = (105 : Int) ∧ ((4 : Int) < 3 ∨ fM σ (σ 88 14 + 2) = (118 : Int)) ∧ ((4 : Int) < 4 ∨ fM σ (σ 88 14 + 3) = (101 : Int))) ∨ (r138 = 0 ∧ ¬ (σ 88 13 - σ 88 14 = (4 : Int) ∧ fM σ (σ 88 14) = (103 : Int) ∧ fM σ (σ 88 14 + 1) = (105 : Int) ∧ ((4 : Int) < 3 ∨ fM σ (σ 88 14 + 2) = (118 : Int)) ∧ ((4 : Int) < 4 ∨ fM σ (σ 88 14 + 3) = (101 : Int)))) := q137_0
                refine j_st (st' := [vI r138]) rfl ?_
                refine j_ifR_eq (pc := 198) (tgt := 203) ⟨by omega, by omega⟩ dX12_nameNow_198 rfl (fun h139 => ?_) (fun h139 => ?_)
                · refine j_aload_n (pc := 203) dX12_nameNow_203 rfl rfl ?_
                  refine j_iconst (pc := 204) dX12_nameNow_204 ?_
                  refine j_bipush (pc := 205) dX12_nameNow_205 rfl ?_
                  refine j_bipush (pc := 207) dX12_nameNow_207 rfl ?_
                  refine j_bipush (pc := 209) dX12_nameNow_209 rfl ?_
                  refine j_bipush (pc := 211) dX12_nameNow_211 rfl ?_
                  refine j_callV (pc := 213) (As := [vI 4, vI 102, vI 105, vI 116, vI 115]) (st := []) (c_X12_is hM 4 ⟨by omega, by omega⟩ 102 ⟨by omega, by omega⟩ 105 ⟨by omega, by omega⟩ 116 ⟨by omega, by omega⟩ 115 ⟨by omega, by omega⟩ σ hI) mv_X12_107 rfl rfl rfl (a_88 hM) dX12_nameNow_213 ⟨Nat.le_of_ble_eq_true rfl, Nat.le_of_ble_eq_true rfl⟩ ⟨Nat.le_refl _, Nat.le_refl _⟩ rfl (Nat.le_of_ble_eq_true rfl) rfl (fun z140 σ141 hz140 => ?_)
                  obtain ⟨r143, rfl, hr143, rfl, q142_0⟩ := hz140
                  replace q142_0 : (r143 = 1 ∧ σ 88 13 - σ 88 14 = (4 : Int) ∧ fM σ (σ 88 14) = (102 : Int) ∧ fM σ (σ 88 14 + 1) = (105 : Int) ∧ ((4 : Int) < 3 ∨ fM σ (σ 88 14 + 2) = (116 : Int)) ∧ ((4 : Int) < 4 ∨ fM σ (σ 88 14 + 3) = (115 : Int))) ∨ (r143 = 0 ∧ ¬ (σ 88 13 - σ 88 14 = (4 : Int) ∧ fM σ (σ 88 14) = (102 : Int) ∧ fM σ (σ 88 14 + 1) = (105 : Int) ∧ ((4 : Int) < 3 ∨ fM σ (σ 88 14 + 2) = (116 : Int)) ∧ ((4 : Int) < 4 ∨ fM σ (σ 88 14 + 3) = (115 : Int)))) := q142_0
                  refine j_st (st' := [vI r143]) rfl ?_
                  refine j_ifR_eq (pc := 216) (tgt := 221) ⟨by omega, by omega⟩ dX12_nameNow_216 rfl (fun h144 => ?_) (fun h144 => ?_)
                  · refine j_aload_n (pc := 221) dX12_nameNow_221 rfl rfl ?_
                    refine j_iconst (pc := 222) dX12_nameNow_222 ?_
                    refine j_bipush (pc := 223) dX12_nameNow_223 rfl ?_
                    refine j_bipush (pc := 225) dX12_nameNow_225 rfl ?_
                    refine j_bipush (pc := 227) dX12_nameNow_227 rfl ?_
                    refine j_bipush (pc := 229) dX12_nameNow_229 rfl ?_
                    refine j_callV (pc := 231) (As := [vI 5, vI 104, vI 111, vI 108, vI 100]) (st := []) (c_X12_is hM 5 ⟨by omega, by omega⟩ 104 ⟨by omega, by omega⟩ 111 ⟨by omega, by omega⟩ 108 ⟨by omega, by omega⟩ 100 ⟨by omega, by omega⟩ σ hI) mv_X12_107 rfl rfl rfl (a_88 hM) dX12_nameNow_231 ⟨Nat.le_of_ble_eq_true rfl, Nat.le_of_ble_eq_true rfl⟩ ⟨Nat.le_refl _, Nat.le_refl _⟩ rfl (Nat.le_of_ble_eq_true rfl) rfl (fun z145 σ146 hz145 => ?_)
                    obtain ⟨r148, rfl, hr148, rfl, q147_0⟩ := hz145
                    replace q147_0 : (r148 = 1 ∧ σ 88 13 - σ 88 14 = (5 : Int) ∧ fM σ (σ 88 14) = (104 : Int) ∧ fM σ (σ 88 14 + 1) = (111 : Int) ∧ ((5 : Int) < 3 ∨ fM σ (σ 88 14 + 2) = (108 : Int)) ∧ ((5 : Int) < 4 ∨ fM σ (σ 88 14 + 3) = (100 : Int))) ∨ (r148 = 0 ∧ ¬ (σ 88 13 - σ 88 14 = (5 : Int) ∧ fM σ (σ 88 14) = (104 : Int) ∧ fM σ (σ 88 14 + 1) = (111 : Int) ∧ ((5 : Int) < 3 ∨ fM σ (σ 88 14 + 2) = (108 : Int)) ∧ ((5 : Int) < 4 ∨ fM σ (σ 88 14 + 3) = (100 : Int)))) := q147_0
                    refine j_st (st' := [vI r148]) rfl ?_
                    refine j_ifR_eq (pc := 234) (tgt := 255) ⟨by omega, by omega⟩ dX12_nameNow_234 rfl (fun h149 => ?_) (fun h149 => ?_)
                    · refine j_aload_n (pc := 255) dX12_nameNow_255 rfl rfl ?_
                      refine j_iconst (pc := 256) dX12_nameNow_256 ?_
                      refine j_bipush (pc := 257) dX12_nameNow_257 rfl ?_
                      refine j_bipush (pc := 259) dX12_nameNow_259 rfl ?_
                      refine j_bipush (pc := 261) dX12_nameNow_261 rfl ?_
                      refine j_iconst (pc := 263) dX12_nameNow_263 ?_
                      refine j_callV (pc := 264) (As := [vI 3, vI 108, vI 111, vI 119, vI 0]) (st := []) (c_X12_is hM 3 ⟨by omega, by omega⟩ 108 ⟨by omega, by omega⟩ 111 ⟨by omega, by omega⟩ 119 ⟨by omega, by omega⟩ 0 ⟨by omega, by omega⟩ σ hI) mv_X12_107 rfl rfl rfl (a_88 hM) dX12_nameNow_264 ⟨Nat.le_of_ble_eq_true rfl, Nat.le_of_ble_eq_true rfl⟩ ⟨Nat.le_refl _, Nat.le_refl _⟩ rfl (Nat.le_of_ble_eq_true rfl) rfl (fun z150 σ151 hz150 => ?_)
                      obtain ⟨r153, rfl, hr153, rfl, q152_0⟩ := hz150
                      replace q152_0 : (r153 = 1 ∧ σ 88 13 - σ 88 14 = (3 : Int) ∧ fM σ (σ 88 14) = (108 : Int) ∧ fM σ (σ 88 14 + 1) = (111 : Int) ∧ ((3 : Int) < 3 ∨ fM σ (σ 88 14 + 2) = (119 : Int)) ∧ ((3 : Int) < 4 ∨ fM σ (σ 88 14 + 3) = (0 : Int))) ∨ (r153 = 0 ∧ ¬ (σ 88 13 - σ 88 14 = (3 : Int) ∧ fM σ (σ 88 14) = (108 : Int) ∧ fM σ (σ 88 14 + 1) = (111 : Int) ∧ ((3 : Int) < 3 ∨ fM σ (σ 88 14 + 2) = (119 : Int)) ∧ ((3 : Int) < 4 ∨ fM σ (σ 88 14 + 3) = (0 : Int)))) := q152_0
                      refine j_st (st' := [vI r153]) rfl ?_
                      refine j_ifR_eq (pc := 267) (tgt := 275) ⟨by omega, by omega⟩ dX12_nameNow_267 rfl (fun h154 => ?_) (fun h154 => ?_)
                      · refine j_aload_n (pc := 275) dX12_nameNow_275 rfl rfl ?_
                        refine j_callV (pc := 276) (As := []) (st := []) (c_X12_withNow hM σ hI) mv_X12_111 rfl rfl rfl (a_88 hM) dX12_nameNow_276 ⟨Nat.le_of_ble_eq_true rfl, Nat.le_of_ble_eq_true rfl⟩ ⟨Nat.le_refl _, Nat.le_refl _⟩ rfl (Nat.le_of_ble_eq_true rfl) rfl (fun z155 σ156 hz155 => ?_)
                        obtain ⟨r158, rfl, hr158, rfl, q157_0, q157_1⟩ := hz155
                        replace q157_0 : r158 = -4 ∨ 20 ≤ r158 := q157_0
                        replace q157_1 : (r158 = -4 ∧ wnm (fM σ) 1 (σ 88 14) (σ 88 13) = -1) ∨ (r158 = 20 + wnm (fM σ) 1 (σ 88 14) (σ 88 13) ∧ 0 ≤ wnm (fM σ) 1 (σ 88 14) (σ 88 13) ∧ wnm (fM σ) 1 (σ 88 14) (σ 88 13) ≤ 3) := q157_1
                        refine j_st (st' := [vI r158]) rfl ?_
                        exact j_iret (pc := 279) ⟨rfl, rfl⟩ dX12_nameNow_279 rfl ⟨_, rfl, ⟨by omega, by omega⟩, rfl, (by rw [← hW]; (repeat' split at hW2) <;> omega)⟩
                      · refine j_bipush (pc := 270) dX12_nameNow_270 rfl ?_
                        refine j_goto (pc := 272) (tgt := 279) dX12_nameNow_272 rfl ?_
                        exact j_iret (pc := 279) ⟨rfl, rfl⟩ dX12_nameNow_279 rfl ⟨_, rfl, ⟨by omega, by omega⟩, rfl, (by rw [← hW]; (repeat' split at hW2) <;> omega)⟩
                    · refine j_aload_n (pc := 237) dX12_nameNow_237 rfl rfl ?_
                      refine j_aload_n (pc := 238) dX12_nameNow_238 rfl rfl ?_
                      refine j_getI (pc := 239) fl_X12_94 dX12_nameNow_239 (a_88 hM) rfl ?_
                      refine j_iconst (pc := 242) dX12_nameNow_242 ?_
                      refine j_iadd (pc := 243) dX12_nameNow_243 ?_
                      refine j_callV (pc := 244) (As := [vI ((σ 88 14) + 4)]) (st := []) (c_X12_look hM ((σ 88 14) + 4) ⟨by omega, by omega⟩ σ hI) mv_X12_103 rfl rfl rfl (a_88 hM) dX12_nameNow_244 ⟨Nat.le_of_ble_eq_true rfl, Nat.le_of_ble_eq_true rfl⟩ ⟨Nat.le_refl _, Nat.le_refl _⟩ rfl (Nat.le_of_ble_eq_true rfl) rfl (fun z159 σ160 hz159 => ?_)
                      obtain ⟨r162, rfl, hr162, rfl, q161_0, q161_1⟩ := hz159
                      replace q161_0 : (((σ 88 14) + 4) < σ 88 12 ∧ r162 = σ 98 ((σ 88 14) + 4).toNat) ∨ (¬ ((σ 88 14) + 4) < σ 88 12 ∧ r162 = -1) := q161_0
                      replace q161_1 : r162 = fM σ ((σ 88 14) + 4) := q161_1
                      refine j_st (st' := [vI r162]) rfl ?_
                      refine j_bipush (pc := 247) dX12_nameNow_247 rfl ?_
                      refine j_icmpR_ne (pc := 249) (tgt := 255) ⟨by omega, by omega⟩ ⟨by omega, by omega⟩ dX12_nameNow_249 rfl (fun h163 => ?_) (fun h163 => ?_)
                      · refine j_aload_n (pc := 255) dX12_nameNow_255 rfl rfl ?_
                        refine j_iconst (pc := 256) dX12_nameNow_256 ?_
                        refine j_bipush (pc := 257) dX12_nameNow_257 rfl ?_
                        refine j_bipush (pc := 259) dX12_nameNow_259 rfl ?_
                        refine j_bipush (pc := 261) dX12_nameNow_261 rfl ?_
                        refine j_iconst (pc := 263) dX12_nameNow_263 ?_
                        refine j_callV (pc := 264) (As := [vI 3, vI 108, vI 111, vI 119, vI 0]) (st := []) (c_X12_is hM 3 ⟨by omega, by omega⟩ 108 ⟨by omega, by omega⟩ 111 ⟨by omega, by omega⟩ 119 ⟨by omega, by omega⟩ 0 ⟨by omega, by omega⟩ σ hI) mv_X12_107 rfl rfl rfl (a_88 hM) dX12_nameNow_264 ⟨Nat.le_of_ble_eq_true rfl, Nat.le_of_ble_eq_true rfl⟩ ⟨Nat.le_refl _, Nat.le_refl _⟩ rfl (Nat.le_of_ble_eq_true rfl) rfl (fun z164 σ165 hz164 => ?_)
                        obtain ⟨r167, rfl, hr167, rfl, q166_0⟩ := hz164
                        replace q166_0 : (r167 = 1 ∧ σ 88 13 - σ 88 14 = (3 : Int) ∧ fM σ (σ 88 14) = (108 : Int) ∧ fM σ (σ 88 14 + 1) = (111 : Int) ∧ ((3 : Int) < 3 ∨ fM σ (σ 88 14 + 2) = (119 : Int)) ∧ ((3 : Int) < 4 ∨ fM σ (σ 88 14 + 3) = (0 : Int))) ∨ (r167 = 0 ∧ ¬ (σ 88 13 - σ 88 14 = (3 : Int) ∧ fM σ (σ 88 14) = (108 : Int) ∧ fM σ (σ 88 14 + 1) = (111 : Int) ∧ ((3 : Int) < 3 ∨ fM σ (σ 88 14 + 2) = (119 : Int)) ∧ ((3 : Int) < 4 ∨ fM σ (σ 88 14 + 3) = (0 : Int)))) := q166_0
                        refine j_st (st' := [vI r167]) rfl ?_
                        refine j_ifR_eq (pc := 267) (tgt := 275) ⟨by omega, by omega⟩ dX12_nameNow_267 rfl (fun h168 => ?_) (fun h168 => ?_)
                        · refine j_aload_n (pc := 275) dX12_nameNow_275 rfl rfl ?_
                          refine j_callV (pc := 276) (As := []) (st := []) (c_X12_withNow hM σ hI) mv_X12_111 rfl rfl rfl (a_88 hM) dX12_nameNow_276 ⟨Nat.le_of_ble_eq_true rfl, Nat.le_of_ble_eq_true rfl⟩ ⟨Nat.le_refl _, Nat.le_refl _⟩ rfl (Nat.le_of_ble_eq_true rfl) rfl (fun z169 σ170 hz169 => ?_)
                          obtain ⟨r172, rfl, hr172, rfl, q171_0, q171_1⟩ := hz169
                          replace q171_0 : r172 = -4 ∨ 20 ≤ r172 := q171_0
                          replace q171_1 : (r172 = -4 ∧ wnm (fM σ) 1 (σ 88 14) (σ 88 13) = -1) ∨ (r172 = 20 + wnm (fM σ) 1 (σ 88 14) (σ 88 13) ∧ 0 ≤ wnm (fM σ) 1 (σ 88 14) (σ 88 13) ∧ wnm (fM σ) 1 (σ 88 14) (σ 88 13) ≤ 3) := q171_1
                          refine j_st (st' := [vI r172]) rfl ?_
                          exact j_iret (pc := 279) ⟨rfl, rfl⟩ dX12_nameNow_279 rfl ⟨_, rfl, ⟨by omega, by omega⟩, rfl, (by rw [← hW]; (repeat' split at hW2) <;> omega)⟩
                        · refine j_bipush (pc := 270) dX12_nameNow_270 rfl ?_
                          refine j_goto (pc := 272) (tgt := 279) dX12_nameNow_272 rfl ?_
                          exact j_iret (pc := 279) ⟨rfl, rfl⟩ dX12_nameNow_279 rfl ⟨_, rfl, ⟨by omega, by omega⟩, rfl, (by rw [← hW]; (repeat' split at hW2) <;> omega)⟩
                      · refine j_bipush (pc := 252) dX12_nameNow_252 rfl ?_
                        exact j_iret (pc := 254) ⟨rfl, rfl⟩ dX12_nameNow_254 rfl ⟨_, rfl, ⟨by omega, by omega⟩, rfl, (by rw [← hW]; (repeat' split at hW2) <;> omega)⟩
                  · refine j_iconst (pc := 219) dX12_nameNow_219 ?_
                    exact j_iret (pc := 220) ⟨rfl, rfl⟩ dX12_nameNow_220 rfl ⟨_, rfl, ⟨by omega, by omega⟩, rfl, (by rw [← hW]; (repeat' split at hW2) <;> omega)⟩
                · refine j_iconst (pc := 201) dX12_nameNow_201 ?_
                  exact j_iret (pc := 202) ⟨rfl, rfl⟩ dX12_nameNow_202 rfl ⟨_, rfl, ⟨by omega, by omega⟩, rfl, (by rw [← hW]; (repeat' split at hW2) <;> omega)⟩
              · refine j_iconst (pc := 183) dX12_nameNow_183 ?_
                exact j_iret (pc := 184) ⟨rfl, rfl⟩ dX12_nameNow_184 rfl ⟨_, rfl, ⟨by omega, by omega⟩, rfl, (by rw [← hW]; (repeat' split at hW2) <;> omega)⟩
            · refine j_aload_n (pc := 150) dX12_nameNow_150 rfl rfl ?_
              refine j_aload_n (pc := 151) dX12_nameNow_151 rfl rfl ?_
              refine j_getI (pc := 152) fl_X12_94 dX12_nameNow_152 (a_88 hM) rfl ?_
              refine j_iconst (pc := 155) dX12_nameNow_155 ?_
              refine j_iadd (pc := 156) dX12_nameNow_156 ?_
              refine j_callV (pc := 157) (As := [vI ((σ 88 14) + 4)]) (st := []) (c_X12_look hM ((σ 88 14) + 4) ⟨by omega, by omega⟩ σ hI) mv_X12_103 rfl rfl rfl (a_88 hM) dX12_nameNow_157 ⟨Nat.le_of_ble_eq_true rfl, Nat.le_of_ble_eq_true rfl⟩ ⟨Nat.le_refl _, Nat.le_refl _⟩ rfl (Nat.le_of_ble_eq_true rfl) rfl (fun z173 σ174 hz173 => ?_)
              obtain ⟨r176, rfl, hr176, rfl, q175_0, q175_1⟩ := hz173
              replace q175_0 : (((σ 88 14) + 4) < σ 88 12 ∧ r176 = σ 98 ((σ 88 14) + 4).toNat) ∨ (¬ ((σ 88 14) + 4) < σ 88 12 ∧ r176 = -1) := q175_0
              replace q175_1 : r176 = fM σ ((σ 88 14) + 4) := q175_1
              refine j_st (st' := [vI r176]) rfl ?_
              refine j_bipush (pc := 160) dX12_nameNow_160 rfl ?_
              refine j_icmpR_ne (pc := 162) (tgt := 167) ⟨by omega, by omega⟩ ⟨by omega, by omega⟩ dX12_nameNow_162 rfl (fun h177 => ?_) (fun h177 => ?_)
              · refine j_aload_n (pc := 167) dX12_nameNow_167 rfl rfl ?_
                refine j_iconst (pc := 168) dX12_nameNow_168 ?_
                refine j_bipush (pc := 169) dX12_nameNow_169 rfl ?_
                refine j_bipush (pc := 171) dX12_nameNow_171 rfl ?_
                refine j_bipush (pc := 173) dX12_nameNow_173 rfl ?_
                refine j_bipush (pc := 175) dX12_nameNow_175 rfl ?_
                refine j_callV (pc := 177) (As := [vI 4, vI 114, vI 111, vI 112, vI 101]) (st := []) (c_X12_is hM 4 ⟨by omega, by omega⟩ 114 ⟨by omega, by omega⟩ 111 ⟨by omega, by omega⟩ 112 ⟨by omega, by omega⟩ 101 ⟨by omega, by omega⟩ σ hI) mv_X12_107 rfl rfl rfl (a_88 hM) dX12_nameNow_177 ⟨Nat.le_of_ble_eq_true rfl, Nat.le_of_ble_eq_true rfl⟩ ⟨Nat.le_refl _, Nat.le_refl _⟩ rfl (Nat.le_of_ble_eq_true rfl) rfl (fun z178 σ179 hz178 => ?_)
                obtain ⟨r181, rfl, hr181, rfl, q180_0⟩ := hz178
                replace q180_0 : (r181 = 1 ∧ σ 88 13 - σ 88 14 = (4 : Int) ∧ fM σ (σ 88 14) = (114 : Int) ∧ fM σ (σ 88 14 + 1) = (111 : Int) ∧ ((4 : Int) < 3 ∨ fM σ (σ 88 14 + 2) = (112 : Int)) ∧ ((4 : Int) < 4 ∨ fM σ (σ 88 14 + 3) = (101 : Int))) ∨ (r181 = 0 ∧ ¬ (σ 88 13 - σ 88 14 = (4 : Int) ∧ fM σ (σ 88 14) = (114 : Int) ∧ fM σ (σ 88 14 + 1) = (111 : Int) ∧ ((4 : Int) < 3 ∨ fM σ (σ 88 14 + 2) = (112 : Int)) ∧ ((4 : Int) < 4 ∨ fM σ (σ 88 14 + 3) = (101 : Int)))) := q180_0
                refine j_st (st' := [vI r181]) rfl ?_
                refine j_ifR_eq (pc := 180) (tgt := 185) ⟨by omega, by omega⟩ dX12_nameNow_180 rfl (fun h182 => ?_) (fun h182 => ?_)
                · refine j_aload_n (pc := 185) dX12_nameNow_185 rfl rfl ?_
                  refine j_iconst (pc := 186) dX12_nameNow_186 ?_
                  refine j_bipush (pc := 187) dX12_nameNow_187 rfl ?_
                  refine j_bipush (pc := 189) dX12_nameNow_189 rfl ?_
                  refine j_bipush (pc := 191) dX12_nameNow_191 rfl ?_
                  refine j_bipush (pc := 193) dX12_nameNow_193 rfl ?_
                  refine j_callV (pc := 195) (As := [vI 4, vI 103, vI 105, vI 118, vI 101]) (st := []) (c_X12_is hM 4 ⟨by omega, by omega⟩ 103 ⟨by omega, by omega⟩ 105 ⟨by omega, by omega⟩ 118 ⟨by omega, by omega⟩ 101 ⟨by omega, by omega⟩ σ hI) mv_X12_107 rfl rfl rfl (a_88 hM) dX12_nameNow_195 ⟨Nat.le_of_ble_eq_true rfl, Nat.le_of_ble_eq_true rfl⟩ ⟨Nat.le_refl _, Nat.le_refl _⟩ rfl (Nat.le_of_ble_eq_true rfl) rfl (fun z183 σ184 hz183 => ?_)
                  obtain ⟨r186, rfl, hr186, rfl, q185_0⟩ := hz183
                  replace q185_0 : (r186 = 1 ∧ σ 88 13 - σ 88 14 = (4 : Int) ∧ fM σ (σ 88 14) = (103 : Int) ∧ fM σ (σ 88 14 + 1) = (105 : Int) ∧ ((4 : Int) < 3 ∨ fM σ (σ 88 14 + 2) = (118 : Int)) ∧ ((4 : Int) < 4 ∨ fM σ (σ 88 14 + 3) = (101 : Int))) ∨ (r186 = 0 ∧ ¬ (σ 88 13 - σ 88 14 = (4 : Int) ∧ fM σ (σ 88 14) = (103 : Int) ∧ fM σ (σ 88 14 + 1) = (105 : Int) ∧ ((4 : Int) < 3 ∨ fM σ (σ 88 14 + 2) = (118 : Int)) ∧ ((4 : Int) < 4 ∨ fM σ (σ 88 14 + 3) = (101 : Int)))) := q185_0
                  refine j_st (st' := [vI r186]) rfl ?_
                  refine j_ifR_eq (pc := 198) (tgt := 203) ⟨by omega, by omega⟩ dX12_nameNow_198 rfl (fun h187 => ?_) (fun h187 => ?_)
                  · refine j_aload_n (pc := 203) dX12_nameNow_203 rfl rfl ?_
                    refine j_iconst (pc := 204) dX12_nameNow_204 ?_
                    refine j_bipush (pc := 205) dX12_nameNow_205 rfl ?_
                    refine j_bipush (pc := 207) dX12_nameNow_207 rfl ?_
                    refine j_bipush (pc := 209) dX12_nameNow_209 rfl ?_
                    refine j_bipush (pc := 211) dX12_nameNow_211 rfl ?_
                    refine j_callV (pc := 213) (As := [vI 4, vI 102, vI 105, vI 116, vI 115]) (st := []) (c_X12_is hM 4 ⟨by omega, by omega⟩ 102 ⟨by omega, by omega⟩ 105 ⟨by omega, by omega⟩ 116 ⟨by omega, by omega⟩ 115 ⟨by omega, by omega⟩ σ hI) mv_X12_107 rfl rfl rfl (a_88 hM) dX12_nameNow_213 ⟨Nat.le_of_ble_eq_true rfl, Nat.le_of_ble_eq_true rfl⟩ ⟨Nat.le_refl _, Nat.le_refl _⟩ rfl (Nat.le_of_ble_eq_true rfl) rfl (fun z188 σ189 hz188 => ?_)
                    obtain ⟨r191, rfl, hr191, rfl, q190_0⟩ := hz188
                    replace q190_0 : (r191 = 1 ∧ σ 88 13 - σ 88 14 = (4 : Int) ∧ fM σ (σ 88 14) = (102 : Int) ∧ fM σ (σ 88 14 + 1) = (105 : Int) ∧ ((4 : Int) < 3 ∨ fM σ (σ 88 14 + 2) = (116 : Int)) ∧ ((4 : Int) < 4 ∨ fM σ (σ 88 14 + 3) = (115 : Int))) ∨ (r191 = 0 ∧ ¬ (σ 88 13 - σ 88 14 = (4 : Int) ∧ fM σ (σ 88 14) = (102 : Int) ∧ fM σ (σ 88 14 + 1) = (105 : Int) ∧ ((4 : Int) < 3 ∨ fM σ (σ 88 14 + 2) = (116 : Int)) ∧ ((4 : Int) < 4 ∨ fM σ (σ 88 14 + 3) = (115 : Int)))) := q190_0
                    refine j_st (st' := [vI r191]) rfl ?_
                    refine j_ifR_eq (pc := 216) (tgt := 221) ⟨by omega, by omega⟩ dX12_nameNow_216 rfl (fun h192 => ?_) (fun h192 => ?_)
                    · refine j_aload_n (pc := 221) dX12_nameNow_221 rfl rfl ?_
                      refine j_iconst (pc := 222) dX12_nameNow_222 ?_
                      refine j_bipush (pc := 223) dX12_nameNow_223 rfl ?_
                      refine j_bipush (pc := 225) dX12_nameNow_225 rfl ?_
                      refine j_bipush (pc := 227) dX12_nameNow_227 rfl ?_
                      refine j_bipush (pc := 229) dX12_nameNow_229 rfl ?_
                      refine j_callV (pc := 231) (As := [vI 5, vI 104, vI 111, vI 108, vI 100]) (st := []) (c_X12_is hM 5 ⟨by omega, by omega⟩ 104 ⟨by omega, by omega⟩ 111 ⟨by omega, by omega⟩ 108 ⟨by omega, by omega⟩ 100 ⟨by omega, by omega⟩ σ hI) mv_X12_107 rfl rfl rfl (a_88 hM) dX12_nameNow_231 ⟨Nat.le_of_ble_eq_true rfl, Nat.le_of_ble_eq_true rfl⟩ ⟨Nat.le_refl _, Nat.le_refl _⟩ rfl (Nat.le_of_ble_eq_true rfl) rfl (fun z193 σ194 hz193 => ?_)
                      obtain ⟨r196, rfl, hr196, rfl, q195_0⟩ := hz193
                      replace q195_0 : (r196 = 1 ∧ σ 88 13 - σ 88 14 = (5 : Int) ∧ fM σ (σ 88 14) = (104 : Int) ∧ fM σ (σ 88 14 + 1) = (111 : Int) ∧ ((5 : Int) < 3 ∨ fM σ (σ 88 14 + 2) = (108 : Int)) ∧ ((5 : Int) < 4 ∨ fM σ (σ 88 14 + 3) = (100 : Int))) ∨ (r196 = 0 ∧ ¬ (σ 88 13 - σ 88 14 = (5 : Int) ∧ fM σ (σ 88 14) = (104 : Int) ∧ fM σ (σ 88 14 + 1) = (111 : Int) ∧ ((5 : Int) < 3 ∨ fM σ (σ 88 14 + 2) = (108 : Int)) ∧ ((5 : Int) < 4 ∨ fM σ (σ 88 14 + 3) = (100 : Int)))) := q195_0
                      refine j_st (st' := [vI r196]) rfl ?_
                      refine j_ifR_eq (pc := 234) (tgt := 255) ⟨by omega, by omega⟩ dX12_nameNow_234 rfl (fun h197 => ?_) (fun h197 => ?_)
                      · refine j_aload_n (pc := 255) dX12_nameNow_255 rfl rfl ?_
                        refine j_iconst (pc := 256) dX12_nameNow_256 ?_
                        refine j_bipush (pc := 257) dX12_nameNow_257 rfl ?_
                        refine j_bipush (pc := 259) dX12_nameNow_259 rfl ?_
                        refine j_bipush (pc := 261) dX12_nameNow_261 rfl ?_
                        refine j_iconst (pc := 263) dX12_nameNow_263 ?_
                        refine j_callV (pc := 264) (As := [vI 3, vI 108, vI 111, vI 119, vI 0]) (st := []) (c_X12_is hM 3 ⟨by omega, by omega⟩ 108 ⟨by omega, by omega⟩ 111 ⟨by omega, by omega⟩ 119 ⟨by omega, by omega⟩ 0 ⟨by omega, by omega⟩ σ hI) mv_X12_107 rfl rfl rfl (a_88 hM) dX12_nameNow_264 ⟨Nat.le_of_ble_eq_true rfl, Nat.le_of_ble_eq_true rfl⟩ ⟨Nat.le_refl _, Nat.le_refl _⟩ rfl (Nat.le_of_ble_eq_true rfl) rfl (fun z198 σ199 hz198 => ?_)
                        obtain ⟨r201, rfl, hr201, rfl, q200_0⟩ := hz198
                        replace q200_0 : (r201 = 1 ∧ σ 88 13 - σ 88 14 = (3 : Int) ∧ fM σ (σ 88 14) = (108 : Int) ∧ fM σ (σ 88 14 + 1) = (111 : Int) ∧ ((3 : Int) < 3 ∨ fM σ (σ 88 14 + 2) = (119 : Int)) ∧ ((3 : Int) < 4 ∨ fM σ (σ 88 14 + 3) = (0 : Int))) ∨ (r201 = 0 ∧ ¬ (σ 88 13 - σ 88 14 = (3 : Int) ∧ fM σ (σ 88 14) = (108 : Int) ∧ fM σ (σ 88 14 + 1) = (111 : Int) ∧ ((3 : Int) < 3 ∨ fM σ (σ 88 14 + 2) = (119 : Int)) ∧ ((3 : Int) < 4 ∨ fM σ (σ 88 14 + 3) = (0 : Int)))) := q200_0
                        refine j_st (st' := [vI r201]) rfl ?_
                        refine j_ifR_eq (pc := 267) (tgt := 275) ⟨by omega, by omega⟩ dX12_nameNow_267 rfl (fun h202 => ?_) (fun h202 => ?_)
                        · refine j_aload_n (pc := 275) dX12_nameNow_275 rfl rfl ?_
                          refine j_callV (pc := 276) (As := []) (st := []) (c_X12_withNow hM σ hI) mv_X12_111 rfl rfl rfl (a_88 hM) dX12_nameNow_276 ⟨Nat.le_of_ble_eq_true rfl, Nat.le_of_ble_eq_true rfl⟩ ⟨Nat.le_refl _, Nat.le_refl _⟩ rfl (Nat.le_of_ble_eq_true rfl) rfl (fun z203 σ204 hz203 => ?_)
                          obtain ⟨r206, rfl, hr206, rfl, q205_0, q205_1⟩ := hz203
                          replace q205_0 : r206 = -4 ∨ 20 ≤ r206 := q205_0
                          replace q205_1 : (r206 = -4 ∧ wnm (fM σ) 1 (σ 88 14) (σ 88 13) = -1) ∨ (r206 = 20 + wnm (fM σ) 1 (σ 88 14) (σ 88 13) ∧ 0 ≤ wnm (fM σ) 1 (σ 88 14) (σ 88 13) ∧ wnm (fM σ) 1 (σ 88 14) (σ 88 13) ≤ 3) := q205_1
                          refine j_st (st' := [vI r206]) rfl ?_
                          exact j_iret (pc := 279) ⟨rfl, rfl⟩ dX12_nameNow_279 rfl ⟨_, rfl, ⟨by omega, by omega⟩, rfl, (by rw [← hW]; (repeat' split at hW2) <;> omega)⟩
                        · refine j_bipush (pc := 270) dX12_nameNow_270 rfl ?_
                          refine j_goto (pc := 272) (tgt := 279) dX12_nameNow_272 rfl ?_
                          exact j_iret (pc := 279) ⟨rfl, rfl⟩ dX12_nameNow_279 rfl ⟨_, rfl, ⟨by omega, by omega⟩, rfl, (by rw [← hW]; (repeat' split at hW2) <;> omega)⟩
                      · refine j_aload_n (pc := 237) dX12_nameNow_237 rfl rfl ?_
                        refine j_aload_n (pc := 238) dX12_nameNow_238 rfl rfl ?_
                        refine j_getI (pc := 239) fl_X12_94 dX12_nameNow_239 (a_88 hM) rfl ?_
                        refine j_iconst (pc := 242) dX12_nameNow_242 ?_
                        refine j_iadd (pc := 243) dX12_nameNow_243 ?_
                        refine j_callV (pc := 244) (As := [vI ((σ 88 14) + 4)]) (st := []) (c_X12_look hM ((σ 88 14) + 4) ⟨by omega, by omega⟩ σ hI) mv_X12_103 rfl rfl rfl (a_88 hM) dX12_nameNow_244 ⟨Nat.le_of_ble_eq_true rfl, Nat.le_of_ble_eq_true rfl⟩ ⟨Nat.le_refl _, Nat.le_refl _⟩ rfl (Nat.le_of_ble_eq_true rfl) rfl (fun z207 σ208 hz207 => ?_)
                        obtain ⟨r210, rfl, hr210, rfl, q209_0, q209_1⟩ := hz207
                        replace q209_0 : (((σ 88 14) + 4) < σ 88 12 ∧ r210 = σ 98 ((σ 88 14) + 4).toNat) ∨ (¬ ((σ 88 14) + 4) < σ 88 12 ∧ r210 = -1) := q209_0
                        replace q209_1 : r210 = fM σ ((σ 88 14) + 4) := q209_1
                        refine j_st (st' := [vI r210]) rfl ?_
                        refine j_bipush (pc := 247) dX12_nameNow_247 rfl ?_
                        refine j_icmpR_ne (pc := 249) (tgt := 255) ⟨by omega, by omega⟩ ⟨by omega, by omega⟩ dX12_nameNow_249 rfl (fun h211 => ?_) (fun h211 => ?_)
                        · refine j_aload_n (pc := 255) dX12_nameNow_255 rfl rfl ?_
                          refine j_iconst (pc := 256) dX12_nameNow_256 ?_
                          refine j_bipush (pc := 257) dX12_nameNow_257 rfl ?_
                          refine j_bipush (pc := 259) dX12_nameNow_259 rfl ?_
                          refine j_bipush (pc := 261) dX12_nameNow_261 rfl ?_
                          refine j_iconst (pc := 263) dX12_nameNow_263 ?_
                          refine j_callV (pc := 264) (As := [vI 3, vI 108, vI 111, vI 119, vI 0]) (st := []) (c_X12_is hM 3 ⟨by omega, by omega⟩ 108 ⟨by omega, by omega⟩ 111 ⟨by omega, by omega⟩ 119 ⟨by omega, by omega⟩ 0 ⟨by omega, by omega⟩ σ hI) mv_X12_107 rfl rfl rfl (a_88 hM) dX12_nameNow_264 ⟨Nat.le_of_ble_eq_true rfl, Nat.le_of_ble_eq_true rfl⟩ ⟨Nat.le_refl _, Nat.le_refl _⟩ rfl (Nat.le_of_ble_eq_true rfl) rfl (fun z212 σ213 hz212 => ?_)
                          obtain ⟨r215, rfl, hr215, rfl, q214_0⟩ := hz212
                          replace q214_0 : (r215 = 1 ∧ σ 88 13 - σ 88 14 = (3 : Int) ∧ fM σ (σ 88 14) = (108 : Int) ∧ fM σ (σ 88 14 + 1) = (111 : Int) ∧ ((3 : Int) < 3 ∨ fM σ (σ 88 14 + 2) = (119 : Int)) ∧ ((3 : Int) < 4 ∨ fM σ (σ 88 14 + 3) = (0 : Int))) ∨ (r215 = 0 ∧ ¬ (σ 88 13 - σ 88 14 = (3 : Int) ∧ fM σ (σ 88 14) = (108 : Int) ∧ fM σ (σ 88 14 + 1) = (111 : Int) ∧ ((3 : Int) < 3 ∨ fM σ (σ 88 14 + 2) = (119 : Int)) ∧ ((3 : Int) < 4 ∨ fM σ (σ 88 14 + 3) = (0 : Int)))) := q214_0
                          refine j_st (st' := [vI r215]) rfl ?_
                          refine j_ifR_eq (pc := 267) (tgt := 275) ⟨by omega, by omega⟩ dX12_nameNow_267 rfl (fun h216 => ?_) (fun h216 => ?_)
                          · refine j_aload_n (pc := 275) dX12_nameNow_275 rfl rfl ?_
                            refine j_callV (pc := 276) (As := []) (st := []) (c_X12_withNow hM σ hI) mv_X12_111 rfl rfl rfl (a_88 hM) dX12_nameNow_276 ⟨Nat.le_of_ble_eq_true rfl, Nat.le_of_ble_eq_true rfl⟩ ⟨Nat.le_refl _, Nat.le_refl _⟩ rfl (Nat.le_of_ble_eq_true rfl) rfl (fun z217 σ218 hz217 => ?_)
                            obtain ⟨r220, rfl, hr220, rfl, q219_0, q219_1⟩ := hz217
                            replace q219_0 : r220 = -4 ∨ 20 ≤ r220 := q219_0
                            replace q219_1 : (r220 = -4 ∧ wnm (fM σ) 1 (σ 88 14) (σ 88 13) = -1) ∨ (r220 = 20 + wnm (fM σ) 1 (σ 88 14) (σ 88 13) ∧ 0 ≤ wnm (fM σ) 1 (σ 88 14) (σ 88 13) ∧ wnm (fM σ) 1 (σ 88 14) (σ 88 13) ≤ 3) := q219_1
                            refine j_st (st' := [vI r220]) rfl ?_
                            exact j_iret (pc := 279) ⟨rfl, rfl⟩ dX12_nameNow_279 rfl ⟨_, rfl, ⟨by omega, by omega⟩, rfl, (by rw [← hW]; (repeat' split at hW2) <;> omega)⟩
                          · refine j_bipush (pc := 270) dX12_nameNow_270 rfl ?_
                            refine j_goto (pc := 272) (tgt := 279) dX12_nameNow_272 rfl ?_
                            exact j_iret (pc := 279) ⟨rfl, rfl⟩ dX12_nameNow_279 rfl ⟨_, rfl, ⟨by omega, by omega⟩, rfl, (by rw [← hW]; (repeat' split at hW2) <;> omega)⟩
                        · refine j_bipush (pc := 252) dX12_nameNow_252 rfl ?_
                          exact j_iret (pc := 254) ⟨rfl, rfl⟩ dX12_nameNow_254 rfl ⟨_, rfl, ⟨by omega, by omega⟩, rfl, (by rw [← hW]; (repeat' split at hW2) <;> omega)⟩
                    · refine j_iconst (pc := 219) dX12_nameNow_219 ?_
                      exact j_iret (pc := 220) ⟨rfl, rfl⟩ dX12_nameNow_220 rfl ⟨_, rfl, ⟨by omega, by omega⟩, rfl, (by rw [← hW]; (repeat' split at hW2) <;> omega)⟩
                  · refine j_iconst (pc := 201) dX12_nameNow_201 ?_
                    exact j_iret (pc := 202) ⟨rfl, rfl⟩ dX12_nameNow_202 rfl ⟨_, rfl, ⟨by omega, by omega⟩, rfl, (by rw [← hW]; (repeat' split at hW2) <;> omega)⟩
                · refine j_iconst (pc := 183) dX12_nameNow_183 ?_
                  exact j_iret (pc := 184) ⟨rfl, rfl⟩ dX12_nameNow_184 rfl ⟨_, rfl, ⟨by omega, by omega⟩, rfl, (by rw [← hW]; (repeat' split at hW2) <;> omega)⟩
              · refine j_iconst (pc := 165) dX12_nameNow_165 ?_
                exact j_iret (pc := 166) ⟨rfl, rfl⟩ dX12_nameNow_166 rfl ⟨_, rfl, ⟨by omega, by omega⟩, rfl, (by rw [← hW]; (repeat' split at hW2) <;> omega)⟩
          · refine j_aload_n (pc := 85) dX12_nameNow_85 rfl rfl ?_
            refine j_aload_n (pc := 86) dX12_nameNow_86 rfl rfl ?_
            refine j_getI (pc := 87) fl_X12_94 dX12_nameNow_87 (a_88 hM) rfl ?_
            refine j_iconst (pc := 90) dX12_nameNow_90 ?_
            refine j_iadd (pc := 91) dX12_nameNow_91 ?_
            refine j_callV (pc := 92) (As := [vI ((σ 88 14) + 5)]) (st := []) (c_X12_look hM ((σ 88 14) + 5) ⟨by omega, by omega⟩ σ hI) mv_X12_103 rfl rfl rfl (a_88 hM) dX12_nameNow_92 ⟨Nat.le_of_ble_eq_true rfl, Nat.le_of_ble_eq_true rfl⟩ ⟨Nat.le_refl _, Nat.le_refl _⟩ rfl (Nat.le_of_ble_eq_true rfl) rfl (fun z221 σ222 hz221 => ?_)
            obtain ⟨r224, rfl, hr224, rfl, q223_0, q223_1⟩ := hz221
            replace q223_0 : (((σ 88 14) + 5) < σ 88 12 ∧ r224 = σ 98 ((σ 88 14) + 5).toNat) ∨ (¬ ((σ 88 14) + 5) < σ 88 12 ∧ r224 = -1) := q223_0
            replace q223_1 : r224 = fM σ ((σ 88 14) + 5) := q223_1
            refine j_st (st' := [vI r224]) rfl ?_
            refine j_bipush (pc := 95) dX12_nameNow_95 rfl ?_
            refine j_icmpR_ne (pc := 97) (tgt := 134) ⟨by omega, by omega⟩ ⟨by omega, by omega⟩ dX12_nameNow_97 rfl (fun h225 => ?_) (fun h225 => ?_)
            · refine j_aload_n (pc := 134) dX12_nameNow_134 rfl rfl ?_
              refine j_iconst (pc := 135) dX12_nameNow_135 ?_
              refine j_bipush (pc := 136) dX12_nameNow_136 rfl ?_
              refine j_bipush (pc := 138) dX12_nameNow_138 rfl ?_
              refine j_bipush (pc := 140) dX12_nameNow_140 rfl ?_
              refine j_bipush (pc := 142) dX12_nameNow_142 rfl ?_
              refine j_callV (pc := 144) (As := [vI 5, vI 112, vI 108, vI 97, vI 99]) (st := []) (c_X12_is hM 5 ⟨by omega, by omega⟩ 112 ⟨by omega, by omega⟩ 108 ⟨by omega, by omega⟩ 97 ⟨by omega, by omega⟩ 99 ⟨by omega, by omega⟩ σ hI) mv_X12_107 rfl rfl rfl (a_88 hM) dX12_nameNow_144 ⟨Nat.le_of_ble_eq_true rfl, Nat.le_of_ble_eq_true rfl⟩ ⟨Nat.le_refl _, Nat.le_refl _⟩ rfl (Nat.le_of_ble_eq_true rfl) rfl (fun z226 σ227 hz226 => ?_)
              obtain ⟨r229, rfl, hr229, rfl, q228_0⟩ := hz226
              replace q228_0 : (r229 = 1 ∧ σ 88 13 - σ 88 14 = (5 : Int) ∧ fM σ (σ 88 14) = (112 : Int) ∧ fM σ (σ 88 14 + 1) = (108 : Int) ∧ ((5 : Int) < 3 ∨ fM σ (σ 88 14 + 2) = (97 : Int)) ∧ ((5 : Int) < 4 ∨ fM σ (σ 88 14 + 3) = (99 : Int))) ∨ (r229 = 0 ∧ ¬ (σ 88 13 - σ 88 14 = (5 : Int) ∧ fM σ (σ 88 14) = (112 : Int) ∧ fM σ (σ 88 14 + 1) = (108 : Int) ∧ ((5 : Int) < 3 ∨ fM σ (σ 88 14 + 2) = (97 : Int)) ∧ ((5 : Int) < 4 ∨ fM σ (σ 88 14 + 3) = (99 : Int)))) := q228_0
              refine j_st (st' := [vI r229]) rfl ?_
              refine j_ifR_eq (pc := 147) (tgt := 167) ⟨by omega, by omega⟩ dX12_nameNow_147 rfl (fun h230 => ?_) (fun h230 => ?_)
              · refine j_aload_n (pc := 167) dX12_nameNow_167 rfl rfl ?_
                refine j_iconst (pc := 168) dX12_nameNow_168 ?_
                refine j_bipush (pc := 169) dX12_nameNow_169 rfl ?_
                refine j_bipush (pc := 171) dX12_nameNow_171 rfl ?_
                refine j_bipush (pc := 173) dX12_nameNow_173 rfl ?_
                refine j_bipush (pc := 175) dX12_nameNow_175 rfl ?_
                refine j_callV (pc := 177) (As := [vI 4, vI 114, vI 111, vI 112, vI 101]) (st := []) (c_X12_is hM 4 ⟨by omega, by omega⟩ 114 ⟨by omega, by omega⟩ 111 ⟨by omega, by omega⟩ 112 ⟨by omega, by omega⟩ 101 ⟨by omega, by omega⟩ σ hI) mv_X12_107 rfl rfl rfl (a_88 hM) dX12_nameNow_177 ⟨Nat.le_of_ble_eq_true rfl, Nat.le_of_ble_eq_true rfl⟩ ⟨Nat.le_refl _, Nat.le_refl _⟩ rfl (Nat.le_of_ble_eq_true rfl) rfl (fun z231 σ232 hz231 => ?_)
                obtain ⟨r234, rfl, hr234, rfl, q233_0⟩ := hz231
                replace q233_0 : (r234 = 1 ∧ σ 88 13 - σ 88 14 = (4 : Int) ∧ fM σ (σ 88 14) = (114 : Int) ∧ fM σ (σ 88 14 + 1) = (111 : Int) ∧ ((4 : Int) < 3 ∨ fM σ (σ 88 14 + 2) = (112 : Int)) ∧ ((4 : Int) < 4 ∨ fM σ (σ 88 14 + 3) = (101 : Int))) ∨ (r234 = 0 ∧ ¬ (σ 88 13 - σ 88 14 = (4 : Int) ∧ fM σ (σ 88 14) = (114 : Int) ∧ fM σ (σ 88 14 + 1) = (111 : Int) ∧ ((4 : Int) < 3 ∨ fM σ (σ 88 14 + 2) = (112 : Int)) ∧ ((4 : Int) < 4 ∨ fM σ (σ 88 14 + 3) = (101 : Int)))) := q233_0
                refine j_st (st' := [vI r234]) rfl ?_
                refine j_ifR_eq (pc := 180) (tgt := 185) ⟨by omega, by omega⟩ dX12_nameNow_180 rfl (fun h235 => ?_) (fun h235 => ?_)
                · refine j_aload_n (pc := 185) dX12_nameNow_185 rfl rfl ?_
                  refine j_iconst (pc := 186) dX12_nameNow_186 ?_
                  refine j_bipush (pc := 187) dX12_nameNow_187 rfl ?_
                  refine j_bipush (pc := 189) dX12_nameNow_189 rfl ?_
                  refine j_bipush (pc := 191) dX12_nameNow_191 rfl ?_
                  refine j_bipush (pc := 193) dX12_nameNow_193 rfl ?_
                  refine j_callV (pc := 195) (As := [vI 4, vI 103, vI 105, vI 118, vI 101]) (st := []) (c_X12_is hM 4 ⟨by omega, by omega⟩ 103 ⟨by omega, by omega⟩ 105 ⟨by omega, by omega⟩ 118 ⟨by omega, by omega⟩ 101 ⟨by omega, by omega⟩ σ hI) mv_X12_107 rfl rfl rfl (a_88 hM) dX12_nameNow_195 ⟨Nat.le_of_ble_eq_true rfl, Nat.le_of_ble_eq_true rfl⟩ ⟨Nat.le_refl _, Nat.le_refl _⟩ rfl (Nat.le_of_ble_eq_true rfl) rfl (fun z236 σ237 hz236 => ?_)
                  obtain ⟨r239, rfl, hr239, rfl, q238_0⟩ := hz236
                  replace q238_0 : (r239 = 1 ∧ σ 88 13 - σ 88 14 = (4 : Int) ∧ fM σ (σ 88 14) = (103 : Int) ∧ fM σ (σ 88 14 + 1) = (105 : Int) ∧ ((4 : Int) < 3 ∨ fM σ (σ 88 14 + 2) = (118 : Int)) ∧ ((4 : Int) < 4 ∨ fM σ (σ 88 14 + 3) = (101 : Int))) ∨ (r239 = 0 ∧ ¬ (σ 88 13 - σ 88 14 = (4 : Int) ∧ fM σ (σ 88 14) = (103 : Int) ∧ fM σ (σ 88 14 + 1) = (105 : Int) ∧ ((4 : Int) < 3 ∨ fM σ (σ 88 14 + 2) = (118 : Int)) ∧ ((4 : Int) < 4 ∨ fM σ (σ 88 14 + 3) = (101 : Int)))) := q238_0
                  refine j_st (st' := [vI r239]) rfl ?_
                  refine j_ifR_eq (pc := 198) (tgt := 203) ⟨by omega, by omega⟩ dX12_nameNow_198 rfl (fun h240 => ?_) (fun h240 => ?_)
                  · refine j_aload_n (pc := 203) dX12_nameNow_203 rfl rfl ?_
                    refine j_iconst (pc := 204) dX12_nameNow_204 ?_
                    refine j_bipush (pc := 205) dX12_nameNow_205 rfl ?_
                    refine j_bipush (pc := 207) dX12_nameNow_207 rfl ?_
                    refine j_bipush (pc := 209) dX12_nameNow_209 rfl ?_
                    refine j_bipush (pc := 211) dX12_nameNow_211 rfl ?_
                    refine j_callV (pc := 213) (As := [vI 4, vI 102, vI 105, vI 116, vI 115]) (st := []) (c_X12_is hM 4 ⟨by omega, by omega⟩ 102 ⟨by omega, by omega⟩ 105 ⟨by omega, by omega⟩ 116 ⟨by omega, by omega⟩ 115 ⟨by omega, by omega⟩ σ hI) mv_X12_107 rfl rfl rfl (a_88 hM) dX12_nameNow_213 ⟨Nat.le_of_ble_eq_true rfl, Nat.le_of_ble_eq_true rfl⟩ ⟨Nat.le_refl _, Nat.le_refl _⟩ rfl (Nat.le_of_ble_eq_true rfl) rfl (fun z241 σ242 hz241 => ?_)
                    obtain ⟨r244, rfl, hr244, rfl, q243_0⟩ := hz241
                    replace q243_0 : (r244 = 1 ∧ σ 88 13 - σ 88 14 = (4 : Int) ∧ fM σ (σ 88 14) = (102 : Int) ∧ fM σ (σ 88 14 + 1) = (105 : Int) ∧ ((4 : Int) < 3 ∨ fM σ (σ 88 14 + 2) = (116 : Int)) ∧ ((4 : Int) < 4 ∨ fM σ (σ 88 14 + 3) = (115 : Int))) ∨ (r244 = 0 ∧ ¬ (σ 88 13 - σ 88 14 = (4 : Int) ∧ fM σ (σ 88 14) = (102 : Int) ∧ fM σ (σ 88 14 + 1) = (105 : Int) ∧ ((4 : Int) < 3 ∨ fM σ (σ 88 14 + 2) = (116 : Int)) ∧ ((4 : Int) < 4 ∨ fM σ (σ 88 14 + 3) = (115 : Int)))) := q243_0
                    refine j_st (st' := [vI r244]) rfl ?_
                    refine j_ifR_eq (pc := 216) (tgt := 221) ⟨by omega, by omega⟩ dX12_nameNow_216 rfl (fun h245 => ?_) (fun h245 => ?_)
                    · refine j_aload_n (pc := 221) dX12_nameNow_221 rfl rfl ?_
                      refine j_iconst (pc := 222) dX12_nameNow_222 ?_
                      refine j_bipush (pc := 223) dX12_nameNow_223 rfl ?_
                      refine j_bipush (pc := 225) dX12_nameNow_225 rfl ?_
                      refine j_bipush (pc := 227) dX12_nameNow_227 rfl ?_
                      refine j_bipush (pc := 229) dX12_nameNow_229 rfl ?_
                      refine j_callV (pc := 231) (As := [vI 5, vI 104, vI 111, vI 108, vI 100]) (st := []) (c_X12_is hM 5 ⟨by omega, by omega⟩ 104 ⟨by omega, by omega⟩ 111 ⟨by omega, by omega⟩ 108 ⟨by omega, by omega⟩ 100 ⟨by omega, by omega⟩ σ hI) mv_X12_107 rfl rfl rfl (a_88 hM) dX12_nameNow_231 ⟨Nat.le_of_ble_eq_true rfl, Nat.le_of_ble_eq_true rfl⟩ ⟨Nat.le_refl _, Nat.le_refl _⟩ rfl (Nat.le_of_ble_eq_true rfl) rfl (fun z246 σ247 hz246 => ?_)
                      obtain ⟨r249, rfl, hr249, rfl, q248_0⟩ := hz246
                      replace q248_0 : (r249 = 1 ∧ σ 88 13 - σ 88 14 = (5 : Int) ∧ fM σ (σ 88 14) = (104 : Int) ∧ fM σ (σ 88 14 + 1) = (111 : Int) ∧ ((5 : Int) < 3 ∨ fM σ (σ 88 14 + 2) = (108 : Int)) ∧ ((5 : Int) < 4 ∨ fM σ (σ 88 14 + 3) = (100 : Int))) ∨ (r249 = 0 ∧ ¬ (σ 88 13 - σ 88 14 = (5 : Int) ∧ fM σ (σ 88 14) = (104 : Int) ∧ fM σ (σ 88 14 + 1) = (111 : Int) ∧ ((5 : Int) < 3 ∨ fM σ (σ 88 14 + 2) = (108 : Int)) ∧ ((5 : Int) < 4 ∨ fM σ (σ 88 14 + 3) = (100 : Int)))) := q248_0
                      refine j_st (st' := [vI r249]) rfl ?_
                      refine j_ifR_eq (pc := 234) (tgt := 255) ⟨by omega, by omega⟩ dX12_nameNow_234 rfl (fun h250 => ?_) (fun h250 => ?_)
                      · refine j_aload_n (pc := 255) dX12_nameNow_255 rfl rfl ?_
                        refine j_iconst (pc := 256) dX12_nameNow_256 ?_
                        refine j_bipush (pc := 257) dX12_nameNow_257 rfl ?_
                        refine j_bipush (pc := 259) dX12_nameNow_259 rfl ?_
                        refine j_bipush (pc := 261) dX12_nameNow_261 rfl ?_
                        refine j_iconst (pc := 263) dX12_nameNow_263 ?_
                        refine j_callV (pc := 264) (As := [vI 3, vI 108, vI 111, vI 119, vI 0]) (st := []) (c_X12_is hM 3 ⟨by omega, by omega⟩ 108 ⟨by omega, by omega⟩ 111 ⟨by omega, by omega⟩ 119 ⟨by omega, by omega⟩ 0 ⟨by omega, by omega⟩ σ hI) mv_X12_107 rfl rfl rfl (a_88 hM) dX12_nameNow_264 ⟨Nat.le_of_ble_eq_true rfl, Nat.le_of_ble_eq_true rfl⟩ ⟨Nat.le_refl _, Nat.le_refl _⟩ rfl (Nat.le_of_ble_eq_true rfl) rfl (fun z251 σ252 hz251 => ?_)
                        obtain ⟨r254, rfl, hr254, rfl, q253_0⟩ := hz251
                        replace q253_0 : (r254 = 1 ∧ σ 88 13 - σ 88 14 = (3 : Int) ∧ fM σ (σ 88 14) = (108 : Int) ∧ fM σ (σ 88 14 + 1) = (111 : Int) ∧ ((3 : Int) < 3 ∨ fM σ (σ 88 14 + 2) = (119 : Int)) ∧ ((3 : Int) < 4 ∨ fM σ (σ 88 14 + 3) = (0 : Int))) ∨ (r254 = 0 ∧ ¬ (σ 88 13 - σ 88 14 = (3 : Int) ∧ fM σ (σ 88 14) = (108 : Int) ∧ fM σ (σ 88 14 + 1) = (111 : Int) ∧ ((3 : Int) < 3 ∨ fM σ (σ 88 14 + 2) = (119 : Int)) ∧ ((3 : Int) < 4 ∨ fM σ (σ 88 14 + 3) = (0 : Int)))) := q253_0
                        refine j_st (st' := [vI r254]) rfl ?_
                        refine j_ifR_eq (pc := 267) (tgt := 275) ⟨by omega, by omega⟩ dX12_nameNow_267 rfl (fun h255 => ?_) (fun h255 => ?_)
                        · refine j_aload_n (pc := 275) dX12_nameNow_275 rfl rfl ?_
                          refine j_callV (pc := 276) (As := []) (st := []) (c_X12_withNow hM σ hI) mv_X12_111 rfl rfl rfl (a_88 hM) dX12_nameNow_276 ⟨Nat.le_of_ble_eq_true rfl, Nat.le_of_ble_eq_true rfl⟩ ⟨Nat.le_refl _, Nat.le_refl _⟩ rfl (Nat.le_of_ble_eq_true rfl) rfl (fun z256 σ257 hz256 => ?_)
                          obtain ⟨r259, rfl, hr259, rfl, q258_0, q258_1⟩ := hz256
                          replace q258_0 : r259 = -4 ∨ 20 ≤ r259 := q258_0
                          replace q258_1 : (r259 = -4 ∧ wnm (fM σ) 1 (σ 88 14) (σ 88 13) = -1) ∨ (r259 = 20 + wnm (fM σ) 1 (σ 88 14) (σ 88 13) ∧ 0 ≤ wnm (fM σ) 1 (σ 88 14) (σ 88 13) ∧ wnm (fM σ) 1 (σ 88 14) (σ 88 13) ≤ 3) := q258_1
                          refine j_st (st' := [vI r259]) rfl ?_
                          exact j_iret (pc := 279) ⟨rfl, rfl⟩ dX12_nameNow_279 rfl ⟨_, rfl, ⟨by omega, by omega⟩, rfl, (by rw [← hW]; (repeat' split at hW2) <;> omega)⟩
                        · refine j_bipush (pc := 270) dX12_nameNow_270 rfl ?_
                          refine j_goto (pc := 272) (tgt := 279) dX12_nameNow_272 rfl ?_
                          exact j_iret (pc := 279) ⟨rfl, rfl⟩ dX12_nameNow_279 rfl ⟨_, rfl, ⟨by omega, by omega⟩, rfl, (by rw [← hW]; (repeat' split at hW2) <;> omega)⟩
                      · refine j_aload_n (pc := 237) dX12_nameNow_237 rfl rfl ?_
                        refine j_aload_n (pc := 238) dX12_nameNow_238 rfl rfl ?_
                        refine j_getI (pc := 239) fl_X12_94 dX12_nameNow_239 (a_88 hM) rfl ?_
                        refine j_iconst (pc := 242) dX12_nameNow_242 ?_
                        refine j_iadd (pc := 243) dX12_nameNow_243 ?_
                        refine j_callV (pc := 244) (As := [vI ((σ 88 14) + 4)]) (st := []) (c_X12_look hM ((σ 88 14) + 4) ⟨by omega, by omega⟩ σ hI) mv_X12_103 rfl rfl rfl (a_88 hM) dX12_nameNow_244 ⟨Nat.le_of_ble_eq_true rfl, Nat.le_of_ble_eq_true rfl⟩ ⟨Nat.le_refl _, Nat.le_refl _⟩ rfl (Nat.le_of_ble_eq_true rfl) rfl (fun z260 σ261 hz260 => ?_)
                        obtain ⟨r263, rfl, hr263, rfl, q262_0, q262_1⟩ := hz260
                        replace q262_0 : (((σ 88 14) + 4) < σ 88 12 ∧ r263 = σ 98 ((σ 88 14) + 4).toNat) ∨ (¬ ((σ 88 14) + 4) < σ 88 12 ∧ r263 = -1) := q262_0
                        replace q262_1 : r263 = fM σ ((σ 88 14) + 4) := q262_1
                        refine j_st (st' := [vI r263]) rfl ?_
                        refine j_bipush (pc := 247) dX12_nameNow_247 rfl ?_
                        refine j_icmpR_ne (pc := 249) (tgt := 255) ⟨by omega, by omega⟩ ⟨by omega, by omega⟩ dX12_nameNow_249 rfl (fun h264 => ?_) (fun h264 => ?_)
                        · refine j_aload_n (pc := 255) dX12_nameNow_255 rfl rfl ?_
                          refine j_iconst (pc := 256) dX12_nameNow_256 ?_
                          refine j_bipush (pc := 257) dX12_nameNow_257 rfl ?_
                          refine j_bipush (pc := 259) dX12_nameNow_259 rfl ?_
                          refine j_bipush (pc := 261) dX12_nameNow_261 rfl ?_
                          refine j_iconst (pc := 263) dX12_nameNow_263 ?_
                          refine j_callV (pc := 264) (As := [vI 3, vI 108, vI 111, vI 119, vI 0]) (st := []) (c_X12_is hM 3 ⟨by omega, by omega⟩ 108 ⟨by omega, by omega⟩ 111 ⟨by omega, by omega⟩ 119 ⟨by omega, by omega⟩ 0 ⟨by omega, by omega⟩ σ hI) mv_X12_107 rfl rfl rfl (a_88 hM) dX12_nameNow_264 ⟨Nat.le_of_ble_eq_true rfl, Nat.le_of_ble_eq_true rfl⟩ ⟨Nat.le_refl _, Nat.le_refl _⟩ rfl (Nat.le_of_ble_eq_true rfl) rfl (fun z265 σ266 hz265 => ?_)
                          obtain ⟨r268, rfl, hr268, rfl, q267_0⟩ := hz265
                          replace q267_0 : (r268 = 1 ∧ σ 88 13 - σ 88 14 = (3 : Int) ∧ fM σ (σ 88 14) = (108 : Int) ∧ fM σ (σ 88 14 + 1) = (111 : Int) ∧ ((3 : Int) < 3 ∨ fM σ (σ 88 14 + 2) = (119 : Int)) ∧ ((3 : Int) < 4 ∨ fM σ (σ 88 14 + 3) = (0 : Int))) ∨ (r268 = 0 ∧ ¬ (σ 88 13 - σ 88 14 = (3 : Int) ∧ fM σ (σ 88 14) = (108 : Int) ∧ fM σ (σ 88 14 + 1) = (111 : Int) ∧ ((3 : Int) < 3 ∨ fM σ (σ 88 14 + 2) = (119 : Int)) ∧ ((3 : Int) < 4 ∨ fM σ (σ 88 14 + 3) = (0 : Int)))) := q267_0
                          refine j_st (st' := [vI r268]) rfl ?_
                          refine j_ifR_eq (pc := 267) (tgt := 275) ⟨by omega, by omega⟩ dX12_nameNow_267 rfl (fun h269 => ?_) (fun h269 => ?_)
                          · refine j_aload_n (pc := 275) dX12_nameNow_275 rfl rfl ?_
                            refine j_callV (pc := 276) (As := []) (st := []) (c_X12_withNow hM σ hI) mv_X12_111 rfl rfl rfl (a_88 hM) dX12_nameNow_276 ⟨Nat.le_of_ble_eq_true rfl, Nat.le_of_ble_eq_true rfl⟩ ⟨Nat.le_refl _, Nat.le_refl _⟩ rfl (Nat.le_of_ble_eq_true rfl) rfl (fun z270 σ271 hz270 => ?_)
                            obtain ⟨r273, rfl, hr273, rfl, q272_0, q272_1⟩ := hz270
                            replace q272_0 : r273 = -4 ∨ 20 ≤ r273 := q272_0
                            replace q272_1 : (r273 = -4 ∧ wnm (fM σ) 1 (σ 88 14) (σ 88 13) = -1) ∨ (r273 = 20 + wnm (fM σ) 1 (σ 88 14) (σ 88 13) ∧ 0 ≤ wnm (fM σ) 1 (σ 88 14) (σ 88 13) ∧ wnm (fM σ) 1 (σ 88 14) (σ 88 13) ≤ 3) := q272_1
                            refine j_st (st' := [vI r273]) rfl ?_
                            exact j_iret (pc := 279) ⟨rfl, rfl⟩ dX12_nameNow_279 rfl ⟨_, rfl, ⟨by omega, by omega⟩, rfl, (by rw [← hW]; (repeat' split at hW2) <;> omega)⟩
                          · refine j_bipush (pc := 270) dX12_nameNow_270 rfl ?_
                            refine j_goto (pc := 272) (tgt := 279) dX12_nameNow_272 rfl ?_
                            exact j_iret (pc := 279) ⟨rfl, rfl⟩ dX12_nameNow_279 rfl ⟨_, rfl, ⟨by omega, by omega⟩, rfl, (by rw [← hW]; (repeat' split at hW2) <;> omega)⟩
                        · refine j_bipush (pc := 252) dX12_nameNow_252 rfl ?_
                          exact j_iret (pc := 254) ⟨rfl, rfl⟩ dX12_nameNow_254 rfl ⟨_, rfl, ⟨by omega, by omega⟩, rfl, (by rw [← hW]; (repeat' split at hW2) <;> omega)⟩
                    · refine j_iconst (pc := 219) dX12_nameNow_219 ?_
                      exact j_iret (pc := 220) ⟨rfl, rfl⟩ dX12_nameNow_220 rfl ⟨_, rfl, ⟨by omega, by omega⟩, rfl, (by rw [← hW]; (repeat' split at hW2) <;> omega)⟩
                  · refine j_iconst (pc := 201) dX12_nameNow_201 ?_
                    exact j_iret (pc := 202) ⟨rfl, rfl⟩ dX12_nameNow_202 rfl ⟨_, rfl, ⟨by omega, by omega⟩, rfl, (by rw [← hW]; (repeat' split at hW2) <;> omega)⟩
                · refine j_iconst (pc := 183) dX12_nameNow_183 ?_
                  exact j_iret (pc := 184) ⟨rfl, rfl⟩ dX12_nameNow_184 rfl ⟨_, rfl, ⟨by omega, by omega⟩, rfl, (by rw [← hW]; (repeat' split at hW2) <;> omega)⟩
              · refine j_aload_n (pc := 150) dX12_nameNow_150 rfl rfl ?_
                refine j_aload_n (pc := 151) dX12_nameNow_151 rfl rfl ?_
                refine j_getI (pc := 152) fl_X12_94 dX12_nameNow_152 (a_88 hM) rfl ?_
                refine j_iconst (pc := 155) dX12_nameNow_155 ?_
                refine j_iadd (pc := 156) dX12_nameNow_156 ?_
                refine j_callV (pc := 157) (As := [vI ((σ 88 14) + 4)]) (st := []) (c_X12_look hM ((σ 88 14) + 4) ⟨by omega, by omega⟩ σ hI) mv_X12_103 rfl rfl rfl (a_88 hM) dX12_nameNow_157 ⟨Nat.le_of_ble_eq_true rfl, Nat.le_of_ble_eq_true rfl⟩ ⟨Nat.le_refl _, Nat.le_refl _⟩ rfl (Nat.le_of_ble_eq_true rfl) rfl (fun z274 σ275 hz274 => ?_)
                obtain ⟨r277, rfl, hr277, rfl, q276_0, q276_1⟩ := hz274
                replace q276_0 : (((σ 88 14) + 4) < σ 88 12 ∧ r277 = σ 98 ((σ 88 14) + 4).toNat) ∨ (¬ ((σ 88 14) + 4) < σ 88 12 ∧ r277 = -1) := q276_0
                replace q276_1 : r277 = fM σ ((σ 88 14) + 4) := q276_1
                refine j_st (st' := [vI r277]) rfl ?_
                refine j_bipush (pc := 160) dX12_nameNow_160 rfl ?_
                refine j_icmpR_ne (pc := 162) (tgt := 167) ⟨by omega, by omega⟩ ⟨by omega, by omega⟩ dX12_nameNow_162 rfl (fun h278 => ?_) (fun h278 => ?_)
                · refine j_aload_n (pc := 167) dX12_nameNow_167 rfl rfl ?_
                  refine j_iconst (pc := 168) dX12_nameNow_168 ?_
                  refine j_bipush (pc := 169) dX12_nameNow_169 rfl ?_
                  refine j_bipush (pc := 171) dX12_nameNow_171 rfl ?_
                  refine j_bipush (pc := 173) dX12_nameNow_173 rfl ?_
                  refine j_bipush (pc := 175) dX12_nameNow_175 rfl ?_
                  refine j_callV (pc := 177) (As := [vI 4, vI 114, vI 111, vI 112, vI 101]) (st := []) (c_X12_is hM 4 ⟨by omega, by omega⟩ 114 ⟨by omega, by omega⟩ 111 ⟨by omega, by omega⟩ 112 ⟨by omega, by omega⟩ 101 ⟨by omega, by omega⟩ σ hI) mv_X12_107 rfl rfl rfl (a_88 hM) dX12_nameNow_177 ⟨Nat.le_of_ble_eq_true rfl, Nat.le_of_ble_eq_true rfl⟩ ⟨Nat.le_refl _, Nat.le_refl _⟩ rfl (Nat.le_of_ble_eq_true rfl) rfl (fun z279 σ280 hz279 => ?_)
                  obtain ⟨r282, rfl, hr282, rfl, q281_0⟩ := hz279
                  replace q281_0 : (r282 = 1 ∧ σ 88 13 - σ 88 14 = (4 : Int) ∧ fM σ (σ 88 14) = (114 : Int) ∧ fM σ (σ 88 14 + 1) = (111 : Int) ∧ ((4 : Int) < 3 ∨ fM σ (σ 88 14 + 2) = (112 : Int)) ∧ ((4 : Int) < 4 ∨ fM σ (σ 88 14 + 3) = (101 : Int))) ∨ (r282 = 0 ∧ ¬ (σ 88 13 - σ 88 14 = (4 : Int) ∧ fM σ (σ 88 14) = (114 : Int) ∧ fM σ (σ 88 14 + 1) = (111 : Int) ∧ ((4 : Int) < 3 ∨ fM σ (σ 88 14 + 2) = (112 : Int)) ∧ ((4 : Int) < 4 ∨ fM σ (σ 88 14 + 3) = (101 : Int)))) := q281_0
                  refine j_st (st' := [vI r282]) rfl ?_
                  refine j_ifR_eq (pc := 180) (tgt := 185) ⟨by omega, by omega⟩ dX12_nameNow_180 rfl (fun h283 => ?_) (fun h283 => ?_)
                  · refine j_aload_n (pc := 185) dX12_nameNow_185 rfl rfl ?_
                    refine j_iconst (pc := 186) dX12_nameNow_186 ?_
                    refine j_bipush (pc := 187) dX12_nameNow_187 rfl ?_
                    refine j_bipush (pc := 189) dX12_nameNow_189 rfl ?_
                    refine j_bipush (pc := 191) dX12_nameNow_191 rfl ?_
                    refine j_bipush (pc := 193) dX12_nameNow_193 rfl ?_
                    refine j_callV (pc := 195) (As := [vI 4, vI 103, vI 105, vI 118, vI 101]) (st := []) (c_X12_is hM 4 ⟨by omega, by omega⟩ 103 ⟨by omega, by omega⟩ 105 ⟨by omega, by omega⟩ 118 ⟨by omega, by omega⟩ 101 ⟨by omega, by omega⟩ σ hI) mv_X12_107 rfl rfl rfl (a_88 hM) dX12_nameNow_195 ⟨Nat.le_of_ble_eq_true rfl, Nat.le_of_ble_eq_true rfl⟩ ⟨Nat.le_refl _, Nat.le_refl _⟩ rfl (Nat.le_of_ble_eq_true rfl) rfl (fun z284 σ285 hz284 => ?_)
                    obtain ⟨r287, rfl, hr287, rfl, q286_0⟩ := hz284
                    replace q286_0 : (r287 = 1 ∧ σ 88 13 - σ 88 14 = (4 : Int) ∧ fM σ (σ 88 14) = (103 : Int) ∧ fM σ (σ 88 14 + 1) = (105 : Int) ∧ ((4 : Int) < 3 ∨ fM σ (σ 88 14 + 2) = (118 : Int)) ∧ ((4 : Int) < 4 ∨ fM σ (σ 88 14 + 3) = (101 : Int))) ∨ (r287 = 0 ∧ ¬ (σ 88 13 - σ 88 14 = (4 : Int) ∧ fM σ (σ 88 14) = (103 : Int) ∧ fM σ (σ 88 14 + 1) = (105 : Int) ∧ ((4 : Int) < 3 ∨ fM σ (σ 88 14 + 2) = (118 : Int)) ∧ ((4 : Int) < 4 ∨ fM σ (σ 88 14 + 3) = (101 : Int)))) := q286_0
                    refine j_st (st' := [vI r287]) rfl ?_
                    refine j_ifR_eq (pc := 198) (tgt := 203) ⟨by omega, by omega⟩ dX12_nameNow_198 rfl (fun h288 => ?_) (fun h288 => ?_)
                    · refine j_aload_n (pc := 203) dX12_nameNow_203 rfl rfl ?_
                      refine j_iconst (pc := 204) dX12_nameNow_204 ?_
                      refine j_bipush (pc := 205) dX12_nameNow_205 rfl ?_
                      refine j_bipush (pc := 207) dX12_nameNow_207 rfl ?_
                      refine j_bipush (pc := 209) dX12_nameNow_209 rfl ?_
                      refine j_bipush (pc := 211) dX12_nameNow_211 rfl ?_
                      refine j_callV (pc := 213) (As := [vI 4, vI 102, vI 105, vI 116, vI 115]) (st := []) (c_X12_is hM 4 ⟨by omega, by omega⟩ 102 ⟨by omega, by omega⟩ 105 ⟨by omega, by omega⟩ 116 ⟨by omega, by omega⟩ 115 ⟨by omega, by omega⟩ σ hI) mv_X12_107 rfl rfl rfl (a_88 hM) dX12_nameNow_213 ⟨Nat.le_of_ble_eq_true rfl, Nat.le_of_ble_eq_true rfl⟩ ⟨Nat.le_refl _, Nat.le_refl _⟩ rfl (Nat.le_of_ble_eq_true rfl) rfl (fun z289 σ290 hz289 => ?_)
                      obtain ⟨r292, rfl, hr292, rfl, q291_0⟩ := hz289
                      replace q291_0 : (r292 = 1 ∧ σ 88 13 - σ 88 14 = (4 : Int) ∧ fM σ (σ 88 14) = (102 : Int) ∧ fM σ (σ 88 14 + 1) = (105 : Int) ∧ ((4 : Int) < 3 ∨ fM σ (σ 88 14 + 2) = (116 : Int)) ∧ ((4 : Int) < 4 ∨ fM σ (σ 88 14 + 3) = (115 : Int))) ∨ (r292 = 0 ∧ ¬ (σ 88 13 - σ 88 14 = (4 : Int) ∧ fM σ (σ 88 14) = (102 : Int) ∧ fM σ (σ 88 14 + 1) = (105 : Int) ∧ ((4 : Int) < 3 ∨ fM σ (σ 88 14 + 2) = (116 : Int)) ∧ ((4 : Int) < 4 ∨ fM σ (σ 88 14 + 3) = (115 : Int)))) := q291_0
                      refine j_st (st' := [vI r292]) rfl ?_
                      refine j_ifR_eq (pc := 216) (tgt := 221) ⟨by omega, by omega⟩ dX12_nameNow_216 rfl (fun h293 => ?_) (fun h293 => ?_)
                      · refine j_aload_n (pc := 221) dX12_nameNow_221 rfl rfl ?_
                        refine j_iconst (pc := 222) dX12_nameNow_222 ?_
                        refine j_bipush (pc := 223) dX12_nameNow_223 rfl ?_
                        refine j_bipush (pc := 225) dX12_nameNow_225 rfl ?_
                        refine j_bipush (pc := 227) dX12_nameNow_227 rfl ?_
                        refine j_bipush (pc := 229) dX12_nameNow_229 rfl ?_
                        refine j_callV (pc := 231) (As := [vI 5, vI 104, vI 111, vI 108, vI 100]) (st := []) (c_X12_is hM 5 ⟨by omega, by omega⟩ 104 ⟨by omega, by omega⟩ 111 ⟨by omega, by omega⟩ 108 ⟨by omega, by omega⟩ 100 ⟨by omega, by omega⟩ σ hI) mv_X12_107 rfl rfl rfl (a_88 hM) dX12_nameNow_231 ⟨Nat.le_of_ble_eq_true rfl, Nat.le_of_ble_eq_true rfl⟩ ⟨Nat.le_refl _, Nat.le_refl _⟩ rfl (Nat.le_of_ble_eq_true rfl) rfl (fun z294 σ295 hz294 => ?_)
                        obtain ⟨r297, rfl, hr297, rfl, q296_0⟩ := hz294
                        replace q296_0 : (r297 = 1 ∧ σ 88 13 - σ 88 14 = (5 : Int) ∧ fM σ (σ 88 14) = (104 : Int) ∧ fM σ (σ 88 14 + 1) = (111 : Int) ∧ ((5 : Int) < 3 ∨ fM σ (σ 88 14 + 2) = (108 : Int)) ∧ ((5 : Int) < 4 ∨ fM σ (σ 88 14 + 3) = (100 : Int))) ∨ (r297 = 0 ∧ ¬ (σ 88 13 - σ 88 14 = (5 : Int) ∧ fM σ (σ 88 14) = (104 : Int) ∧ fM σ (σ 88 14 + 1) = (111 : Int) ∧ ((5 : Int) < 3 ∨ fM σ (σ 88 14 + 2) = (108 : Int)) ∧ ((5 : Int) < 4 ∨ fM σ (σ 88 14 + 3) = (100 : Int)))) := q296_0
                        refine j_st (st' := [vI r297]) rfl ?_
                        refine j_ifR_eq (pc := 234) (tgt := 255) ⟨by omega, by omega⟩ dX12_nameNow_234 rfl (fun h298 => ?_) (fun h298 => ?_)
                        · refine j_aload_n (pc := 255) dX12_nameNow_255 rfl rfl ?_
                          refine j_iconst (pc := 256) dX12_nameNow_256 ?_
                          refine j_bipush (pc := 257) dX12_nameNow_257 rfl ?_
                          refine j_bipush (pc := 259) dX12_nameNow_259 rfl ?_
                          refine j_bipush (pc := 261) dX12_nameNow_261 rfl ?_
                          refine j_iconst (pc := 263) dX12_nameNow_263 ?_
                          refine j_callV (pc := 264) (As := [vI 3, vI 108, vI 111, vI 119, vI 0]) (st := []) (c_X12_is hM 3 ⟨by omega, by omega⟩ 108 ⟨by omega, by omega⟩ 111 ⟨by omega, by omega⟩ 119 ⟨by omega, by omega⟩ 0 ⟨by omega, by omega⟩ σ hI) mv_X12_107 rfl rfl rfl (a_88 hM) dX12_nameNow_264 ⟨Nat.le_of_ble_eq_true rfl, Nat.le_of_ble_eq_true rfl⟩ ⟨Nat.le_refl _, Nat.le_refl _⟩ rfl (Nat.le_of_ble_eq_true rfl) rfl (fun z299 σ300 hz299 => ?_)
                          obtain ⟨r302, rfl, hr302, rfl, q301_0⟩ := hz299
                          replace q301_0 : (r302 = 1 ∧ σ 88 13 - σ 88 14 = (3 : Int) ∧ fM σ (σ 88 14) = (108 : Int) ∧ fM σ (σ 88 14 + 1) = (111 : Int) ∧ ((3 : Int) < 3 ∨ fM σ (σ 88 14 + 2) = (119 : Int)) ∧ ((3 : Int) < 4 ∨ fM σ (σ 88 14 + 3) = (0 : Int))) ∨ (r302 = 0 ∧ ¬ (σ 88 13 - σ 88 14 = (3 : Int) ∧ fM σ (σ 88 14) = (108 : Int) ∧ fM σ (σ 88 14 + 1) = (111 : Int) ∧ ((3 : Int) < 3 ∨ fM σ (σ 88 14 + 2) = (119 : Int)) ∧ ((3 : Int) < 4 ∨ fM σ (σ 88 14 + 3) = (0 : Int)))) := q301_0
                          refine j_st (st' := [vI r302]) rfl ?_
                          refine j_ifR_eq (pc := 267) (tgt := 275) ⟨by omega, by omega⟩ dX12_nameNow_267 rfl (fun h303 => ?_) (fun h303 => ?_)
                          · refine j_aload_n (pc := 275) dX12_nameNow_275 rfl rfl ?_
                            refine j_callV (pc := 276) (As := []) (st := []) (c_X12_withNow hM σ hI) mv_X12_111 rfl rfl rfl (a_88 hM) dX12_nameNow_276 ⟨Nat.le_of_ble_eq_true rfl, Nat.le_of_ble_eq_true rfl⟩ ⟨Nat.le_refl _, Nat.le_refl _⟩ rfl (Nat.le_of_ble_eq_true rfl) rfl (fun z304 σ305 hz304 => ?_)
                            obtain ⟨r307, rfl, hr307, rfl, q306_0, q306_1⟩ := hz304
                            replace q306_0 : r307 = -4 ∨ 20 ≤ r307 := q306_0
                            replace q306_1 : (r307 = -4 ∧ wnm (fM σ) 1 (σ 88 14) (σ 88 13) = -1) ∨ (r307 = 20 + wnm (fM σ) 1 (σ 88 14) (σ 88 13) ∧ 0 ≤ wnm (fM σ) 1 (σ 88 14) (σ 88 13) ∧ wnm (fM σ) 1 (σ 88 14) (σ 88 13) ≤ 3) := q306_1
                            refine j_st (st' := [vI r307]) rfl ?_
                            exact j_iret (pc := 279) ⟨rfl, rfl⟩ dX12_nameNow_279 rfl ⟨_, rfl, ⟨by omega, by omega⟩, rfl, (by rw [← hW]; (repeat' split at hW2) <;> omega)⟩
                          · refine j_bipush (pc := 270) dX12_nameNow_270 rfl ?_
                            refine j_goto (pc := 272) (tgt := 279) dX12_nameNow_272 rfl ?_
                            exact j_iret (pc := 279) ⟨rfl, rfl⟩ dX12_nameNow_279 rfl ⟨_, rfl, ⟨by omega, by omega⟩, rfl, (by rw [← hW]; (repeat' split at hW2) <;> omega)⟩
                        · refine j_aload_n (pc := 237) dX12_nameNow_237 rfl rfl ?_
                          refine j_aload_n (pc := 238) dX12_nameNow_238 rfl rfl ?_
                          refine j_getI (pc := 239) fl_X12_94 dX12_nameNow_239 (a_88 hM) rfl ?_
                          refine j_iconst (pc := 242) dX12_nameNow_242 ?_
                          refine j_iadd (pc := 243) dX12_nameNow_243 ?_
                          refine j_callV (pc := 244) (As := [vI ((σ 88 14) + 4)]) (st := []) (c_X12_look hM ((σ 88 14) + 4) ⟨by omega, by omega⟩ σ hI) mv_X12_103 rfl rfl rfl (a_88 hM) dX12_nameNow_244 ⟨Nat.le_of_ble_eq_true rfl, Nat.le_of_ble_eq_true rfl⟩ ⟨Nat.le_refl _, Nat.le_refl _⟩ rfl (Nat.le_of_ble_eq_true rfl) rfl (fun z308 σ309 hz308 => ?_)
                          obtain ⟨r311, rfl, hr311, rfl, q310_0, q310_1⟩ := hz308
                          replace q310_0 : (((σ 88 14) + 4) < σ 88 12 ∧ r311 = σ 98 ((σ 88 14) + 4).toNat) ∨ (¬ ((σ 88 14) + 4) < σ 88 12 ∧ r311 = -1) := q310_0
                          replace q310_1 : r311 = fM σ ((σ 88 14) + 4) := q310_1
                          refine j_st (st' := [vI r311]) rfl ?_
                          refine j_bipush (pc := 247) dX12_nameNow_247 rfl ?_
                          refine j_icmpR_ne (pc := 249) (tgt := 255) ⟨by omega, by omega⟩ ⟨by omega, by omega⟩ dX12_nameNow_249 rfl (fun h312 => ?_) (fun h312 => ?_)
                          · refine j_aload_n (pc := 255) dX12_nameNow_255 rfl rfl ?_
                            refine j_iconst (pc := 256) dX12_nameNow_256 ?_
                            refine j_bipush (pc := 257) dX12_nameNow_257 rfl ?_
                            refine j_bipush (pc := 259) dX12_nameNow_259 rfl ?_
                            refine j_bipush (pc := 261) dX12_nameNow_261 rfl ?_
                            refine j_iconst (pc := 263) dX12_nameNow_263 ?_
                            refine j_callV (pc := 264) (As := [vI 3, vI 108, vI 111, vI 119, vI 0]) (st := []) (c_X12_is hM 3 ⟨by omega, by omega⟩ 108 ⟨by omega, by omega⟩ 111 ⟨by omega, by omega⟩ 119 ⟨by omega, by omega⟩ 0 ⟨by omega, by omega⟩ σ hI) mv_X12_107 rfl rfl rfl (a_88 hM) dX12_nameNow_264 ⟨Nat.le_of_ble_eq_true rfl, Nat.le_of_ble_eq_true rfl⟩ ⟨Nat.le_refl _, Nat.le_refl _⟩ rfl (Nat.le_of_ble_eq_true rfl) rfl (fun z313 σ314 hz313 => ?_)
                            obtain ⟨r316, rfl, hr316, rfl, q315_0⟩ := hz313
                            replace q315_0 : (r316 = 1 ∧ σ 88 13 - σ 88 14 = (3 : Int) ∧ fM σ (σ 88 14) = (108 : Int) ∧ fM σ (σ 88 14 + 1) = (111 : Int) ∧ ((3 : Int) < 3 ∨ fM σ (σ 88 14 + 2) = (119 : Int)) ∧ ((3 : Int) < 4 ∨ fM σ (σ 88 14 + 3) = (0 : Int))) ∨ (r316 = 0 ∧ ¬ (σ 88 13 - σ 88 14 = (3 : Int) ∧ fM σ (σ 88 14) = (108 : Int) ∧ fM σ (σ 88 14 + 1) = (111 : Int) ∧ ((3 : Int) < 3 ∨ fM σ (σ 88 14 + 2) = (119 : Int)) ∧ ((3 : Int) < 4 ∨ fM σ (σ 88 14 + 3) = (0 : Int)))) := q315_0
                            refine j_st (st' := [vI r316]) rfl ?_
                            refine j_ifR_eq (pc := 267) (tgt := 275) ⟨by omega, by omega⟩ dX12_nameNow_267 rfl (fun h317 => ?_) (fun h317 => ?_)
                            · refine j_aload_n (pc := 275) dX12_nameNow_275 rfl rfl ?_
                              refine j_callV (pc := 276) (As := []) (st := []) (c_X12_withNow hM σ hI) mv_X12_111 rfl rfl rfl (a_88 hM) dX12_nameNow_276 ⟨Nat.le_of_ble_eq_true rfl, Nat.le_of_ble_eq_true rfl⟩ ⟨Nat.le_refl _, Nat.le_refl _⟩ rfl (Nat.le_of_ble_eq_true rfl) rfl (fun z318 σ319 hz318 => ?_)
                              obtain ⟨r321, rfl, hr321, rfl, q320_0, q320_1⟩ := hz318
                              replace q320_0 : r321 = -4 ∨ 20 ≤ r321 := q320_0
                              replace q320_1 : (r321 = -4 ∧ wnm (fM σ) 1 (σ 88 14) (σ 88 13) = -1) ∨ (r321 = 20 + wnm (fM σ) 1 (σ 88 14) (σ 88 13) ∧ 0 ≤ wnm (fM σ) 1 (σ 88 14) (σ 88 13) ∧ wnm (fM σ) 1 (σ 88 14) (σ 88 13) ≤ 3) := q320_1
                              refine j_st (st' := [vI r321]) rfl ?_
                              exact j_iret (pc := 279) ⟨rfl, rfl⟩ dX12_nameNow_279 rfl ⟨_, rfl, ⟨by omega, by omega⟩, rfl, (by rw [← hW]; (repeat' split at hW2) <;> omega)⟩
                            · refine j_bipush (pc := 270) dX12_nameNow_270 rfl ?_
                              refine j_goto (pc := 272) (tgt := 279) dX12_nameNow_272 rfl ?_
                              exact j_iret (pc := 279) ⟨rfl, rfl⟩ dX12_nameNow_279 rfl ⟨_, rfl, ⟨by omega, by omega⟩, rfl, (by rw [← hW]; (repeat' split at hW2) <;> omega)⟩
                          · refine j_bipush (pc := 252) dX12_nameNow_252 rfl ?_
                            exact j_iret (pc := 254) ⟨rfl, rfl⟩ dX12_nameNow_254 rfl ⟨_, rfl, ⟨by omega, by omega⟩, rfl, (by rw [← hW]; (repeat' split at hW2) <;> omega)⟩
                      · refine j_iconst (pc := 219) dX12_nameNow_219 ?_
                        exact j_iret (pc := 220) ⟨rfl, rfl⟩ dX12_nameNow_220 rfl ⟨_, rfl, ⟨by omega, by omega⟩, rfl, (by rw [← hW]; (repeat' split at hW2) <;> omega)⟩
                    · refine j_iconst (pc := 201) dX12_nameNow_201 ?_
                      exact j_iret (pc := 202) ⟨rfl, rfl⟩ dX12_nameNow_202 rfl ⟨_, rfl, ⟨by omega, by omega⟩, rfl, (by rw [← hW]; (repeat' split at hW2) <;> omega)⟩
                  · refine j_iconst (pc := 183) dX12_nameNow_183 ?_
                    exact j_iret (pc := 184) ⟨rfl, rfl⟩ dX12_nameNow_184 rfl ⟨_, rfl, ⟨by omega, by omega⟩, rfl, (by rw [← hW]; (repeat' split at hW2) <;> omega)⟩
                · refine j_iconst (pc := 165) dX12_nameNow_165 ?_
                  exact j_iret (pc := 166) ⟨rfl, rfl⟩ dX12_nameNow_166 rfl ⟨_, rfl, ⟨by omega, by omega⟩, rfl, (by rw [← hW]; (repeat' split at hW2) <;> omega)⟩
            · refine j_aload_n (pc := 100) dX12_nameNow_100 rfl rfl ?_
              refine j_aload_n (pc := 101) dX12_nameNow_101 rfl rfl ?_
              refine j_getI (pc := 102) fl_X12_94 dX12_nameNow_102 (a_88 hM) rfl ?_
              refine j_bipush (pc := 105) dX12_nameNow_105 rfl ?_
              refine j_iadd (pc := 107) dX12_nameNow_107 ?_
              refine j_callV (pc := 108) (As := [vI ((σ 88 14) + 6)]) (st := []) (c_X12_look hM ((σ 88 14) + 6) ⟨by omega, by omega⟩ σ hI) mv_X12_103 rfl rfl rfl (a_88 hM) dX12_nameNow_108 ⟨Nat.le_of_ble_eq_true rfl, Nat.le_of_ble_eq_true rfl⟩ ⟨Nat.le_refl _, Nat.le_refl _⟩ rfl (Nat.le_of_ble_eq_true rfl) rfl (fun z322 σ323 hz322 => ?_)
              obtain ⟨r325, rfl, hr325, rfl, q324_0, q324_1⟩ := hz322
              replace q324_0 : (((σ 88 14) + 6) < σ 88 12 ∧ r325 = σ 98 ((σ 88 14) + 6).toNat) ∨ (¬ ((σ 88 14) + 6) < σ 88 12 ∧ r325 = -1) := q324_0
              replace q324_1 : r325 = fM σ ((σ 88 14) + 6) := q324_1
              refine j_st (st' := [vI r325]) rfl ?_
              refine j_bipush (pc := 111) dX12_nameNow_111 rfl ?_
              refine j_icmpR_ne (pc := 113) (tgt := 134) ⟨by omega, by omega⟩ ⟨by omega, by omega⟩ dX12_nameNow_113 rfl (fun h326 => ?_) (fun h326 => ?_)
              · refine j_aload_n (pc := 134) dX12_nameNow_134 rfl rfl ?_
                refine j_iconst (pc := 135) dX12_nameNow_135 ?_
                refine j_bipush (pc := 136) dX12_nameNow_136 rfl ?_
                refine j_bipush (pc := 138) dX12_nameNow_138 rfl ?_
                refine j_bipush (pc := 140) dX12_nameNow_140 rfl ?_
                refine j_bipush (pc := 142) dX12_nameNow_142 rfl ?_
                refine j_callV (pc := 144) (As := [vI 5, vI 112, vI 108, vI 97, vI 99]) (st := []) (c_X12_is hM 5 ⟨by omega, by omega⟩ 112 ⟨by omega, by omega⟩ 108 ⟨by omega, by omega⟩ 97 ⟨by omega, by omega⟩ 99 ⟨by omega, by omega⟩ σ hI) mv_X12_107 rfl rfl rfl (a_88 hM) dX12_nameNow_144 ⟨Nat.le_of_ble_eq_true rfl, Nat.le_of_ble_eq_true rfl⟩ ⟨Nat.le_refl _, Nat.le_refl _⟩ rfl (Nat.le_of_ble_eq_true rfl) rfl (fun z327 σ328 hz327 => ?_)
                obtain ⟨r330, rfl, hr330, rfl, q329_0⟩ := hz327
                replace q329_0 : (r330 = 1 ∧ σ 88 13 - σ 88 14 = (5 : Int) ∧ fM σ (σ 88 14) = (112 : Int) ∧ fM σ (σ 88 14 + 1) = (108 : Int) ∧ ((5 : Int) < 3 ∨ fM σ (σ 88 14 + 2) = (97 : Int)) ∧ ((5 : Int) < 4 ∨ fM σ (σ 88 14 + 3) = (99 : Int))) ∨ (r330 = 0 ∧ ¬ (σ 88 13 - σ 88 14 = (5 : Int) ∧ fM σ (σ 88 14) = (112 : Int) ∧ fM σ (σ 88 14 + 1) = (108 : Int) ∧ ((5 : Int) < 3 ∨ fM σ (σ 88 14 + 2) = (97 : Int)) ∧ ((5 : Int) < 4 ∨ fM σ (σ 88 14 + 3) = (99 : Int)))) := q329_0
                refine j_st (st' := [vI r330]) rfl ?_
                refine j_ifR_eq (pc := 147) (tgt := 167) ⟨by omega, by omega⟩ dX12_nameNow_147 rfl (fun h331 => ?_) (fun h331 => ?_)
                · refine j_aload_n (pc := 167) dX12_nameNow_167 rfl rfl ?_
                  refine j_iconst (pc := 168) dX12_nameNow_168 ?_
                  refine j_bipush (pc := 169) dX12_nameNow_169 rfl ?_
                  refine j_bipush (pc := 171) dX12_nameNow_171 rfl ?_
                  refine j_bipush (pc := 173) dX12_nameNow_173 rfl ?_
                  refine j_bipush (pc := 175) dX12_nameNow_175 rfl ?_
                  refine j_callV (pc := 177) (As := [vI 4, vI 114, vI 111, vI 112, vI 101]) (st := []) (c_X12_is hM 4 ⟨by omega, by omega⟩ 114 ⟨by omega, by omega⟩ 111 ⟨by omega, by omega⟩ 112 ⟨by omega, by omega⟩ 101 ⟨by omega, by omega⟩ σ hI) mv_X12_107 rfl rfl rfl (a_88 hM) dX12_nameNow_177 ⟨Nat.le_of_ble_eq_true rfl, Nat.le_of_ble_eq_true rfl⟩ ⟨Nat.le_refl _, Nat.le_refl _⟩ rfl (Nat.le_of_ble_eq_true rfl) rfl (fun z332 σ333 hz332 => ?_)
                  obtain ⟨r335, rfl, hr335, rfl, q334_0⟩ := hz332
                  replace q334_0 : (r335 = 1 ∧ σ 88 13 - σ 88 14 = (4 : Int) ∧ fM σ (σ 88 14) = (114 : Int) ∧ fM σ (σ 88 14 + 1) = (111 : Int) ∧ ((4 : Int) < 3 ∨ fM σ (σ 88 14 + 2) = (112 : Int)) ∧ ((4 : Int) < 4 ∨ fM σ (σ 88 14 + 3) = (101 : Int))) ∨ (r335 = 0 ∧ ¬ (σ 88 13 - σ 88 14 = (4 : Int) ∧ fM σ (σ 88 14) = (114 : Int) ∧ fM σ (σ 88 14 + 1) = (111 : Int) ∧ ((4 : Int) < 3 ∨ fM σ (σ 88 14 + 2) = (112 : Int)) ∧ ((4 : Int) < 4 ∨ fM σ (σ 88 14 + 3) = (101 : Int)))) := q334_0
                  refine j_st (st' := [vI r335]) rfl ?_
                  refine j_ifR_eq (pc := 180) (tgt := 185) ⟨by omega, by omega⟩ dX12_nameNow_180 rfl (fun h336 => ?_) (fun h336 => ?_)
                  · refine j_aload_n (pc := 185) dX12_nameNow_185 rfl rfl ?_
                    refine j_iconst (pc := 186) dX12_nameNow_186 ?_
                    refine j_bipush (pc := 187) dX12_nameNow_187 rfl ?_
                    refine j_bipush (pc := 189) dX12_nameNow_189 rfl ?_
                    refine j_bipush (pc := 191) dX12_nameNow_191 rfl ?_
                    refine j_bipush (pc := 193) dX12_nameNow_193 rfl ?_
                    refine j_callV (pc := 195) (As := [vI 4, vI 103, vI 105, vI 118, vI 101]) (st := []) (c_X12_is hM 4 ⟨by omega, by omega⟩ 103 ⟨by omega, by omega⟩ 105 ⟨by omega, by omega⟩ 118 ⟨by omega, by omega⟩ 101 ⟨by omega, by omega⟩ σ hI) mv_X12_107 rfl rfl rfl (a_88 hM) dX12_nameNow_195 ⟨Nat.le_of_ble_eq_true rfl, Nat.le_of_ble_eq_true rfl⟩ ⟨Nat.le_refl _, Nat.le_refl _⟩ rfl (Nat.le_of_ble_eq_true rfl) rfl (fun z337 σ338 hz337 => ?_)
                    obtain ⟨r340, rfl, hr340, rfl, q339_0⟩ := hz337
                    replace q339_0 : (r340 = 1 ∧ σ 88 13 - σ 88 14 = (4 : Int) ∧ fM σ (σ 88 14) = (103 : Int) ∧ fM σ (σ 88 14 + 1) = (105 : Int) ∧ ((4 : Int) < 3 ∨ fM σ (σ 88 14 + 2) = (118 : Int)) ∧ ((4 : Int) < 4 ∨ fM σ (σ 88 14 + 3) = (101 : Int))) ∨ (r340 = 0 ∧ ¬ (σ 88 13 - σ 88 14 = (4 : Int) ∧ fM σ (σ 88 14) = (103 : Int) ∧ fM σ (σ 88 14 + 1) = (105 : Int) ∧ ((4 : Int) < 3 ∨ fM σ (σ 88 14 + 2) = (118 : Int)) ∧ ((4 : Int) < 4 ∨ fM σ (σ 88 14 + 3) = (101 : Int)))) := q339_0
                    refine j_st (st' := [vI r340]) rfl ?_
                    refine j_ifR_eq (pc := 198) (tgt := 203) ⟨by omega, by omega⟩ dX12_nameNow_198 rfl (fun h341 => ?_) (fun h341 => ?_)
                    · refine j_aload_n (pc := 203) dX12_nameNow_203 rfl rfl ?_
                      refine j_iconst (pc := 204) dX12_nameNow_204 ?_
                      refine j_bipush (pc := 205) dX12_nameNow_205 rfl ?_
                      refine j_bipush (pc := 207) dX12_nameNow_207 rfl ?_
                      refine j_bipush (pc := 209) dX12_nameNow_209 rfl ?_
                      refine j_bipush (pc := 211) dX12_nameNow_211 rfl ?_
                      refine j_callV (pc := 213) (As := [vI 4, vI 102, vI 105, vI 116, vI 115]) (st := []) (c_X12_is hM 4 ⟨by omega, by omega⟩ 102 ⟨by omega, by omega⟩ 105 ⟨by omega, by omega⟩ 116 ⟨by omega, by omega⟩ 115 ⟨by omega, by omega⟩ σ hI) mv_X12_107 rfl rfl rfl (a_88 hM) dX12_nameNow_213 ⟨Nat.le_of_ble_eq_true rfl, Nat.le_of_ble_eq_true rfl⟩ ⟨Nat.le_refl _, Nat.le_refl _⟩ rfl (Nat.le_of_ble_eq_true rfl) rfl (fun z342 σ343 hz342 => ?_)
                      obtain ⟨r345, rfl, hr345, rfl, q344_0⟩ := hz342
                      replace q344_0 : (r345 = 1 ∧ σ 88 13 - σ 88 14 = (4 : Int) ∧ fM σ (σ 88 14) = (102 : Int) ∧ fM σ (σ 88 14 + 1) = (105 : Int) ∧ ((4 : Int) < 3 ∨ fM σ (σ 88 14 + 2) = (116 : Int)) ∧ ((4 : Int) < 4 ∨ fM σ (σ 88 14 + 3) = (115 : Int))) ∨ (r345 = 0 ∧ ¬ (σ 88 13 - σ 88 14 = (4 : Int) ∧ fM σ (σ 88 14) = (102 : Int) ∧ fM σ (σ 88 14 + 1) = (105 : Int) ∧ ((4 : Int) < 3 ∨ fM σ (σ 88 14 + 2) = (116 : Int)) ∧ ((4 : Int) < 4 ∨ fM σ (σ 88 14 + 3) = (115 : Int)))) := q344_0
                      refine j_st (st' := [vI r345]) rfl ?_
                      refine j_ifR_eq (pc := 216) (tgt := 221) ⟨by omega, by omega⟩ dX12_nameNow_216 rfl (fun h346 => ?_) (fun h346 => ?_)
                      · refine j_aload_n (pc := 221) dX12_nameNow_221 rfl rfl ?_
                        refine j_iconst (pc := 222) dX12_nameNow_222 ?_
                        refine j_bipush (pc := 223) dX12_nameNow_223 rfl ?_
                        refine j_bipush (pc := 225) dX12_nameNow_225 rfl ?_
                        refine j_bipush (pc := 227) dX12_nameNow_227 rfl ?_
                        refine j_bipush (pc := 229) dX12_nameNow_229 rfl ?_
                        refine j_callV (pc := 231) (As := [vI 5, vI 104, vI 111, vI 108, vI 100]) (st := []) (c_X12_is hM 5 ⟨by omega, by omega⟩ 104 ⟨by omega, by omega⟩ 111 ⟨by omega, by omega⟩ 108 ⟨by omega, by omega⟩ 100 ⟨by omega, by omega⟩ σ hI) mv_X12_107 rfl rfl rfl (a_88 hM) dX12_nameNow_231 ⟨Nat.le_of_ble_eq_true rfl, Nat.le_of_ble_eq_true rfl⟩ ⟨Nat.le_refl _, Nat.le_refl _⟩ rfl (Nat.le_of_ble_eq_true rfl) rfl (fun z347 σ348 hz347 => ?_)
                        obtain ⟨r350, rfl, hr350, rfl, q349_0⟩ := hz347
                        replace q349_0 : (r350 = 1 ∧ σ 88 13 - σ 88 14 = (5 : Int) ∧ fM σ (σ 88 14) = (104 : Int) ∧ fM σ (σ 88 14 + 1) = (111 : Int) ∧ ((5 : Int) < 3 ∨ fM σ (σ 88 14 + 2) = (108 : Int)) ∧ ((5 : Int) < 4 ∨ fM σ (σ 88 14 + 3) = (100 : Int))) ∨ (r350 = 0 ∧ ¬ (σ 88 13 - σ 88 14 = (5 : Int) ∧ fM σ (σ 88 14) = (104 : Int) ∧ fM σ (σ 88 14 + 1) = (111 : Int) ∧ ((5 : Int) < 3 ∨ fM σ (σ 88 14 + 2) = (108 : Int)) ∧ ((5 : Int) < 4 ∨ fM σ (σ 88 14 + 3) = (100 : Int)))) := q349_0
                        refine j_st (st' := [vI r350]) rfl ?_
                        refine j_ifR_eq (pc := 234) (tgt := 255) ⟨by omega, by omega⟩ dX12_nameNow_234 rfl (fun h351 => ?_) (fun h351 => ?_)
                        · refine j_aload_n (pc := 255) dX12_nameNow_255 rfl rfl ?_
                          refine j_iconst (pc := 256) dX12_nameNow_256 ?_
                          refine j_bipush (pc := 257) dX12_nameNow_257 rfl ?_
                          refine j_bipush (pc := 259) dX12_nameNow_259 rfl ?_
                          refine j_bipush (pc := 261) dX12_nameNow_261 rfl ?_
                          refine j_iconst (pc := 263) dX12_nameNow_263 ?_
                          refine j_callV (pc := 264) (As := [vI 3, vI 108, vI 111, vI 119, vI 0]) (st := []) (c_X12_is hM 3 ⟨by omega, by omega⟩ 108 ⟨by omega, by omega⟩ 111 ⟨by omega, by omega⟩ 119 ⟨by omega, by omega⟩ 0 ⟨by omega, by omega⟩ σ hI) mv_X12_107 rfl rfl rfl (a_88 hM) dX12_nameNow_264 ⟨Nat.le_of_ble_eq_true rfl, Nat.le_of_ble_eq_true rfl⟩ ⟨Nat.le_refl _, Nat.le_refl _⟩ rfl (Nat.le_of_ble_eq_true rfl) rfl (fun z352 σ353 hz352 => ?_)
                          obtain ⟨r355, rfl, hr355, rfl, q354_0⟩ := hz352
                          replace q354_0 : (r355 = 1 ∧ σ 88 13 - σ 88 14 = (3 : Int) ∧ fM σ (σ 88 14) = (108 : Int) ∧ fM σ (σ 88 14 + 1) = (111 : Int) ∧ ((3 : Int) < 3 ∨ fM σ (σ 88 14 + 2) = (119 : Int)) ∧ ((3 : Int) < 4 ∨ fM σ (σ 88 14 + 3) = (0 : Int))) ∨ (r355 = 0 ∧ ¬ (σ 88 13 - σ 88 14 = (3 : Int) ∧ fM σ (σ 88 14) = (108 : Int) ∧ fM σ (σ 88 14 + 1) = (111 : Int) ∧ ((3 : Int) < 3 ∨ fM σ (σ 88 14 + 2) = (119 : Int)) ∧ ((3 : Int) < 4 ∨ fM σ (σ 88 14 + 3) = (0 : Int)))) := q354_0
                          refine j_st (st' := [vI r355]) rfl ?_
                          refine j_ifR_eq (pc := 267) (tgt := 275) ⟨by omega, by omega⟩ dX12_nameNow_267 rfl (fun h356 => ?_) (fun h356 => ?_)
                          · refine j_aload_n (pc := 275) dX12_nameNow_275 rfl rfl ?_
                            refine j_callV (pc := 276) (As := []) (st := []) (c_X12_withNow hM σ hI) mv_X12_111 rfl rfl rfl (a_88 hM) dX12_nameNow_276 ⟨Nat.le_of_ble_eq_true rfl, Nat.le_of_ble_eq_true rfl⟩ ⟨Nat.le_refl _, Nat.le_refl _⟩ rfl (Nat.le_of_ble_eq_true rfl) rfl (fun z357 σ358 hz357 => ?_)
                            obtain ⟨r360, rfl, hr360, rfl, q359_0, q359_1⟩ := hz357
                            replace q359_0 : r360 = -4 ∨ 20 ≤ r360 := q359_0
                            replace q359_1 : (r360 = -4 ∧ wnm (fM σ) 1 (σ 88 14) (σ 88 13) = -1) ∨ (r360 = 20 + wnm (fM σ) 1 (σ 88 14) (σ 88 13) ∧ 0 ≤ wnm (fM σ) 1 (σ 88 14) (σ 88 13) ∧ wnm (fM σ) 1 (σ 88 14) (σ 88 13) ≤ 3) := q359_1
                            refine j_st (st' := [vI r360]) rfl ?_
                            exact j_iret (pc := 279) ⟨rfl, rfl⟩ dX12_nameNow_279 rfl ⟨_, rfl, ⟨by omega, by omega⟩, rfl, (by rw [← hW]; (repeat' split at hW2) <;> omega)⟩
                          · refine j_bipush (pc := 270) dX12_nameNow_270 rfl ?_
                            refine j_goto (pc := 272) (tgt := 279) dX12_nameNow_272 rfl ?_
                            exact j_iret (pc := 279) ⟨rfl, rfl⟩ dX12_nameNow_279 rfl ⟨_, rfl, ⟨by omega, by omega⟩, rfl, (by rw [← hW]; (repeat' split at hW2) <;> omega)⟩
                        · refine j_aload_n (pc := 237) dX12_nameNow_237 rfl rfl ?_
                          refine j_aload_n (pc := 238) dX12_nameNow_238 rfl rfl ?_
                          refine j_getI (pc := 239) fl_X12_94 dX12_nameNow_239 (a_88 hM) rfl ?_
                          refine j_iconst (pc := 242) dX12_nameNow_242 ?_
                          refine j_iadd (pc := 243) dX12_nameNow_243 ?_
                          refine j_callV (pc := 244) (As := [vI ((σ 88 14) + 4)]) (st := []) (c_X12_look hM ((σ 88 14) + 4) ⟨by omega, by omega⟩ σ hI) mv_X12_103 rfl rfl rfl (a_88 hM) dX12_nameNow_244 ⟨Nat.le_of_ble_eq_true rfl, Nat.le_of_ble_eq_true rfl⟩ ⟨Nat.le_refl _, Nat.le_refl _⟩ rfl (Nat.le_of_ble_eq_true rfl) rfl (fun z361 σ362 hz361 => ?_)
                          obtain ⟨r364, rfl, hr364, rfl, q363_0, q363_1⟩ := hz361
                          replace q363_0 : (((σ 88 14) + 4) < σ 88 12 ∧ r364 = σ 98 ((σ 88 14) + 4).toNat) ∨ (¬ ((σ 88 14) + 4) < σ 88 12 ∧ r364 = -1) := q363_0
                          replace q363_1 : r364 = fM σ ((σ 88 14) + 4) := q363_1
                          refine j_st (st' := [vI r364]) rfl ?_
                          refine j_bipush (pc := 247) dX12_nameNow_247 rfl ?_
                          refine j_icmpR_ne (pc := 249) (tgt := 255) ⟨by omega, by omega⟩ ⟨by omega, by omega⟩ dX12_nameNow_249 rfl (fun h365 => ?_) (fun h365 => ?_)
                          · refine j_aload_n (pc := 255) dX12_nameNow_255 rfl rfl ?_
                            refine j_iconst (pc := 256) dX12_nameNow_256 ?_
                            refine j_bipush (pc := 257) dX12_nameNow_257 rfl ?_
                            refine j_bipush (pc := 259) dX12_nameNow_259 rfl ?_
                            refine j_bipush (pc := 261) dX12_nameNow_261 rfl ?_
                            refine j_iconst (pc := 263) dX12_nameNow_263 ?_
                            refine j_callV (pc := 264) (As := [vI 3, vI 108, vI 111, vI 119, vI 0]) (st := []) (c_X12_is hM 3 ⟨by omega, by omega⟩ 108 ⟨by omega, by omega⟩ 111 ⟨by omega, by omega⟩ 119 ⟨by omega, by omega⟩ 0 ⟨by omega, by omega⟩ σ hI) mv_X12_107 rfl rfl rfl (a_88 hM) dX12_nameNow_264 ⟨Nat.le_of_ble_eq_true rfl, Nat.le_of_ble_eq_true rfl⟩ ⟨Nat.le_refl _, Nat.le_refl _⟩ rfl (Nat.le_of_ble_eq_true rfl) rfl (fun z366 σ367 hz366 => ?_)
                            obtain ⟨r369, rfl, hr369, rfl, q368_0⟩ := hz366
                            replace q368_0 : (r369 = 1 ∧ σ 88 13 - σ 88 14 = (3 : Int) ∧ fM σ (σ 88 14) = (108 : Int) ∧ fM σ (σ 88 14 + 1) = (111 : Int) ∧ ((3 : Int) < 3 ∨ fM σ (σ 88 14 + 2) = (119 : Int)) ∧ ((3 : Int) < 4 ∨ fM σ (σ 88 14 + 3) = (0 : Int))) ∨ (r369 = 0 ∧ ¬ (σ 88 13 - σ 88 14 = (3 : Int) ∧ fM σ (σ 88 14) = (108 : Int) ∧ fM σ (σ 88 14 + 1) = (111 : Int) ∧ ((3 : Int) < 3 ∨ fM σ (σ 88 14 + 2) = (119 : Int)) ∧ ((3 : Int) < 4 ∨ fM σ (σ 88 14 + 3) = (0 : Int)))) := q368_0
                            refine j_st (st' := [vI r369]) rfl ?_
                            refine j_ifR_eq (pc := 267) (tgt := 275) ⟨by omega, by omega⟩ dX12_nameNow_267 rfl (fun h370 => ?_) (fun h370 => ?_)
                            · refine j_aload_n (pc := 275) dX12_nameNow_275 rfl rfl ?_
                              refine j_callV (pc := 276) (As := []) (st := []) (c_X12_withNow hM σ hI) mv_X12_111 rfl rfl rfl (a_88 hM) dX12_nameNow_276 ⟨Nat.le_of_ble_eq_true rfl, Nat.le_of_ble_eq_true rfl⟩ ⟨Nat.le_refl _, Nat.le_refl _⟩ rfl (Nat.le_of_ble_eq_true rfl) rfl (fun z371 σ372 hz371 => ?_)
                              obtain ⟨r374, rfl, hr374, rfl, q373_0, q373_1⟩ := hz371
                              replace q373_0 : r374 = -4 ∨ 20 ≤ r374 := q373_0
                              replace q373_1 : (r374 = -4 ∧ wnm (fM σ) 1 (σ 88 14) (σ 88 13) = -1) ∨ (r374 = 20 + wnm (fM σ) 1 (σ 88 14) (σ 88 13) ∧ 0 ≤ wnm (fM σ) 1 (σ 88 14) (σ 88 13) ∧ wnm (fM σ) 1 (σ 88 14) (σ 88 13) ≤ 3) := q373_1
                              refine j_st (st' := [vI r374]) rfl ?_
                              exact j_iret (pc := 279) ⟨rfl, rfl⟩ dX12_nameNow_279 rfl ⟨_, rfl, ⟨by omega, by omega⟩, rfl, (by rw [← hW]; (repeat' split at hW2) <;> omega)⟩
                            · refine j_bipush (pc := 270) dX12_nameNow_270 rfl ?_
                              refine j_goto (pc := 272) (tgt := 279) dX12_nameNow_272 rfl ?_
                              exact j_iret (pc := 279) ⟨rfl, rfl⟩ dX12_nameNow_279 rfl ⟨_, rfl, ⟨by omega, by omega⟩, rfl, (by rw [← hW]; (repeat' split at hW2) <;> omega)⟩
                          · refine j_bipush (pc := 252) dX12_nameNow_252 rfl ?_
                            exact j_iret (pc := 254) ⟨rfl, rfl⟩ dX12_nameNow_254 rfl ⟨_, rfl, ⟨by omega, by omega⟩, rfl, (by rw [← hW]; (repeat' split at hW2) <;> omega)⟩
                      · refine j_iconst (pc := 219) dX12_nameNow_219 ?_
                        exact j_iret (pc := 220) ⟨rfl, rfl⟩ dX12_nameNow_220 rfl ⟨_, rfl, ⟨by omega, by omega⟩, rfl, (by rw [← hW]; (repeat' split at hW2) <;> omega)⟩
                    · refine j_iconst (pc := 201) dX12_nameNow_201 ?_
                      exact j_iret (pc := 202) ⟨rfl, rfl⟩ dX12_nameNow_202 rfl ⟨_, rfl, ⟨by omega, by omega⟩, rfl, (by rw [← hW]; (repeat' split at hW2) <;> omega)⟩
                  · refine j_iconst (pc := 183) dX12_nameNow_183 ?_
                    exact j_iret (pc := 184) ⟨rfl, rfl⟩ dX12_nameNow_184 rfl ⟨_, rfl, ⟨by omega, by omega⟩, rfl, (by rw [← hW]; (repeat' split at hW2) <;> omega)⟩
                · refine j_aload_n (pc := 150) dX12_nameNow_150 rfl rfl ?_
                  refine j_aload_n (pc := 151) dX12_nameNow_151 rfl rfl ?_
                  refine j_getI (pc := 152) fl_X12_94 dX12_nameNow_152 (a_88 hM) rfl ?_
                  refine j_iconst (pc := 155) dX12_nameNow_155 ?_
                  refine j_iadd (pc := 156) dX12_nameNow_156 ?_
                  refine j_callV (pc := 157) (As := [vI ((σ 88 14) + 4)]) (st := []) (c_X12_look hM ((σ 88 14) + 4) ⟨by omega, by omega⟩ σ hI) mv_X12_103 rfl rfl rfl (a_88 hM) dX12_nameNow_157 ⟨Nat.le_of_ble_eq_true rfl, Nat.le_of_ble_eq_true rfl⟩ ⟨Nat.le_refl _, Nat.le_refl _⟩ rfl (Nat.le_of_ble_eq_true rfl) rfl (fun z375 σ376 hz375 => ?_)
                  obtain ⟨r378, rfl, hr378, rfl, q377_0, q377_1⟩ := hz375
                  replace q377_0 : (((σ 88 14) + 4) < σ 88 12 ∧ r378 = σ 98 ((σ 88 14) + 4).toNat) ∨ (¬ ((σ 88 14) + 4) < σ 88 12 ∧ r378 = -1) := q377_0
                  replace q377_1 : r378 = fM σ ((σ 88 14) + 4) := q377_1
                  refine j_st (st' := [vI r378]) rfl ?_
                  refine j_bipush (pc := 160) dX12_nameNow_160 rfl ?_
                  refine j_icmpR_ne (pc := 162) (tgt := 167) ⟨by omega, by omega⟩ ⟨by omega, by omega⟩ dX12_nameNow_162 rfl (fun h379 => ?_) (fun h379 => ?_)
                  · refine j_aload_n (pc := 167) dX12_nameNow_167 rfl rfl ?_
                    refine j_iconst (pc := 168) dX12_nameNow_168 ?_
                    refine j_bipush (pc := 169) dX12_nameNow_169 rfl ?_
                    refine j_bipush (pc := 171) dX12_nameNow_171 rfl ?_
                    refine j_bipush (pc := 173) dX12_nameNow_173 rfl ?_
                    refine j_bipush (pc := 175) dX12_nameNow_175 rfl ?_
                    refine j_callV (pc := 177) (As := [vI 4, vI 114, vI 111, vI 112, vI 101]) (st := []) (c_X12_is hM 4 ⟨by omega, by omega⟩ 114 ⟨by omega, by omega⟩ 111 ⟨by omega, by omega⟩ 112 ⟨by omega, by omega⟩ 101 ⟨by omega, by omega⟩ σ hI) mv_X12_107 rfl rfl rfl (a_88 hM) dX12_nameNow_177 ⟨Nat.le_of_ble_eq_true rfl, Nat.le_of_ble_eq_true rfl⟩ ⟨Nat.le_refl _, Nat.le_refl _⟩ rfl (Nat.le_of_ble_eq_true rfl) rfl (fun z380 σ381 hz380 => ?_)
                    obtain ⟨r383, rfl, hr383, rfl, q382_0⟩ := hz380
                    replace q382_0 : (r383 = 1 ∧ σ 88 13 - σ 88 14 = (4 : Int) ∧ fM σ (σ 88 14) = (114 : Int) ∧ fM σ (σ 88 14 + 1) = (111 : Int) ∧ ((4 : Int) < 3 ∨ fM σ (σ 88 14 + 2) = (112 : Int)) ∧ ((4 : Int) < 4 ∨ fM σ (σ 88 14 + 3) = (101 : Int))) ∨ (r383 = 0 ∧ ¬ (σ 88 13 - σ 88 14 = (4 : Int) ∧ fM σ (σ 88 14) = (114 : Int) ∧ fM σ (σ 88 14 + 1) = (111 : Int) ∧ ((4 : Int) < 3 ∨ fM σ (σ 88 14 + 2) = (112 : Int)) ∧ ((4 : Int) < 4 ∨ fM σ (σ 88 14 + 3) = (101 : Int)))) := q382_0
                    refine j_st (st' := [vI r383]) rfl ?_
                    refine j_ifR_eq (pc := 180) (tgt := 185) ⟨by omega, by omega⟩ dX12_nameNow_180 rfl (fun h384 => ?_) (fun h384 => ?_)
                    · refine j_aload_n (pc := 185) dX12_nameNow_185 rfl rfl ?_
                      refine j_iconst (pc := 186) dX12_nameNow_186 ?_
                      refine j_bipush (pc := 187) dX12_nameNow_187 rfl ?_
                      refine j_bipush (pc := 189) dX12_nameNow_189 rfl ?_
                      refine j_bipush (pc := 191) dX12_nameNow_191 rfl ?_
                      refine j_bipush (pc := 193) dX12_nameNow_193 rfl ?_
                      refine j_callV (pc := 195) (As := [vI 4, vI 103, vI 105, vI 118, vI 101]) (st := []) (c_X12_is hM 4 ⟨by omega, by omega⟩ 103 ⟨by omega, by omega⟩ 105 ⟨by omega, by omega⟩ 118 ⟨by omega, by omega⟩ 101 ⟨by omega, by omega⟩ σ hI) mv_X12_107 rfl rfl rfl (a_88 hM) dX12_nameNow_195 ⟨Nat.le_of_ble_eq_true rfl, Nat.le_of_ble_eq_true rfl⟩ ⟨Nat.le_refl _, Nat.le_refl _⟩ rfl (Nat.le_of_ble_eq_true rfl) rfl (fun z385 σ386 hz385 => ?_)
                      obtain ⟨r388, rfl, hr388, rfl, q387_0⟩ := hz385
                      replace q387_0 : (r388 = 1 ∧ σ 88 13 - σ 88 14 = (4 : Int) ∧ fM σ (σ 88 14) = (103 : Int) ∧ fM σ (σ 88 14 + 1) = (105 : Int) ∧ ((4 : Int) < 3 ∨ fM σ (σ 88 14 + 2) = (118 : Int)) ∧ ((4 : Int) < 4 ∨ fM σ (σ 88 14 + 3) = (101 : Int))) ∨ (r388 = 0 ∧ ¬ (σ 88 13 - σ 88 14 = (4 : Int) ∧ fM σ (σ 88 14) = (103 : Int) ∧ fM σ (σ 88 14 + 1) = (105 : Int) ∧ ((4 : Int) < 3 ∨ fM σ (σ 88 14 + 2) = (118 : Int)) ∧ ((4 : Int) < 4 ∨ fM σ (σ 88 14 + 3) = (101 : Int)))) := q387_0
                      refine j_st (st' := [vI r388]) rfl ?_
                      refine j_ifR_eq (pc := 198) (tgt := 203) ⟨by omega, by omega⟩ dX12_nameNow_198 rfl (fun h389 => ?_) (fun h389 => ?_)
                      · refine j_aload_n (pc := 203) dX12_nameNow_203 rfl rfl ?_
                        refine j_iconst (pc := 204) dX12_nameNow_204 ?_
                        refine j_bipush (pc := 205) dX12_nameNow_205 rfl ?_
                        refine j_bipush (pc := 207) dX12_nameNow_207 rfl ?_
                        refine j_bipush (pc := 209) dX12_nameNow_209 rfl ?_
                        refine j_bipush (pc := 211) dX12_nameNow_211 rfl ?_
                        refine j_callV (pc := 213) (As := [vI 4, vI 102, vI 105, vI 116, vI 115]) (st := []) (c_X12_is hM 4 ⟨by omega, by omega⟩ 102 ⟨by omega, by omega⟩ 105 ⟨by omega, by omega⟩ 116 ⟨by omega, by omega⟩ 115 ⟨by omega, by omega⟩ σ hI) mv_X12_107 rfl rfl rfl (a_88 hM) dX12_nameNow_213 ⟨Nat.le_of_ble_eq_true rfl, Nat.le_of_ble_eq_true rfl⟩ ⟨Nat.le_refl _, Nat.le_refl _⟩ rfl (Nat.le_of_ble_eq_true rfl) rfl (fun z390 σ391 hz390 => ?_)
                        obtain ⟨r393, rfl, hr393, rfl, q392_0⟩ := hz390
                        replace q392_0 : (r393 = 1 ∧ σ 88 13 - σ 88 14 = (4 : Int) ∧ fM σ (σ 88 14) = (102 : Int) ∧ fM σ (σ 88 14 + 1) = (105 : Int) ∧ ((4 : Int) < 3 ∨ fM σ (σ 88 14 + 2) = (116 : Int)) ∧ ((4 : Int) < 4 ∨ fM σ (σ 88 14 + 3) = (115 : Int))) ∨ (r393 = 0 ∧ ¬ (σ 88 13 - σ 88 14 = (4 : Int) ∧ fM σ (σ 88 14) = (102 : Int) ∧ fM σ (σ 88 14 + 1) = (105 : Int) ∧ ((4 : Int) < 3 ∨ fM σ (σ 88 14 + 2) = (116 : Int)) ∧ ((4 : Int) < 4 ∨ fM σ (σ 88 14 + 3) = (115 : Int)))) := q392_0
                        refine j_st (st' := [vI r393]) rfl ?_
                        refine j_ifR_eq (pc := 216) (tgt := 221) ⟨by omega, by omega⟩ dX12_nameNow_216 rfl (fun h394 => ?_) (fun h394 => ?_)
                        · refine j_aload_n (pc := 221) dX12_nameNow_221 rfl rfl ?_
                          refine j_iconst (pc := 222) dX12_nameNow_222 ?_
                          refine j_bipush (pc := 223) dX12_nameNow_223 rfl ?_
                          refine j_bipush (pc := 225) dX12_nameNow_225 rfl ?_
                          refine j_bipush (pc := 227) dX12_nameNow_227 rfl ?_
                          refine j_bipush (pc := 229) dX12_nameNow_229 rfl ?_
                          refine j_callV (pc := 231) (As := [vI 5, vI 104, vI 111, vI 108, vI 100]) (st := []) (c_X12_is hM 5 ⟨by omega, by omega⟩ 104 ⟨by omega, by omega⟩ 111 ⟨by omega, by omega⟩ 108 ⟨by omega, by omega⟩ 100 ⟨by omega, by omega⟩ σ hI) mv_X12_107 rfl rfl rfl (a_88 hM) dX12_nameNow_231 ⟨Nat.le_of_ble_eq_true rfl, Nat.le_of_ble_eq_true rfl⟩ ⟨Nat.le_refl _, Nat.le_refl _⟩ rfl (Nat.le_of_ble_eq_true rfl) rfl (fun z395 σ396 hz395 => ?_)
                          obtain ⟨r398, rfl, hr398, rfl, q397_0⟩ := hz395
                          replace q397_0 : (r398 = 1 ∧ σ 88 13 - σ 88 14 = (5 : Int) ∧ fM σ (σ 88 14) = (104 : Int) ∧ fM σ (σ 88 14 + 1) = (111 : Int) ∧ ((5 : Int) < 3 ∨ fM σ (σ 88 14 + 2) = (108 : Int)) ∧ ((5 : Int) < 4 ∨ fM σ (σ 88 14 + 3) = (100 : Int))) ∨ (r398 = 0 ∧ ¬ (σ 88 13 - σ 88 14 = (5 : Int) ∧ fM σ (σ 88 14) = (104 : Int) ∧ fM σ (σ 88 14 + 1) = (111 : Int) ∧ ((5 : Int) < 3 ∨ fM σ (σ 88 14 + 2) = (108 : Int)) ∧ ((5 : Int) < 4 ∨ fM σ (σ 88 14 + 3) = (100 : Int)))) := q397_0
                          refine j_st (st' := [vI r398]) rfl ?_
                          refine j_ifR_eq (pc := 234) (tgt := 255) ⟨by omega, by omega⟩ dX12_nameNow_234 rfl (fun h399 => ?_) (fun h399 => ?_)
                          · refine j_aload_n (pc := 255) dX12_nameNow_255 rfl rfl ?_
                            refine j_iconst (pc := 256) dX12_nameNow_256 ?_
                            refine j_bipush (pc := 257) dX12_nameNow_257 rfl ?_
                            refine j_bipush (pc := 259) dX12_nameNow_259 rfl ?_
                            refine j_bipush (pc := 261) dX12_nameNow_261 rfl ?_
                            refine j_iconst (pc := 263) dX12_nameNow_263 ?_
                            refine j_callV (pc := 264) (As := [vI 3, vI 108, vI 111, vI 119, vI 0]) (st := []) (c_X12_is hM 3 ⟨by omega, by omega⟩ 108 ⟨by omega, by omega⟩ 111 ⟨by omega, by omega⟩ 119 ⟨by omega, by omega⟩ 0 ⟨by omega, by omega⟩ σ hI) mv_X12_107 rfl rfl rfl (a_88 hM) dX12_nameNow_264 ⟨Nat.le_of_ble_eq_true rfl, Nat.le_of_ble_eq_true rfl⟩ ⟨Nat.le_refl _, Nat.le_refl _⟩ rfl (Nat.le_of_ble_eq_true rfl) rfl (fun z400 σ401 hz400 => ?_)
                            obtain ⟨r403, rfl, hr403, rfl, q402_0⟩ := hz400
                            replace q402_0 : (r403 = 1 ∧ σ 88 13 - σ 88 14 = (3 : Int) ∧ fM σ (σ 88 14) = (108 : Int) ∧ fM σ (σ 88 14 + 1) = (111 : Int) ∧ ((3 : Int) < 3 ∨ fM σ (σ 88 14 + 2) = (119 : Int)) ∧ ((3 : Int) < 4 ∨ fM σ (σ 88 14 + 3) = (0 : Int))) ∨ (r403 = 0 ∧ ¬ (σ 88 13 - σ 88 14 = (3 : Int) ∧ fM σ (σ 88 14) = (108 : Int) ∧ fM σ (σ 88 14 + 1) = (111 : Int) ∧ ((3 : Int) < 3 ∨ fM σ (σ 88 14 + 2) = (119 : Int)) ∧ ((3 : Int) < 4 ∨ fM σ (σ 88 14 + 3) = (0 : Int)))) := q402_0
                            refine j_st (st' := [vI r403]) rfl ?_
                            refine j_ifR_eq (pc := 267) (tgt := 275) ⟨by omega, by omega⟩ dX12_nameNow_267 rfl (fun h404 => ?_) (fun h404 => ?_)
                            · refine j_aload_n (pc := 275) dX12_nameNow_275 rfl rfl ?_
                              refine j_callV (pc := 276) (As := []) (st := []) (c_X12_withNow hM σ hI) mv_X12_111 rfl rfl rfl (a_88 hM) dX12_nameNow_276 ⟨Nat.le_of_ble_eq_true rfl, Nat.le_of_ble_eq_true rfl⟩ ⟨Nat.le_refl _, Nat.le_refl _⟩ rfl (Nat.le_of_ble_eq_true rfl) rfl (fun z405 σ406 hz405 => ?_)
                              obtain ⟨r408, rfl, hr408, rfl, q407_0, q407_1⟩ := hz405
                              replace q407_0 : r408 = -4 ∨ 20 ≤ r408 := q407_0
                              replace q407_1 : (r408 = -4 ∧ wnm (fM σ) 1 (σ 88 14) (σ 88 13) = -1) ∨ (r408 = 20 + wnm (fM σ) 1 (σ 88 14) (σ 88 13) ∧ 0 ≤ wnm (fM σ) 1 (σ 88 14) (σ 88 13) ∧ wnm (fM σ) 1 (σ 88 14) (σ 88 13) ≤ 3) := q407_1
                              refine j_st (st' := [vI r408]) rfl ?_
                              exact j_iret (pc := 279) ⟨rfl, rfl⟩ dX12_nameNow_279 rfl ⟨_, rfl, ⟨by omega, by omega⟩, rfl, (by rw [← hW]; (repeat' split at hW2) <;> omega)⟩
                            · refine j_bipush (pc := 270) dX12_nameNow_270 rfl ?_
                              refine j_goto (pc := 272) (tgt := 279) dX12_nameNow_272 rfl ?_
                              exact j_iret (pc := 279) ⟨rfl, rfl⟩ dX12_nameNow_279 rfl ⟨_, rfl, ⟨by omega, by omega⟩, rfl, (by rw [← hW]; (repeat' split at hW2) <;> omega)⟩
                          · refine j_aload_n (pc := 237) dX12_nameNow_237 rfl rfl ?_
                            refine j_aload_n (pc := 238) dX12_nameNow_238 rfl rfl ?_
                            refine j_getI (pc := 239) fl_X12_94 dX12_nameNow_239 (a_88 hM) rfl ?_
                            refine j_iconst (pc := 242) dX12_nameNow_242 ?_
                            refine j_iadd (pc := 243) dX12_nameNow_243 ?_
                            refine j_callV (pc := 244) (As := [vI ((σ 88 14) + 4)]) (st := []) (c_X12_look hM ((σ 88 14) + 4) ⟨by omega, by omega⟩ σ hI) mv_X12_103 rfl rfl rfl (a_88 hM) dX12_nameNow_244 ⟨Nat.le_of_ble_eq_true rfl, Nat.le_of_ble_eq_true rfl⟩ ⟨Nat.le_refl _, Nat.le_refl _⟩ rfl (Nat.le_of_ble_eq_true rfl) rfl (fun z409 σ410 hz409 => ?_)
                            obtain ⟨r412, rfl, hr412, rfl, q411_0, q411_1⟩ := hz409
                            replace q411_0 : (((σ 88 14) + 4) < σ 88 12 ∧ r412 = σ 98 ((σ 88 14) + 4).toNat) ∨ (¬ ((σ 88 14) + 4) < σ 88 12 ∧ r412 = -1) := q411_0
                            replace q411_1 : r412 = fM σ ((σ 88 14) + 4) := q411_1
                            refine j_st (st' := [vI r412]) rfl ?_
                            refine j_bipush (pc := 247) dX12_nameNow_247 rfl ?_
                            refine j_icmpR_ne (pc := 249) (tgt := 255) ⟨by omega, by omega⟩ ⟨by omega, by omega⟩ dX12_nameNow_249 rfl (fun h413 => ?_) (fun h413 => ?_)
                            · refine j_aload_n (pc := 255) dX12_nameNow_255 rfl rfl ?_
                              refine j_iconst (pc := 256) dX12_nameNow_256 ?_
                              refine j_bipush (pc := 257) dX12_nameNow_257 rfl ?_
                              refine j_bipush (pc := 259) dX12_nameNow_259 rfl ?_
                              refine j_bipush (pc := 261) dX12_nameNow_261 rfl ?_
                              refine j_iconst (pc := 263) dX12_nameNow_263 ?_
                              refine j_callV (pc := 264) (As := [vI 3, vI 108, vI 111, vI 119, vI 0]) (st := []) (c_X12_is hM 3 ⟨by omega, by omega⟩ 108 ⟨by omega, by omega⟩ 111 ⟨by omega, by omega⟩ 119 ⟨by omega, by omega⟩ 0 ⟨by omega, by omega⟩ σ hI) mv_X12_107 rfl rfl rfl (a_88 hM) dX12_nameNow_264 ⟨Nat.le_of_ble_eq_true rfl, Nat.le_of_ble_eq_true rfl⟩ ⟨Nat.le_refl _, Nat.le_refl _⟩ rfl (Nat.le_of_ble_eq_true rfl) rfl (fun z414 σ415 hz414 => ?_)
                              obtain ⟨r417, rfl, hr417, rfl, q416_0⟩ := hz414
                              replace q416_0 : (r417 = 1 ∧ σ 88 13 - σ 88 14 = (3 : Int) ∧ fM σ (σ 88 14) = (108 : Int) ∧ fM σ (σ 88 14 + 1) = (111 : Int) ∧ ((3 : Int) < 3 ∨ fM σ (σ 88 14 + 2) = (119 : Int)) ∧ ((3 : Int) < 4 ∨ fM σ (σ 88 14 + 3) = (0 : Int))) ∨ (r417 = 0 ∧ ¬ (σ 88 13 - σ 88 14 = (3 : Int) ∧ fM σ (σ 88 14) = (108 : Int) ∧ fM σ (σ 88 14 + 1) = (111 : Int) ∧ ((3 : Int) < 3 ∨ fM σ (σ 88 14 + 2) = (119 : Int)) ∧ ((3 : Int) < 4 ∨ fM σ (σ 88 14 + 3) = (0 : Int)))) := q416_0
                              refine j_st (st' := [vI r417]) rfl ?_
                              refine j_ifR_eq (pc := 267) (tgt := 275) ⟨by omega, by omega⟩ dX12_nameNow_267 rfl (fun h418 => ?_) (fun h418 => ?_)
                              · refine j_aload_n (pc := 275) dX12_nameNow_275 rfl rfl ?_
                                refine j_callV (pc := 276) (As := []) (st := []) (c_X12_withNow hM σ hI) mv_X12_111 rfl rfl rfl (a_88 hM) dX12_nameNow_276 ⟨Nat.le_of_ble_eq_true rfl, Nat.le_of_ble_eq_true rfl⟩ ⟨Nat.le_refl _, Nat.le_refl _⟩ rfl (Nat.le_of_ble_eq_true rfl) rfl (fun z419 σ420 hz419 => ?_)
                                obtain ⟨r422, rfl, hr422, rfl, q421_0, q421_1⟩ := hz419
                                replace q421_0 : r422 = -4 ∨ 20 ≤ r422 := q421_0
                                replace q421_1 : (r422 = -4 ∧ wnm (fM σ) 1 (σ 88 14) (σ 88 13) = -1) ∨ (r422 = 20 + wnm (fM σ) 1 (σ 88 14) (σ 88 13) ∧ 0 ≤ wnm (fM σ) 1 (σ 88 14) (σ 88 13) ∧ wnm (fM σ) 1 (σ 88 14) (σ 88 13) ≤ 3) := q421_1
                                refine j_st (st' := [vI r422]) rfl ?_
                                exact j_iret (pc := 279) ⟨rfl, rfl⟩ dX12_nameNow_279 rfl ⟨_, rfl, ⟨by omega, by omega⟩, rfl, (by rw [← hW]; (repeat' split at hW2) <;> omega)⟩
                              · refine j_bipush (pc := 270) dX12_nameNow_270 rfl ?_
                                refine j_goto (pc := 272) (tgt := 279) dX12_nameNow_272 rfl ?_
                                exact j_iret (pc := 279) ⟨rfl, rfl⟩ dX12_nameNow_279 rfl ⟨_, rfl, ⟨by omega, by omega⟩, rfl, (by rw [← hW]; (repeat' split at hW2) <;> omega)⟩
                            · refine j_bipush (pc := 252) dX12_nameNow_252 rfl ?_
                              exact j_iret (pc := 254) ⟨rfl, rfl⟩ dX12_nameNow_254 rfl ⟨_, rfl, ⟨by omega, by omega⟩, rfl, (by rw [← hW]; (repeat' split at hW2) <;> omega)⟩
                        · refine j_iconst (pc := 219) dX12_nameNow_219 ?_
                          exact j_iret (pc := 220) ⟨rfl, rfl⟩ dX12_nameNow_220 rfl ⟨_, rfl, ⟨by omega, by omega⟩, rfl, (by rw [← hW]; (repeat' split at hW2) <;> omega)⟩
                      · refine j_iconst (pc := 201) dX12_nameNow_201 ?_
                        exact j_iret (pc := 202) ⟨rfl, rfl⟩ dX12_nameNow_202 rfl ⟨_, rfl, ⟨by omega, by omega⟩, rfl, (by rw [← hW]; (repeat' split at hW2) <;> omega)⟩
                    · refine j_iconst (pc := 183) dX12_nameNow_183 ?_
                      exact j_iret (pc := 184) ⟨rfl, rfl⟩ dX12_nameNow_184 rfl ⟨_, rfl, ⟨by omega, by omega⟩, rfl, (by rw [← hW]; (repeat' split at hW2) <;> omega)⟩
                  · refine j_iconst (pc := 165) dX12_nameNow_165 ?_
                    exact j_iret (pc := 166) ⟨rfl, rfl⟩ dX12_nameNow_166 rfl ⟨_, rfl, ⟨by omega, by omega⟩, rfl, (by rw [← hW]; (repeat' split at hW2) <;> omega)⟩
              · refine j_aload_n (pc := 116) dX12_nameNow_116 rfl rfl ?_
                refine j_aload_n (pc := 117) dX12_nameNow_117 rfl rfl ?_
                refine j_getI (pc := 118) fl_X12_94 dX12_nameNow_118 (a_88 hM) rfl ?_
                refine j_bipush (pc := 121) dX12_nameNow_121 rfl ?_
                refine j_iadd (pc := 123) dX12_nameNow_123 ?_
                refine j_callV (pc := 124) (As := [vI ((σ 88 14) + 7)]) (st := []) (c_X12_look hM ((σ 88 14) + 7) ⟨by omega, by omega⟩ σ hI) mv_X12_103 rfl rfl rfl (a_88 hM) dX12_nameNow_124 ⟨Nat.le_of_ble_eq_true rfl, Nat.le_of_ble_eq_true rfl⟩ ⟨Nat.le_refl _, Nat.le_refl _⟩ rfl (Nat.le_of_ble_eq_true rfl) rfl (fun z423 σ424 hz423 => ?_)
                obtain ⟨r426, rfl, hr426, rfl, q425_0, q425_1⟩ := hz423
                replace q425_0 : (((σ 88 14) + 7) < σ 88 12 ∧ r426 = σ 98 ((σ 88 14) + 7).toNat) ∨ (¬ ((σ 88 14) + 7) < σ 88 12 ∧ r426 = -1) := q425_0
                replace q425_1 : r426 = fM σ ((σ 88 14) + 7) := q425_1
                refine j_st (st' := [vI r426]) rfl ?_
                refine j_bipush (pc := 127) dX12_nameNow_127 rfl ?_
                refine j_icmpR_ne (pc := 129) (tgt := 134) ⟨by omega, by omega⟩ ⟨by omega, by omega⟩ dX12_nameNow_129 rfl (fun h427 => ?_) (fun h427 => ?_)
                · refine j_aload_n (pc := 134) dX12_nameNow_134 rfl rfl ?_
                  refine j_iconst (pc := 135) dX12_nameNow_135 ?_
                  refine j_bipush (pc := 136) dX12_nameNow_136 rfl ?_
                  refine j_bipush (pc := 138) dX12_nameNow_138 rfl ?_
                  refine j_bipush (pc := 140) dX12_nameNow_140 rfl ?_
                  refine j_bipush (pc := 142) dX12_nameNow_142 rfl ?_
                  refine j_callV (pc := 144) (As := [vI 5, vI 112, vI 108, vI 97, vI 99]) (st := []) (c_X12_is hM 5 ⟨by omega, by omega⟩ 112 ⟨by omega, by omega⟩ 108 ⟨by omega, by omega⟩ 97 ⟨by omega, by omega⟩ 99 ⟨by omega, by omega⟩ σ hI) mv_X12_107 rfl rfl rfl (a_88 hM) dX12_nameNow_144 ⟨Nat.le_of_ble_eq_true rfl, Nat.le_of_ble_eq_true rfl⟩ ⟨Nat.le_refl _, Nat.le_refl _⟩ rfl (Nat.le_of_ble_eq_true rfl) rfl (fun z428 σ429 hz428 => ?_)
                  obtain ⟨r431, rfl, hr431, rfl, q430_0⟩ := hz428
                  replace q430_0 : (r431 = 1 ∧ σ 88 13 - σ 88 14 = (5 : Int) ∧ fM σ (σ 88 14) = (112 : Int) ∧ fM σ (σ 88 14 + 1) = (108 : Int) ∧ ((5 : Int) < 3 ∨ fM σ (σ 88 14 + 2) = (97 : Int)) ∧ ((5 : Int) < 4 ∨ fM σ (σ 88 14 + 3) = (99 : Int))) ∨ (r431 = 0 ∧ ¬ (σ 88 13 - σ 88 14 = (5 : Int) ∧ fM σ (σ 88 14) = (112 : Int) ∧ fM σ (σ 88 14 + 1) = (108 : Int) ∧ ((5 : Int) < 3 ∨ fM σ (σ 88 14 + 2) = (97 : Int)) ∧ ((5 : Int) < 4 ∨ fM σ (σ 88 14 + 3) = (99 : Int)))) := q430_0
                  refine j_st (st' := [vI r431]) rfl ?_
                  refine j_ifR_eq (pc := 147) (tgt := 167) ⟨by omega, by omega⟩ dX12_nameNow_147 rfl (fun h432 => ?_) (fun h432 => ?_)
                  · refine j_aload_n (pc := 167) dX12_nameNow_167 rfl rfl ?_
                    refine j_iconst (pc := 168) dX12_nameNow_168 ?_
                    refine j_bipush (pc := 169) dX12_nameNow_169 rfl ?_
                    refine j_bipush (pc := 171) dX12_nameNow_171 rfl ?_
                    refine j_bipush (pc := 173) dX12_nameNow_173 rfl ?_
                    refine j_bipush (pc := 175) dX12_nameNow_175 rfl ?_
                    refine j_callV (pc := 177) (As := [vI 4, vI 114, vI 111, vI 112, vI 101]) (st := []) (c_X12_is hM 4 ⟨by omega, by omega⟩ 114 ⟨by omega, by omega⟩ 111 ⟨by omega, by omega⟩ 112 ⟨by omega, by omega⟩ 101 ⟨by omega, by omega⟩ σ hI) mv_X12_107 rfl rfl rfl (a_88 hM) dX12_nameNow_177 ⟨Nat.le_of_ble_eq_true rfl, Nat.le_of_ble_eq_true rfl⟩ ⟨Nat.le_refl _, Nat.le_refl _⟩ rfl (Nat.le_of_ble_eq_true rfl) rfl (fun z433 σ434 hz433 => ?_)
                    obtain ⟨r436, rfl, hr436, rfl, q435_0⟩ := hz433
                    replace q435_0 : (r436 = 1 ∧ σ 88 13 - σ 88 14 = (4 : Int) ∧ fM σ (σ 88 14) = (114 : Int) ∧ fM σ (σ 88 14 + 1) = (111 : Int) ∧ ((4 : Int) < 3 ∨ fM σ (σ 88 14 + 2) = (112 : Int)) ∧ ((4 : Int) < 4 ∨ fM σ (σ 88 14 + 3) = (101 : Int))) ∨ (r436 = 0 ∧ ¬ (σ 88 13 - σ 88 14 = (4 : Int) ∧ fM σ (σ 88 14) = (114 : Int) ∧ fM σ (σ 88 14 + 1) = (111 : Int) ∧ ((4 : Int) < 3 ∨ fM σ (σ 88 14 + 2) = (112 : Int)) ∧ ((4 : Int) < 4 ∨ fM σ (σ 88 14 + 3) = (101 : Int)))) := q435_0
                    refine j_st (st' := [vI r436]) rfl ?_
                    refine j_ifR_eq (pc := 180) (tgt := 185) ⟨by omega, by omega⟩ dX12_nameNow_180 rfl (fun h437 => ?_) (fun h437 => ?_)
                    · refine j_aload_n (pc := 185) dX12_nameNow_185 rfl rfl ?_
                      refine j_iconst (pc := 186) dX12_nameNow_186 ?_
                      refine j_bipush (pc := 187) dX12_nameNow_187 rfl ?_
                      refine j_bipush (pc := 189) dX12_nameNow_189 rfl ?_
                      refine j_bipush (pc := 191) dX12_nameNow_191 rfl ?_
                      refine j_bipush (pc := 193) dX12_nameNow_193 rfl ?_
                      refine j_callV (pc := 195) (As := [vI 4, vI 103, vI 105, vI 118, vI 101]) (st := []) (c_X12_is hM 4 ⟨by omega, by omega⟩ 103 ⟨by omega, by omega⟩ 105 ⟨by omega, by omega⟩ 118 ⟨by omega, by omega⟩ 101 ⟨by omega, by omega⟩ σ hI) mv_X12_107 rfl rfl rfl (a_88 hM) dX12_nameNow_195 ⟨Nat.le_of_ble_eq_true rfl, Nat.le_of_ble_eq_true rfl⟩ ⟨Nat.le_refl _, Nat.le_refl _⟩ rfl (Nat.le_of_ble_eq_true rfl) rfl (fun z438 σ439 hz438 => ?_)
                      obtain ⟨r441, rfl, hr441, rfl, q440_0⟩ := hz438
                      replace q440_0 : (r441 = 1 ∧ σ 88 13 - σ 88 14 = (4 : Int) ∧ fM σ (σ 88 14) = (103 : Int) ∧ fM σ (σ 88 14 + 1) = (105 : Int) ∧ ((4 : Int) < 3 ∨ fM σ (σ 88 14 + 2) = (118 : Int)) ∧ ((4 : Int) < 4 ∨ fM σ (σ 88 14 + 3) = (101 : Int))) ∨ (r441 = 0 ∧ ¬ (σ 88 13 - σ 88 14 = (4 : Int) ∧ fM σ (σ 88 14) = (103 : Int) ∧ fM σ (σ 88 14 + 1) = (105 : Int) ∧ ((4 : Int) < 3 ∨ fM σ (σ 88 14 + 2) = (118 : Int)) ∧ ((4 : Int) < 4 ∨ fM σ (σ 88 14 + 3) = (101 : Int)))) := q440_0
                      refine j_st (st' := [vI r441]) rfl ?_
                      refine j_ifR_eq (pc := 198) (tgt := 203) ⟨by omega, by omega⟩ dX12_nameNow_198 rfl (fun h442 => ?_) (fun h442 => ?_)
                      · refine j_aload_n (pc := 203) dX12_nameNow_203 rfl rfl ?_
                        refine j_iconst (pc := 204) dX12_nameNow_204 ?_
                        refine j_bipush (pc := 205) dX12_nameNow_205 rfl ?_
                        refine j_bipush (pc := 207) dX12_nameNow_207 rfl ?_
                        refine j_bipush (pc := 209) dX12_nameNow_209 rfl ?_
                        refine j_bipush (pc := 211) dX12_nameNow_211 rfl ?_
                        refine j_callV (pc := 213) (As := [vI 4, vI 102, vI 105, vI 116, vI 115]) (st := []) (c_X12_is hM 4 ⟨by omega, by omega⟩ 102 ⟨by omega, by omega⟩ 105 ⟨by omega, by omega⟩ 116 ⟨by omega, by omega⟩ 115 ⟨by omega, by omega⟩ σ hI) mv_X12_107 rfl rfl rfl (a_88 hM) dX12_nameNow_213 ⟨Nat.le_of_ble_eq_true rfl, Nat.le_of_ble_eq_true rfl⟩ ⟨Nat.le_refl _, Nat.le_refl _⟩ rfl (Nat.le_of_ble_eq_true rfl) rfl (fun z443 σ444 hz443 => ?_)
                        obtain ⟨r446, rfl, hr446, rfl, q445_0⟩ := hz443
                        replace q445_0 : (r446 = 1 ∧ σ 88 13 - σ 88 14 = (4 : Int) ∧ fM σ (σ 88 14) = (102 : Int) ∧ fM σ (σ 88 14 + 1) = (105 : Int) ∧ ((4 : Int) < 3 ∨ fM σ (σ 88 14 + 2) = (116 : Int)) ∧ ((4 : Int) < 4 ∨ fM σ (σ 88 14 + 3) = (115 : Int))) ∨ (r446 = 0 ∧ ¬ (σ 88 13 - σ 88 14 = (4 : Int) ∧ fM σ (σ 88 14) = (102 : Int) ∧ fM σ (σ 88 14 + 1) = (105 : Int) ∧ ((4 : Int) < 3 ∨ fM σ (σ 88 14 + 2) = (116 : Int)) ∧ ((4 : Int) < 4 ∨ fM σ (σ 88 14 + 3) = (115 : Int)))) := q445_0
                        refine j_st (st' := [vI r446]) rfl ?_
                        refine j_ifR_eq (pc := 216) (tgt := 221) ⟨by omega, by omega⟩ dX12_nameNow_216 rfl (fun h447 => ?_) (fun h447 => ?_)
                        · refine j_aload_n (pc := 221) dX12_nameNow_221 rfl rfl ?_
                          refine j_iconst (pc := 222) dX12_nameNow_222 ?_
                          refine j_bipush (pc := 223) dX12_nameNow_223 rfl ?_
                          refine j_bipush (pc := 225) dX12_nameNow_225 rfl ?_
                          refine j_bipush (pc := 227) dX12_nameNow_227 rfl ?_
                          refine j_bipush (pc := 229) dX12_nameNow_229 rfl ?_
                          refine j_callV (pc := 231) (As := [vI 5, vI 104, vI 111, vI 108, vI 100]) (st := []) (c_X12_is hM 5 ⟨by omega, by omega⟩ 104 ⟨by omega, by omega⟩ 111 ⟨by omega, by omega⟩ 108 ⟨by omega, by omega⟩ 100 ⟨by omega, by omega⟩ σ hI) mv_X12_107 rfl rfl rfl (a_88 hM) dX12_nameNow_231 ⟨Nat.le_of_ble_eq_true rfl, Nat.le_of_ble_eq_true rfl⟩ ⟨Nat.le_refl _, Nat.le_refl _⟩ rfl (Nat.le_of_ble_eq_true rfl) rfl (fun z448 σ449 hz448 => ?_)
                          obtain ⟨r451, rfl, hr451, rfl, q450_0⟩ := hz448
                          replace q450_0 : (r451 = 1 ∧ σ 88 13 - σ 88 14 = (5 : Int) ∧ fM σ (σ 88 14) = (104 : Int) ∧ fM σ (σ 88 14 + 1) = (111 : Int) ∧ ((5 : Int) < 3 ∨ fM σ (σ 88 14 + 2) = (108 : Int)) ∧ ((5 : Int) < 4 ∨ fM σ (σ 88 14 + 3) = (100 : Int))) ∨ (r451 = 0 ∧ ¬ (σ 88 13 - σ 88 14 = (5 : Int) ∧ fM σ (σ 88 14) = (104 : Int) ∧ fM σ (σ 88 14 + 1) = (111 : Int) ∧ ((5 : Int) < 3 ∨ fM σ (σ 88 14 + 2) = (108 : Int)) ∧ ((5 : Int) < 4 ∨ fM σ (σ 88 14 + 3) = (100 : Int)))) := q450_0
                          refine j_st (st' := [vI r451]) rfl ?_
                          refine j_ifR_eq (pc := 234) (tgt := 255) ⟨by omega, by omega⟩ dX12_nameNow_234 rfl (fun h452 => ?_) (fun h452 => ?_)
                          · refine j_aload_n (pc := 255) dX12_nameNow_255 rfl rfl ?_
                            refine j_iconst (pc := 256) dX12_nameNow_256 ?_
                            refine j_bipush (pc := 257) dX12_nameNow_257 rfl ?_
                            refine j_bipush (pc := 259) dX12_nameNow_259 rfl ?_
                            refine j_bipush (pc := 261) dX12_nameNow_261 rfl ?_
                            refine j_iconst (pc := 263) dX12_nameNow_263 ?_
                            refine j_callV (pc := 264) (As := [vI 3, vI 108, vI 111, vI 119, vI 0]) (st := []) (c_X12_is hM 3 ⟨by omega, by omega⟩ 108 ⟨by omega, by omega⟩ 111 ⟨by omega, by omega⟩ 119 ⟨by omega, by omega⟩ 0 ⟨by omega, by omega⟩ σ hI) mv_X12_107 rfl rfl rfl (a_88 hM) dX12_nameNow_264 ⟨Nat.le_of_ble_eq_true rfl, Nat.le_of_ble_eq_true rfl⟩ ⟨Nat.le_refl _, Nat.le_refl _⟩ rfl (Nat.le_of_ble_eq_true rfl) rfl (fun z453 σ454 hz453 => ?_)
                            obtain ⟨r456, rfl, hr456, rfl, q455_0⟩ := hz453
                            replace q455_0 : (r456 = 1 ∧ σ 88 13 - σ 88 14 = (3 : Int) ∧ fM σ (σ 88 14) = (108 : Int) ∧ fM σ (σ 88 14 + 1) = (111 : Int) ∧ ((3 : Int) < 3 ∨ fM σ (σ 88 14 + 2) = (119 : Int)) ∧ ((3 : Int) < 4 ∨ fM σ (σ 88 14 + 3) = (0 : Int))) ∨ (r456 = 0 ∧ ¬ (σ 88 13 - σ 88 14 = (3 : Int) ∧ fM σ (σ 88 14) = (108 : Int) ∧ fM σ (σ 88 14 + 1) = (111 : Int) ∧ ((3 : Int) < 3 ∨ fM σ (σ 88 14 + 2) = (119 : Int)) ∧ ((3 : Int) < 4 ∨ fM σ (σ 88 14 + 3) = (0 : Int)))) := q455_0
                            refine j_st (st' := [vI r456]) rfl ?_
                            refine j_ifR_eq (pc := 267) (tgt := 275) ⟨by omega, by omega⟩ dX12_nameNow_267 rfl (fun h457 => ?_) (fun h457 => ?_)
                            · refine j_aload_n (pc := 275) dX12_nameNow_275 rfl rfl ?_
                              refine j_callV (pc := 276) (As := []) (st := []) (c_X12_withNow hM σ hI) mv_X12_111 rfl rfl rfl (a_88 hM) dX12_nameNow_276 ⟨Nat.le_of_ble_eq_true rfl, Nat.le_of_ble_eq_true rfl⟩ ⟨Nat.le_refl _, Nat.le_refl _⟩ rfl (Nat.le_of_ble_eq_true rfl) rfl (fun z458 σ459 hz458 => ?_)
                              obtain ⟨r461, rfl, hr461, rfl, q460_0, q460_1⟩ := hz458
                              replace q460_0 : r461 = -4 ∨ 20 ≤ r461 := q460_0
                              replace q460_1 : (r461 = -4 ∧ wnm (fM σ) 1 (σ 88 14) (σ 88 13) = -1) ∨ (r461 = 20 + wnm (fM σ) 1 (σ 88 14) (σ 88 13) ∧ 0 ≤ wnm (fM σ) 1 (σ 88 14) (σ 88 13) ∧ wnm (fM σ) 1 (σ 88 14) (σ 88 13) ≤ 3) := q460_1
                              refine j_st (st' := [vI r461]) rfl ?_
                              exact j_iret (pc := 279) ⟨rfl, rfl⟩ dX12_nameNow_279 rfl ⟨_, rfl, ⟨by omega, by omega⟩, rfl, (by rw [← hW]; (repeat' split at hW2) <;> omega)⟩
                            · refine j_bipush (pc := 270) dX12_nameNow_270 rfl ?_
                              refine j_goto (pc := 272) (tgt := 279) dX12_nameNow_272 rfl ?_
                              exact j_iret (pc := 279) ⟨rfl, rfl⟩ dX12_nameNow_279 rfl ⟨_, rfl, ⟨by omega, by omega⟩, rfl, (by rw [← hW]; (repeat' split at hW2) <;> omega)⟩
                          · refine j_aload_n (pc := 237) dX12_nameNow_237 rfl rfl ?_
                            refine j_aload_n (pc := 238) dX12_nameNow_238 rfl rfl ?_
                            refine j_getI (pc := 239) fl_X12_94 dX12_nameNow_239 (a_88 hM) rfl ?_
                            refine j_iconst (pc := 242) dX12_nameNow_242 ?_
                            refine j_iadd (pc := 243) dX12_nameNow_243 ?_
                            refine j_callV (pc := 244) (As := [vI ((σ 88 14) + 4)]) (st := []) (c_X12_look hM ((σ 88 14) + 4) ⟨by omega, by omega⟩ σ hI) mv_X12_103 rfl rfl rfl (a_88 hM) dX12_nameNow_244 ⟨Nat.le_of_ble_eq_true rfl, Nat.le_of_ble_eq_true rfl⟩ ⟨Nat.le_refl _, Nat.le_refl _⟩ rfl (Nat.le_of_ble_eq_true rfl) rfl (fun z462 σ463 hz462 => ?_)
                            obtain ⟨r465, rfl, hr465, rfl, q464_0, q464_1⟩ := hz462
                            replace q464_0 : (((σ 88 14) + 4) < σ 88 12 ∧ r465 = σ 98 ((σ 88 14) + 4).toNat) ∨ (¬ ((σ 88 14) + 4) < σ 88 12 ∧ r465 = -1) := q464_0
                            replace q464_1 : r465 = fM σ ((σ 88 14) + 4) := q464_1
                            refine j_st (st' := [vI r465]) rfl ?_
                            refine j_bipush (pc := 247) dX12_nameNow_247 rfl ?_
                            refine j_icmpR_ne (pc := 249) (tgt := 255) ⟨by omega, by omega⟩ ⟨by omega, by omega⟩ dX12_nameNow_249 rfl (fun h466 => ?_) (fun h466 => ?_)
                            · refine j_aload_n (pc := 255) dX12_nameNow_255 rfl rfl ?_
                              refine j_iconst (pc := 256) dX12_nameNow_256 ?_
                              refine j_bipush (pc := 257) dX12_nameNow_257 rfl ?_
                              refine j_bipush (pc := 259) dX12_nameNow_259 rfl ?_
                              refine j_bipush (pc := 261) dX12_nameNow_261 rfl ?_
                              refine j_iconst (pc := 263) dX12_nameNow_263 ?_
                              refine j_callV (pc := 264) (As := [vI 3, vI 108, vI 111, vI 119, vI 0]) (st := []) (c_X12_is hM 3 ⟨by omega, by omega⟩ 108 ⟨by omega, by omega⟩ 111 ⟨by omega, by omega⟩ 119 ⟨by omega, by omega⟩ 0 ⟨by omega, by omega⟩ σ hI) mv_X12_107 rfl rfl rfl (a_88 hM) dX12_nameNow_264 ⟨Nat.le_of_ble_eq_true rfl, Nat.le_of_ble_eq_true rfl⟩ ⟨Nat.le_refl _, Nat.le_refl _⟩ rfl (Nat.le_of_ble_eq_true rfl) rfl (fun z467 σ468 hz467 => ?_)
                              obtain ⟨r470, rfl, hr470, rfl, q469_0⟩ := hz467
                              replace q469_0 : (r470 = 1 ∧ σ 88 13 - σ 88 14 = (3 : Int) ∧ fM σ (σ 88 14) = (108 : Int) ∧ fM σ (σ 88 14 + 1) = (111 : Int) ∧ ((3 : Int) < 3 ∨ fM σ (σ 88 14 + 2) = (119 : Int)) ∧ ((3 : Int) < 4 ∨ fM σ (σ 88 14 + 3) = (0 : Int))) ∨ (r470 = 0 ∧ ¬ (σ 88 13 - σ 88 14 = (3 : Int) ∧ fM σ (σ 88 14) = (108 : Int) ∧ fM σ (σ 88 14 + 1) = (111 : Int) ∧ ((3 : Int) < 3 ∨ fM σ (σ 88 14 + 2) = (119 : Int)) ∧ ((3 : Int) < 4 ∨ fM σ (σ 88 14 + 3) = (0 : Int)))) := q469_0
                              refine j_st (st' := [vI r470]) rfl ?_
                              refine j_ifR_eq (pc := 267) (tgt := 275) ⟨by omega, by omega⟩ dX12_nameNow_267 rfl (fun h471 => ?_) (fun h471 => ?_)
                              · refine j_aload_n (pc := 275) dX12_nameNow_275 rfl rfl ?_
                                refine j_callV (pc := 276) (As := []) (st := []) (c_X12_withNow hM σ hI) mv_X12_111 rfl rfl rfl (a_88 hM) dX12_nameNow_276 ⟨Nat.le_of_ble_eq_true rfl, Nat.le_of_ble_eq_true rfl⟩ ⟨Nat.le_refl _, Nat.le_refl _⟩ rfl (Nat.le_of_ble_eq_true rfl) rfl (fun z472 σ473 hz472 => ?_)
                                obtain ⟨r475, rfl, hr475, rfl, q474_0, q474_1⟩ := hz472
                                replace q474_0 : r475 = -4 ∨ 20 ≤ r475 := q474_0
                                replace q474_1 : (r475 = -4 ∧ wnm (fM σ) 1 (σ 88 14) (σ 88 13) = -1) ∨ (r475 = 20 + wnm (fM σ) 1 (σ 88 14) (σ 88 13) ∧ 0 ≤ wnm (fM σ) 1 (σ 88 14) (σ 88 13) ∧ wnm (fM σ) 1 (σ 88 14) (σ 88 13) ≤ 3) := q474_1
                                refine j_st (st' := [vI r475]) rfl ?_
                                exact j_iret (pc := 279) ⟨rfl, rfl⟩ dX12_nameNow_279 rfl ⟨_, rfl, ⟨by omega, by omega⟩, rfl, (by rw [← hW]; (repeat' split at hW2) <;> omega)⟩
                              · refine j_bipush (pc := 270) dX12_nameNow_270 rfl ?_
                                refine j_goto (pc := 272) (tgt := 279) dX12_nameNow_272 rfl ?_
                                exact j_iret (pc := 279) ⟨rfl, rfl⟩ dX12_nameNow_279 rfl ⟨_, rfl, ⟨by omega, by omega⟩, rfl, (by rw [← hW]; (repeat' split at hW2) <;> omega)⟩
                            · refine j_bipush (pc := 252) dX12_nameNow_252 rfl ?_
                              exact j_iret (pc := 254) ⟨rfl, rfl⟩ dX12_nameNow_254 rfl ⟨_, rfl, ⟨by omega, by omega⟩, rfl, (by rw [← hW]; (repeat' split at hW2) <;> omega)⟩
                        · refine j_iconst (pc := 219) dX12_nameNow_219 ?_
                          exact j_iret (pc := 220) ⟨rfl, rfl⟩ dX12_nameNow_220 rfl ⟨_, rfl, ⟨by omega, by omega⟩, rfl, (by rw [← hW]; (repeat' split at hW2) <;> omega)⟩
                      · refine j_iconst (pc := 201) dX12_nameNow_201 ?_
                        exact j_iret (pc := 202) ⟨rfl, rfl⟩ dX12_nameNow_202 rfl ⟨_, rfl, ⟨by omega, by omega⟩, rfl, (by rw [← hW]; (repeat' split at hW2) <;> omega)⟩
                    · refine j_iconst (pc := 183) dX12_nameNow_183 ?_
                      exact j_iret (pc := 184) ⟨rfl, rfl⟩ dX12_nameNow_184 rfl ⟨_, rfl, ⟨by omega, by omega⟩, rfl, (by rw [← hW]; (repeat' split at hW2) <;> omega)⟩
                  · refine j_aload_n (pc := 150) dX12_nameNow_150 rfl rfl ?_
                    refine j_aload_n (pc := 151) dX12_nameNow_151 rfl rfl ?_
                    refine j_getI (pc := 152) fl_X12_94 dX12_nameNow_152 (a_88 hM) rfl ?_
                    refine j_iconst (pc := 155) dX12_nameNow_155 ?_
                    refine j_iadd (pc := 156) dX12_nameNow_156 ?_
                    refine j_callV (pc := 157) (As := [vI ((σ 88 14) + 4)]) (st := []) (c_X12_look hM ((σ 88 14) + 4) ⟨by omega, by omega⟩ σ hI) mv_X12_103 rfl rfl rfl (a_88 hM) dX12_nameNow_157 ⟨Nat.le_of_ble_eq_true rfl, Nat.le_of_ble_eq_true rfl⟩ ⟨Nat.le_refl _, Nat.le_refl _⟩ rfl (Nat.le_of_ble_eq_true rfl) rfl (fun z476 σ477 hz476 => ?_)
                    obtain ⟨r479, rfl, hr479, rfl, q478_0, q478_1⟩ := hz476
                    replace q478_0 : (((σ 88 14) + 4) < σ 88 12 ∧ r479 = σ 98 ((σ 88 14) + 4).toNat) ∨ (¬ ((σ 88 14) + 4) < σ 88 12 ∧ r479 = -1) := q478_0
                    replace q478_1 : r479 = fM σ ((σ 88 14) + 4) := q478_1
                    refine j_st (st' := [vI r479]) rfl ?_
                    refine j_bipush (pc := 160) dX12_nameNow_160 rfl ?_
                    refine j_icmpR_ne (pc := 162) (tgt := 167) ⟨by omega, by omega⟩ ⟨by omega, by omega⟩ dX12_nameNow_162 rfl (fun h480 => ?_) (fun h480 => ?_)
                    · refine j_aload_n (pc := 167) dX12_nameNow_167 rfl rfl ?_
                      refine j_iconst (pc := 168) dX12_nameNow_168 ?_
                      refine j_bipush (pc := 169) dX12_nameNow_169 rfl ?_
                      refine j_bipush (pc := 171) dX12_nameNow_171 rfl ?_
                      refine j_bipush (pc := 173) dX12_nameNow_173 rfl ?_
                      refine j_bipush (pc := 175) dX12_nameNow_175 rfl ?_
                      refine j_callV (pc := 177) (As := [vI 4, vI 114, vI 111, vI 112, vI 101]) (st := []) (c_X12_is hM 4 ⟨by omega, by omega⟩ 114 ⟨by omega, by omega⟩ 111 ⟨by omega, by omega⟩ 112 ⟨by omega, by omega⟩ 101 ⟨by omega, by omega⟩ σ hI) mv_X12_107 rfl rfl rfl (a_88 hM) dX12_nameNow_177 ⟨Nat.le_of_ble_eq_true rfl, Nat.le_of_ble_eq_true rfl⟩ ⟨Nat.le_refl _, Nat.le_refl _⟩ rfl (Nat.le_of_ble_eq_true rfl) rfl (fun z481 σ482 hz481 => ?_)
                      obtain ⟨r484, rfl, hr484, rfl, q483_0⟩ := hz481
                      replace q483_0 : (r484 = 1 ∧ σ 88 13 - σ 88 14 = (4 : Int) ∧ fM σ (σ 88 14) = (114 : Int) ∧ fM σ (σ 88 14 + 1) = (111 : Int) ∧ ((4 : Int) < 3 ∨ fM σ (σ 88 14 + 2) = (112 : Int)) ∧ ((4 : Int) < 4 ∨ fM σ (σ 88 14 + 3) = (101 : Int))) ∨ (r484 = 0 ∧ ¬ (σ 88 13 - σ 88 14 = (4 : Int) ∧ fM σ (σ 88 14) = (114 : Int) ∧ fM σ (σ 88 14 + 1) = (111 : Int) ∧ ((4 : Int) < 3 ∨ fM σ (σ 88 14 + 2) = (112 : Int)) ∧ ((4 : Int) < 4 ∨ fM σ (σ 88 14 + 3) = (101 : Int)))) := q483_0
                      refine j_st (st' := [vI r484]) rfl ?_
                      refine j_ifR_eq (pc := 180) (tgt := 185) ⟨by omega, by omega⟩ dX12_nameNow_180 rfl (fun h485 => ?_) (fun h485 => ?_)
                      · refine j_aload_n (pc := 185) dX12_nameNow_185 rfl rfl ?_
                        refine j_iconst (pc := 186) dX12_nameNow_186 ?_
                        refine j_bipush (pc := 187) dX12_nameNow_187 rfl ?_
                        refine j_bipush (pc := 189) dX12_nameNow_189 rfl ?_
                        refine j_bipush (pc := 191) dX12_nameNow_191 rfl ?_
                        refine j_bipush (pc := 193) dX12_nameNow_193 rfl ?_
                        refine j_callV (pc := 195) (As := [vI 4, vI 103, vI 105, vI 118, vI 101]) (st := []) (c_X12_is hM 4 ⟨by omega, by omega⟩ 103 ⟨by omega, by omega⟩ 105 ⟨by omega, by omega⟩ 118 ⟨by omega, by omega⟩ 101 ⟨by omega, by omega⟩ σ hI) mv_X12_107 rfl rfl rfl (a_88 hM) dX12_nameNow_195 ⟨Nat.le_of_ble_eq_true rfl, Nat.le_of_ble_eq_true rfl⟩ ⟨Nat.le_refl _, Nat.le_refl _⟩ rfl (Nat.le_of_ble_eq_true rfl) rfl (fun z486 σ487 hz486 => ?_)
                        obtain ⟨r489, rfl, hr489, rfl, q488_0⟩ := hz486
                        replace q488_0 : (r489 = 1 ∧ σ 88 13 - σ 88 14 = (4 : Int) ∧ fM σ (σ 88 14) = (103 : Int) ∧ fM σ (σ 88 14 + 1) = (105 : Int) ∧ ((4 : Int) < 3 ∨ fM σ (σ 88 14 + 2) = (118 : Int)) ∧ ((4 : Int) < 4 ∨ fM σ (σ 88 14 + 3) = (101 : Int))) ∨ (r489 = 0 ∧ ¬ (σ 88 13 - σ 88 14 = (4 : Int) ∧ fM σ (σ 88 14) = (103 : Int) ∧ fM σ (σ 88 14 + 1) = (105 : Int) ∧ ((4 : Int) < 3 ∨ fM σ (σ 88 14 + 2) = (118 : Int)) ∧ ((4 : Int) < 4 ∨ fM σ (σ 88 14 + 3) = (101 : Int)))) := q488_0
                        refine j_st (st' := [vI r489]) rfl ?_
                        refine j_ifR_eq (pc := 198) (tgt := 203) ⟨by omega, by omega⟩ dX12_nameNow_198 rfl (fun h490 => ?_) (fun h490 => ?_)
                        · refine j_aload_n (pc := 203) dX12_nameNow_203 rfl rfl ?_
                          refine j_iconst (pc := 204) dX12_nameNow_204 ?_
                          refine j_bipush (pc := 205) dX12_nameNow_205 rfl ?_
                          refine j_bipush (pc := 207) dX12_nameNow_207 rfl ?_
                          refine j_bipush (pc := 209) dX12_nameNow_209 rfl ?_
                          refine j_bipush (pc := 211) dX12_nameNow_211 rfl ?_
                          refine j_callV (pc := 213) (As := [vI 4, vI 102, vI 105, vI 116, vI 115]) (st := []) (c_X12_is hM 4 ⟨by omega, by omega⟩ 102 ⟨by omega, by omega⟩ 105 ⟨by omega, by omega⟩ 116 ⟨by omega, by omega⟩ 115 ⟨by omega, by omega⟩ σ hI) mv_X12_107 rfl rfl rfl (a_88 hM) dX12_nameNow_213 ⟨Nat.le_of_ble_eq_true rfl, Nat.le_of_ble_eq_true rfl⟩ ⟨Nat.le_refl _, Nat.le_refl _⟩ rfl (Nat.le_of_ble_eq_true rfl) rfl (fun z491 σ492 hz491 => ?_)
                          obtain ⟨r494, rfl, hr494, rfl, q493_0⟩ := hz491
                          replace q493_0 : (r494 = 1 ∧ σ 88 13 - σ 88 14 = (4 : Int) ∧ fM σ (σ 88 14) = (102 : Int) ∧ fM σ (σ 88 14 + 1) = (105 : Int) ∧ ((4 : Int) < 3 ∨ fM σ (σ 88 14 + 2) = (116 : Int)) ∧ ((4 : Int) < 4 ∨ fM σ (σ 88 14 + 3) = (115 : Int))) ∨ (r494 = 0 ∧ ¬ (σ 88 13 - σ 88 14 = (4 : Int) ∧ fM σ (σ 88 14) = (102 : Int) ∧ fM σ (σ 88 14 + 1) = (105 : Int) ∧ ((4 : Int) < 3 ∨ fM σ (σ 88 14 + 2) = (116 : Int)) ∧ ((4 : Int) < 4 ∨ fM σ (σ 88 14 + 3) = (115 : Int)))) := q493_0
                          refine j_st (st' := [vI r494]) rfl ?_
                          refine j_ifR_eq (pc := 216) (tgt := 221) ⟨by omega, by omega⟩ dX12_nameNow_216 rfl (fun h495 => ?_) (fun h495 => ?_)
                          · refine j_aload_n (pc := 221) dX12_nameNow_221 rfl rfl ?_
                            refine j_iconst (pc := 222) dX12_nameNow_222 ?_
                            refine j_bipush (pc := 223) dX12_nameNow_223 rfl ?_
                            refine j_bipush (pc := 225) dX12_nameNow_225 rfl ?_
                            refine j_bipush (pc := 227) dX12_nameNow_227 rfl ?_
                            refine j_bipush (pc := 229) dX12_nameNow_229 rfl ?_
                            refine j_callV (pc := 231) (As := [vI 5, vI 104, vI 111, vI 108, vI 100]) (st := []) (c_X12_is hM 5 ⟨by omega, by omega⟩ 104 ⟨by omega, by omega⟩ 111 ⟨by omega, by omega⟩ 108 ⟨by omega, by omega⟩ 100 ⟨by omega, by omega⟩ σ hI) mv_X12_107 rfl rfl rfl (a_88 hM) dX12_nameNow_231 ⟨Nat.le_of_ble_eq_true rfl, Nat.le_of_ble_eq_true rfl⟩ ⟨Nat.le_refl _, Nat.le_refl _⟩ rfl (Nat.le_of_ble_eq_true rfl) rfl (fun z496 σ497 hz496 => ?_)
                            obtain ⟨r499, rfl, hr499, rfl, q498_0⟩ := hz496
                            replace q498_0 : (r499 = 1 ∧ σ 88 13 - σ 88 14 = (5 : Int) ∧ fM σ (σ 88 14) = (104 : Int) ∧ fM σ (σ 88 14 + 1) = (111 : Int) ∧ ((5 : Int) < 3 ∨ fM σ (σ 88 14 + 2) = (108 : Int)) ∧ ((5 : Int) < 4 ∨ fM σ (σ 88 14 + 3) = (100 : Int))) ∨ (r499 = 0 ∧ ¬ (σ 88 13 - σ 88 14 = (5 : Int) ∧ fM σ (σ 88 14) = (104 : Int) ∧ fM σ (σ 88 14 + 1) = (111 : Int) ∧ ((5 : Int) < 3 ∨ fM σ (σ 88 14 + 2) = (108 : Int)) ∧ ((5 : Int) < 4 ∨ fM σ (σ 88 14 + 3) = (100 : Int)))) := q498_0
                            refine j_st (st' := [vI r499]) rfl ?_
                            refine j_ifR_eq (pc := 234) (tgt := 255) ⟨by omega, by omega⟩ dX12_nameNow_234 rfl (fun h500 => ?_) (fun h500 => ?_)
                            · refine j_aload_n (pc := 255) dX12_nameNow_255 rfl rfl ?_
                              refine j_iconst (pc := 256) dX12_nameNow_256 ?_
                              refine j_bipush (pc := 257) dX12_nameNow_257 rfl ?_
                              refine j_bipush (pc := 259) dX12_nameNow_259 rfl ?_
                              refine j_bipush (pc := 261) dX12_nameNow_261 rfl ?_
                              refine j_iconst (pc := 263) dX12_nameNow_263 ?_
                              refine j_callV (pc := 264) (As := [vI 3, vI 108, vI 111, vI 119, vI 0]) (st := []) (c_X12_is hM 3 ⟨by omega, by omega⟩ 108 ⟨by omega, by omega⟩ 111 ⟨by omega, by omega⟩ 119 ⟨by omega, by omega⟩ 0 ⟨by omega, by omega⟩ σ hI) mv_X12_107 rfl rfl rfl (a_88 hM) dX12_nameNow_264 ⟨Nat.le_of_ble_eq_true rfl, Nat.le_of_ble_eq_true rfl⟩ ⟨Nat.le_refl _, Nat.le_refl _⟩ rfl (Nat.le_of_ble_eq_true rfl) rfl (fun z501 σ502 hz501 => ?_)
                              obtain ⟨r504, rfl, hr504, rfl, q503_0⟩ := hz501
                              replace q503_0 : (r504 = 1 ∧ σ 88 13 - σ 88 14 = (3 : Int) ∧ fM σ (σ 88 14) = (108 : Int) ∧ fM σ (σ 88 14 + 1) = (111 : Int) ∧ ((3 : Int) < 3 ∨ fM σ (σ 88 14 + 2) = (119 : Int)) ∧ ((3 : Int) < 4 ∨ fM σ (σ 88 14 + 3) = (0 : Int))) ∨ (r504 = 0 ∧ ¬ (σ 88 13 - σ 88 14 = (3 : Int) ∧ fM σ (σ 88 14) = (108 : Int) ∧ fM σ (σ 88 14 + 1) = (111 : Int) ∧ ((3 : Int) < 3 ∨ fM σ (σ 88 14 + 2) = (119 : Int)) ∧ ((3 : Int) < 4 ∨ fM σ (σ 88 14 + 3) = (0 : Int)))) := q503_0
                              refine j_st (st' := [vI r504]) rfl ?_
                              refine j_ifR_eq (pc := 267) (tgt := 275) ⟨by omega, by omega⟩ dX12_nameNow_267 rfl (fun h505 => ?_) (fun h505 => ?_)
                              · refine j_aload_n (pc := 275) dX12_nameNow_275 rfl rfl ?_
                                refine j_callV (pc := 276) (As := []) (st := []) (c_X12_withNow hM σ hI) mv_X12_111 rfl rfl rfl (a_88 hM) dX12_nameNow_276 ⟨Nat.le_of_ble_eq_true rfl, Nat.le_of_ble_eq_true rfl⟩ ⟨Nat.le_refl _, Nat.le_refl _⟩ rfl (Nat.le_of_ble_eq_true rfl) rfl (fun z506 σ507 hz506 => ?_)
                                obtain ⟨r509, rfl, hr509, rfl, q508_0, q508_1⟩ := hz506
                                replace q508_0 : r509 = -4 ∨ 20 ≤ r509 := q508_0
                                replace q508_1 : (r509 = -4 ∧ wnm (fM σ) 1 (σ 88 14) (σ 88 13) = -1) ∨ (r509 = 20 + wnm (fM σ) 1 (σ 88 14) (σ 88 13) ∧ 0 ≤ wnm (fM σ) 1 (σ 88 14) (σ 88 13) ∧ wnm (fM σ) 1 (σ 88 14) (σ 88 13) ≤ 3) := q508_1
                                refine j_st (st' := [vI r509]) rfl ?_
                                exact j_iret (pc := 279) ⟨rfl, rfl⟩ dX12_nameNow_279 rfl ⟨_, rfl, ⟨by omega, by omega⟩, rfl, (by rw [← hW]; (repeat' split at hW2) <;> omega)⟩
                              · refine j_bipush (pc := 270) dX12_nameNow_270 rfl ?_
                                refine j_goto (pc := 272) (tgt := 279) dX12_nameNow_272 rfl ?_
                                exact j_iret (pc := 279) ⟨rfl, rfl⟩ dX12_nameNow_279 rfl ⟨_, rfl, ⟨by omega, by omega⟩, rfl, (by rw [← hW]; (repeat' split at hW2) <;> omega)⟩
                            · refine j_aload_n (pc := 237) dX12_nameNow_237 rfl rfl ?_
                              refine j_aload_n (pc := 238) dX12_nameNow_238 rfl rfl ?_
                              refine j_getI (pc := 239) fl_X12_94 dX12_nameNow_239 (a_88 hM) rfl ?_
                              refine j_iconst (pc := 242) dX12_nameNow_242 ?_
                              refine j_iadd (pc := 243) dX12_nameNow_243 ?_
                              refine j_callV (pc := 244) (As := [vI ((σ 88 14) + 4)]) (st := []) (c_X12_look hM ((σ 88 14) + 4) ⟨by omega, by omega⟩ σ hI) mv_X12_103 rfl rfl rfl (a_88 hM) dX12_nameNow_244 ⟨Nat.le_of_ble_eq_true rfl, Nat.le_of_ble_eq_true rfl⟩ ⟨Nat.le_refl _, Nat.le_refl _⟩ rfl (Nat.le_of_ble_eq_true rfl) rfl (fun z510 σ511 hz510 => ?_)
                              obtain ⟨r513, rfl, hr513, rfl, q512_0, q512_1⟩ := hz510
                              replace q512_0 : (((σ 88 14) + 4) < σ 88 12 ∧ r513 = σ 98 ((σ 88 14) + 4).toNat) ∨ (¬ ((σ 88 14) + 4) < σ 88 12 ∧ r513 = -1) := q512_0
                              replace q512_1 : r513 = fM σ ((σ 88 14) + 4) := q512_1
                              refine j_st (st' := [vI r513]) rfl ?_
                              refine j_bipush (pc := 247) dX12_nameNow_247 rfl ?_
                              refine j_icmpR_ne (pc := 249) (tgt := 255) ⟨by omega, by omega⟩ ⟨by omega, by omega⟩ dX12_nameNow_249 rfl (fun h514 => ?_) (fun h514 => ?_)
                              · refine j_aload_n (pc := 255) dX12_nameNow_255 rfl rfl ?_
                                refine j_iconst (pc := 256) dX12_nameNow_256 ?_
                                refine j_bipush (pc := 257) dX12_nameNow_257 rfl ?_
                                refine j_bipush (pc := 259) dX12_nameNow_259 rfl ?_
                                refine j_bipush (pc := 261) dX12_nameNow_261 rfl ?_
                                refine j_iconst (pc := 263) dX12_nameNow_263 ?_
                                refine j_callV (pc := 264) (As := [vI 3, vI 108, vI 111, vI 119, vI 0]) (st := []) (c_X12_is hM 3 ⟨by omega, by omega⟩ 108 ⟨by omega, by omega⟩ 111 ⟨by omega, by omega⟩ 119 ⟨by omega, by omega⟩ 0 ⟨by omega, by omega⟩ σ hI) mv_X12_107 rfl rfl rfl (a_88 hM) dX12_nameNow_264 ⟨Nat.le_of_ble_eq_true rfl, Nat.le_of_ble_eq_true rfl⟩ ⟨Nat.le_refl _, Nat.le_refl _⟩ rfl (Nat.le_of_ble_eq_true rfl) rfl (fun z515 σ516 hz515 => ?_)
                                obtain ⟨r518, rfl, hr518, rfl, q517_0⟩ := hz515
                                replace q517_0 : (r518 = 1 ∧ σ 88 13 - σ 88 14 = (3 : Int) ∧ fM σ (σ 88 14) = (108 : Int) ∧ fM σ (σ 88 14 + 1) = (111 : Int) ∧ ((3 : Int) < 3 ∨ fM σ (σ 88 14 + 2) = (119 : Int)) ∧ ((3 : Int) < 4 ∨ fM σ (σ 88 14 + 3) = (0 : Int))) ∨ (r518 = 0 ∧ ¬ (σ 88 13 - σ 88 14 = (3 : Int) ∧ fM σ (σ 88 14) = (108 : Int) ∧ fM σ (σ 88 14 + 1) = (111 : Int) ∧ ((3 : Int) < 3 ∨ fM σ (σ 88 14 + 2) = (119 : Int)) ∧ ((3 : Int) < 4 ∨ fM σ (σ 88 14 + 3) = (0 : Int)))) := q517_0
                                refine j_st (st' := [vI r518]) rfl ?_
                                refine j_ifR_eq (pc := 267) (tgt := 275) ⟨by omega, by omega⟩ dX12_nameNow_267 rfl (fun h519 => ?_) (fun h519 => ?_)
                                · refine j_aload_n (pc := 275) dX12_nameNow_275 rfl rfl ?_
                                  refine j_callV (pc := 276) (As := []) (st := []) (c_X12_withNow hM σ hI) mv_X12_111 rfl rfl rfl (a_88 hM) dX12_nameNow_276 ⟨Nat.le_of_ble_eq_true rfl, Nat.le_of_ble_eq_true rfl⟩ ⟨Nat.le_refl _, Nat.le_refl _⟩ rfl (Nat.le_of_ble_eq_true rfl) rfl (fun z520 σ521 hz520 => ?_)
                                  obtain ⟨r523, rfl, hr523, rfl, q522_0, q522_1⟩ := hz520
                                  replace q522_0 : r523 = -4 ∨ 20 ≤ r523 := q522_0
                                  replace q522_1 : (r523 = -4 ∧ wnm (fM σ) 1 (σ 88 14) (σ 88 13) = -1) ∨ (r523 = 20 + wnm (fM σ) 1 (σ 88 14) (σ 88 13) ∧ 0 ≤ wnm (fM σ) 1 (σ 88 14) (σ 88 13) ∧ wnm (fM σ) 1 (σ 88 14) (σ 88 13) ≤ 3) := q522_1
                                  refine j_st (st' := [vI r523]) rfl ?_
                                  exact j_iret (pc := 279) ⟨rfl, rfl⟩ dX12_nameNow_279 rfl ⟨_, rfl, ⟨by omega, by omega⟩, rfl, (by rw [← hW]; (repeat' split at hW2) <;> omega)⟩
                                · refine j_bipush (pc := 270) dX12_nameNow_270 rfl ?_
                                  refine j_goto (pc := 272) (tgt := 279) dX12_nameNow_272 rfl ?_
                                  exact j_iret (pc := 279) ⟨rfl, rfl⟩ dX12_nameNow_279 rfl ⟨_, rfl, ⟨by omega, by omega⟩, rfl, (by rw [← hW]; (repeat' split at hW2) <;> omega)⟩
                              · refine j_bipush (pc := 252) dX12_nameNow_252 rfl ?_
                                exact j_iret (pc := 254) ⟨rfl, rfl⟩ dX12_nameNow_254 rfl ⟨_, rfl, ⟨by omega, by omega⟩, rfl, (by rw [← hW]; (repeat' split at hW2) <;> omega)⟩
                          · refine j_iconst (pc := 219) dX12_nameNow_219 ?_
                            exact j_iret (pc := 220) ⟨rfl, rfl⟩ dX12_nameNow_220 rfl ⟨_, rfl, ⟨by omega, by omega⟩, rfl, (by rw [← hW]; (repeat' split at hW2) <;> omega)⟩
                        · refine j_iconst (pc := 201) dX12_nameNow_201 ?_
                          exact j_iret (pc := 202) ⟨rfl, rfl⟩ dX12_nameNow_202 rfl ⟨_, rfl, ⟨by omega, by omega⟩, rfl, (by rw [← hW]; (repeat' split at hW2) <;> omega)⟩
                      · refine j_iconst (pc := 183) dX12_nameNow_183 ?_
                        exact j_iret (pc := 184) ⟨rfl, rfl⟩ dX12_nameNow_184 rfl ⟨_, rfl, ⟨by omega, by omega⟩, rfl, (by rw [← hW]; (repeat' split at hW2) <;> omega)⟩
                    · refine j_iconst (pc := 165) dX12_nameNow_165 ?_
                      exact j_iret (pc := 166) ⟨rfl, rfl⟩ dX12_nameNow_166 rfl ⟨_, rfl, ⟨by omega, by omega⟩, rfl, (by rw [← hW]; (repeat' split at hW2) <;> omega)⟩
                · refine j_iconst (pc := 132) dX12_nameNow_132 ?_
                  exact j_iret (pc := 133) ⟨rfl, rfl⟩ dX12_nameNow_133 rfl ⟨_, rfl, ⟨by omega, by omega⟩, rfl, (by rw [← hW]; (repeat' split at hW2) <;> omega)⟩
      · refine j_iconst (pc := 51) dX12_nameNow_51 ?_
        exact j_iret (pc := 52) ⟨rfl, rfl⟩ dX12_nameNow_52 rfl ⟨_, rfl, ⟨by omega, by omega⟩, rfl, (by rw [← hW]; (repeat' split at hW2) <;> omega)⟩
    · refine j_bipush (pc := 33) dX12_nameNow_33 rfl ?_
      exact j_iret (pc := 35) ⟨rfl, rfl⟩ dX12_nameNow_35 rfl ⟨_, rfl, ⟨by omega, by omega⟩, rfl, (by rw [← hW]; (repeat' split at hW2) <;> omega)⟩
  · refine j_bipush (pc := 14) dX12_nameNow_14 rfl ?_
    exact j_iret (pc := 16) ⟨rfl, rfl⟩ dX12_nameNow_16 rfl ⟨_, rfl, ⟨by omega, by omega⟩, rfl, (by rw [← hW]; (repeat' split at hW2) <;> omega)⟩
abbrev q_X12_next  (σ : tw_M) : Option tw_V → tw_M → Prop := fun z τ => z = none ∧ tw_I τ ∧ tw_F (fun c j => (c = 88 ∧ (j = 13 ∨ j = 14 ∨ j = 15 ∨ j = 16 ∨ j = 17 ∨ j = 18))) σ τ ∧ (¬ τ 88 17 = 0 ∨ σ 88 17 = 0) ∧ (σ 88 13 ≤ τ 88 13) ∧ (¬ τ 88 17 = 0 ∨ τ 88 15 = 0 ∨ σ 88 13 < τ 88 13) ∧ (aM τ = tok (fM σ) (aM σ))
set_option maxHeartbeats 4000000 in
set_option maxRecDepth 100000 in
theorem l_X12_next {G : tw_G} (hM : tw_isM G) (σ : tw_M) (hI : tw_I σ) : ∀ N_ : Nat, (∀  (τ : tw_M) (hIτ : tw_I τ) (hFτ : tw_F (fun c j => (c = 88 ∧ (j = 13 ∨ j = 14 ∨ j = 15 ∨ j = 16 ∨ j = 17 ∨ j = 18))) σ τ) (i0 : σ 88 13 ≤ τ 88 13) (i1 : σ 88 17 = 0) (i2 : τ 88 17 = 0) (i3 : run isS (fM σ) (τ 88 13) = run isS (fM σ) (σ 88 13)) (i4 : τ 88 18 = σ 88 18) (hm : (1000 - τ 88 13).toNat < N_), tw_J G (tw_mt RX12 cX12_next 2 none 1) (tw_E G (q_X12_next σ)) 8 [(0, vR 88)] [] τ) ∧ (∀  (τ : tw_M) (hIτ : tw_I τ) (hFτ : tw_F (fun c j => (c = 88 ∧ (j = 13 ∨ j = 14 ∨ j = 15 ∨ j = 16 ∨ j = 17 ∨ j = 18))) σ τ) (i0 : σ 88 13 < τ 88 13 ∨ (σ 88 13 ≤ τ 88 13 ∧ τ 88 13 < τ 88 12 ∧ 97 ≤ τ 98 (τ 88 13).toNat ∧ τ 98 (τ 88 13).toNat ≤ 122)) (i1 : σ 88 17 = 0) (i2 : τ 88 17 = 0) (i3 : τ 88 15 = 1) (i4 : τ 88 14 = run isS (fM σ) (σ 88 13)) (i5 : run isL (fM σ) (τ 88 13) = run isL (fM σ) (τ 88 14)) (i6 : 97 ≤ fM σ (τ 88 14) ∧ fM σ (τ 88 14) ≤ 122) (hm : (500 - τ 88 13).toNat < N_), tw_J G (tw_mt RX12 cX12_next 2 none 1) (tw_E G (q_X12_next σ)) 82 [(0, vR 88)] [] τ) ∧ (∀  (τ : tw_M) (hIτ : tw_I τ) (hFτ : tw_F (fun c j => (c = 88 ∧ (j = 13 ∨ j = 14 ∨ j = 15 ∨ j = 16 ∨ j = 17 ∨ j = 18))) σ τ) (i0 : σ 88 13 < τ 88 13 ∨ (σ 88 13 ≤ τ 88 13 ∧ τ 88 13 < τ 88 12 ∧ 48 ≤ τ 98 (τ 88 13).toNat ∧ τ 98 (τ 88 13).toNat ≤ 57)) (i1 : σ 88 17 = 0) (i2 : τ 88 17 = 0) (i3 : τ 88 15 = 2) (i4 : τ 88 14 = run isS (fM σ) (σ 88 13)) (i5 : run isG (fM σ) (τ 88 13) = run isG (fM σ) (τ 88 14)) (i6 : 48 ≤ fM σ (τ 88 14) ∧ fM σ (τ 88 14) ≤ 57) (i7 : τ 88 14 ≤ τ 88 13) (i8 : τ 88 16 = nv (fM σ) (τ 88 14) (τ 88 13 - τ 88 14).toNat) (hm : (500 - τ 88 13).toNat < N_), tw_J G (tw_mt RX12 cX12_next 2 none 1) (tw_E G (q_X12_next σ)) 140 [(0, vR 88)] [] τ) := by
  intro N_
  induction N_ with
  | zero => exact ⟨fun τ hIτ hFτ i0 i1 i2 i3 i4 hm => absurd hm (Nat.not_lt_zero _), fun τ hIτ hFτ i0 i1 i2 i3 i4 i5 i6 hm => absurd hm (Nat.not_lt_zero _), fun τ hIτ hFτ i0 i1 i2 i3 i4 i5 i6 i7 i8 hm => absurd hm (Nat.not_lt_zero _)⟩
  | succ N_ ih =>
    refine ⟨?_, ?_, ?_⟩
    · intro τ hIτ hFτ i0 i1 i2 i3 i4 hm
      have f12 : (0 : Int) ≤ τ 88 12 ∧ τ 88 12 ≤ 400 := hIτ 88 12
      have fx : fM τ = fM σ := fM_F (hFτ 88 12 (show ¬ ((88 = 88 ∧ (12 = 13 ∨ 12 = 14 ∨ 12 = 15 ∨ 12 = 16 ∨ 12 = 17 ∨ 12 = 18))) from by omega)) (fun j => hFτ 98 j (show ¬ ((98 = 88 ∧ (j = 13 ∨ j = 14 ∨ j = 15 ∨ j = 16 ∨ j = 17 ∨ j = 18))) from by omega))
      have f12s : (0 : Int) ≤ σ 88 12 ∧ σ 88 12 ≤ 400 := hI 88 12
      refine j_aload_n (pc := 8) dX12_next_8 rfl rfl ?_
      refine j_aload_n (pc := 9) dX12_next_9 rfl rfl ?_
      refine j_getI (pc := 10) fl_X12_100 dX12_next_10 (a_88 hM) rfl ?_
      have f1 : (0 : Int) ≤ τ 88 13 ∧ τ 88 13 ≤ 400 := hIτ 88 13
      refine j_callV (pc := 13) (As := [vI (τ 88 13)]) (st := []) (c_X12_look hM (τ 88 13) ⟨by omega, by omega⟩ τ hIτ) mv_X12_103 rfl rfl rfl (a_88 hM) dX12_next_13 ⟨Nat.le_of_ble_eq_true rfl, Nat.le_of_ble_eq_true rfl⟩ ⟨Nat.le_refl _, Nat.le_refl _⟩ rfl (Nat.le_of_ble_eq_true rfl) rfl (fun z2 σ3 hz2 => ?_)
      obtain ⟨r5, rfl, hr5, rfl, q4_0, q4_1⟩ := hz2
      replace q4_0 : ((τ 88 13) < τ 88 12 ∧ r5 = τ 98 (τ 88 13).toNat) ∨ (¬ (τ 88 13) < τ 88 12 ∧ r5 = -1) := q4_0
      replace q4_1 : r5 = fM τ (τ 88 13) := q4_1
      refine j_st (st' := [vI r5]) rfl ?_
      have b9 := q4_1; rw [fx] at b9
      refine j_bipush (pc := 16) dX12_next_16 rfl ?_
      refine j_icmpR_ne (pc := 18) (tgt := 34) ⟨by omega, by omega⟩ ⟨by omega, by omega⟩ dX12_next_18 rfl (fun h6 => ?_) (fun h6 => ?_)
      · have rs : τ 88 13 = run isS (fM σ) (σ 88 13) := by rw [← i3]; exact (run_n (show isS (fM σ (τ 88 13)) = false from decide_eq_false (by omega))).symm
        refine j_aload_n (pc := 34) dX12_next_34 rfl rfl ?_
        refine j_aload_n (pc := 35) dX12_next_35 rfl rfl ?_
        refine j_getI (pc := 36) fl_X12_100 dX12_next_36 (a_88 hM) rfl ?_
        refine j_putI (pc := 39) fl_X12_94 fp_X12_14 dX12_next_39 (a_88 hM) rfl (j_nm (fun σ7 (eσ7 : σ7 = tw_up τ 88 14 (τ 88 13)) => ?_))
        have hIσ7 : tw_I σ7 := tw_I_up hIτ eσ7 (show (0 : Int) ≤ τ 88 13 ∧ τ 88 13 ≤ 400 from ⟨by omega, by omega⟩)
        have hFσ7 : tw_F (fun c j => (c = 88 ∧ (j = 13 ∨ j = 14 ∨ j = 15 ∨ j = 16 ∨ j = 17 ∨ j = 18))) σ σ7 := tw_F_up hFτ eσ7 (show (88 = 88 ∧ (14 = 13 ∨ 14 = 14 ∨ 14 = 15 ∨ 14 = 16 ∨ 14 = 17 ∨ 14 = 18)) from by omega)
        refine j_aload_n (pc := 42) dX12_next_42 rfl rfl ?_
        refine j_aload_n (pc := 43) dX12_next_43 rfl rfl ?_
        refine j_getI (pc := 44) fl_X12_100 dX12_next_44 (a_88 hM) rfl ?_
        refine j_topV (show σ7 88 13 = τ 88 13 from (tw_ne1 eσ7 (by omega))) ?_
        refine j_callV (pc := 47) (As := [vI (τ 88 13)]) (st := []) (c_X12_look hM (τ 88 13) ⟨by omega, by omega⟩ σ7 hIσ7) mv_X12_103 rfl rfl rfl (a_88 hM) dX12_next_47 ⟨Nat.le_of_ble_eq_true rfl, Nat.le_of_ble_eq_true rfl⟩ ⟨Nat.le_refl _, Nat.le_refl _⟩ rfl (Nat.le_of_ble_eq_true rfl) rfl (fun z8 σ9 hz8 => ?_)
        obtain ⟨r11, rfl, hr11, rfl, q10_0, q10_1⟩ := hz8
        replace q10_0 : ((τ 88 13) < σ7 88 12 ∧ r11 = σ7 98 (τ 88 13).toNat) ∨ (¬ (τ 88 13) < σ7 88 12 ∧ r11 = -1) := q10_0
        have y12 : σ7 88 12 = τ 88 12 := (tw_ne1 eσ7 (by omega))
        have f13 : (0 : Int) ≤ τ 88 12 ∧ τ 88 12 ≤ 400 := hIτ 88 12
        have y14 : σ7 98 ((τ 88 13).toNat) = τ 98 ((τ 88 13).toNat) := (tw_ne1 eσ7 (by omega))
        replace q10_1 : r11 = fM σ7 (τ 88 13) := q10_1
        refine j_st (st' := [vI r11]) rfl ?_
        have fy : fM σ7 = fM σ := fM_F (hFσ7 88 12 (show ¬ ((88 = 88 ∧ (12 = 13 ∨ 12 = 14 ∨ 12 = 15 ∨ 12 = 16 ∨ 12 = 17 ∨ 12 = 18))) from by omega)) (fun j => hFσ7 98 j (show ¬ ((98 = 88 ∧ (j = 13 ∨ j = 14 ∨ j = 15 ∨ j = 16 ∨ j = 17 ∨ j = 18))) from by omega))
        have b7 := q10_1; rw [fy] at b7
        have y15 : σ7 88 14 = τ 88 13 := (tw_eq1 eσ7)
        refine j_istore_n (pc := 50) (i := 1) (ls' := [(0, vR 88), (1, vI r11)]) [1, 0] dX12_next_50 rfl (Nat.le_of_ble_eq_true rfl) rfl rfl ?_
        refine j_iload_n (pc := 51) dX12_next_51 rfl rfl ?_
        refine j_ifR_ge (pc := 52) (tgt := 63) ⟨by omega, by omega⟩ dX12_next_52 rfl (fun h16 => ?_) (fun h16 => ?_)
        · refine j_iload_n (pc := 63) dX12_next_63 rfl rfl ?_
          refine j_i2l (pc := 64) dX12_next_64 ?_
          rw [w32_eq (a := r11) (by omega) (by omega)]
          refine j_ldc2 (pc := 65) (z := 97) dX12_next_65 (tw_in (i := 1445) (by decide +kernel) (by decide +kernel)) ?_
          refine j_ldc2 (pc := 68) (z := 122) dX12_next_68 (tw_in (i := 1446) (by decide +kernel) (by decide +kernel)) ?_
          refine j_callS (pc := 71) (As := [vL r11, vL 97, vL 122]) (st := []) (c_X12_in r11 ⟨by omega, by omega⟩ 97 ⟨by omega, by omega⟩ 122 ⟨by omega, by omega⟩ σ7 hIσ7) ms_X12_82 rfl dX12_next_71 ⟨Nat.le_of_ble_eq_true rfl, Nat.le_of_ble_eq_true rfl⟩ ⟨Nat.le_refl _, Nat.le_refl _⟩ rfl (Nat.le_of_ble_eq_true rfl) rfl (fun z17 σ18 hz17 => ?_)
          obtain ⟨r20, rfl, hr20, rfl, q19_0⟩ := hz17
          replace q19_0 : (r20 = 1 ∧ (97 : Int) ≤ r11 ∧ r11 ≤ (122 : Int)) ∨ (r20 = 0 ∧ ¬ ((97 : Int) ≤ r11 ∧ r11 ≤ (122 : Int))) := q19_0
          refine j_st (st' := [vI r20]) rfl ?_
          refine j_ifR_eq (pc := 74) (tgt := 116) ⟨by omega, by omega⟩ dX12_next_74 rfl (fun h21 => ?_) (fun h21 => ?_)
          · refine j_iload_n (pc := 116) dX12_next_116 rfl rfl ?_
            refine j_i2l (pc := 117) dX12_next_117 ?_
            rw [w32_eq (a := r11) (by omega) (by omega)]
            refine j_ldc2 (pc := 118) (z := 48) dX12_next_118 (tw_in (i := 1447) (by decide +kernel) (by decide +kernel)) ?_
            refine j_ldc2 (pc := 121) (z := 57) dX12_next_121 (tw_in (i := 1448) (by decide +kernel) (by decide +kernel)) ?_
            refine j_callS (pc := 124) (As := [vL r11, vL 48, vL 57]) (st := []) (c_X12_in r11 ⟨by omega, by omega⟩ 48 ⟨by omega, by omega⟩ 57 ⟨by omega, by omega⟩ σ7 hIσ7) ms_X12_82 rfl dX12_next_124 ⟨Nat.le_of_ble_eq_true rfl, Nat.le_of_ble_eq_true rfl⟩ ⟨Nat.le_refl _, Nat.le_refl _⟩ rfl (Nat.le_of_ble_eq_true rfl) rfl (fun z22 σ23 hz22 => ?_)
            obtain ⟨r25, rfl, hr25, rfl, q24_0⟩ := hz22
            replace q24_0 : (r25 = 1 ∧ (48 : Int) ≤ r11 ∧ r11 ≤ (57 : Int)) ∨ (r25 = 0 ∧ ¬ ((48 : Int) ≤ r11 ∧ r11 ≤ (57 : Int))) := q24_0
            refine j_st (st' := [vI r25]) rfl ?_
            refine j_ifR_eq (pc := 127) (tgt := 243) ⟨by omega, by omega⟩ dX12_next_127 rfl (fun h26 => ?_) (fun h26 => ?_)
            · refine j_aload_n (pc := 243) dX12_next_243 rfl rfl ?_
              refine j_iconst (pc := 244) dX12_next_244 ?_
              refine j_putI (pc := 245) fl_X12_115 fp_X12_15 dX12_next_245 (a_88 hM) rfl (j_nm (fun σ27 (eσ27 : σ27 = tw_up σ7 88 15 3) => ?_))
              have hIσ27 : tw_I σ27 := tw_I_up hIσ7 eσ27 (show (-2147483648 : Int) ≤ 3 ∧ 3 ≤ 2147483647 from ⟨by omega, by omega⟩)
              have hFσ27 : tw_F (fun c j => (c = 88 ∧ (j = 13 ∨ j = 14 ∨ j = 15 ∨ j = 16 ∨ j = 17 ∨ j = 18))) σ σ27 := tw_F_up hFσ7 eσ27 (show (88 = 88 ∧ (15 = 13 ∨ 15 = 14 ∨ 15 = 15 ∨ 15 = 16 ∨ 15 = 17 ∨ 15 = 18)) from by omega)
              refine j_aload_n (pc := 248) dX12_next_248 rfl rfl ?_
              refine j_iload_n (pc := 249) dX12_next_249 rfl rfl ?_
              refine j_bipush (pc := 250) dX12_next_250 rfl ?_
              refine j_icmpR_ne (pc := 252) (tgt := 259) ⟨by omega, by omega⟩ ⟨by omega, by omega⟩ dX12_next_252 rfl (fun h28 => ?_) (fun h28 => ?_)
              · refine j_iconst (pc := 259) dX12_next_259 ?_
                refine j_iconst (pc := 260) dX12_next_260 ?_
                refine j_callV (pc := 261) (As := [vI 0, vI 1]) (st := []) (c_X12_needs hM 0 ⟨by omega, by omega⟩ 1 ⟨by omega, by omega⟩ σ27 hIσ27) mv_X12_129 rfl rfl rfl (a_88 hM) dX12_next_261 ⟨Nat.le_of_ble_eq_true rfl, Nat.le_of_ble_eq_true rfl⟩ ⟨Nat.le_refl _, Nat.le_refl _⟩ rfl (Nat.le_of_ble_eq_true rfl) rfl (fun z29 σ30 hz29 => ?_)
                obtain ⟨rfl, hIσ30, hGσ30, q31_0, q31_1, q31_2⟩ := hz29
                replace q31_0 : (¬ (0 : Int) = 0 ∧ σ30 88 17 = σ27 88 17) ∨ ((0 : Int) = 0 ∧ σ27 88 17 = 0 ∧ σ30 88 17 = (1 : Int)) ∨ ((0 : Int) = 0 ∧ ¬ σ27 88 17 = 0 ∧ σ30 88 17 = σ27 88 17) := q31_0
                have y33 : σ27 88 17 = τ 88 17 := ((tw_ne1 eσ27 (by omega))).trans (tw_ne1 eσ7 (by omega))
                have f34 : (0 : Int) ≤ τ 88 17 ∧ τ 88 17 ≤ 5 := hIτ 88 17
                replace q31_1 : (¬ (0 : Int) = 0 ∧ σ30 88 17 = σ27 88 17 ∧ σ30 88 18 = σ27 88 18) ∨ ((0 : Int) = 0 ∧ σ27 88 17 = 0 ∧ σ30 88 17 = (1 : Int) ∧ σ30 88 18 = σ27 88 14) ∨ ((0 : Int) = 0 ∧ ¬ σ27 88 17 = 0 ∧ σ30 88 17 = σ27 88 17 ∧ σ30 88 18 = σ27 88 18) := q31_1
                have y35 : σ27 88 17 = τ 88 17 := ((tw_ne1 eσ27 (by omega))).trans (tw_ne1 eσ7 (by omega))
                have y36 : σ27 88 18 = τ 88 18 := ((tw_ne1 eσ27 (by omega))).trans (tw_ne1 eσ7 (by omega))
                have f37 : (-2147483648 : Int) ≤ τ 88 18 ∧ τ 88 18 ≤ 2147483647 := hIτ 88 18
                have y38 : σ27 88 14 = τ 88 13 := ((tw_ne1 eσ27 (by omega))).trans (tw_eq1 eσ7)
                replace q31_2 : aM σ30 = need (decide (¬ (0 : Int) = 0)) (1 : Int) (aM σ27) := q31_2
                have hFσ30 : tw_F (fun c j => (c = 88 ∧ (j = 13 ∨ j = 14 ∨ j = 15 ∨ j = 16 ∨ j = 17 ∨ j = 18))) σ σ30 := tw_F_tr hFσ27 hGσ30 (fun c j q => (show (c = 88 ∧ (j = 13 ∨ j = 14 ∨ j = 15 ∨ j = 16 ∨ j = 17 ∨ j = 18)) from by replace q : (c = 88 ∧ (j = 17 ∨ j = 18)) := q; omega))
                refine j_st (st' := []) rfl ?_
                refine j_aload_n (pc := 264) dX12_next_264 rfl rfl ?_
                refine j_dup (pc := 265) dX12_next_265 rfl ?_
                refine j_getI (pc := 266) fl_X12_100 dX12_next_266 (a_88 hM) rfl ?_
                refine j_topV (show σ30 88 13 = τ 88 13 from (((hGσ30 88 13 (show ¬ ((88 = 88 ∧ (13 = 17 ∨ 13 = 18))) from by omega))).trans (tw_ne1 eσ27 (by omega))).trans (tw_ne1 eσ7 (by omega))) ?_
                refine j_iconst (pc := 269) dX12_next_269 ?_
                refine j_iadd (pc := 270) dX12_next_270 ?_
                refine j_putI (pc := 271) fl_X12_100 fp_X12_13 dX12_next_271 (a_88 hM) rfl (j_nm (fun σ39 (eσ39 : σ39 = tw_up σ30 88 13 ((τ 88 13) + 1)) => ?_))
                have hIσ39 : tw_I σ39 := tw_I_up hIσ30 eσ39 (show (0 : Int) ≤ (τ 88 13) + 1 ∧ (τ 88 13) + 1 ≤ 400 from ⟨by omega, by omega⟩)
                have hFσ39 : tw_F (fun c j => (c = 88 ∧ (j = 13 ∨ j = 14 ∨ j = 15 ∨ j = 16 ∨ j = 17 ∨ j = 18))) σ σ39 := tw_F_up hFσ30 eσ39 (show (88 = 88 ∧ (13 = 13 ∨ 13 = 14 ∨ 13 = 15 ∨ 13 = 16 ∨ 13 = 17 ∨ 13 = 18)) from by omega)
                have y40 : σ39 88 13 = (τ 88 13) + 1 := (tw_eq1 eσ39)
                have y41 : σ39 88 14 = τ 88 13 := ((((tw_ne1 eσ39 (by omega))).trans (hGσ30 88 14 (show ¬ ((88 = 88 ∧ (14 = 17 ∨ 14 = 18))) from by omega))).trans (tw_ne1 eσ27 (by omega))).trans (tw_eq1 eσ7)
                have y42 : σ39 88 15 = 3 := (((tw_ne1 eσ39 (by omega))).trans (hGσ30 88 15 (show ¬ ((88 = 88 ∧ (15 = 17 ∨ 15 = 18))) from by omega))).trans (tw_eq1 eσ27)
                have y43 : σ39 88 16 = τ 88 16 := ((((tw_ne1 eσ39 (by omega))).trans (hGσ30 88 16 (show ¬ ((88 = 88 ∧ (16 = 17 ∨ 16 = 18))) from by omega))).trans (tw_ne1 eσ27 (by omega))).trans (tw_ne1 eσ7 (by omega))
                have y44 : σ39 88 17 = σ30 88 17 := (tw_ne1 eσ39 (by omega))
                have y45 : σ39 88 18 = σ30 88 18 := (tw_ne1 eσ39 (by omega))
                have ax : aM σ39 = tok (fM σ) (aM σ) := by first | exact madv_stop (by omega) (drM_F (hFσ39 88 9 (show ¬ ((88 = 88 ∧ (9 = 13 ∨ 9 = 14 ∨ 9 = 15 ∨ 9 = 16 ∨ 9 = 17 ∨ 9 = 18))) from by omega)) (hFσ39 88 10 (show ¬ ((88 = 88 ∧ (10 = 13 ∨ 10 = 14 ∨ 10 = 15 ∨ 10 = 16 ∨ 10 = 17 ∨ 10 = 18))) from by omega)) (fun c j h => hFσ39 c j (show ¬ ((c = 88 ∧ (j = 13 ∨ j = 14 ∨ j = 15 ∨ j = 16 ∨ j = 17 ∨ j = 18))) from by omega))) (by omega) (by omega) (by rw [show σ39 88 14 = τ 88 13 from by omega]; omega) (by omega) (by omega) | exact madv_bad (by omega) (by omega) (by omega) (by omega) (by rw [show σ39 88 14 = τ 88 13 from by omega]; omega)
                have y46 : σ39 88 17 = σ30 88 17 := (tw_ne1 eσ39 (by omega))
                have f47 : (0 : Int) ≤ σ30 88 17 ∧ σ30 88 17 ≤ 5 := hIσ30 88 17
                have y48 : σ39 88 13 = (τ 88 13) + 1 := (tw_eq1 eσ39)
                have y49 : σ39 88 17 = σ30 88 17 := (tw_ne1 eσ39 (by omega))
                have y50 : σ39 88 15 = 3 := (((tw_ne1 eσ39 (by omega))).trans (hGσ30 88 15 (show ¬ ((88 = 88 ∧ (15 = 17 ∨ 15 = 18))) from by omega))).trans (tw_eq1 eσ27)
                have y51 : σ39 88 13 = (τ 88 13) + 1 := (tw_eq1 eσ39)
                exact j_vret (pc := 274) ⟨rfl, rfl⟩ dX12_next_274 rfl ⟨rfl, hIσ39, hFσ39, by omega, by omega, by omega, (by first | exact ax | (rw [← show aM τ = _ from rfl]; exact madv_name (by omega) (drM_F (hFσ39 88 9 (show ¬ ((88 = 88 ∧ (9 = 13 ∨ 9 = 14 ∨ 9 = 15 ∨ 9 = 16 ∨ 9 = 17 ∨ 9 = 18))) from by omega)) (hFσ39 88 10 (show ¬ ((88 = 88 ∧ (10 = 13 ∨ 10 = 14 ∨ 10 = 15 ∨ 10 = 16 ∨ 10 = 17 ∨ 10 = 18))) from by omega)) (fun c j h => hFσ39 c j (show ¬ ((c = 88 ∧ (j = 13 ∨ j = 14 ∨ j = 15 ∨ j = 16 ∨ j = 17 ∨ j = 18))) from by omega))) (by omega) (by omega) (by omega) (by omega) (by rw [← i5]; exact (run_n (show isL (fM σ (τ 88 13)) = false from decide_eq_false (by omega))).symm)))⟩
              · refine j_iconst (pc := 255) dX12_next_255 ?_
                refine j_goto (pc := 256) (tgt := 260) dX12_next_256 rfl ?_
                refine j_iconst (pc := 260) dX12_next_260 ?_
                refine j_callV (pc := 261) (As := [vI 1, vI 1]) (st := []) (c_X12_needs hM 1 ⟨by omega, by omega⟩ 1 ⟨by omega, by omega⟩ σ27 hIσ27) mv_X12_129 rfl rfl rfl (a_88 hM) dX12_next_261 ⟨Nat.le_of_ble_eq_true rfl, Nat.le_of_ble_eq_true rfl⟩ ⟨Nat.le_refl _, Nat.le_refl _⟩ rfl (Nat.le_of_ble_eq_true rfl) rfl (fun z52 σ53 hz52 => ?_)
                obtain ⟨rfl, hIσ53, hGσ53, q54_0, q54_1, q54_2⟩ := hz52
                replace q54_0 : (¬ (1 : Int) = 0 ∧ σ53 88 17 = σ27 88 17) ∨ ((1 : Int) = 0 ∧ σ27 88 17 = 0 ∧ σ53 88 17 = (1 : Int)) ∨ ((1 : Int) = 0 ∧ ¬ σ27 88 17 = 0 ∧ σ53 88 17 = σ27 88 17) := q54_0
                have y56 : σ27 88 17 = τ 88 17 := ((tw_ne1 eσ27 (by omega))).trans (tw_ne1 eσ7 (by omega))
                have f57 : (0 : Int) ≤ τ 88 17 ∧ τ 88 17 ≤ 5 := hIτ 88 17
                replace q54_1 : (¬ (1 : Int) = 0 ∧ σ53 88 17 = σ27 88 17 ∧ σ53 88 18 = σ27 88 18) ∨ ((1 : Int) = 0 ∧ σ27 88 17 = 0 ∧ σ53 88 17 = (1 : Int) ∧ σ53 88 18 = σ27 88 14) ∨ ((1 : Int) = 0 ∧ ¬ σ27 88 17 = 0 ∧ σ53 88 17 = σ27 88 17 ∧ σ53 88 18 = σ27 88 18) := q54_1
                have y58 : σ27 88 17 = τ 88 17 := ((tw_ne1 eσ27 (by omega))).trans (tw_ne1 eσ7 (by omega))
                have y59 : σ27 88 18 = τ 88 18 := ((tw_ne1 eσ27 (by omega))).trans (tw_ne1 eσ7 (by omega))
                have f60 : (-2147483648 : Int) ≤ τ 88 18 ∧ τ 88 18 ≤ 2147483647 := hIτ 88 18
                have y61 : σ27 88 14 = τ 88 13 := ((tw_ne1 eσ27 (by omega))).trans (tw_eq1 eσ7)
                replace q54_2 : aM σ53 = need (decide (¬ (1 : Int) = 0)) (1 : Int) (aM σ27) := q54_2
                have hFσ53 : tw_F (fun c j => (c = 88 ∧ (j = 13 ∨ j = 14 ∨ j = 15 ∨ j = 16 ∨ j = 17 ∨ j = 18))) σ σ53 := tw_F_tr hFσ27 hGσ53 (fun c j q => (show (c = 88 ∧ (j = 13 ∨ j = 14 ∨ j = 15 ∨ j = 16 ∨ j = 17 ∨ j = 18)) from by replace q : (c = 88 ∧ (j = 17 ∨ j = 18)) := q; omega))
                refine j_st (st' := []) rfl ?_
                refine j_aload_n (pc := 264) dX12_next_264 rfl rfl ?_
                refine j_dup (pc := 265) dX12_next_265 rfl ?_
                refine j_getI (pc := 266) fl_X12_100 dX12_next_266 (a_88 hM) rfl ?_
                refine j_topV (show σ53 88 13 = τ 88 13 from (((hGσ53 88 13 (show ¬ ((88 = 88 ∧ (13 = 17 ∨ 13 = 18))) from by omega))).trans (tw_ne1 eσ27 (by omega))).trans (tw_ne1 eσ7 (by omega))) ?_
                refine j_iconst (pc := 269) dX12_next_269 ?_
                refine j_iadd (pc := 270) dX12_next_270 ?_
                refine j_putI (pc := 271) fl_X12_100 fp_X12_13 dX12_next_271 (a_88 hM) rfl (j_nm (fun σ62 (eσ62 : σ62 = tw_up σ53 88 13 ((τ 88 13) + 1)) => ?_))
                have hIσ62 : tw_I σ62 := tw_I_up hIσ53 eσ62 (show (0 : Int) ≤ (τ 88 13) + 1 ∧ (τ 88 13) + 1 ≤ 400 from ⟨by omega, by omega⟩)
                have hFσ62 : tw_F (fun c j => (c = 88 ∧ (j = 13 ∨ j = 14 ∨ j = 15 ∨ j = 16 ∨ j = 17 ∨ j = 18))) σ σ62 := tw_F_up hFσ53 eσ62 (show (88 = 88 ∧ (13 = 13 ∨ 13 = 14 ∨ 13 = 15 ∨ 13 = 16 ∨ 13 = 17 ∨ 13 = 18)) from by omega)
                have y63 : σ62 88 13 = (τ 88 13) + 1 := (tw_eq1 eσ62)
                have y64 : σ62 88 14 = τ 88 13 := ((((tw_ne1 eσ62 (by omega))).trans (hGσ53 88 14 (show ¬ ((88 = 88 ∧ (14 = 17 ∨ 14 = 18))) from by omega))).trans (tw_ne1 eσ27 (by omega))).trans (tw_eq1 eσ7)
                have y65 : σ62 88 15 = 3 := (((tw_ne1 eσ62 (by omega))).trans (hGσ53 88 15 (show ¬ ((88 = 88 ∧ (15 = 17 ∨ 15 = 18))) from by omega))).trans (tw_eq1 eσ27)
                have y66 : σ62 88 16 = τ 88 16 := ((((tw_ne1 eσ62 (by omega))).trans (hGσ53 88 16 (show ¬ ((88 = 88 ∧ (16 = 17 ∨ 16 = 18))) from by omega))).trans (tw_ne1 eσ27 (by omega))).trans (tw_ne1 eσ7 (by omega))
                have y67 : σ62 88 17 = σ53 88 17 := (tw_ne1 eσ62 (by omega))
                have y68 : σ62 88 18 = σ53 88 18 := (tw_ne1 eσ62 (by omega))
                have ax : aM σ62 = tok (fM σ) (aM σ) := by first | exact madv_stop (by omega) (drM_F (hFσ62 88 9 (show ¬ ((88 = 88 ∧ (9 = 13 ∨ 9 = 14 ∨ 9 = 15 ∨ 9 = 16 ∨ 9 = 17 ∨ 9 = 18))) from by omega)) (hFσ62 88 10 (show ¬ ((88 = 88 ∧ (10 = 13 ∨ 10 = 14 ∨ 10 = 15 ∨ 10 = 16 ∨ 10 = 17 ∨ 10 = 18))) from by omega)) (fun c j h => hFσ62 c j (show ¬ ((c = 88 ∧ (j = 13 ∨ j = 14 ∨ j = 15 ∨ j = 16 ∨ j = 17 ∨ j = 18))) from by omega))) (by omega) (by omega) (by rw [show σ62 88 14 = τ 88 13 from by omega]; omega) (by omega) (by omega) | exact madv_bad (by omega) (by omega) (by omega) (by omega) (by rw [show σ62 88 14 = τ 88 13 from by omega]; omega)
                have y69 : σ62 88 17 = σ53 88 17 := (tw_ne1 eσ62 (by omega))
                have f70 : (0 : Int) ≤ σ53 88 17 ∧ σ53 88 17 ≤ 5 := hIσ53 88 17
                have y71 : σ62 88 13 = (τ 88 13) + 1 := (tw_eq1 eσ62)
                have y72 : σ62 88 17 = σ53 88 17 := (tw_ne1 eσ62 (by omega))
                have y73 : σ62 88 15 = 3 := (((tw_ne1 eσ62 (by omega))).trans (hGσ53 88 15 (show ¬ ((88 = 88 ∧ (15 = 17 ∨ 15 = 18))) from by omega))).trans (tw_eq1 eσ27)
                have y74 : σ62 88 13 = (τ 88 13) + 1 := (tw_eq1 eσ62)
                exact j_vret (pc := 274) ⟨rfl, rfl⟩ dX12_next_274 rfl ⟨rfl, hIσ62, hFσ62, by omega, by omega, by omega, (by first | exact ax | (rw [← show aM τ = _ from rfl]; exact madv_name (by omega) (drM_F (hFσ62 88 9 (show ¬ ((88 = 88 ∧ (9 = 13 ∨ 9 = 14 ∨ 9 = 15 ∨ 9 = 16 ∨ 9 = 17 ∨ 9 = 18))) from by omega)) (hFσ62 88 10 (show ¬ ((88 = 88 ∧ (10 = 13 ∨ 10 = 14 ∨ 10 = 15 ∨ 10 = 16 ∨ 10 = 17 ∨ 10 = 18))) from by omega)) (fun c j h => hFσ62 c j (show ¬ ((c = 88 ∧ (j = 13 ∨ j = 14 ∨ j = 15 ∨ j = 16 ∨ j = 17 ∨ j = 18))) from by omega))) (by omega) (by omega) (by omega) (by omega) (by rw [← i5]; exact (run_n (show isL (fM σ (τ 88 13)) = false from decide_eq_false (by omega))).symm)))⟩
            · refine j_aload_n (pc := 130) dX12_next_130 rfl rfl ?_
              refine j_iconst (pc := 131) dX12_next_131 ?_
              refine j_putI (pc := 132) fl_X12_115 fp_X12_15 dX12_next_132 (a_88 hM) rfl (j_nm (fun σ75 (eσ75 : σ75 = tw_up σ7 88 15 2) => ?_))
              have hIσ75 : tw_I σ75 := tw_I_up hIσ7 eσ75 (show (-2147483648 : Int) ≤ 2 ∧ 2 ≤ 2147483647 from ⟨by omega, by omega⟩)
              have hFσ75 : tw_F (fun c j => (c = 88 ∧ (j = 13 ∨ j = 14 ∨ j = 15 ∨ j = 16 ∨ j = 17 ∨ j = 18))) σ σ75 := tw_F_up hFσ7 eσ75 (show (88 = 88 ∧ (15 = 13 ∨ 15 = 14 ∨ 15 = 15 ∨ 15 = 16 ∨ 15 = 17 ∨ 15 = 18)) from by omega)
              refine j_aload_n (pc := 135) dX12_next_135 rfl rfl ?_
              refine j_iconst (pc := 136) dX12_next_136 ?_
              refine j_putI (pc := 137) fl_X12_126 fp_X12_16 dX12_next_137 (a_88 hM) rfl (j_nm (fun σ76 (eσ76 : σ76 = tw_up σ75 88 16 0) => ?_))
              have hIσ76 : tw_I σ76 := tw_I_up hIσ75 eσ76 (show (-2147483648 : Int) ≤ 0 ∧ 0 ≤ 2147483647 from ⟨by omega, by omega⟩)
              have hFσ76 : tw_F (fun c j => (c = 88 ∧ (j = 13 ∨ j = 14 ∨ j = 15 ∨ j = 16 ∨ j = 17 ∨ j = 18))) σ σ76 := tw_F_up hFσ75 eσ76 (show (88 = 88 ∧ (16 = 13 ∨ 16 = 14 ∨ 16 = 15 ∨ 16 = 16 ∨ 16 = 17 ∨ 16 = 18)) from by omega)
              refine j_ls (ls' := [(0, vR 88)]) [0] rfl ?_
              have y77 : σ76 88 13 = τ 88 13 := (((tw_ne1 eσ76 (by omega))).trans (tw_ne1 eσ75 (by omega))).trans (tw_ne1 eσ7 (by omega))
              have y78 : σ76 88 12 = τ 88 12 := (((tw_ne1 eσ76 (by omega))).trans (tw_ne1 eσ75 (by omega))).trans (tw_ne1 eσ7 (by omega))
              have y79 : σ76 98 ((σ76 88 13).toNat) = τ 98 ((σ76 88 13).toNat) := (((tw_ne1 eσ76 (by omega))).trans (tw_ne1 eσ75 (by omega))).trans (tw_ne1 eσ7 (by omega))
              have y80 : σ76 88 17 = τ 88 17 := (((tw_ne1 eσ76 (by omega))).trans (tw_ne1 eσ75 (by omega))).trans (tw_ne1 eσ7 (by omega))
              have f81 : (0 : Int) ≤ τ 88 17 ∧ τ 88 17 ≤ 5 := hIτ 88 17
              have y82 : σ76 88 15 = 2 := ((tw_ne1 eσ76 (by omega))).trans (tw_eq1 eσ75)
              have y83 : σ76 88 14 = τ 88 13 := (((tw_ne1 eσ76 (by omega))).trans (tw_ne1 eσ75 (by omega))).trans (tw_eq1 eσ7)
              have y84 : σ76 88 13 = τ 88 13 := (((tw_ne1 eσ76 (by omega))).trans (tw_ne1 eσ75 (by omega))).trans (tw_ne1 eσ7 (by omega))
              have y85 : σ76 88 14 = τ 88 13 := (((tw_ne1 eσ76 (by omega))).trans (tw_ne1 eσ75 (by omega))).trans (tw_eq1 eσ7)
              have y86 : σ76 88 14 = τ 88 13 := (((tw_ne1 eσ76 (by omega))).trans (tw_ne1 eσ75 (by omega))).trans (tw_eq1 eσ7)
              have y87 : σ76 88 14 = τ 88 13 := (((tw_ne1 eσ76 (by omega))).trans (tw_ne1 eσ75 (by omega))).trans (tw_eq1 eσ7)
              have y88 : σ76 88 13 = τ 88 13 := (((tw_ne1 eσ76 (by omega))).trans (tw_ne1 eσ75 (by omega))).trans (tw_ne1 eσ7 (by omega))
              have y89 : σ76 88 16 = 0 := (tw_eq1 eσ76)
              have y90 : σ76 88 14 = τ 88 13 := (((tw_ne1 eσ76 (by omega))).trans (tw_ne1 eσ75 (by omega))).trans (tw_eq1 eσ7)
              have y91 : σ76 88 13 = τ 88 13 := (((tw_ne1 eσ76 (by omega))).trans (tw_ne1 eσ75 (by omega))).trans (tw_ne1 eσ7 (by omega))
              have y92 : σ76 88 13 = τ 88 13 := (((tw_ne1 eσ76 (by omega))).trans (tw_ne1 eσ75 (by omega))).trans (tw_ne1 eσ7 (by omega))
              exact ih.2.2 σ76 hIσ76 hFσ76 (show σ 88 13 < σ76 88 13 ∨ (σ 88 13 ≤ σ76 88 13 ∧ σ76 88 13 < σ76 88 12 ∧ 48 ≤ σ76 98 (σ76 88 13).toNat ∧ σ76 98 (σ76 88 13).toNat ≤ 57) from (by first | omega | (have y9 : σ76 98 (σ76 88 13).toNat = _ := (tw_ne1 eσ76 (by omega)).trans (tw_ne1 eσ75 (by omega)); rw [show σ76 88 13 = τ 88 13 from (((tw_ne1 eσ76 (by omega))).trans (tw_ne1 eσ75 (by omega))).trans (tw_ne1 eσ7 (by omega))] at y9 ⊢; omega))) (show σ 88 17 = 0 from by omega) (show σ76 88 17 = 0 from by omega) (show σ76 88 15 = 2 from by omega) (show σ76 88 14 = run isS (fM σ) (σ 88 13) from (by rw [show σ76 88 14 = _ from (((tw_ne1 eσ76 (by omega))).trans (tw_ne1 eσ75 (by omega))).trans (tw_eq1 eσ7)]; first | exact i4 | exact rs)) (show run isG (fM σ) (σ76 88 13) = run isG (fM σ) (σ76 88 14) from (by rw [show σ76 88 14 = _ from (((tw_ne1 eσ76 (by omega))).trans (tw_ne1 eσ75 (by omega))).trans (tw_eq1 eσ7), show σ76 88 13 = _ from (((tw_ne1 eσ76 (by omega))).trans (tw_ne1 eσ75 (by omega))).trans (tw_ne1 eσ7 (by omega))]; first | rfl | exact (run_s (show isG (fM σ (τ 88 13)) = true from decide_eq_true (by omega)) (by omega)).symm.trans i5)) (show 48 ≤ fM σ (σ76 88 14) ∧ fM σ (σ76 88 14) ≤ 57 from (by rw [show σ76 88 14 = _ from (((tw_ne1 eσ76 (by omega))).trans (tw_ne1 eσ75 (by omega))).trans (tw_eq1 eσ7)]; first | exact i6 | omega)) (show σ76 88 14 ≤ σ76 88 13 from by omega) (show σ76 88 16 = nv (fM σ) (σ76 88 14) (σ76 88 13 - σ76 88 14).toNat from (by rw [show σ76 88 14 = _ from (((tw_ne1 eσ76 (by omega))).trans (tw_ne1 eσ75 (by omega))).trans (tw_eq1 eσ7), show σ76 88 13 = _ from (((tw_ne1 eσ76 (by omega))).trans (tw_ne1 eσ75 (by omega))).trans (tw_ne1 eσ7 (by omega)), show σ76 88 16 = _ from (tw_eq1 eσ76)]; first | (rw [show (τ 88 13 - τ 88 13).toNat = 0 from by omega]; rfl) | (rw [show τ 88 13 + 1 - τ 88 14 = (τ 88 13 - τ 88 14) + 1 from by omega, nv_lt ⟨by omega, by omega⟩, show τ 88 14 + (τ 88 13 - τ 88 14) = τ 88 13 from by omega]; omega) | (rw [show τ 88 13 + 1 - τ 88 14 = (τ 88 13 - τ 88 14) + 1 from by omega, nv_ge (by omega)]; exact i8))) (show (500 - σ76 88 13).toNat < N_ from by omega)
          · refine j_aload_n (pc := 77) dX12_next_77 rfl rfl ?_
            refine j_iconst (pc := 78) dX12_next_78 ?_
            refine j_putI (pc := 79) fl_X12_115 fp_X12_15 dX12_next_79 (a_88 hM) rfl (j_nm (fun σ93 (eσ93 : σ93 = tw_up σ7 88 15 1) => ?_))
            have hIσ93 : tw_I σ93 := tw_I_up hIσ7 eσ93 (show (-2147483648 : Int) ≤ 1 ∧ 1 ≤ 2147483647 from ⟨by omega, by omega⟩)
            have hFσ93 : tw_F (fun c j => (c = 88 ∧ (j = 13 ∨ j = 14 ∨ j = 15 ∨ j = 16 ∨ j = 17 ∨ j = 18))) σ σ93 := tw_F_up hFσ7 eσ93 (show (88 = 88 ∧ (15 = 13 ∨ 15 = 14 ∨ 15 = 15 ∨ 15 = 16 ∨ 15 = 17 ∨ 15 = 18)) from by omega)
            refine j_ls (ls' := [(0, vR 88)]) [0] rfl ?_
            have y94 : σ93 88 13 = τ 88 13 := ((tw_ne1 eσ93 (by omega))).trans (tw_ne1 eσ7 (by omega))
            have y95 : σ93 88 12 = τ 88 12 := ((tw_ne1 eσ93 (by omega))).trans (tw_ne1 eσ7 (by omega))
            have y96 : σ93 98 ((σ93 88 13).toNat) = τ 98 ((σ93 88 13).toNat) := ((tw_ne1 eσ93 (by omega))).trans (tw_ne1 eσ7 (by omega))
            have y97 : σ93 88 17 = τ 88 17 := ((tw_ne1 eσ93 (by omega))).trans (tw_ne1 eσ7 (by omega))
            have f98 : (0 : Int) ≤ τ 88 17 ∧ τ 88 17 ≤ 5 := hIτ 88 17
            have y99 : σ93 88 15 = 1 := (tw_eq1 eσ93)
            have y100 : σ93 88 14 = τ 88 13 := ((tw_ne1 eσ93 (by omega))).trans (tw_eq1 eσ7)
            have y101 : σ93 88 13 = τ 88 13 := ((tw_ne1 eσ93 (by omega))).trans (tw_ne1 eσ7 (by omega))
            have y102 : σ93 88 14 = τ 88 13 := ((tw_ne1 eσ93 (by omega))).trans (tw_eq1 eσ7)
            have y103 : σ93 88 14 = τ 88 13 := ((tw_ne1 eσ93 (by omega))).trans (tw_eq1 eσ7)
            have y104 : σ93 88 13 = τ 88 13 := ((tw_ne1 eσ93 (by omega))).trans (tw_ne1 eσ7 (by omega))
            exact ih.2.1 σ93 hIσ93 hFσ93 (show σ 88 13 < σ93 88 13 ∨ (σ 88 13 ≤ σ93 88 13 ∧ σ93 88 13 < σ93 88 12 ∧ 97 ≤ σ93 98 (σ93 88 13).toNat ∧ σ93 98 (σ93 88 13).toNat ≤ 122) from (by first | omega | (have y9 : σ93 98 (σ93 88 13).toNat = _ := tw_ne1 eσ93 (by omega); rw [show σ93 88 13 = τ 88 13 from ((tw_ne1 eσ93 (by omega))).trans (tw_ne1 eσ7 (by omega))] at y9 ⊢; omega))) (show σ 88 17 = 0 from by omega) (show σ93 88 17 = 0 from by omega) (show σ93 88 15 = 1 from by omega) (show σ93 88 14 = run isS (fM σ) (σ 88 13) from (by rw [show σ93 88 14 = _ from ((tw_ne1 eσ93 (by omega))).trans (tw_eq1 eσ7)]; first | exact i4 | exact rs)) (show run isL (fM σ) (σ93 88 13) = run isL (fM σ) (σ93 88 14) from (by rw [show σ93 88 14 = _ from ((tw_ne1 eσ93 (by omega))).trans (tw_eq1 eσ7), show σ93 88 13 = _ from ((tw_ne1 eσ93 (by omega))).trans (tw_ne1 eσ7 (by omega))]; first | rfl | exact (run_s (show isL (fM σ (τ 88 13)) = true from decide_eq_true (by omega)) (by omega)).symm.trans i5)) (show 97 ≤ fM σ (σ93 88 14) ∧ fM σ (σ93 88 14) ≤ 122 from (by rw [show σ93 88 14 = _ from ((tw_ne1 eσ93 (by omega))).trans (tw_eq1 eσ7)]; first | exact i6 | omega)) (show (500 - σ93 88 13).toNat < N_ from by omega)
        · refine j_aload_n (pc := 55) dX12_next_55 rfl rfl ?_
          refine j_iconst (pc := 56) dX12_next_56 ?_
          refine j_putI (pc := 57) fl_X12_115 fp_X12_15 dX12_next_57 (a_88 hM) rfl (j_nm (fun σ105 (eσ105 : σ105 = tw_up σ7 88 15 0) => ?_))
          have hIσ105 : tw_I σ105 := tw_I_up hIσ7 eσ105 (show (-2147483648 : Int) ≤ 0 ∧ 0 ≤ 2147483647 from ⟨by omega, by omega⟩)
          have hFσ105 : tw_F (fun c j => (c = 88 ∧ (j = 13 ∨ j = 14 ∨ j = 15 ∨ j = 16 ∨ j = 17 ∨ j = 18))) σ σ105 := tw_F_up hFσ7 eσ105 (show (88 = 88 ∧ (15 = 13 ∨ 15 = 14 ∨ 15 = 15 ∨ 15 = 16 ∨ 15 = 17 ∨ 15 = 18)) from by omega)
          have y106 : σ105 88 13 = τ 88 13 := ((tw_ne1 eσ105 (by omega))).trans (tw_ne1 eσ7 (by omega))
          have y107 : σ105 88 14 = τ 88 13 := ((tw_ne1 eσ105 (by omega))).trans (tw_eq1 eσ7)
          have y108 : σ105 88 15 = 0 := (tw_eq1 eσ105)
          have y109 : σ105 88 16 = τ 88 16 := ((tw_ne1 eσ105 (by omega))).trans (tw_ne1 eσ7 (by omega))
          have y110 : σ105 88 17 = τ 88 17 := ((tw_ne1 eσ105 (by omega))).trans (tw_ne1 eσ7 (by omega))
          have y111 : σ105 88 18 = τ 88 18 := ((tw_ne1 eσ105 (by omega))).trans (tw_ne1 eσ7 (by omega))
          have ax : aM σ105 = tok (fM σ) (aM σ) := madv_end (by omega) (drM_F (hFσ105 88 9 (show ¬ ((88 = 88 ∧ (9 = 13 ∨ 9 = 14 ∨ 9 = 15 ∨ 9 = 16 ∨ 9 = 17 ∨ 9 = 18))) from by omega)) (hFσ105 88 10 (show ¬ ((88 = 88 ∧ (10 = 13 ∨ 10 = 14 ∨ 10 = 15 ∨ 10 = 16 ∨ 10 = 17 ∨ 10 = 18))) from by omega)) (fun c j h => hFσ105 c j (show ¬ ((c = 88 ∧ (j = 13 ∨ j = 14 ∨ j = 15 ∨ j = 16 ∨ j = 17 ∨ j = 18))) from by omega))) (by omega) (by omega) (by rw [show σ105 88 14 = τ 88 13 from by omega]; omega) (by omega) (by omega)
          refine j_goto (pc := 60) (tgt := 274) dX12_next_60 rfl ?_
          have y112 : σ105 88 17 = τ 88 17 := ((tw_ne1 eσ105 (by omega))).trans (tw_ne1 eσ7 (by omega))
          have f113 : (0 : Int) ≤ τ 88 17 ∧ τ 88 17 ≤ 5 := hIτ 88 17
          have y114 : σ105 88 13 = τ 88 13 := ((tw_ne1 eσ105 (by omega))).trans (tw_ne1 eσ7 (by omega))
          have y115 : σ105 88 17 = τ 88 17 := ((tw_ne1 eσ105 (by omega))).trans (tw_ne1 eσ7 (by omega))
          have y116 : σ105 88 15 = 0 := (tw_eq1 eσ105)
          have y117 : σ105 88 13 = τ 88 13 := ((tw_ne1 eσ105 (by omega))).trans (tw_ne1 eσ7 (by omega))
          exact j_vret (pc := 274) ⟨rfl, rfl⟩ dX12_next_274 rfl ⟨rfl, hIσ105, hFσ105, by omega, by omega, by omega, (by first | exact ax | (rw [← show aM τ = _ from rfl]; exact madv_name (by omega) (drM_F (hFσ105 88 9 (show ¬ ((88 = 88 ∧ (9 = 13 ∨ 9 = 14 ∨ 9 = 15 ∨ 9 = 16 ∨ 9 = 17 ∨ 9 = 18))) from by omega)) (hFσ105 88 10 (show ¬ ((88 = 88 ∧ (10 = 13 ∨ 10 = 14 ∨ 10 = 15 ∨ 10 = 16 ∨ 10 = 17 ∨ 10 = 18))) from by omega)) (fun c j h => hFσ105 c j (show ¬ ((c = 88 ∧ (j = 13 ∨ j = 14 ∨ j = 15 ∨ j = 16 ∨ j = 17 ∨ j = 18))) from by omega))) (by omega) (by omega) (by omega) (by omega) (by rw [← i5]; exact (run_n (show isL (fM σ (τ 88 13)) = false from decide_eq_false (by omega))).symm)))⟩
      · refine j_aload_n (pc := 21) dX12_next_21 rfl rfl ?_
        refine j_dup (pc := 22) dX12_next_22 rfl ?_
        refine j_getI (pc := 23) fl_X12_100 dX12_next_23 (a_88 hM) rfl ?_
        refine j_iconst (pc := 26) dX12_next_26 ?_
        refine j_iadd (pc := 27) dX12_next_27 ?_
        refine j_putI (pc := 28) fl_X12_100 fp_X12_13 dX12_next_28 (a_88 hM) rfl (j_nm (fun σ118 (eσ118 : σ118 = tw_up τ 88 13 ((τ 88 13) + 1)) => ?_))
        have hIσ118 : tw_I σ118 := tw_I_up hIτ eσ118 (show (0 : Int) ≤ (τ 88 13) + 1 ∧ (τ 88 13) + 1 ≤ 400 from ⟨by omega, by omega⟩)
        have hFσ118 : tw_F (fun c j => (c = 88 ∧ (j = 13 ∨ j = 14 ∨ j = 15 ∨ j = 16 ∨ j = 17 ∨ j = 18))) σ σ118 := tw_F_up hFτ eσ118 (show (88 = 88 ∧ (13 = 13 ∨ 13 = 14 ∨ 13 = 15 ∨ 13 = 16 ∨ 13 = 17 ∨ 13 = 18)) from by omega)
        refine j_goto (pc := 31) (tgt := 8) dX12_next_31 rfl ?_
        refine j_ls (ls' := [(0, vR 88)]) [0] rfl ?_
        have y119 : σ118 88 13 = (τ 88 13) + 1 := (tw_eq1 eσ118)
        have y120 : σ118 88 17 = τ 88 17 := (tw_ne1 eσ118 (by omega))
        have f121 : (0 : Int) ≤ τ 88 17 ∧ τ 88 17 ≤ 5 := hIτ 88 17
        have y122 : σ118 88 13 = (τ 88 13) + 1 := (tw_eq1 eσ118)
        have y123 : σ118 88 18 = τ 88 18 := (tw_ne1 eσ118 (by omega))
        have f124 : (-2147483648 : Int) ≤ τ 88 18 ∧ τ 88 18 ≤ 2147483647 := hIτ 88 18
        have y125 : σ118 88 13 = (τ 88 13) + 1 := (tw_eq1 eσ118)
        exact ih.1 σ118 hIσ118 hFσ118 (show σ 88 13 ≤ σ118 88 13 from by omega) (show σ 88 17 = 0 from by omega) (show σ118 88 17 = 0 from by omega) (show run isS (fM σ) (σ118 88 13) = run isS (fM σ) (σ 88 13) from (by rw [(tw_eq1 eσ118)]; first | rfl | exact (run_s (show isS (fM σ (τ 88 13)) = true from decide_eq_true (by omega)) (by omega)).symm.trans i3)) (show σ118 88 18 = σ 88 18 from by omega) (show (1000 - σ118 88 13).toNat < N_ from by omega)
    · intro τ hIτ hFτ i0 i1 i2 i3 i4 i5 i6 hm
      have f12 : (0 : Int) ≤ τ 88 12 ∧ τ 88 12 ≤ 400 := hIτ 88 12
      have fx : fM τ = fM σ := fM_F (hFτ 88 12 (show ¬ ((88 = 88 ∧ (12 = 13 ∨ 12 = 14 ∨ 12 = 15 ∨ 12 = 16 ∨ 12 = 17 ∨ 12 = 18))) from by omega)) (fun j => hFτ 98 j (show ¬ ((98 = 88 ∧ (j = 13 ∨ j = 14 ∨ j = 15 ∨ j = 16 ∨ j = 17 ∨ j = 18))) from by omega))
      have f12s : (0 : Int) ≤ σ 88 12 ∧ σ 88 12 ≤ 400 := hI 88 12
      refine j_aload_n (pc := 82) dX12_next_82 rfl rfl ?_
      refine j_aload_n (pc := 83) dX12_next_83 rfl rfl ?_
      refine j_getI (pc := 84) fl_X12_100 dX12_next_84 (a_88 hM) rfl ?_
      have f126 : (0 : Int) ≤ τ 88 13 ∧ τ 88 13 ≤ 400 := hIτ 88 13
      refine j_callV (pc := 87) (As := [vI (τ 88 13)]) (st := []) (c_X12_look hM (τ 88 13) ⟨by omega, by omega⟩ τ hIτ) mv_X12_103 rfl rfl rfl (a_88 hM) dX12_next_87 ⟨Nat.le_of_ble_eq_true rfl, Nat.le_of_ble_eq_true rfl⟩ ⟨Nat.le_refl _, Nat.le_refl _⟩ rfl (Nat.le_of_ble_eq_true rfl) rfl (fun z127 σ128 hz127 => ?_)
      obtain ⟨r130, rfl, hr130, rfl, q129_0, q129_1⟩ := hz127
      replace q129_0 : ((τ 88 13) < τ 88 12 ∧ r130 = τ 98 (τ 88 13).toNat) ∨ (¬ (τ 88 13) < τ 88 12 ∧ r130 = -1) := q129_0
      replace q129_1 : r130 = fM τ (τ 88 13) := q129_1
      refine j_st (st' := [vI r130]) rfl ?_
      have b9 := q129_1; rw [fx] at b9
      refine j_i2l (pc := 90) dX12_next_90 ?_
      rw [w32_eq (a := r130) (by omega) (by omega)]
      refine j_ldc2 (pc := 91) (z := 97) dX12_next_91 (tw_in (i := 1445) (by decide +kernel) (by decide +kernel)) ?_
      refine j_ldc2 (pc := 94) (z := 122) dX12_next_94 (tw_in (i := 1446) (by decide +kernel) (by decide +kernel)) ?_
      refine j_callS (pc := 97) (As := [vL r130, vL 97, vL 122]) (st := []) (c_X12_in r130 ⟨by omega, by omega⟩ 97 ⟨by omega, by omega⟩ 122 ⟨by omega, by omega⟩ τ hIτ) ms_X12_82 rfl dX12_next_97 ⟨Nat.le_of_ble_eq_true rfl, Nat.le_of_ble_eq_true rfl⟩ ⟨Nat.le_refl _, Nat.le_refl _⟩ rfl (Nat.le_of_ble_eq_true rfl) rfl (fun z131 σ132 hz131 => ?_)
      obtain ⟨r134, rfl, hr134, rfl, q133_0⟩ := hz131
      replace q133_0 : (r134 = 1 ∧ (97 : Int) ≤ r130 ∧ r130 ≤ (122 : Int)) ∨ (r134 = 0 ∧ ¬ ((97 : Int) ≤ r130 ∧ r130 ≤ (122 : Int))) := q133_0
      refine j_st (st' := [vI r134]) rfl ?_
      refine j_ifR_eq (pc := 100) (tgt := 274) ⟨by omega, by omega⟩ dX12_next_100 rfl (fun h135 => ?_) (fun h135 => ?_)
      · exact j_vret (pc := 274) ⟨rfl, rfl⟩ dX12_next_274 rfl ⟨rfl, hIτ, hFτ, by omega, by omega, by omega, (by first | exact ax | (rw [← show aM τ = _ from rfl]; exact madv_name (by omega) (drM_F (hFτ 88 9 (show ¬ ((88 = 88 ∧ (9 = 13 ∨ 9 = 14 ∨ 9 = 15 ∨ 9 = 16 ∨ 9 = 17 ∨ 9 = 18))) from by omega)) (hFτ 88 10 (show ¬ ((88 = 88 ∧ (10 = 13 ∨ 10 = 14 ∨ 10 = 15 ∨ 10 = 16 ∨ 10 = 17 ∨ 10 = 18))) from by omega)) (fun c j h => hFτ c j (show ¬ ((c = 88 ∧ (j = 13 ∨ j = 14 ∨ j = 15 ∨ j = 16 ∨ j = 17 ∨ j = 18))) from by omega))) (by omega) (by omega) (by omega) (by omega) (by rw [← i5]; exact (run_n (show isL (fM σ (τ 88 13)) = false from decide_eq_false (by omega))).symm)))⟩
      · refine j_aload_n (pc := 103) dX12_next_103 rfl rfl ?_
        refine j_dup (pc := 104) dX12_next_104 rfl ?_
        refine j_getI (pc := 105) fl_X12_100 dX12_next_105 (a_88 hM) rfl ?_
        refine j_iconst (pc := 108) dX12_next_108 ?_
        refine j_iadd (pc := 109) dX12_next_109 ?_
        refine j_putI (pc := 110) fl_X12_100 fp_X12_13 dX12_next_110 (a_88 hM) rfl (j_nm (fun σ136 (eσ136 : σ136 = tw_up τ 88 13 ((τ 88 13) + 1)) => ?_))
        have hIσ136 : tw_I σ136 := tw_I_up hIτ eσ136 (show (0 : Int) ≤ (τ 88 13) + 1 ∧ (τ 88 13) + 1 ≤ 400 from ⟨by omega, by omega⟩)
        have hFσ136 : tw_F (fun c j => (c = 88 ∧ (j = 13 ∨ j = 14 ∨ j = 15 ∨ j = 16 ∨ j = 17 ∨ j = 18))) σ σ136 := tw_F_up hFτ eσ136 (show (88 = 88 ∧ (13 = 13 ∨ 13 = 14 ∨ 13 = 15 ∨ 13 = 16 ∨ 13 = 17 ∨ 13 = 18)) from by omega)
        refine j_goto (pc := 113) (tgt := 82) dX12_next_113 rfl ?_
        refine j_ls (ls' := [(0, vR 88)]) [0] rfl ?_
        have y137 : σ136 88 13 = (τ 88 13) + 1 := (tw_eq1 eσ136)
        have y138 : σ136 88 12 = τ 88 12 := (tw_ne1 eσ136 (by omega))
        have f139 : (0 : Int) ≤ τ 88 12 ∧ τ 88 12 ≤ 400 := hIτ 88 12
        have y140 : σ136 98 ((σ136 88 13).toNat) = τ 98 ((σ136 88 13).toNat) := (tw_ne1 eσ136 (by omega))
        have y141 : σ136 88 17 = τ 88 17 := (tw_ne1 eσ136 (by omega))
        have f142 : (0 : Int) ≤ τ 88 17 ∧ τ 88 17 ≤ 5 := hIτ 88 17
        have y143 : σ136 88 15 = τ 88 15 := (tw_ne1 eσ136 (by omega))
        have f144 : (-2147483648 : Int) ≤ τ 88 15 ∧ τ 88 15 ≤ 2147483647 := hIτ 88 15
        have y145 : σ136 88 14 = τ 88 14 := (tw_ne1 eσ136 (by omega))
        have f146 : (0 : Int) ≤ τ 88 14 ∧ τ 88 14 ≤ 400 := hIτ 88 14
        have y147 : σ136 88 13 = (τ 88 13) + 1 := (tw_eq1 eσ136)
        have y148 : σ136 88 14 = τ 88 14 := (tw_ne1 eσ136 (by omega))
        have y149 : σ136 88 14 = τ 88 14 := (tw_ne1 eσ136 (by omega))
        have y150 : σ136 88 13 = (τ 88 13) + 1 := (tw_eq1 eσ136)
        exact ih.2.1 σ136 hIσ136 hFσ136 (show σ 88 13 < σ136 88 13 ∨ (σ 88 13 ≤ σ136 88 13 ∧ σ136 88 13 < σ136 88 12 ∧ 97 ≤ σ136 98 (σ136 88 13).toNat ∧ σ136 98 (σ136 88 13).toNat ≤ 122) from (by first | omega | (have y9 : σ136 98 (σ136 88 13).toNat = _ := tw_ne1 eσ136 (by omega); rw [show σ136 88 13 = τ 88 13 from (tw_eq1 eσ136)] at y9 ⊢; omega))) (show σ 88 17 = 0 from by omega) (show σ136 88 17 = 0 from by omega) (show σ136 88 15 = 1 from by omega) (show σ136 88 14 = run isS (fM σ) (σ 88 13) from (by rw [show σ136 88 14 = _ from (tw_ne1 eσ136 (by omega))]; first | exact i4 | exact rs)) (show run isL (fM σ) (σ136 88 13) = run isL (fM σ) (σ136 88 14) from (by rw [show σ136 88 14 = _ from (tw_ne1 eσ136 (by omega)), show σ136 88 13 = _ from (tw_eq1 eσ136)]; first | rfl | exact (run_s (show isL (fM σ (τ 88 13)) = true from decide_eq_true (by omega)) (by omega)).symm.trans i5)) (show 97 ≤ fM σ (σ136 88 14) ∧ fM σ (σ136 88 14) ≤ 122 from (by rw [show σ136 88 14 = _ from (tw_ne1 eσ136 (by omega))]; first | exact i6 | omega)) (show (500 - σ136 88 13).toNat < N_ from by omega)
    · intro τ hIτ hFτ i0 i1 i2 i3 i4 i5 i6 i7 i8 hm
      have f12 : (0 : Int) ≤ τ 88 12 ∧ τ 88 12 ≤ 400 := hIτ 88 12
      have fx : fM τ = fM σ := fM_F (hFτ 88 12 (show ¬ ((88 = 88 ∧ (12 = 13 ∨ 12 = 14 ∨ 12 = 15 ∨ 12 = 16 ∨ 12 = 17 ∨ 12 = 18))) from by omega)) (fun j => hFτ 98 j (show ¬ ((98 = 88 ∧ (j = 13 ∨ j = 14 ∨ j = 15 ∨ j = 16 ∨ j = 17 ∨ j = 18))) from by omega))
      have f12s : (0 : Int) ≤ σ 88 12 ∧ σ 88 12 ≤ 400 := hI 88 12
      refine j_aload_n (pc := 140) dX12_next_140 rfl rfl ?_
      refine j_aload_n (pc := 141) dX12_next_141 rfl rfl ?_
      refine j_getI (pc := 142) fl_X12_100 dX12_next_142 (a_88 hM) rfl ?_
      have f151 : (0 : Int) ≤ τ 88 13 ∧ τ 88 13 ≤ 400 := hIτ 88 13
      refine j_callV (pc := 145) (As := [vI (τ 88 13)]) (st := []) (c_X12_look hM (τ 88 13) ⟨by omega, by omega⟩ τ hIτ) mv_X12_103 rfl rfl rfl (a_88 hM) dX12_next_145 ⟨Nat.le_of_ble_eq_true rfl, Nat.le_of_ble_eq_true rfl⟩ ⟨Nat.le_refl _, Nat.le_refl _⟩ rfl (Nat.le_of_ble_eq_true rfl) rfl (fun z152 σ153 hz152 => ?_)
      obtain ⟨r155, rfl, hr155, rfl, q154_0, q154_1⟩ := hz152
      replace q154_0 : ((τ 88 13) < τ 88 12 ∧ r155 = τ 98 (τ 88 13).toNat) ∨ (¬ (τ 88 13) < τ 88 12 ∧ r155 = -1) := q154_0
      replace q154_1 : r155 = fM τ (τ 88 13) := q154_1
      refine j_st (st' := [vI r155]) rfl ?_
      have b9 := q154_1; rw [fx] at b9
      refine j_i2l (pc := 148) dX12_next_148 ?_
      rw [w32_eq (a := r155) (by omega) (by omega)]
      refine j_ldc2 (pc := 149) (z := 48) dX12_next_149 (tw_in (i := 1447) (by decide +kernel) (by decide +kernel)) ?_
      refine j_ldc2 (pc := 152) (z := 57) dX12_next_152 (tw_in (i := 1448) (by decide +kernel) (by decide +kernel)) ?_
      refine j_callS (pc := 155) (As := [vL r155, vL 48, vL 57]) (st := []) (c_X12_in r155 ⟨by omega, by omega⟩ 48 ⟨by omega, by omega⟩ 57 ⟨by omega, by omega⟩ τ hIτ) ms_X12_82 rfl dX12_next_155 ⟨Nat.le_of_ble_eq_true rfl, Nat.le_of_ble_eq_true rfl⟩ ⟨Nat.le_refl _, Nat.le_refl _⟩ rfl (Nat.le_of_ble_eq_true rfl) rfl (fun z156 σ157 hz156 => ?_)
      obtain ⟨r159, rfl, hr159, rfl, q158_0⟩ := hz156
      replace q158_0 : (r159 = 1 ∧ (48 : Int) ≤ r155 ∧ r155 ≤ (57 : Int)) ∨ (r159 = 0 ∧ ¬ ((48 : Int) ≤ r155 ∧ r155 ≤ (57 : Int))) := q158_0
      refine j_st (st' := [vI r159]) rfl ?_
      refine j_ifR_eq (pc := 158) (tgt := 217) ⟨by omega, by omega⟩ dX12_next_158 rfl (fun h160 => ?_) (fun h160 => ?_)
      · have rg : τ 88 13 = run isG (fM σ) (τ 88 14) := by rw [← i5]; exact (run_n (show isG (fM σ (τ 88 13)) = false from decide_eq_false (by omega))).symm
        refine j_aload_n (pc := 217) dX12_next_217 rfl rfl ?_
        refine j_aload_n (pc := 218) dX12_next_218 rfl rfl ?_
        refine j_getI (pc := 219) fl_X12_100 dX12_next_219 (a_88 hM) rfl ?_
        refine j_aload_n (pc := 222) dX12_next_222 rfl rfl ?_
        refine j_getI (pc := 223) fl_X12_94 dX12_next_223 (a_88 hM) rfl ?_
        have f161 : (0 : Int) ≤ τ 88 14 ∧ τ 88 14 ≤ 400 := hIτ 88 14
        refine j_isub (pc := 226) dX12_next_226 ?_
        refine j_iconst (pc := 227) dX12_next_227 ?_
        refine j_icmpR_gt (pc := 228) (tgt := 235) ⟨by omega, by omega⟩ ⟨by omega, by omega⟩ dX12_next_228 rfl (fun h162 => ?_) (fun h162 => ?_)
        · refine j_iconst (pc := 235) dX12_next_235 ?_
          refine j_iconst (pc := 236) dX12_next_236 ?_
          refine j_callV (pc := 237) (As := [vI 0, vI 1]) (st := []) (c_X12_needs hM 0 ⟨by omega, by omega⟩ 1 ⟨by omega, by omega⟩ τ hIτ) mv_X12_129 rfl rfl rfl (a_88 hM) dX12_next_237 ⟨Nat.le_of_ble_eq_true rfl, Nat.le_of_ble_eq_true rfl⟩ ⟨Nat.le_refl _, Nat.le_refl _⟩ rfl (Nat.le_of_ble_eq_true rfl) rfl (fun z163 σ164 hz163 => ?_)
          obtain ⟨rfl, hIσ164, hGσ164, q165_0, q165_1, q165_2⟩ := hz163
          replace q165_0 : (¬ (0 : Int) = 0 ∧ σ164 88 17 = τ 88 17) ∨ ((0 : Int) = 0 ∧ τ 88 17 = 0 ∧ σ164 88 17 = (1 : Int)) ∨ ((0 : Int) = 0 ∧ ¬ τ 88 17 = 0 ∧ σ164 88 17 = τ 88 17) := q165_0
          replace q165_1 : (¬ (0 : Int) = 0 ∧ σ164 88 17 = τ 88 17 ∧ σ164 88 18 = τ 88 18) ∨ ((0 : Int) = 0 ∧ τ 88 17 = 0 ∧ σ164 88 17 = (1 : Int) ∧ σ164 88 18 = τ 88 14) ∨ ((0 : Int) = 0 ∧ ¬ τ 88 17 = 0 ∧ σ164 88 17 = τ 88 17 ∧ σ164 88 18 = τ 88 18) := q165_1
          replace q165_2 : aM σ164 = need (decide (¬ (0 : Int) = 0)) (1 : Int) (aM τ) := q165_2
          have hFσ164 : tw_F (fun c j => (c = 88 ∧ (j = 13 ∨ j = 14 ∨ j = 15 ∨ j = 16 ∨ j = 17 ∨ j = 18))) σ σ164 := tw_F_tr hFτ hGσ164 (fun c j q => (show (c = 88 ∧ (j = 13 ∨ j = 14 ∨ j = 15 ∨ j = 16 ∨ j = 17 ∨ j = 18)) from by replace q : (c = 88 ∧ (j = 17 ∨ j = 18)) := q; omega))
          refine j_st (st' := []) rfl ?_
          have y167 : σ164 88 13 = τ 88 13 := (hGσ164 88 13 (show ¬ ((88 = 88 ∧ (13 = 17 ∨ 13 = 18))) from by omega))
          have y168 : σ164 88 14 = τ 88 14 := (hGσ164 88 14 (show ¬ ((88 = 88 ∧ (14 = 17 ∨ 14 = 18))) from by omega))
          have y169 : σ164 88 15 = τ 88 15 := (hGσ164 88 15 (show ¬ ((88 = 88 ∧ (15 = 17 ∨ 15 = 18))) from by omega))
          have y170 : σ164 88 16 = τ 88 16 := (hGσ164 88 16 (show ¬ ((88 = 88 ∧ (16 = 17 ∨ 16 = 18))) from by omega))
          skip
          skip
          have ax : aM σ164 = tok (fM σ) (aM σ) := by (rcases (show τ 88 13 - τ 88 14 ≤ 3 ∨ 3 < τ 88 13 - τ 88 14 from by omega) with u | u); (exact madv_num (by omega) (drM_F (hFσ164 88 9 (show ¬ ((88 = 88 ∧ (9 = 13 ∨ 9 = 14 ∨ 9 = 15 ∨ 9 = 16 ∨ 9 = 17 ∨ 9 = 18))) from by omega)) (hFσ164 88 10 (show ¬ ((88 = 88 ∧ (10 = 13 ∨ 10 = 14 ∨ 10 = 15 ∨ 10 = 16 ∨ 10 = 17 ∨ 10 = 18))) from by omega)) (fun c j h => hFσ164 c j (show ¬ ((c = 88 ∧ (j = 13 ∨ j = 14 ∨ j = 15 ∨ j = 16 ∨ j = 17 ∨ j = 18))) from by omega))) (by omega) (by omega) (by rw [show σ164 88 14 = τ 88 14 from by omega]; omega) (by omega) (by rw [show σ164 88 14 = τ 88 14 from by omega, show σ164 88 13 = τ 88 13 from by omega]; exact rg) (by rw [show σ164 88 14 = τ 88 14 from by omega, show σ164 88 13 = τ 88 13 from by omega, show σ164 88 16 = τ 88 16 from by omega]; exact i8) (by omega)); (exact madv_long (by omega) (by omega) (by omega) (by omega) (by rw [show σ164 88 14 = τ 88 14 from by omega]; omega) (by rw [show σ164 88 14 = τ 88 14 from by omega, show σ164 88 13 = τ 88 13 from by omega]; exact rg) (by omega))
          refine j_goto (pc := 240) (tgt := 274) dX12_next_240 rfl ?_
          have y171 : σ164 88 13 = τ 88 13 := (hGσ164 88 13 (show ¬ ((88 = 88 ∧ (13 = 17 ∨ 13 = 18))) from by omega))
          have y172 : σ164 88 15 = τ 88 15 := (hGσ164 88 15 (show ¬ ((88 = 88 ∧ (15 = 17 ∨ 15 = 18))) from by omega))
          have f173 : (-2147483648 : Int) ≤ τ 88 15 ∧ τ 88 15 ≤ 2147483647 := hIτ 88 15
          have y174 : σ164 88 13 = τ 88 13 := (hGσ164 88 13 (show ¬ ((88 = 88 ∧ (13 = 17 ∨ 13 = 18))) from by omega))
          exact j_vret (pc := 274) ⟨rfl, rfl⟩ dX12_next_274 rfl ⟨rfl, hIσ164, hFσ164, by omega, by omega, by omega, (by first | exact ax | (rw [← show aM τ = _ from rfl]; exact madv_name (by omega) (drM_F (hFσ164 88 9 (show ¬ ((88 = 88 ∧ (9 = 13 ∨ 9 = 14 ∨ 9 = 15 ∨ 9 = 16 ∨ 9 = 17 ∨ 9 = 18))) from by omega)) (hFσ164 88 10 (show ¬ ((88 = 88 ∧ (10 = 13 ∨ 10 = 14 ∨ 10 = 15 ∨ 10 = 16 ∨ 10 = 17 ∨ 10 = 18))) from by omega)) (fun c j h => hFσ164 c j (show ¬ ((c = 88 ∧ (j = 13 ∨ j = 14 ∨ j = 15 ∨ j = 16 ∨ j = 17 ∨ j = 18))) from by omega))) (by omega) (by omega) (by omega) (by omega) (by rw [← i5]; exact (run_n (show isL (fM σ (τ 88 13)) = false from decide_eq_false (by omega))).symm)))⟩
        · refine j_iconst (pc := 231) dX12_next_231 ?_
          refine j_goto (pc := 232) (tgt := 236) dX12_next_232 rfl ?_
          refine j_iconst (pc := 236) dX12_next_236 ?_
          refine j_callV (pc := 237) (As := [vI 1, vI 1]) (st := []) (c_X12_needs hM 1 ⟨by omega, by omega⟩ 1 ⟨by omega, by omega⟩ τ hIτ) mv_X12_129 rfl rfl rfl (a_88 hM) dX12_next_237 ⟨Nat.le_of_ble_eq_true rfl, Nat.le_of_ble_eq_true rfl⟩ ⟨Nat.le_refl _, Nat.le_refl _⟩ rfl (Nat.le_of_ble_eq_true rfl) rfl (fun z175 σ176 hz175 => ?_)
          obtain ⟨rfl, hIσ176, hGσ176, q177_0, q177_1, q177_2⟩ := hz175
          replace q177_0 : (¬ (1 : Int) = 0 ∧ σ176 88 17 = τ 88 17) ∨ ((1 : Int) = 0 ∧ τ 88 17 = 0 ∧ σ176 88 17 = (1 : Int)) ∨ ((1 : Int) = 0 ∧ ¬ τ 88 17 = 0 ∧ σ176 88 17 = τ 88 17) := q177_0
          replace q177_1 : (¬ (1 : Int) = 0 ∧ σ176 88 17 = τ 88 17 ∧ σ176 88 18 = τ 88 18) ∨ ((1 : Int) = 0 ∧ τ 88 17 = 0 ∧ σ176 88 17 = (1 : Int) ∧ σ176 88 18 = τ 88 14) ∨ ((1 : Int) = 0 ∧ ¬ τ 88 17 = 0 ∧ σ176 88 17 = τ 88 17 ∧ σ176 88 18 = τ 88 18) := q177_1
          replace q177_2 : aM σ176 = need (decide (¬ (1 : Int) = 0)) (1 : Int) (aM τ) := q177_2
          have hFσ176 : tw_F (fun c j => (c = 88 ∧ (j = 13 ∨ j = 14 ∨ j = 15 ∨ j = 16 ∨ j = 17 ∨ j = 18))) σ σ176 := tw_F_tr hFτ hGσ176 (fun c j q => (show (c = 88 ∧ (j = 13 ∨ j = 14 ∨ j = 15 ∨ j = 16 ∨ j = 17 ∨ j = 18)) from by replace q : (c = 88 ∧ (j = 17 ∨ j = 18)) := q; omega))
          refine j_st (st' := []) rfl ?_
          have y179 : σ176 88 13 = τ 88 13 := (hGσ176 88 13 (show ¬ ((88 = 88 ∧ (13 = 17 ∨ 13 = 18))) from by omega))
          have y180 : σ176 88 14 = τ 88 14 := (hGσ176 88 14 (show ¬ ((88 = 88 ∧ (14 = 17 ∨ 14 = 18))) from by omega))
          have y181 : σ176 88 15 = τ 88 15 := (hGσ176 88 15 (show ¬ ((88 = 88 ∧ (15 = 17 ∨ 15 = 18))) from by omega))
          have y182 : σ176 88 16 = τ 88 16 := (hGσ176 88 16 (show ¬ ((88 = 88 ∧ (16 = 17 ∨ 16 = 18))) from by omega))
          skip
          skip
          have ax : aM σ176 = tok (fM σ) (aM σ) := by (rcases (show τ 88 13 - τ 88 14 ≤ 3 ∨ 3 < τ 88 13 - τ 88 14 from by omega) with u | u); (exact madv_num (by omega) (drM_F (hFσ176 88 9 (show ¬ ((88 = 88 ∧ (9 = 13 ∨ 9 = 14 ∨ 9 = 15 ∨ 9 = 16 ∨ 9 = 17 ∨ 9 = 18))) from by omega)) (hFσ176 88 10 (show ¬ ((88 = 88 ∧ (10 = 13 ∨ 10 = 14 ∨ 10 = 15 ∨ 10 = 16 ∨ 10 = 17 ∨ 10 = 18))) from by omega)) (fun c j h => hFσ176 c j (show ¬ ((c = 88 ∧ (j = 13 ∨ j = 14 ∨ j = 15 ∨ j = 16 ∨ j = 17 ∨ j = 18))) from by omega))) (by omega) (by omega) (by rw [show σ176 88 14 = τ 88 14 from by omega]; omega) (by omega) (by rw [show σ176 88 14 = τ 88 14 from by omega, show σ176 88 13 = τ 88 13 from by omega]; exact rg) (by rw [show σ176 88 14 = τ 88 14 from by omega, show σ176 88 13 = τ 88 13 from by omega, show σ176 88 16 = τ 88 16 from by omega]; exact i8) (by omega)); (exact madv_long (by omega) (by omega) (by omega) (by omega) (by rw [show σ176 88 14 = τ 88 14 from by omega]; omega) (by rw [show σ176 88 14 = τ 88 14 from by omega, show σ176 88 13 = τ 88 13 from by omega]; exact rg) (by omega))
          refine j_goto (pc := 240) (tgt := 274) dX12_next_240 rfl ?_
          have y183 : σ176 88 13 = τ 88 13 := (hGσ176 88 13 (show ¬ ((88 = 88 ∧ (13 = 17 ∨ 13 = 18))) from by omega))
          have y184 : σ176 88 15 = τ 88 15 := (hGσ176 88 15 (show ¬ ((88 = 88 ∧ (15 = 17 ∨ 15 = 18))) from by omega))
          have f185 : (-2147483648 : Int) ≤ τ 88 15 ∧ τ 88 15 ≤ 2147483647 := hIτ 88 15
          have y186 : σ176 88 13 = τ 88 13 := (hGσ176 88 13 (show ¬ ((88 = 88 ∧ (13 = 17 ∨ 13 = 18))) from by omega))
          exact j_vret (pc := 274) ⟨rfl, rfl⟩ dX12_next_274 rfl ⟨rfl, hIσ176, hFσ176, by omega, by omega, by omega, (by first | exact ax | (rw [← show aM τ = _ from rfl]; exact madv_name (by omega) (drM_F (hFσ176 88 9 (show ¬ ((88 = 88 ∧ (9 = 13 ∨ 9 = 14 ∨ 9 = 15 ∨ 9 = 16 ∨ 9 = 17 ∨ 9 = 18))) from by omega)) (hFσ176 88 10 (show ¬ ((88 = 88 ∧ (10 = 13 ∨ 10 = 14 ∨ 10 = 15 ∨ 10 = 16 ∨ 10 = 17 ∨ 10 = 18))) from by omega)) (fun c j h => hFσ176 c j (show ¬ ((c = 88 ∧ (j = 13 ∨ j = 14 ∨ j = 15 ∨ j = 16 ∨ j = 17 ∨ j = 18))) from by omega))) (by omega) (by omega) (by omega) (by omega) (by rw [← i5]; exact (run_n (show isL (fM σ (τ 88 13)) = false from decide_eq_false (by omega))).symm)))⟩
      · refine j_aload_n (pc := 161) dX12_next_161 rfl rfl ?_
        refine j_aload_n (pc := 162) dX12_next_162 rfl rfl ?_
        refine j_getI (pc := 163) fl_X12_100 dX12_next_163 (a_88 hM) rfl ?_
        refine j_aload_n (pc := 166) dX12_next_166 rfl rfl ?_
        refine j_getI (pc := 167) fl_X12_94 dX12_next_167 (a_88 hM) rfl ?_
        have f187 : (0 : Int) ≤ τ 88 14 ∧ τ 88 14 ≤ 400 := hIτ 88 14
        refine j_isub (pc := 170) dX12_next_170 ?_
        refine j_iconst (pc := 171) dX12_next_171 ?_
        refine j_icmpR_ge (pc := 172) (tgt := 197) ⟨by omega, by omega⟩ ⟨by omega, by omega⟩ dX12_next_172 rfl (fun h188 => ?_) (fun h188 => ?_)
        · refine j_aload_n (pc := 197) dX12_next_197 rfl rfl ?_
          refine j_getI (pc := 198) fl_X12_126 dX12_next_198 (a_88 hM) rfl ?_
          have f189 : (-2147483648 : Int) ≤ τ 88 16 ∧ τ 88 16 ≤ 2147483647 := hIτ 88 16
          refine j_putI (pc := 201) fl_X12_126 fp_X12_16 dX12_next_201 (a_88 hM) rfl (j_nm (fun σ190 (eσ190 : σ190 = tw_up τ 88 16 (τ 88 16)) => ?_))
          have hIσ190 : tw_I σ190 := tw_I_up hIτ eσ190 (show (-2147483648 : Int) ≤ τ 88 16 ∧ τ 88 16 ≤ 2147483647 from ⟨by omega, by omega⟩)
          have hFσ190 : tw_F (fun c j => (c = 88 ∧ (j = 13 ∨ j = 14 ∨ j = 15 ∨ j = 16 ∨ j = 17 ∨ j = 18))) σ σ190 := tw_F_up hFτ eσ190 (show (88 = 88 ∧ (16 = 13 ∨ 16 = 14 ∨ 16 = 15 ∨ 16 = 16 ∨ 16 = 17 ∨ 16 = 18)) from by omega)
          refine j_aload_n (pc := 204) dX12_next_204 rfl rfl ?_
          refine j_dup (pc := 205) dX12_next_205 rfl ?_
          refine j_getI (pc := 206) fl_X12_100 dX12_next_206 (a_88 hM) rfl ?_
          refine j_topV (show σ190 88 13 = τ 88 13 from (tw_ne1 eσ190 (by omega))) ?_
          refine j_iconst (pc := 209) dX12_next_209 ?_
          refine j_iadd (pc := 210) dX12_next_210 ?_
          refine j_putI (pc := 211) fl_X12_100 fp_X12_13 dX12_next_211 (a_88 hM) rfl (j_nm (fun σ191 (eσ191 : σ191 = tw_up σ190 88 13 ((τ 88 13) + 1)) => ?_))
          have hIσ191 : tw_I σ191 := tw_I_up hIσ190 eσ191 (show (0 : Int) ≤ (τ 88 13) + 1 ∧ (τ 88 13) + 1 ≤ 400 from ⟨by omega, by omega⟩)
          have hFσ191 : tw_F (fun c j => (c = 88 ∧ (j = 13 ∨ j = 14 ∨ j = 15 ∨ j = 16 ∨ j = 17 ∨ j = 18))) σ σ191 := tw_F_up hFσ190 eσ191 (show (88 = 88 ∧ (13 = 13 ∨ 13 = 14 ∨ 13 = 15 ∨ 13 = 16 ∨ 13 = 17 ∨ 13 = 18)) from by omega)
          refine j_goto (pc := 214) (tgt := 140) dX12_next_214 rfl ?_
          refine j_ls (ls' := [(0, vR 88)]) [0] rfl ?_
          have y192 : σ191 88 13 = (τ 88 13) + 1 := (tw_eq1 eσ191)
          have y193 : σ191 88 12 = τ 88 12 := ((tw_ne1 eσ191 (by omega))).trans (tw_ne1 eσ190 (by omega))
          have f194 : (0 : Int) ≤ τ 88 12 ∧ τ 88 12 ≤ 400 := hIτ 88 12
          have y195 : σ191 98 ((σ191 88 13).toNat) = τ 98 ((σ191 88 13).toNat) := ((tw_ne1 eσ191 (by omega))).trans (tw_ne1 eσ190 (by omega))
          have y196 : σ191 88 17 = τ 88 17 := ((tw_ne1 eσ191 (by omega))).trans (tw_ne1 eσ190 (by omega))
          have f197 : (0 : Int) ≤ τ 88 17 ∧ τ 88 17 ≤ 5 := hIτ 88 17
          have y198 : σ191 88 15 = τ 88 15 := ((tw_ne1 eσ191 (by omega))).trans (tw_ne1 eσ190 (by omega))
          have f199 : (-2147483648 : Int) ≤ τ 88 15 ∧ τ 88 15 ≤ 2147483647 := hIτ 88 15
          have y200 : σ191 88 14 = τ 88 14 := ((tw_ne1 eσ191 (by omega))).trans (tw_ne1 eσ190 (by omega))
          have y201 : σ191 88 13 = (τ 88 13) + 1 := (tw_eq1 eσ191)
          have y202 : σ191 88 14 = τ 88 14 := ((tw_ne1 eσ191 (by omega))).trans (tw_ne1 eσ190 (by omega))
          have y203 : σ191 88 14 = τ 88 14 := ((tw_ne1 eσ191 (by omega))).trans (tw_ne1 eσ190 (by omega))
          have y204 : σ191 88 14 = τ 88 14 := ((tw_ne1 eσ191 (by omega))).trans (tw_ne1 eσ190 (by omega))
          have y205 : σ191 88 13 = (τ 88 13) + 1 := (tw_eq1 eσ191)
          have y206 : σ191 88 16 = τ 88 16 := ((tw_ne1 eσ191 (by omega))).trans (tw_eq1 eσ190)
          have y207 : σ191 88 14 = τ 88 14 := ((tw_ne1 eσ191 (by omega))).trans (tw_ne1 eσ190 (by omega))
          have y208 : σ191 88 13 = (τ 88 13) + 1 := (tw_eq1 eσ191)
          have y209 : σ191 88 13 = (τ 88 13) + 1 := (tw_eq1 eσ191)
          exact ih.2.2 σ191 hIσ191 hFσ191 (show σ 88 13 < σ191 88 13 ∨ (σ 88 13 ≤ σ191 88 13 ∧ σ191 88 13 < σ191 88 12 ∧ 48 ≤ σ191 98 (σ191 88 13).toNat ∧ σ191 98 (σ191 88 13).toNat ≤ 57) from (by first | omega | (have y9 : σ191 98 (σ191 88 13).toNat = _ := (tw_ne1 eσ191 (by omega)).trans (tw_ne1 eσ190 (by omega)); rw [show σ191 88 13 = τ 88 13 from (tw_eq1 eσ191)] at y9 ⊢; omega))) (show σ 88 17 = 0 from by omega) (show σ191 88 17 = 0 from by omega) (show σ191 88 15 = 2 from by omega) (show σ191 88 14 = run isS (fM σ) (σ 88 13) from (by rw [show σ191 88 14 = _ from ((tw_ne1 eσ191 (by omega))).trans (tw_ne1 eσ190 (by omega))]; first | exact i4 | exact rs)) (show run isG (fM σ) (σ191 88 13) = run isG (fM σ) (σ191 88 14) from (by rw [show σ191 88 14 = _ from ((tw_ne1 eσ191 (by omega))).trans (tw_ne1 eσ190 (by omega)), show σ191 88 13 = _ from (tw_eq1 eσ191)]; first | rfl | exact (run_s (show isG (fM σ (τ 88 13)) = true from decide_eq_true (by omega)) (by omega)).symm.trans i5)) (show 48 ≤ fM σ (σ191 88 14) ∧ fM σ (σ191 88 14) ≤ 57 from (by rw [show σ191 88 14 = _ from ((tw_ne1 eσ191 (by omega))).trans (tw_ne1 eσ190 (by omega))]; first | exact i6 | omega)) (show σ191 88 14 ≤ σ191 88 13 from by omega) (show σ191 88 16 = nv (fM σ) (σ191 88 14) (σ191 88 13 - σ191 88 14).toNat from (by rw [show σ191 88 14 = _ from ((tw_ne1 eσ191 (by omega))).trans (tw_ne1 eσ190 (by omega)), show σ191 88 13 = _ from (tw_eq1 eσ191), show σ191 88 16 = _ from ((tw_ne1 eσ191 (by omega))).trans (tw_eq1 eσ190)]; first | (rw [show (τ 88 13 - τ 88 13).toNat = 0 from by omega]; rfl) | (rw [show τ 88 13 + 1 - τ 88 14 = (τ 88 13 - τ 88 14) + 1 from by omega, nv_lt ⟨by omega, by omega⟩, show τ 88 14 + (τ 88 13 - τ 88 14) = τ 88 13 from by omega]; omega) | (rw [show τ 88 13 + 1 - τ 88 14 = (τ 88 13 - τ 88 14) + 1 from by omega, nv_ge (by omega)]; exact i8))) (show (500 - σ191 88 13).toNat < N_ from by omega)
        · refine j_bipush (pc := 175) dX12_next_175 rfl ?_
          refine j_aload_n (pc := 177) dX12_next_177 rfl rfl ?_
          refine j_getI (pc := 178) fl_X12_126 dX12_next_178 (a_88 hM) rfl ?_
          have f210 : (-2147483648 : Int) ≤ τ 88 16 ∧ τ 88 16 ≤ 2147483647 := hIτ 88 16
          refine j_imul (pc := 181) dX12_next_181 ?_
          refine j_top (fun z211 ez211 hz211 => ?_)
          refine j_aload_n (pc := 182) dX12_next_182 rfl rfl ?_
          refine j_aload_n (pc := 183) dX12_next_183 rfl rfl ?_
          refine j_getI (pc := 184) fl_X12_100 dX12_next_184 (a_88 hM) rfl ?_
          refine j_callV (pc := 187) (As := [vI (τ 88 13)]) (st := [vI z211, vR 88]) (c_X12_look hM (τ 88 13) ⟨by omega, by omega⟩ τ hIτ) mv_X12_103 rfl rfl rfl (a_88 hM) dX12_next_187 ⟨Nat.le_of_ble_eq_true rfl, Nat.le_of_ble_eq_true rfl⟩ ⟨Nat.le_refl _, Nat.le_refl _⟩ rfl (Nat.le_of_ble_eq_true rfl) rfl (fun z212 σ213 hz212 => ?_)
          obtain ⟨r215, rfl, hr215, rfl, q214_0, q214_1⟩ := hz212
          replace q214_0 : ((τ 88 13) < τ 88 12 ∧ r215 = τ 98 (τ 88 13).toNat) ∨ (¬ (τ 88 13) < τ 88 12 ∧ r215 = -1) := q214_0
          replace q214_1 : r215 = fM τ (τ 88 13) := q214_1
          refine j_st (st' := [vI r215, vI z211, vR 88]) rfl ?_
          have b8 := q214_1; rw [fx] at b8
          refine j_iadd (pc := 190) dX12_next_190 ?_
          refine j_top (fun z216 ez216 hz216 => ?_)
          refine j_bipush (pc := 191) dX12_next_191 rfl ?_
          refine j_isub (pc := 193) dX12_next_193 ?_
          refine j_top (fun z217 ez217 hz217 => ?_)
          refine j_goto (pc := 194) (tgt := 201) dX12_next_194 rfl ?_
          refine j_putI (pc := 201) fl_X12_126 fp_X12_16 dX12_next_201 (a_88 hM) rfl (j_nm (fun σ218 (eσ218 : σ218 = tw_up τ 88 16 z217) => ?_))
          have hIσ218 : tw_I σ218 := tw_I_up hIτ eσ218 (show (-2147483648 : Int) ≤ z217 ∧ z217 ≤ 2147483647 from ⟨by omega, by omega⟩)
          have hFσ218 : tw_F (fun c j => (c = 88 ∧ (j = 13 ∨ j = 14 ∨ j = 15 ∨ j = 16 ∨ j = 17 ∨ j = 18))) σ σ218 := tw_F_up hFτ eσ218 (show (88 = 88 ∧ (16 = 13 ∨ 16 = 14 ∨ 16 = 15 ∨ 16 = 16 ∨ 16 = 17 ∨ 16 = 18)) from by omega)
          refine j_aload_n (pc := 204) dX12_next_204 rfl rfl ?_
          refine j_dup (pc := 205) dX12_next_205 rfl ?_
          refine j_getI (pc := 206) fl_X12_100 dX12_next_206 (a_88 hM) rfl ?_
          refine j_topV (show σ218 88 13 = τ 88 13 from (tw_ne1 eσ218 (by omega))) ?_
          refine j_iconst (pc := 209) dX12_next_209 ?_
          refine j_iadd (pc := 210) dX12_next_210 ?_
          refine j_putI (pc := 211) fl_X12_100 fp_X12_13 dX12_next_211 (a_88 hM) rfl (j_nm (fun σ219 (eσ219 : σ219 = tw_up σ218 88 13 ((τ 88 13) + 1)) => ?_))
          have hIσ219 : tw_I σ219 := tw_I_up hIσ218 eσ219 (show (0 : Int) ≤ (τ 88 13) + 1 ∧ (τ 88 13) + 1 ≤ 400 from ⟨by omega, by omega⟩)
          have hFσ219 : tw_F (fun c j => (c = 88 ∧ (j = 13 ∨ j = 14 ∨ j = 15 ∨ j = 16 ∨ j = 17 ∨ j = 18))) σ σ219 := tw_F_up hFσ218 eσ219 (show (88 = 88 ∧ (13 = 13 ∨ 13 = 14 ∨ 13 = 15 ∨ 13 = 16 ∨ 13 = 17 ∨ 13 = 18)) from by omega)
          refine j_goto (pc := 214) (tgt := 140) dX12_next_214 rfl ?_
          refine j_ls (ls' := [(0, vR 88)]) [0] rfl ?_
          have y220 : σ219 88 13 = (τ 88 13) + 1 := (tw_eq1 eσ219)
          have y221 : σ219 88 12 = τ 88 12 := ((tw_ne1 eσ219 (by omega))).trans (tw_ne1 eσ218 (by omega))
          have f222 : (0 : Int) ≤ τ 88 12 ∧ τ 88 12 ≤ 400 := hIτ 88 12
          have y223 : σ219 98 ((σ219 88 13).toNat) = τ 98 ((σ219 88 13).toNat) := ((tw_ne1 eσ219 (by omega))).trans (tw_ne1 eσ218 (by omega))
          have y224 : σ219 88 17 = τ 88 17 := ((tw_ne1 eσ219 (by omega))).trans (tw_ne1 eσ218 (by omega))
          have f225 : (0 : Int) ≤ τ 88 17 ∧ τ 88 17 ≤ 5 := hIτ 88 17
          have y226 : σ219 88 15 = τ 88 15 := ((tw_ne1 eσ219 (by omega))).trans (tw_ne1 eσ218 (by omega))
          have f227 : (-2147483648 : Int) ≤ τ 88 15 ∧ τ 88 15 ≤ 2147483647 := hIτ 88 15
          have y228 : σ219 88 14 = τ 88 14 := ((tw_ne1 eσ219 (by omega))).trans (tw_ne1 eσ218 (by omega))
          have y229 : σ219 88 13 = (τ 88 13) + 1 := (tw_eq1 eσ219)
          have y230 : σ219 88 14 = τ 88 14 := ((tw_ne1 eσ219 (by omega))).trans (tw_ne1 eσ218 (by omega))
          have y231 : σ219 88 14 = τ 88 14 := ((tw_ne1 eσ219 (by omega))).trans (tw_ne1 eσ218 (by omega))
          have y232 : σ219 88 14 = τ 88 14 := ((tw_ne1 eσ219 (by omega))).trans (tw_ne1 eσ218 (by omega))
          have y233 : σ219 88 13 = (τ 88 13) + 1 := (tw_eq1 eσ219)
          have y234 : σ219 88 16 = z217 := ((tw_ne1 eσ219 (by omega))).trans (tw_eq1 eσ218)
          have y235 : σ219 88 14 = τ 88 14 := ((tw_ne1 eσ219 (by omega))).trans (tw_ne1 eσ218 (by omega))
          have y236 : σ219 88 13 = (τ 88 13) + 1 := (tw_eq1 eσ219)
          have y237 : σ219 88 13 = (τ 88 13) + 1 := (tw_eq1 eσ219)
          exact ih.2.2 σ219 hIσ219 hFσ219 (show σ 88 13 < σ219 88 13 ∨ (σ 88 13 ≤ σ219 88 13 ∧ σ219 88 13 < σ219 88 12 ∧ 48 ≤ σ219 98 (σ219 88 13).toNat ∧ σ219 98 (σ219 88 13).toNat ≤ 57) from (by first | omega | (have y9 : σ219 98 (σ219 88 13).toNat = _ := (tw_ne1 eσ219 (by omega)).trans (tw_ne1 eσ218 (by omega)); rw [show σ219 88 13 = τ 88 13 from (tw_eq1 eσ219)] at y9 ⊢; omega))) (show σ 88 17 = 0 from by omega) (show σ219 88 17 = 0 from by omega) (show σ219 88 15 = 2 from by omega) (show σ219 88 14 = run isS (fM σ) (σ 88 13) from (by rw [show σ219 88 14 = _ from ((tw_ne1 eσ219 (by omega))).trans (tw_ne1 eσ218 (by omega))]; first | exact i4 | exact rs)) (show run isG (fM σ) (σ219 88 13) = run isG (fM σ) (σ219 88 14) from (by rw [show σ219 88 14 = _ from ((tw_ne1 eσ219 (by omega))).trans (tw_ne1 eσ218 (by omega)), show σ219 88 13 = _ from (tw_eq1 eσ219)]; first | rfl | exact (run_s (show isG (fM σ (τ 88 13)) = true from decide_eq_true (by omega)) (by omega)).symm.trans i5)) (show 48 ≤ fM σ (σ219 88 14) ∧ fM σ (σ219 88 14) ≤ 57 from (by rw [show σ219 88 14 = _ from ((tw_ne1 eσ219 (by omega))).trans (tw_ne1 eσ218 (by omega))]; first | exact i6 | omega)) (show σ219 88 14 ≤ σ219 88 13 from by omega) (show σ219 88 16 = nv (fM σ) (σ219 88 14) (σ219 88 13 - σ219 88 14).toNat from (by rw [show σ219 88 14 = _ from ((tw_ne1 eσ219 (by omega))).trans (tw_ne1 eσ218 (by omega)), show σ219 88 13 = _ from (tw_eq1 eσ219), show σ219 88 16 = _ from ((tw_ne1 eσ219 (by omega))).trans (tw_eq1 eσ218)]; first | (rw [show (τ 88 13 - τ 88 13).toNat = 0 from by omega]; rfl) | (rw [show τ 88 13 + 1 - τ 88 14 = (τ 88 13 - τ 88 14) + 1 from by omega, nv_lt ⟨by omega, by omega⟩, show τ 88 14 + (τ 88 13 - τ 88 14) = τ 88 13 from by omega]; omega) | (rw [show τ 88 13 + 1 - τ 88 14 = (τ 88 13 - τ 88 14) + 1 from by omega, nv_ge (by omega)]; exact i8))) (show (500 - σ219 88 13).toNat < N_ from by omega)
set_option maxHeartbeats 4000000 in
set_option maxRecDepth 100000 in
theorem c_X12_next {G : tw_G} (hM : tw_isM G) (σ : tw_M) (hI : tw_I σ) : tw_C G yX12_next cX12_next 2 none 1 [vR 88] σ (q_X12_next σ) := by
  refine tw_met [(0, vR 88)] (by decide +kernel) rfl (Nat.le_of_ble_eq_true rfl) ?_
  refine j_aload_n (pc := 0) dX12_next_0 rfl rfl ?_
  refine j_getI (pc := 1) fl_X12_91 dX12_next_1 (a_88 hM) rfl ?_
  have f238 : (0 : Int) ≤ σ 88 17 ∧ σ 88 17 ≤ 5 := hI 88 17
  refine j_ifR_le (pc := 4) (tgt := 8) ⟨by omega, by omega⟩ dX12_next_4 rfl (fun h239 => ?_) (fun h239 => ?_)
  · refine j_ls (ls' := [(0, vR 88)]) [0] rfl ?_
    exact (l_X12_next hM σ hI (((1000 - σ 88 13).toNat) + 1)).1 σ hI (tw_F_rf) (show σ 88 13 ≤ σ 88 13 from by omega) (show σ 88 17 = 0 from by omega) (show σ 88 17 = 0 from by omega) (show run isS (fM σ) (σ 88 13) = run isS (fM σ) (σ 88 13) from (by rw [rfl]; first | rfl | exact (run_s (show isS (fM σ (τ 88 13)) = true from decide_eq_true (by omega)) (by omega)).symm.trans i3)) (show σ 88 18 = σ 88 18 from by omega) (Nat.lt_succ_self _)
  · have ax : aM σ = tok (fM σ) (aM σ) := madv_no (by omega)
    exact j_vret (pc := 7) ⟨rfl, rfl⟩ dX12_next_7 rfl ⟨rfl, hI, (tw_F_rf), by omega, by omega, by omega, (by first | exact ax | (rw [← show aM τ = _ from rfl]; exact madv_name (by omega) (drM_F ((tw_F_rf) 88 9 (show ¬ ((88 = 88 ∧ (9 = 13 ∨ 9 = 14 ∨ 9 = 15 ∨ 9 = 16 ∨ 9 = 17 ∨ 9 = 18))) from by omega)) ((tw_F_rf) 88 10 (show ¬ ((88 = 88 ∧ (10 = 13 ∨ 10 = 14 ∨ 10 = 15 ∨ 10 = 16 ∨ 10 = 17 ∨ 10 = 18))) from by omega)) (fun c j h => (tw_F_rf) c j (show ¬ ((c = 88 ∧ (j = 13 ∨ j = 14 ∨ j = 15 ∨ j = 16 ∨ j = 17 ∨ j = 18))) from by omega))) (by omega) (by omega) (by omega) (by omega) (by rw [← i5]; exact (run_n (show isL (fM σ (τ 88 13)) = false from decide_eq_false (by omega))).symm)))⟩
abbrev q_X12_isNumber (a : Int) (b : Int) (σ : tw_M) : Option tw_V → tw_M → Prop := fun z τ => z = none ∧ tw_I τ ∧ tw_F (fun c j => (c = 88 ∧ (j = 17 ∨ j = 18))) σ τ ∧ (¬ τ 88 17 = 0 ∨ (σ 88 17 = 0 ∧ a ≤ σ 88 16 ∧ σ 88 16 ≤ b)) ∧ (aM τ = numS a b (aM σ))
set_option maxHeartbeats 4000000 in
set_option maxRecDepth 100000 in
theorem c_X12_isNumber {G : tw_G} (hM : tw_isM G) (a : Int) (ha : -2147483648 ≤ a ∧ a ≤ 2147483647) (b : Int) (hb : -2147483648 ≤ b ∧ b ≤ 2147483647) (σ : tw_M) (hI : tw_I σ) : tw_C G yX12_isNumber cX12_isNumber 3 none 1 [vR 88, vI a, vI b] σ (q_X12_isNumber a b σ) := by
  refine tw_met [(0, vR 88), (1, vI a), (2, vI b)] (by decide +kernel) rfl (Nat.le_of_ble_eq_true rfl) ?_
  refine j_aload_n (pc := 0) dX12_isNumber_0 rfl rfl ?_
  refine j_getI (pc := 1) fl_X12_91 dX12_isNumber_1 (a_88 hM) rfl ?_
  have f1 : (0 : Int) ≤ σ 88 17 ∧ σ 88 17 ≤ 5 := hI 88 17
  refine j_ifR_ne (pc := 4) (tgt := 25) ⟨by omega, by omega⟩ dX12_isNumber_4 rfl (fun h2 => ?_) (fun h2 => ?_)
  · refine j_aload_n (pc := 25) dX12_isNumber_25 rfl rfl ?_
    refine j_getI (pc := 26) fl_X12_91 dX12_isNumber_26 (a_88 hM) rfl ?_
    refine j_ifR_ne (pc := 29) (tgt := 49) ⟨by omega, by omega⟩ dX12_isNumber_29 rfl (fun h3 => ?_) (fun h3 => by exfalso; omega)
    exact j_vret (pc := 49) ⟨rfl, rfl⟩ dX12_isNumber_49 rfl ⟨rfl, hI, (tw_F_rf), by omega, (by first | exact cc | exact aM_num_no (by omega) | (unfold numS; rw [← c1]; exact (need_pF (by rw [aM_4]; omega)).symm))⟩
  · refine j_aload_n (pc := 7) dX12_isNumber_7 rfl rfl ?_
    refine j_aload_n (pc := 8) dX12_isNumber_8 rfl rfl ?_
    refine j_getI (pc := 9) fl_X12_115 dX12_isNumber_9 (a_88 hM) rfl ?_
    have f4 : (-2147483648 : Int) ≤ σ 88 15 ∧ σ 88 15 ≤ 2147483647 := hI 88 15
    refine j_iconst (pc := 12) dX12_isNumber_12 ?_
    refine j_icmpR_ne (pc := 13) (tgt := 20) ⟨by omega, by omega⟩ ⟨by omega, by omega⟩ dX12_isNumber_13 rfl (fun h5 => ?_) (fun h5 => ?_)
    · refine j_iconst (pc := 20) dX12_isNumber_20 ?_
      refine j_iconst (pc := 21) dX12_isNumber_21 ?_
      refine j_callV (pc := 22) (As := [vI 0, vI 2]) (st := []) (c_X12_needs hM 0 ⟨by omega, by omega⟩ 2 ⟨by omega, by omega⟩ σ hI) mv_X12_129 rfl rfl rfl (a_88 hM) dX12_isNumber_22 ⟨Nat.le_of_ble_eq_true rfl, Nat.le_of_ble_eq_true rfl⟩ ⟨Nat.le_refl _, Nat.le_refl _⟩ rfl (Nat.le_of_ble_eq_true rfl) rfl (fun z6 σ7 hz6 => ?_)
      obtain ⟨rfl, hIσ7, hGσ7, q8_0, q8_1, q8_2⟩ := hz6
      replace q8_0 : (¬ (0 : Int) = 0 ∧ σ7 88 17 = σ 88 17) ∨ ((0 : Int) = 0 ∧ σ 88 17 = 0 ∧ σ7 88 17 = (2 : Int)) ∨ ((0 : Int) = 0 ∧ ¬ σ 88 17 = 0 ∧ σ7 88 17 = σ 88 17) := q8_0
      replace q8_1 : (¬ (0 : Int) = 0 ∧ σ7 88 17 = σ 88 17 ∧ σ7 88 18 = σ 88 18) ∨ ((0 : Int) = 0 ∧ σ 88 17 = 0 ∧ σ7 88 17 = (2 : Int) ∧ σ7 88 18 = σ 88 14) ∨ ((0 : Int) = 0 ∧ ¬ σ 88 17 = 0 ∧ σ7 88 17 = σ 88 17 ∧ σ7 88 18 = σ 88 18) := q8_1
      replace q8_2 : aM σ7 = need (decide (¬ (0 : Int) = 0)) (2 : Int) (aM σ) := q8_2
      have hFσ7 : tw_F (fun c j => (c = 88 ∧ (j = 17 ∨ j = 18))) σ σ7 := tw_F_tr (tw_F_rf) hGσ7 (fun c j q => (show (c = 88 ∧ (j = 17 ∨ j = 18)) from by replace q : (c = 88 ∧ (j = 17 ∨ j = 18)) := q; omega))
      refine j_st (st' := []) rfl ?_
      have c1 : aM σ7 = need (decide ((aM σ) 2 = 2)) 2 (aM σ) := (q8_2).trans (need_cg (fun h4 => by rw [aM_4] at h4; rw [aM_2 h4]; exact (decide_eq_decide.mpr (by constructor <;> intro z <;> (first | omega | exact ⟨by omega, by omega⟩)))))
      have y10 : σ7 88 16 = σ 88 16 := (hGσ7 88 16 (show ¬ ((88 = 88 ∧ (16 = 17 ∨ 16 = 18))) from by omega))
      have y11 : σ7 88 15 = σ 88 15 := (hGσ7 88 15 (show ¬ ((88 = 88 ∧ (15 = 17 ∨ 15 = 18))) from by omega))
      skip
      refine j_aload_n (pc := 25) dX12_isNumber_25 rfl rfl ?_
      refine j_getI (pc := 26) fl_X12_91 dX12_isNumber_26 (a_88 hM) rfl ?_
      have f12 : (0 : Int) ≤ σ7 88 17 ∧ σ7 88 17 ≤ 5 := hIσ7 88 17
      refine j_ifR_ne (pc := 29) (tgt := 49) ⟨by omega, by omega⟩ dX12_isNumber_29 rfl (fun h13 => ?_) (fun h13 => ?_)
      · exact j_vret (pc := 49) ⟨rfl, rfl⟩ dX12_isNumber_49 rfl ⟨rfl, hIσ7, hFσ7, by omega, (by first | exact cc | exact aM_num_no (by omega) | (unfold numS; rw [← c1]; exact (need_pF (by rw [aM_4]; omega)).symm))⟩
      · refine j_aload_n (pc := 32) dX12_isNumber_32 rfl rfl ?_
        refine j_aload_n (pc := 33) dX12_isNumber_33 rfl rfl ?_
        refine j_getI (pc := 34) fl_X12_126 dX12_isNumber_34 (a_88 hM) rfl ?_
        refine j_topV (show σ7 88 16 = σ 88 16 from (hGσ7 88 16 (show ¬ ((88 = 88 ∧ (16 = 17 ∨ 16 = 18))) from by omega))) ?_
        have f14 : (-2147483648 : Int) ≤ σ 88 16 ∧ σ 88 16 ≤ 2147483647 := hI 88 16
        refine j_i2l (pc := 37) dX12_isNumber_37 ?_
        rw [w32_eq (a := σ 88 16) (by omega) (by omega)]
        refine j_iload_n (pc := 38) dX12_isNumber_38 rfl rfl ?_
        refine j_i2l (pc := 39) dX12_isNumber_39 ?_
        rw [w32_eq (a := a) (by omega) (by omega)]
        refine j_iload_n (pc := 40) dX12_isNumber_40 rfl rfl ?_
        refine j_i2l (pc := 41) dX12_isNumber_41 ?_
        rw [w32_eq (a := b) (by omega) (by omega)]
        refine j_callS (pc := 42) (As := [vL (σ 88 16), vL a, vL b]) (st := [vR 88]) (c_X12_in (σ 88 16) ⟨by omega, by omega⟩ a ⟨by omega, by omega⟩ b ⟨by omega, by omega⟩ σ7 hIσ7) ms_X12_82 rfl dX12_isNumber_42 ⟨Nat.le_of_ble_eq_true rfl, Nat.le_of_ble_eq_true rfl⟩ ⟨Nat.le_refl _, Nat.le_refl _⟩ rfl (Nat.le_of_ble_eq_true rfl) rfl (fun z15 σ16 hz15 => ?_)
        obtain ⟨r18, rfl, hr18, rfl, q17_0⟩ := hz15
        replace q17_0 : (r18 = 1 ∧ a ≤ (σ 88 16) ∧ (σ 88 16) ≤ b) ∨ (r18 = 0 ∧ ¬ (a ≤ (σ 88 16) ∧ (σ 88 16) ≤ b)) := q17_0
        refine j_st (st' := [vI r18, vR 88]) rfl ?_
        refine j_iconst (pc := 45) dX12_isNumber_45 ?_
        refine j_callV (pc := 46) (As := [vI r18, vI 3]) (st := []) (c_X12_needs hM r18 ⟨by omega, by omega⟩ 3 ⟨by omega, by omega⟩ σ7 hIσ7) mv_X12_129 rfl rfl rfl (a_88 hM) dX12_isNumber_46 ⟨Nat.le_of_ble_eq_true rfl, Nat.le_of_ble_eq_true rfl⟩ ⟨Nat.le_refl _, Nat.le_refl _⟩ rfl (Nat.le_of_ble_eq_true rfl) rfl (fun z19 σ20 hz19 => ?_)
        obtain ⟨rfl, hIσ20, hGσ20, q21_0, q21_1, q21_2⟩ := hz19
        replace q21_0 : (¬ r18 = 0 ∧ σ20 88 17 = σ7 88 17) ∨ (r18 = 0 ∧ σ7 88 17 = 0 ∧ σ20 88 17 = (3 : Int)) ∨ (r18 = 0 ∧ ¬ σ7 88 17 = 0 ∧ σ20 88 17 = σ7 88 17) := q21_0
        replace q21_1 : (¬ r18 = 0 ∧ σ20 88 17 = σ7 88 17 ∧ σ20 88 18 = σ7 88 18) ∨ (r18 = 0 ∧ σ7 88 17 = 0 ∧ σ20 88 17 = (3 : Int) ∧ σ20 88 18 = σ7 88 14) ∨ (r18 = 0 ∧ ¬ σ7 88 17 = 0 ∧ σ20 88 17 = σ7 88 17 ∧ σ20 88 18 = σ7 88 18) := q21_1
        have y23 : σ7 88 14 = σ 88 14 := (hGσ7 88 14 (show ¬ ((88 = 88 ∧ (14 = 17 ∨ 14 = 18))) from by omega))
        have f24 : (0 : Int) ≤ σ 88 14 ∧ σ 88 14 ≤ 400 := hI 88 14
        replace q21_2 : aM σ20 = need (decide (¬ r18 = 0)) (3 : Int) (aM σ7) := q21_2
        have hFσ20 : tw_F (fun c j => (c = 88 ∧ (j = 17 ∨ j = 18))) σ σ20 := tw_F_tr hFσ7 hGσ20 (fun c j q => (show (c = 88 ∧ (j = 17 ∨ j = 18)) from by replace q : (c = 88 ∧ (j = 17 ∨ j = 18)) := q; omega))
        refine j_st (st' := []) rfl ?_
        have cc : aM σ20 = numS a b (aM σ) := by unfold numS; rw [← c1]; exact (q21_2).trans (need_cg (fun h4 => by rw [aM_4] at h4; rw [aM_3 h4 (by omega)]; exact (decide_eq_decide.mpr (by constructor <;> intro z <;> (first | omega | exact ⟨by omega, by omega⟩)))))
        exact j_vret (pc := 49) ⟨rfl, rfl⟩ dX12_isNumber_49 rfl ⟨rfl, hIσ20, hFσ20, by omega, (by first | exact cc | exact aM_num_no (by omega) | (unfold numS; rw [← c1]; exact (need_pF (by rw [aM_4]; omega)).symm))⟩
    · refine j_iconst (pc := 16) dX12_isNumber_16 ?_
      refine j_goto (pc := 17) (tgt := 21) dX12_isNumber_17 rfl ?_
      refine j_iconst (pc := 21) dX12_isNumber_21 ?_
      refine j_callV (pc := 22) (As := [vI 1, vI 2]) (st := []) (c_X12_needs hM 1 ⟨by omega, by omega⟩ 2 ⟨by omega, by omega⟩ σ hI) mv_X12_129 rfl rfl rfl (a_88 hM) dX12_isNumber_22 ⟨Nat.le_of_ble_eq_true rfl, Nat.le_of_ble_eq_true rfl⟩ ⟨Nat.le_refl _, Nat.le_refl _⟩ rfl (Nat.le_of_ble_eq_true rfl) rfl (fun z25 σ26 hz25 => ?_)
      obtain ⟨rfl, hIσ26, hGσ26, q27_0, q27_1, q27_2⟩ := hz25
      replace q27_0 : (¬ (1 : Int) = 0 ∧ σ26 88 17 = σ 88 17) ∨ ((1 : Int) = 0 ∧ σ 88 17 = 0 ∧ σ26 88 17 = (2 : Int)) ∨ ((1 : Int) = 0 ∧ ¬ σ 88 17 = 0 ∧ σ26 88 17 = σ 88 17) := q27_0
      replace q27_1 : (¬ (1 : Int) = 0 ∧ σ26 88 17 = σ 88 17 ∧ σ26 88 18 = σ 88 18) ∨ ((1 : Int) = 0 ∧ σ 88 17 = 0 ∧ σ26 88 17 = (2 : Int) ∧ σ26 88 18 = σ 88 14) ∨ ((1 : Int) = 0 ∧ ¬ σ 88 17 = 0 ∧ σ26 88 17 = σ 88 17 ∧ σ26 88 18 = σ 88 18) := q27_1
      replace q27_2 : aM σ26 = need (decide (¬ (1 : Int) = 0)) (2 : Int) (aM σ) := q27_2
      have hFσ26 : tw_F (fun c j => (c = 88 ∧ (j = 17 ∨ j = 18))) σ σ26 := tw_F_tr (tw_F_rf) hGσ26 (fun c j q => (show (c = 88 ∧ (j = 17 ∨ j = 18)) from by replace q : (c = 88 ∧ (j = 17 ∨ j = 18)) := q; omega))
      refine j_st (st' := []) rfl ?_
      have c1 : aM σ26 = need (decide ((aM σ) 2 = 2)) 2 (aM σ) := (q27_2).trans (need_cg (fun h4 => by rw [aM_4] at h4; rw [aM_2 h4]; exact (decide_eq_decide.mpr (by constructor <;> intro z <;> (first | omega | exact ⟨by omega, by omega⟩)))))
      have y29 : σ26 88 16 = σ 88 16 := (hGσ26 88 16 (show ¬ ((88 = 88 ∧ (16 = 17 ∨ 16 = 18))) from by omega))
      have y30 : σ26 88 15 = σ 88 15 := (hGσ26 88 15 (show ¬ ((88 = 88 ∧ (15 = 17 ∨ 15 = 18))) from by omega))
      skip
      refine j_aload_n (pc := 25) dX12_isNumber_25 rfl rfl ?_
      refine j_getI (pc := 26) fl_X12_91 dX12_isNumber_26 (a_88 hM) rfl ?_
      have f31 : (0 : Int) ≤ σ26 88 17 ∧ σ26 88 17 ≤ 5 := hIσ26 88 17
      refine j_ifR_ne (pc := 29) (tgt := 49) ⟨by omega, by omega⟩ dX12_isNumber_29 rfl (fun h32 => ?_) (fun h32 => ?_)
      · exact j_vret (pc := 49) ⟨rfl, rfl⟩ dX12_isNumber_49 rfl ⟨rfl, hIσ26, hFσ26, by omega, (by first | exact cc | exact aM_num_no (by omega) | (unfold numS; rw [← c1]; exact (need_pF (by rw [aM_4]; omega)).symm))⟩
      · refine j_aload_n (pc := 32) dX12_isNumber_32 rfl rfl ?_
        refine j_aload_n (pc := 33) dX12_isNumber_33 rfl rfl ?_
        refine j_getI (pc := 34) fl_X12_126 dX12_isNumber_34 (a_88 hM) rfl ?_
        refine j_topV (show σ26 88 16 = σ 88 16 from (hGσ26 88 16 (show ¬ ((88 = 88 ∧ (16 = 17 ∨ 16 = 18))) from by omega))) ?_
        have f33 : (-2147483648 : Int) ≤ σ 88 16 ∧ σ 88 16 ≤ 2147483647 := hI 88 16
        refine j_i2l (pc := 37) dX12_isNumber_37 ?_
        rw [w32_eq (a := σ 88 16) (by omega) (by omega)]
        refine j_iload_n (pc := 38) dX12_isNumber_38 rfl rfl ?_
        refine j_i2l (pc := 39) dX12_isNumber_39 ?_
        rw [w32_eq (a := a) (by omega) (by omega)]
        refine j_iload_n (pc := 40) dX12_isNumber_40 rfl rfl ?_
        refine j_i2l (pc := 41) dX12_isNumber_41 ?_
        rw [w32_eq (a := b) (by omega) (by omega)]
        refine j_callS (pc := 42) (As := [vL (σ 88 16), vL a, vL b]) (st := [vR 88]) (c_X12_in (σ 88 16) ⟨by omega, by omega⟩ a ⟨by omega, by omega⟩ b ⟨by omega, by omega⟩ σ26 hIσ26) ms_X12_82 rfl dX12_isNumber_42 ⟨Nat.le_of_ble_eq_true rfl, Nat.le_of_ble_eq_true rfl⟩ ⟨Nat.le_refl _, Nat.le_refl _⟩ rfl (Nat.le_of_ble_eq_true rfl) rfl (fun z34 σ35 hz34 => ?_)
        obtain ⟨r37, rfl, hr37, rfl, q36_0⟩ := hz34
        replace q36_0 : (r37 = 1 ∧ a ≤ (σ 88 16) ∧ (σ 88 16) ≤ b) ∨ (r37 = 0 ∧ ¬ (a ≤ (σ 88 16) ∧ (σ 88 16) ≤ b)) := q36_0
        refine j_st (st' := [vI r37, vR 88]) rfl ?_
        refine j_iconst (pc := 45) dX12_isNumber_45 ?_
        refine j_callV (pc := 46) (As := [vI r37, vI 3]) (st := []) (c_X12_needs hM r37 ⟨by omega, by omega⟩ 3 ⟨by omega, by omega⟩ σ26 hIσ26) mv_X12_129 rfl rfl rfl (a_88 hM) dX12_isNumber_46 ⟨Nat.le_of_ble_eq_true rfl, Nat.le_of_ble_eq_true rfl⟩ ⟨Nat.le_refl _, Nat.le_refl _⟩ rfl (Nat.le_of_ble_eq_true rfl) rfl (fun z38 σ39 hz38 => ?_)
        obtain ⟨rfl, hIσ39, hGσ39, q40_0, q40_1, q40_2⟩ := hz38
        replace q40_0 : (¬ r37 = 0 ∧ σ39 88 17 = σ26 88 17) ∨ (r37 = 0 ∧ σ26 88 17 = 0 ∧ σ39 88 17 = (3 : Int)) ∨ (r37 = 0 ∧ ¬ σ26 88 17 = 0 ∧ σ39 88 17 = σ26 88 17) := q40_0
        replace q40_1 : (¬ r37 = 0 ∧ σ39 88 17 = σ26 88 17 ∧ σ39 88 18 = σ26 88 18) ∨ (r37 = 0 ∧ σ26 88 17 = 0 ∧ σ39 88 17 = (3 : Int) ∧ σ39 88 18 = σ26 88 14) ∨ (r37 = 0 ∧ ¬ σ26 88 17 = 0 ∧ σ39 88 17 = σ26 88 17 ∧ σ39 88 18 = σ26 88 18) := q40_1
        have y42 : σ26 88 14 = σ 88 14 := (hGσ26 88 14 (show ¬ ((88 = 88 ∧ (14 = 17 ∨ 14 = 18))) from by omega))
        have f43 : (0 : Int) ≤ σ 88 14 ∧ σ 88 14 ≤ 400 := hI 88 14
        replace q40_2 : aM σ39 = need (decide (¬ r37 = 0)) (3 : Int) (aM σ26) := q40_2
        have hFσ39 : tw_F (fun c j => (c = 88 ∧ (j = 17 ∨ j = 18))) σ σ39 := tw_F_tr hFσ26 hGσ39 (fun c j q => (show (c = 88 ∧ (j = 17 ∨ j = 18)) from by replace q : (c = 88 ∧ (j = 17 ∨ j = 18)) := q; omega))
        refine j_st (st' := []) rfl ?_
        have cc : aM σ39 = numS a b (aM σ) := by unfold numS; rw [← c1]; exact (q40_2).trans (need_cg (fun h4 => by rw [aM_4] at h4; rw [aM_3 h4 (by omega)]; exact (decide_eq_decide.mpr (by constructor <;> intro z <;> (first | omega | exact ⟨by omega, by omega⟩)))))
        exact j_vret (pc := 49) ⟨rfl, rfl⟩ dX12_isNumber_49 rfl ⟨rfl, hIσ39, hFσ39, by omega, (by first | exact cc | exact aM_num_no (by omega) | (unfold numS; rw [← c1]; exact (need_pF (by rw [aM_4]; omega)).symm))⟩
abbrev q_X12_readNumber (a : Int) (b : Int) (σ : tw_M) : Option tw_V → tw_M → Prop := fun z τ => ∃ r : Int, z = some (vI r) ∧ (-2147483648 ≤ r ∧ r ≤ 2147483647) ∧ tw_I τ ∧ tw_F (fun c j => (c = 88 ∧ (j = 13 ∨ j = 14 ∨ j = 15 ∨ j = 16 ∨ j = 17 ∨ j = 18))) σ τ ∧ (¬ τ 88 17 = 0 ∨ (σ 88 17 = 0 ∧ a ≤ r ∧ r ≤ b)) ∧ (σ 88 13 ≤ τ 88 13) ∧ (¬ τ 88 17 = 0 ∨ τ 88 15 = 0 ∨ σ 88 13 < τ 88 13) ∧ (aM τ = tok (fM σ) (numS a b (aM σ))) ∧ ((aM τ) 4 = 0 → r = (numS a b (aM σ)) 3)
set_option maxHeartbeats 4000000 in
set_option maxRecDepth 100000 in
theorem c_X12_readNumber {G : tw_G} (hM : tw_isM G) (a : Int) (ha : -2147483648 ≤ a ∧ a ≤ 2147483647) (b : Int) (hb : -2147483648 ≤ b ∧ b ≤ 2147483647) (σ : tw_M) (hI : tw_I σ) : tw_C G yX12_readNumber cX12_readNumber 4 (some .int) 2 [vR 88, vI a, vI b] σ (q_X12_readNumber a b σ) := by
  refine tw_met [(0, vR 88), (1, vI a), (2, vI b)] (by decide +kernel) rfl (Nat.le_of_ble_eq_true rfl) ?_
  refine j_aload_n (pc := 0) dX12_readNumber_0 rfl rfl ?_
  refine j_iload_n (pc := 1) dX12_readNumber_1 rfl rfl ?_
  refine j_iload_n (pc := 2) dX12_readNumber_2 rfl rfl ?_
  refine j_callV (pc := 3) (As := [vI a, vI b]) (st := []) (c_X12_isNumber hM a ⟨by omega, by omega⟩ b ⟨by omega, by omega⟩ σ hI) mv_X12_133 rfl rfl rfl (a_88 hM) dX12_readNumber_3 ⟨Nat.le_of_ble_eq_true rfl, Nat.le_of_ble_eq_true rfl⟩ ⟨Nat.le_refl _, Nat.le_refl _⟩ rfl (Nat.le_of_ble_eq_true rfl) rfl (fun z1 σ2 hz1 => ?_)
  obtain ⟨rfl, hIσ2, hGσ2, q3_0, q3_1⟩ := hz1
  replace q3_0 : ¬ σ2 88 17 = 0 ∨ (σ 88 17 = 0 ∧ a ≤ σ 88 16 ∧ σ 88 16 ≤ b) := q3_0
  replace q3_1 : aM σ2 = numS a b (aM σ) := q3_1
  have hFσ2 : tw_F (fun c j => (c = 88 ∧ (j = 13 ∨ j = 14 ∨ j = 15 ∨ j = 16 ∨ j = 17 ∨ j = 18))) σ σ2 := tw_F_tr (tw_F_rf) hGσ2 (fun c j q => (show (c = 88 ∧ (j = 13 ∨ j = 14 ∨ j = 15 ∨ j = 16 ∨ j = 17 ∨ j = 18)) from by replace q : (c = 88 ∧ (j = 17 ∨ j = 18)) := q; omega))
  refine j_st (st' := []) rfl ?_
  have c1 := q3_1
  have y5 : σ2 88 16 = σ 88 16 := (hGσ2 88 16 (show ¬ ((88 = 88 ∧ (16 = 17 ∨ 16 = 18))) from by omega))
  refine j_aload_n (pc := 6) dX12_readNumber_6 rfl rfl ?_
  refine j_getI (pc := 7) fl_X12_126 dX12_readNumber_7 (a_88 hM) rfl ?_
  refine j_topV (show σ2 88 16 = σ 88 16 from (hGσ2 88 16 (show ¬ ((88 = 88 ∧ (16 = 17 ∨ 16 = 18))) from by omega))) ?_
  have f6 : (-2147483648 : Int) ≤ σ 88 16 ∧ σ 88 16 ≤ 2147483647 := hI 88 16
  refine j_istore_n (pc := 10) (i := 3) (ls' := [(0, vR 88), (3, vI (σ 88 16))]) [1, 0] dX12_readNumber_10 rfl (Nat.le_of_ble_eq_true rfl) rfl rfl ?_
  refine j_aload_n (pc := 11) dX12_readNumber_11 rfl rfl ?_
  have fz : fM σ2 = fM σ := fM_F (hFσ2 88 12 (show ¬ ((88 = 88 ∧ (12 = 13 ∨ 12 = 14 ∨ 12 = 15 ∨ 12 = 16 ∨ 12 = 17 ∨ 12 = 18))) from by omega)) (fun j => hFσ2 98 j (show ¬ ((98 = 88 ∧ (j = 13 ∨ j = 14 ∨ j = 15 ∨ j = 16 ∨ j = 17 ∨ j = 18))) from by omega))
  refine j_callV (pc := 12) (As := []) (st := []) (c_X12_next hM σ2 hIσ2) mv_X12_137 rfl rfl rfl (a_88 hM) dX12_readNumber_12 ⟨Nat.le_of_ble_eq_true rfl, Nat.le_of_ble_eq_true rfl⟩ ⟨Nat.le_refl _, Nat.le_refl _⟩ rfl (Nat.le_of_ble_eq_true rfl) rfl (fun z7 σ8 hz7 => ?_)
  obtain ⟨rfl, hIσ8, hGσ8, q9_0, q9_1, q9_2, q9_3⟩ := hz7
  replace q9_0 : ¬ σ8 88 17 = 0 ∨ σ2 88 17 = 0 := q9_0
  replace q9_1 : σ2 88 13 ≤ σ8 88 13 := q9_1
  have y11 : σ2 88 13 = σ 88 13 := (hGσ2 88 13 (show ¬ ((88 = 88 ∧ (13 = 17 ∨ 13 = 18))) from by omega))
  have f12 : (0 : Int) ≤ σ 88 13 ∧ σ 88 13 ≤ 400 := hI 88 13
  replace q9_2 : ¬ σ8 88 17 = 0 ∨ σ8 88 15 = 0 ∨ σ2 88 13 < σ8 88 13 := q9_2
  have y13 : σ2 88 13 = σ 88 13 := (hGσ2 88 13 (show ¬ ((88 = 88 ∧ (13 = 17 ∨ 13 = 18))) from by omega))
  replace q9_3 : aM σ8 = tok (fM σ2) (aM σ2) := q9_3
  have hFσ8 : tw_F (fun c j => (c = 88 ∧ (j = 13 ∨ j = 14 ∨ j = 15 ∨ j = 16 ∨ j = 17 ∨ j = 18))) σ σ8 := tw_F_tr hFσ2 hGσ8 (fun c j q => (show (c = 88 ∧ (j = 13 ∨ j = 14 ∨ j = 15 ∨ j = 16 ∨ j = 17 ∨ j = 18)) from by replace q : (c = 88 ∧ (j = 13 ∨ j = 14 ∨ j = 15 ∨ j = 16 ∨ j = 17 ∨ j = 18)) := q; omega))
  refine j_st (st' := []) rfl ?_
  have c2 := q9_3; rw [fz, c1] at c2
  refine j_iload_n (pc := 15) dX12_readNumber_15 rfl rfl ?_
  exact j_iret (pc := 16) ⟨rfl, rfl⟩ dX12_readNumber_16 rfl ⟨_, rfl, ⟨by omega, by omega⟩, hIσ8, hFσ8, by omega, by omega, by omega, c2, (aM_rv c2 (by omega))⟩
