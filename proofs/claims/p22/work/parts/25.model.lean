/-! 25.model -/
theorem dX12_likely_0 : decode cX12_likely 0 = .ok (.lconst 1, 1) := by decide +kernel
theorem dX12_likely_1 : decode cX12_likely 1 = .ok (.lstore_n 2, 1) := by decide +kernel
theorem dX12_likely_2 : decode cX12_likely 2 = .ok (.aload_n 0, 1) := by decide +kernel
theorem dX12_likely_3 : decode cX12_likely 3 = .ok (.iconst 0, 1) := by decide +kernel
theorem dX12_likely_4 : decode cX12_likely 4 = .ok (.invokevirtual 192, 3) := by decide +kernel
theorem dX12_likely_7 : decode cX12_likely 7 = .ok (.istore 4, 2) := by decide +kernel
theorem dX12_likely_9 : decode cX12_likely 9 = .ok (.iconst 0, 1) := by decide +kernel
theorem dX12_likely_10 : decode cX12_likely 10 = .ok (.istore 5, 2) := by decide +kernel
theorem dX12_likely_12 : decode cX12_likely 12 = .ok (.iload 5, 2) := by decide +kernel
theorem dX12_likely_14 : decode cX12_likely 14 = .ok (.iload 4, 2) := by decide +kernel
theorem dX12_likely_16 : decode cX12_likely 16 = .ok (.if_icmp .ge 47, 3) := by decide +kernel
theorem dX12_likely_19 : decode cX12_likely 19 = .ok (.aload_n 0, 1) := by decide +kernel
theorem dX12_likely_20 : decode cX12_likely 20 = .ok (.aload_n 0, 1) := by decide +kernel
theorem dX12_likely_21 : decode cX12_likely 21 = .ok (.iconst 0, 1) := by decide +kernel
theorem dX12_likely_22 : decode cX12_likely 22 = .ok (.iload 5, 2) := by decide +kernel
theorem dX12_likely_24 : decode cX12_likely 24 = .ok (.invokevirtual 198, 3) := by decide +kernel
theorem dX12_likely_27 : decode cX12_likely 27 = .ok (.invokevirtual 207, 3) := by decide +kernel
theorem dX12_likely_30 : decode cX12_likely 30 = .ok (.istore 6, 2) := by decide +kernel
theorem dX12_likely_32 : decode cX12_likely 32 = .ok (.lload_n 2, 1) := by decide +kernel
theorem dX12_likely_33 : decode cX12_likely 33 = .ok (.iload_n 1, 1) := by decide +kernel
theorem dX12_likely_34 : decode cX12_likely 34 = .ok (.iload 5, 2) := by decide +kernel
theorem dX12_likely_36 : decode cX12_likely 36 = .ok (.ishr, 1) := by decide +kernel
theorem dX12_likely_37 : decode cX12_likely 37 = .ok (.iconst 1, 1) := by decide +kernel
theorem dX12_likely_38 : decode cX12_likely 38 = .ok (.iand, 1) := by decide +kernel
theorem dX12_likely_39 : decode cX12_likely 39 = .ok (.iconst 1, 1) := by decide +kernel
theorem dX12_likely_40 : decode cX12_likely 40 = .ok (.if_icmp .ne 9, 3) := by decide +kernel
theorem dX12_likely_43 : decode cX12_likely 43 = .ok (.iload 6, 2) := by decide +kernel
theorem dX12_likely_45 : decode cX12_likely 45 = .ok (.i2l, 1) := by decide +kernel
theorem dX12_likely_46 : decode cX12_likely 46 = .ok (.goto 9, 3) := by decide +kernel
theorem dX12_likely_49 : decode cX12_likely 49 = .ok (.bipush 20, 2) := by decide +kernel
theorem dX12_likely_51 : decode cX12_likely 51 = .ok (.iload 6, 2) := by decide +kernel
theorem dX12_likely_53 : decode cX12_likely 53 = .ok (.isub, 1) := by decide +kernel
theorem dX12_likely_54 : decode cX12_likely 54 = .ok (.i2l, 1) := by decide +kernel
theorem dX12_likely_55 : decode cX12_likely 55 = .ok (.lmul, 1) := by decide +kernel
theorem dX12_likely_56 : decode cX12_likely 56 = .ok (.lstore_n 2, 1) := by decide +kernel
theorem dX12_likely_57 : decode cX12_likely 57 = .ok (.iinc 5 1, 3) := by decide +kernel
theorem dX12_likely_60 : decode cX12_likely 60 = .ok (.goto (-48), 3) := by decide +kernel
theorem dX12_likely_63 : decode cX12_likely 63 = .ok (.lload_n 2, 1) := by decide +kernel
theorem dX12_likely_64 : decode cX12_likely 64 = .ok (.lreturn, 1) := by decide +kernel
theorem dX12_whole_0 : decode cX12_whole 0 = .ok (.lconst 1, 1) := by decide +kernel
theorem dX12_whole_1 : decode cX12_whole 1 = .ok (.lstore_n 1, 1) := by decide +kernel
theorem dX12_whole_2 : decode cX12_whole 2 = .ok (.iconst 0, 1) := by decide +kernel
theorem dX12_whole_3 : decode cX12_whole 3 = .ok (.istore_n 3, 1) := by decide +kernel
theorem dX12_whole_4 : decode cX12_whole 4 = .ok (.iload_n 3, 1) := by decide +kernel
theorem dX12_whole_5 : decode cX12_whole 5 = .ok (.aload_n 0, 1) := by decide +kernel
theorem dX12_whole_6 : decode cX12_whole 6 = .ok (.iconst 0, 1) := by decide +kernel
theorem dX12_whole_7 : decode cX12_whole 7 = .ok (.invokevirtual 192, 3) := by decide +kernel
theorem dX12_whole_10 : decode cX12_whole 10 = .ok (.if_icmp .ge 15, 3) := by decide +kernel
theorem dX12_whole_13 : decode cX12_whole 13 = .ok (.lload_n 1, 1) := by decide +kernel
theorem dX12_whole_14 : decode cX12_whole 14 = .ok (.ldc2_w 166, 3) := by decide +kernel
theorem dX12_whole_17 : decode cX12_whole 17 = .ok (.lmul, 1) := by decide +kernel
theorem dX12_whole_18 : decode cX12_whole 18 = .ok (.lstore_n 1, 1) := by decide +kernel
theorem dX12_whole_19 : decode cX12_whole 19 = .ok (.iinc 3 1, 3) := by decide +kernel
theorem dX12_whole_22 : decode cX12_whole 22 = .ok (.goto (-18), 3) := by decide +kernel
theorem dX12_whole_25 : decode cX12_whole 25 = .ok (.lload_n 1, 1) := by decide +kernel
theorem dX12_whole_26 : decode cX12_whole 26 = .ok (.lreturn, 1) := by decide +kernel
theorem dX12_told_0 : decode cX12_told 0 = .ok (.lload_n 2, 1) := by decide +kernel
theorem dX12_told_1 : decode cX12_told 1 = .ok (.lstore 5, 2) := by decide +kernel
theorem dX12_told_3 : decode cX12_told 3 = .ok (.lload_n 0, 1) := by decide +kernel
theorem dX12_told_4 : decode cX12_told 4 = .ok (.lstore 7, 2) := by decide +kernel
theorem dX12_told_6 : decode cX12_told 6 = .ok (.lload 7, 2) := by decide +kernel
theorem dX12_told_8 : decode cX12_told 8 = .ok (.lconst 0, 1) := by decide +kernel
theorem dX12_told_9 : decode cX12_told 9 = .ok (.lcmp, 1) := by decide +kernel
theorem dX12_told_10 : decode cX12_told 10 = .ok (.ifCond .eq 21, 3) := by decide +kernel
theorem dX12_told_13 : decode cX12_told 13 = .ok (.lload 5, 2) := by decide +kernel
theorem dX12_told_15 : decode cX12_told 15 = .ok (.lload 7, 2) := by decide +kernel
theorem dX12_told_17 : decode cX12_told 17 = .ok (.lrem, 1) := by decide +kernel
theorem dX12_told_18 : decode cX12_told 18 = .ok (.lstore 9, 2) := by decide +kernel
theorem dX12_told_20 : decode cX12_told 20 = .ok (.lload 7, 2) := by decide +kernel
theorem dX12_told_22 : decode cX12_told 22 = .ok (.lstore 5, 2) := by decide +kernel
theorem dX12_told_24 : decode cX12_told 24 = .ok (.lload 9, 2) := by decide +kernel
theorem dX12_told_26 : decode cX12_told 26 = .ok (.lstore 7, 2) := by decide +kernel
theorem dX12_told_28 : decode cX12_told 28 = .ok (.goto (-22), 3) := by decide +kernel
theorem dX12_told_31 : decode cX12_told 31 = .ok (.iload 4, 2) := by decide +kernel
theorem dX12_told_33 : decode cX12_told 33 = .ok (.ifCond .ne 10, 3) := by decide +kernel
theorem dX12_told_36 : decode cX12_told 36 = .ok (.lload_n 0, 1) := by decide +kernel
theorem dX12_told_37 : decode cX12_told 37 = .ok (.lload 5, 2) := by decide +kernel
theorem dX12_told_39 : decode cX12_told 39 = .ok (.ldiv, 1) := by decide +kernel
theorem dX12_told_40 : decode cX12_told 40 = .ok (.goto 7, 3) := by decide +kernel
theorem dX12_told_43 : decode cX12_told 43 = .ok (.lload_n 2, 1) := by decide +kernel
theorem dX12_told_44 : decode cX12_told 44 = .ok (.lload 5, 2) := by decide +kernel
theorem dX12_told_46 : decode cX12_told 46 = .ok (.ldiv, 1) := by decide +kernel
theorem dX12_told_47 : decode cX12_told 47 = .ok (.lreturn, 1) := by decide +kernel
theorem dX12_harm_0 : decode cX12_harm 0 = .ok (.aload_n 0, 1) := by decide +kernel
theorem dX12_harm_1 : decode cX12_harm 1 = .ok (.iload_n 1, 1) := by decide +kernel
theorem dX12_harm_2 : decode cX12_harm 2 = .ok (.invokevirtual 175, 3) := by decide +kernel
theorem dX12_harm_5 : decode cX12_harm 5 = .ok (.ifCond .eq 25, 3) := by decide +kernel
theorem dX12_harm_8 : decode cX12_harm 8 = .ok (.iload_n 2, 1) := by decide +kernel
theorem dX12_harm_9 : decode cX12_harm 9 = .ok (.i2l, 1) := by decide +kernel
theorem dX12_harm_10 : decode cX12_harm 10 = .ok (.lconst 1, 1) := by decide +kernel
theorem dX12_harm_11 : decode cX12_harm 11 = .ok (.ldc2_w 255, 3) := by decide +kernel
theorem dX12_harm_14 : decode cX12_harm 14 = .ok (.invokestatic 82, 3) := by decide +kernel
theorem dX12_harm_17 : decode cX12_harm 17 = .ok (.ifCond .eq 13, 3) := by decide +kernel
theorem dX12_harm_20 : decode cX12_harm 20 = .ok (.iload_n 3, 1) := by decide +kernel
theorem dX12_harm_21 : decode cX12_harm 21 = .ok (.i2l, 1) := by decide +kernel
theorem dX12_harm_22 : decode cX12_harm 22 = .ok (.lconst 0, 1) := by decide +kernel
theorem dX12_harm_23 : decode cX12_harm 23 = .ok (.lconst 1, 1) := by decide +kernel
theorem dX12_harm_24 : decode cX12_harm 24 = .ok (.invokestatic 82, 3) := by decide +kernel
theorem dX12_harm_27 : decode cX12_harm 27 = .ok (.ifCond .ne 7, 3) := by decide +kernel
theorem dX12_harm_30 : decode cX12_harm 30 = .ok (.ldc2_w 257, 3) := by decide +kernel
theorem dX12_harm_33 : decode cX12_harm 33 = .ok (.lreturn, 1) := by decide +kernel
theorem dX12_harm_34 : decode cX12_harm 34 = .ok (.lconst 0, 1) := by decide +kernel
theorem dX12_harm_35 : decode cX12_harm 35 = .ok (.lstore 4, 2) := by decide +kernel
theorem dX12_harm_37 : decode cX12_harm 37 = .ok (.iconst 0, 1) := by decide +kernel
theorem dX12_harm_38 : decode cX12_harm 38 = .ok (.istore 6, 2) := by decide +kernel
theorem dX12_harm_40 : decode cX12_harm 40 = .ok (.iload 6, 2) := by decide +kernel
theorem dX12_harm_42 : decode cX12_harm 42 = .ok (.iconst 1, 1) := by decide +kernel
theorem dX12_harm_43 : decode cX12_harm 43 = .ok (.aload_n 0, 1) := by decide +kernel
theorem dX12_harm_44 : decode cX12_harm 44 = .ok (.iconst 0, 1) := by decide +kernel
theorem dX12_harm_45 : decode cX12_harm 45 = .ok (.invokevirtual 192, 3) := by decide +kernel
theorem dX12_harm_48 : decode cX12_harm 48 = .ok (.ishl, 1) := by decide +kernel
theorem dX12_harm_49 : decode cX12_harm 49 = .ok (.if_icmp .ge 41, 3) := by decide +kernel
theorem dX12_harm_52 : decode cX12_harm 52 = .ok (.aload_n 0, 1) := by decide +kernel
theorem dX12_harm_53 : decode cX12_harm 53 = .ok (.iconst 0, 1) := by decide +kernel
theorem dX12_harm_54 : decode cX12_harm 54 = .ok (.iload_n 1, 1) := by decide +kernel
theorem dX12_harm_55 : decode cX12_harm 55 = .ok (.iload 6, 2) := by decide +kernel
theorem dX12_harm_57 : decode cX12_harm 57 = .ok (.invokevirtual 245, 3) := by decide +kernel
theorem dX12_harm_60 : decode cX12_harm 60 = .ok (.lload 4, 2) := by decide +kernel
theorem dX12_harm_62 : decode cX12_harm 62 = .ok (.aload_n 0, 1) := by decide +kernel
theorem dX12_harm_63 : decode cX12_harm 63 = .ok (.iload_n 1, 1) := by decide +kernel
theorem dX12_harm_64 : decode cX12_harm 64 = .ok (.invokevirtual 252, 3) := by decide +kernel
theorem dX12_harm_67 : decode cX12_harm 67 = .ok (.iload_n 2, 1) := by decide +kernel
theorem dX12_harm_68 : decode cX12_harm 68 = .ok (.if_icmp .lt 12, 3) := by decide +kernel
theorem dX12_harm_71 : decode cX12_harm 71 = .ok (.aload_n 0, 1) := by decide +kernel
theorem dX12_harm_72 : decode cX12_harm 72 = .ok (.iload 6, 2) := by decide +kernel
theorem dX12_harm_74 : decode cX12_harm 74 = .ok (.invokevirtual 259, 3) := by decide +kernel
theorem dX12_harm_77 : decode cX12_harm 77 = .ok (.goto 4, 3) := by decide +kernel
theorem dX12_harm_80 : decode cX12_harm 80 = .ok (.lconst 0, 1) := by decide +kernel
theorem dX12_harm_81 : decode cX12_harm 81 = .ok (.ladd, 1) := by decide +kernel
theorem dX12_harm_82 : decode cX12_harm 82 = .ok (.lstore 4, 2) := by decide +kernel
theorem dX12_harm_84 : decode cX12_harm 84 = .ok (.iinc 6 1, 3) := by decide +kernel
theorem dX12_harm_87 : decode cX12_harm 87 = .ok (.goto (-47), 3) := by decide +kernel
theorem dX12_harm_90 : decode cX12_harm 90 = .ok (.lload 4, 2) := by decide +kernel
theorem dX12_harm_92 : decode cX12_harm 92 = .ok (.aload_n 0, 1) := by decide +kernel
theorem dX12_harm_93 : decode cX12_harm 93 = .ok (.invokevirtual 263, 3) := by decide +kernel
theorem dX12_harm_96 : decode cX12_harm 96 = .ok (.iload_n 3, 1) := by decide +kernel
theorem dX12_harm_97 : decode cX12_harm 97 = .ok (.invokestatic 267, 3) := by decide +kernel
theorem dX12_harm_100 : decode cX12_harm 100 = .ok (.lreturn, 1) := by decide +kernel
theorem dX12_mean_0 : decode cX12_mean 0 = .ok (.aload_n 0, 1) := by decide +kernel
theorem dX12_mean_1 : decode cX12_mean 1 = .ok (.iload_n 1, 1) := by decide +kernel
theorem dX12_mean_2 : decode cX12_mean 2 = .ok (.invokevirtual 175, 3) := by decide +kernel
theorem dX12_mean_5 : decode cX12_mean 5 = .ok (.ifCond .eq 13, 3) := by decide +kernel
theorem dX12_mean_8 : decode cX12_mean 8 = .ok (.iload_n 2, 1) := by decide +kernel
theorem dX12_mean_9 : decode cX12_mean 9 = .ok (.i2l, 1) := by decide +kernel
theorem dX12_mean_10 : decode cX12_mean 10 = .ok (.lconst 0, 1) := by decide +kernel
theorem dX12_mean_11 : decode cX12_mean 11 = .ok (.lconst 1, 1) := by decide +kernel
theorem dX12_mean_12 : decode cX12_mean 12 = .ok (.invokestatic 82, 3) := by decide +kernel
theorem dX12_mean_15 : decode cX12_mean 15 = .ok (.ifCond .ne 7, 3) := by decide +kernel
theorem dX12_mean_18 : decode cX12_mean 18 = .ok (.ldc2_w 257, 3) := by decide +kernel
theorem dX12_mean_21 : decode cX12_mean 21 = .ok (.lreturn, 1) := by decide +kernel
theorem dX12_mean_22 : decode cX12_mean 22 = .ok (.lconst 0, 1) := by decide +kernel
theorem dX12_mean_23 : decode cX12_mean 23 = .ok (.lstore_n 3, 1) := by decide +kernel
theorem dX12_mean_24 : decode cX12_mean 24 = .ok (.iconst 0, 1) := by decide +kernel
theorem dX12_mean_25 : decode cX12_mean 25 = .ok (.istore 5, 2) := by decide +kernel
theorem dX12_mean_27 : decode cX12_mean 27 = .ok (.iload 5, 2) := by decide +kernel
theorem dX12_mean_29 : decode cX12_mean 29 = .ok (.iconst 1, 1) := by decide +kernel
theorem dX12_mean_30 : decode cX12_mean 30 = .ok (.aload_n 0, 1) := by decide +kernel
theorem dX12_mean_31 : decode cX12_mean 31 = .ok (.iconst 0, 1) := by decide +kernel
theorem dX12_mean_32 : decode cX12_mean 32 = .ok (.invokevirtual 192, 3) := by decide +kernel
theorem dX12_mean_35 : decode cX12_mean 35 = .ok (.ishl, 1) := by decide +kernel
theorem dX12_mean_36 : decode cX12_mean 36 = .ok (.if_icmp .ge 33, 3) := by decide +kernel
theorem dX12_mean_39 : decode cX12_mean 39 = .ok (.aload_n 0, 1) := by decide +kernel
theorem dX12_mean_40 : decode cX12_mean 40 = .ok (.iconst 0, 1) := by decide +kernel
theorem dX12_mean_41 : decode cX12_mean 41 = .ok (.iload_n 1, 1) := by decide +kernel
theorem dX12_mean_42 : decode cX12_mean 42 = .ok (.iload 5, 2) := by decide +kernel
theorem dX12_mean_44 : decode cX12_mean 44 = .ok (.invokevirtual 245, 3) := by decide +kernel
theorem dX12_mean_47 : decode cX12_mean 47 = .ok (.lload_n 3, 1) := by decide +kernel
theorem dX12_mean_48 : decode cX12_mean 48 = .ok (.aload_n 0, 1) := by decide +kernel
theorem dX12_mean_49 : decode cX12_mean 49 = .ok (.iload 5, 2) := by decide +kernel
theorem dX12_mean_51 : decode cX12_mean 51 = .ok (.invokevirtual 259, 3) := by decide +kernel
theorem dX12_mean_54 : decode cX12_mean 54 = .ok (.aload_n 0, 1) := by decide +kernel
theorem dX12_mean_55 : decode cX12_mean 55 = .ok (.iload_n 1, 1) := by decide +kernel
theorem dX12_mean_56 : decode cX12_mean 56 = .ok (.invokevirtual 252, 3) := by decide +kernel
theorem dX12_mean_59 : decode cX12_mean 59 = .ok (.i2l, 1) := by decide +kernel
theorem dX12_mean_60 : decode cX12_mean 60 = .ok (.lmul, 1) := by decide +kernel
theorem dX12_mean_61 : decode cX12_mean 61 = .ok (.ladd, 1) := by decide +kernel
theorem dX12_mean_62 : decode cX12_mean 62 = .ok (.lstore_n 3, 1) := by decide +kernel
theorem dX12_mean_63 : decode cX12_mean 63 = .ok (.iinc 5 1, 3) := by decide +kernel
theorem dX12_mean_66 : decode cX12_mean 66 = .ok (.goto (-39), 3) := by decide +kernel
theorem dX12_mean_69 : decode cX12_mean 69 = .ok (.lload_n 3, 1) := by decide +kernel
theorem dX12_mean_70 : decode cX12_mean 70 = .ok (.aload_n 0, 1) := by decide +kernel
theorem dX12_mean_71 : decode cX12_mean 71 = .ok (.invokevirtual 263, 3) := by decide +kernel
theorem dX12_mean_74 : decode cX12_mean 74 = .ok (.iload_n 2, 1) := by decide +kernel
theorem dX12_mean_75 : decode cX12_mean 75 = .ok (.invokestatic 267, 3) := by decide +kernel
theorem dX12_mean_78 : decode cX12_mean 78 = .ok (.lreturn, 1) := by decide +kernel
theorem dX12_riskOf_0 : decode cX12_riskOf 0 = .ok (.iconst 0, 1) := by decide +kernel
theorem dX12_riskOf_1 : decode cX12_riskOf 1 = .ok (.istore_n 2, 1) := by decide +kernel
theorem dX12_riskOf_2 : decode cX12_riskOf 2 = .ok (.aload_n 0, 1) := by decide +kernel
theorem dX12_riskOf_3 : decode cX12_riskOf 3 = .ok (.getfield 17, 3) := by decide +kernel
theorem dX12_riskOf_6 : decode cX12_riskOf 6 = .ok (.bipush 8, 2) := by decide +kernel
theorem dX12_riskOf_8 : decode cX12_riskOf 8 = .ok (.iaload, 1) := by decide +kernel
theorem dX12_riskOf_9 : decode cX12_riskOf 9 = .ok (.iconst 1, 1) := by decide +kernel
theorem dX12_riskOf_10 : decode cX12_riskOf 10 = .ok (.iadd, 1) := by decide +kernel
theorem dX12_riskOf_11 : decode cX12_riskOf 11 = .ok (.istore_n 3, 1) := by decide +kernel
theorem dX12_riskOf_12 : decode cX12_riskOf 12 = .ok (.iload_n 3, 1) := by decide +kernel
theorem dX12_riskOf_13 : decode cX12_riskOf 13 = .ok (.aload_n 0, 1) := by decide +kernel
theorem dX12_riskOf_14 : decode cX12_riskOf 14 = .ok (.getfield 17, 3) := by decide +kernel
theorem dX12_riskOf_17 : decode cX12_riskOf 17 = .ok (.iconst 0, 1) := by decide +kernel
theorem dX12_riskOf_18 : decode cX12_riskOf 18 = .ok (.iaload, 1) := by decide +kernel
theorem dX12_riskOf_19 : decode cX12_riskOf 19 = .ok (.if_icmp .gt 33, 3) := by decide +kernel
theorem dX12_riskOf_22 : decode cX12_riskOf 22 = .ok (.aload_n 0, 1) := by decide +kernel
theorem dX12_riskOf_23 : decode cX12_riskOf 23 = .ok (.iload_n 1, 1) := by decide +kernel
theorem dX12_riskOf_24 : decode cX12_riskOf 24 = .ok (.iload_n 3, 1) := by decide +kernel
theorem dX12_riskOf_25 : decode cX12_riskOf 25 = .ok (.sipush 1023, 3) := by decide +kernel
theorem dX12_riskOf_28 : decode cX12_riskOf 28 = .ok (.invokevirtual 245, 3) := by decide +kernel
theorem dX12_riskOf_31 : decode cX12_riskOf 31 = .ok (.iload_n 2, 1) := by decide +kernel
theorem dX12_riskOf_32 : decode cX12_riskOf 32 = .ok (.aload_n 0, 1) := by decide +kernel
theorem dX12_riskOf_33 : decode cX12_riskOf 33 = .ok (.iload_n 3, 1) := by decide +kernel
theorem dX12_riskOf_34 : decode cX12_riskOf 34 = .ok (.iconst 0, 1) := by decide +kernel
theorem dX12_riskOf_35 : decode cX12_riskOf 35 = .ok (.invokevirtual 184, 3) := by decide +kernel
theorem dX12_riskOf_38 : decode cX12_riskOf 38 = .ok (.aload_n 0, 1) := by decide +kernel
theorem dX12_riskOf_39 : decode cX12_riskOf 39 = .ok (.iload_n 3, 1) := by decide +kernel
theorem dX12_riskOf_40 : decode cX12_riskOf 40 = .ok (.invokevirtual 252, 3) := by decide +kernel
theorem dX12_riskOf_43 : decode cX12_riskOf 43 = .ok (.imul, 1) := by decide +kernel
theorem dX12_riskOf_44 : decode cX12_riskOf 44 = .ok (.iadd, 1) := by decide +kernel
theorem dX12_riskOf_45 : decode cX12_riskOf 45 = .ok (.istore_n 2, 1) := by decide +kernel
theorem dX12_riskOf_46 : decode cX12_riskOf 46 = .ok (.iinc 3 1, 3) := by decide +kernel
theorem dX12_riskOf_49 : decode cX12_riskOf 49 = .ok (.goto (-37), 3) := by decide +kernel
theorem dX12_riskOf_52 : decode cX12_riskOf 52 = .ok (.iload_n 2, 1) := by decide +kernel
theorem dX12_riskOf_53 : decode cX12_riskOf 53 = .ok (.ireturn, 1) := by decide +kernel
theorem dX12_findEffort_0 : decode cX12_findEffort 0 = .ok (.aload_n 0, 1) := by decide +kernel
theorem dX12_findEffort_1 : decode cX12_findEffort 1 = .ok (.iconst 0, 1) := by decide +kernel
theorem dX12_findEffort_2 : decode cX12_findEffort 2 = .ok (.putfield 271, 3) := by decide +kernel
theorem dX12_findEffort_5 : decode cX12_findEffort 5 = .ok (.aload_n 0, 1) := by decide +kernel
theorem dX12_findEffort_6 : decode cX12_findEffort 6 = .ok (.bipush (-4), 2) := by decide +kernel
theorem dX12_findEffort_8 : decode cX12_findEffort 8 = .ok (.putfield 274, 3) := by decide +kernel
theorem dX12_findEffort_11 : decode cX12_findEffort 11 = .ok (.iconst 1, 1) := by decide +kernel
theorem dX12_findEffort_12 : decode cX12_findEffort 12 = .ok (.istore_n 2, 1) := by decide +kernel
theorem dX12_findEffort_13 : decode cX12_findEffort 13 = .ok (.iload_n 2, 1) := by decide +kernel
theorem dX12_findEffort_14 : decode cX12_findEffort 14 = .ok (.aload_n 0, 1) := by decide +kernel
theorem dX12_findEffort_15 : decode cX12_findEffort 15 = .ok (.getfield 17, 3) := by decide +kernel
theorem dX12_findEffort_18 : decode cX12_findEffort 18 = .ok (.iconst 0, 1) := by decide +kernel
theorem dX12_findEffort_19 : decode cX12_findEffort 19 = .ok (.iaload, 1) := by decide +kernel
theorem dX12_findEffort_20 : decode cX12_findEffort 20 = .ok (.if_icmp .gt 110, 3) := by decide +kernel
theorem dX12_findEffort_23 : decode cX12_findEffort 23 = .ok (.aload_n 0, 1) := by decide +kernel
theorem dX12_findEffort_24 : decode cX12_findEffort 24 = .ok (.dup, 1) := by decide +kernel
theorem dX12_findEffort_25 : decode cX12_findEffort 25 = .ok (.getfield 271, 3) := by decide +kernel
theorem dX12_findEffort_28 : decode cX12_findEffort 28 = .ok (.aload_n 0, 1) := by decide +kernel
theorem dX12_findEffort_29 : decode cX12_findEffort 29 = .ok (.iload_n 2, 1) := by decide +kernel
theorem dX12_findEffort_30 : decode cX12_findEffort 30 = .ok (.iconst 0, 1) := by decide +kernel
theorem dX12_findEffort_31 : decode cX12_findEffort 31 = .ok (.invokevirtual 184, 3) := by decide +kernel
theorem dX12_findEffort_34 : decode cX12_findEffort 34 = .ok (.iadd, 1) := by decide +kernel
theorem dX12_findEffort_35 : decode cX12_findEffort 35 = .ok (.putfield 271, 3) := by decide +kernel
theorem dX12_findEffort_38 : decode cX12_findEffort 38 = .ok (.aload_n 0, 1) := by decide +kernel
theorem dX12_findEffort_39 : decode cX12_findEffort 39 = .ok (.dup, 1) := by decide +kernel
theorem dX12_findEffort_40 : decode cX12_findEffort 40 = .ok (.getfield 271, 3) := by decide +kernel
theorem dX12_findEffort_43 : decode cX12_findEffort 43 = .ok (.aload_n 0, 1) := by decide +kernel
theorem dX12_findEffort_44 : decode cX12_findEffort 44 = .ok (.getfield 7, 3) := by decide +kernel
theorem dX12_findEffort_47 : decode cX12_findEffort 47 = .ok (.iload_n 1, 1) := by decide +kernel
theorem dX12_findEffort_48 : decode cX12_findEffort 48 = .ok (.iload_n 2, 1) := by decide +kernel
theorem dX12_findEffort_49 : decode cX12_findEffort 49 = .ok (.iadd, 1) := by decide +kernel
theorem dX12_findEffort_50 : decode cX12_findEffort 50 = .ok (.iaload, 1) := by decide +kernel
theorem dX12_findEffort_51 : decode cX12_findEffort 51 = .ok (.ifCond .le 12, 3) := by decide +kernel
theorem dX12_findEffort_54 : decode cX12_findEffort 54 = .ok (.aload_n 0, 1) := by decide +kernel
theorem dX12_findEffort_55 : decode cX12_findEffort 55 = .ok (.getfield 17, 3) := by decide +kernel
theorem dX12_findEffort_58 : decode cX12_findEffort 58 = .ok (.iconst 2, 1) := by decide +kernel
theorem dX12_findEffort_59 : decode cX12_findEffort 59 = .ok (.iaload, 1) := by decide +kernel
theorem dX12_findEffort_60 : decode cX12_findEffort 60 = .ok (.goto 4, 3) := by decide +kernel
theorem dX12_findEffort_63 : decode cX12_findEffort 63 = .ok (.iconst 0, 1) := by decide +kernel
theorem dX12_findEffort_64 : decode cX12_findEffort 64 = .ok (.iadd, 1) := by decide +kernel
theorem dX12_findEffort_65 : decode cX12_findEffort 65 = .ok (.putfield 271, 3) := by decide +kernel
theorem dX12_findEffort_68 : decode cX12_findEffort 68 = .ok (.aload_n 0, 1) := by decide +kernel
theorem dX12_findEffort_69 : decode cX12_findEffort 69 = .ok (.aload_n 0, 1) := by decide +kernel
theorem dX12_findEffort_70 : decode cX12_findEffort 70 = .ok (.getfield 271, 3) := by decide +kernel
theorem dX12_findEffort_73 : decode cX12_findEffort 73 = .ok (.aload_n 0, 1) := by decide +kernel
theorem dX12_findEffort_74 : decode cX12_findEffort 74 = .ok (.getfield 17, 3) := by decide +kernel
theorem dX12_findEffort_77 : decode cX12_findEffort 77 = .ok (.iconst 1, 1) := by decide +kernel
theorem dX12_findEffort_78 : decode cX12_findEffort 78 = .ok (.iaload, 1) := by decide +kernel
theorem dX12_findEffort_79 : decode cX12_findEffort 79 = .ok (.if_icmp .le 16, 3) := by decide +kernel
theorem dX12_findEffort_82 : decode cX12_findEffort 82 = .ok (.aload_n 0, 1) := by decide +kernel
theorem dX12_findEffort_83 : decode cX12_findEffort 83 = .ok (.getfield 274, 3) := by decide +kernel
theorem dX12_findEffort_86 : decode cX12_findEffort 86 = .ok (.bipush (-4), 2) := by decide +kernel
theorem dX12_findEffort_88 : decode cX12_findEffort 88 = .ok (.if_icmp .ne 7, 3) := by decide +kernel
theorem dX12_findEffort_91 : decode cX12_findEffort 91 = .ok (.iload_n 2, 1) := by decide +kernel
theorem dX12_findEffort_92 : decode cX12_findEffort 92 = .ok (.goto 7, 3) := by decide +kernel
theorem dX12_findEffort_95 : decode cX12_findEffort 95 = .ok (.aload_n 0, 1) := by decide +kernel
theorem dX12_findEffort_96 : decode cX12_findEffort 96 = .ok (.getfield 274, 3) := by decide +kernel
theorem dX12_findEffort_99 : decode cX12_findEffort 99 = .ok (.putfield 274, 3) := by decide +kernel
theorem dX12_findEffort_102 : decode cX12_findEffort 102 = .ok (.aload_n 0, 1) := by decide +kernel
theorem dX12_findEffort_103 : decode cX12_findEffort 103 = .ok (.aload_n 0, 1) := by decide +kernel
theorem dX12_findEffort_104 : decode cX12_findEffort 104 = .ok (.iload_n 2, 1) := by decide +kernel
theorem dX12_findEffort_105 : decode cX12_findEffort 105 = .ok (.iconst 3, 1) := by decide +kernel
theorem dX12_findEffort_106 : decode cX12_findEffort 106 = .ok (.invokevirtual 184, 3) := by decide +kernel
theorem dX12_findEffort_109 : decode cX12_findEffort 109 = .ok (.iconst 1, 1) := by decide +kernel
theorem dX12_findEffort_110 : decode cX12_findEffort 110 = .ok (.if_icmp .ne 7, 3) := by decide +kernel
theorem dX12_findEffort_113 : decode cX12_findEffort 113 = .ok (.iconst 0, 1) := by decide +kernel
theorem dX12_findEffort_114 : decode cX12_findEffort 114 = .ok (.goto 7, 3) := by decide +kernel
theorem dX12_findEffort_117 : decode cX12_findEffort 117 = .ok (.aload_n 0, 1) := by decide +kernel
theorem dX12_findEffort_118 : decode cX12_findEffort 118 = .ok (.getfield 271, 3) := by decide +kernel
theorem dX12_findEffort_121 : decode cX12_findEffort 121 = .ok (.putfield 271, 3) := by decide +kernel
theorem dX12_findEffort_124 : decode cX12_findEffort 124 = .ok (.iinc 2 1, 3) := by decide +kernel
theorem dX12_findEffort_127 : decode cX12_findEffort 127 = .ok (.goto (-114), 3) := by decide +kernel
theorem dX12_findEffort_130 : decode cX12_findEffort 130 = .ok (.return_, 1) := by decide +kernel
theorem dX12_risk_0 : decode cX12_risk 0 = .ok (.aload_n 0, 1) := by decide +kernel
theorem dX12_risk_1 : decode cX12_risk 1 = .ok (.iconst 0, 1) := by decide +kernel
theorem dX12_risk_2 : decode cX12_risk 2 = .ok (.invokevirtual 277, 3) := by decide +kernel
theorem dX12_risk_5 : decode cX12_risk 5 = .ok (.bipush (-4), 2) := by decide +kernel
theorem dX12_risk_7 : decode cX12_risk 7 = .ok (.istore_n 2, 1) := by decide +kernel
theorem dX12_risk_8 : decode cX12_risk 8 = .ok (.iconst 0, 1) := by decide +kernel
theorem dX12_risk_9 : decode cX12_risk 9 = .ok (.istore_n 3, 1) := by decide +kernel
theorem dX12_risk_10 : decode cX12_risk 10 = .ok (.iconst 1, 1) := by decide +kernel
theorem dX12_risk_11 : decode cX12_risk 11 = .ok (.istore 4, 2) := by decide +kernel
theorem dX12_risk_13 : decode cX12_risk 13 = .ok (.iload 4, 2) := by decide +kernel
theorem dX12_risk_15 : decode cX12_risk 15 = .ok (.aload_n 0, 1) := by decide +kernel
theorem dX12_risk_16 : decode cX12_risk 16 = .ok (.getfield 17, 3) := by decide +kernel
theorem dX12_risk_19 : decode cX12_risk 19 = .ok (.iconst 0, 1) := by decide +kernel
theorem dX12_risk_20 : decode cX12_risk 20 = .ok (.iaload, 1) := by decide +kernel
theorem dX12_risk_21 : decode cX12_risk 21 = .ok (.if_icmp .gt 57, 3) := by decide +kernel
theorem dX12_risk_24 : decode cX12_risk 24 = .ok (.aload_n 0, 1) := by decide +kernel
theorem dX12_risk_25 : decode cX12_risk 25 = .ok (.iconst 0, 1) := by decide +kernel
theorem dX12_risk_26 : decode cX12_risk 26 = .ok (.iload 4, 2) := by decide +kernel
theorem dX12_risk_28 : decode cX12_risk 28 = .ok (.sipush 1023, 3) := by decide +kernel
theorem dX12_risk_31 : decode cX12_risk 31 = .ok (.invokevirtual 245, 3) := by decide +kernel
theorem dX12_risk_34 : decode cX12_risk 34 = .ok (.aload_n 0, 1) := by decide +kernel
theorem dX12_risk_35 : decode cX12_risk 35 = .ok (.iload 4, 2) := by decide +kernel
theorem dX12_risk_37 : decode cX12_risk 37 = .ok (.invokevirtual 252, 3) := by decide +kernel
theorem dX12_risk_40 : decode cX12_risk 40 = .ok (.iload_n 3, 1) := by decide +kernel
theorem dX12_risk_41 : decode cX12_risk 41 = .ok (.if_icmp .le 8, 3) := by decide +kernel
theorem dX12_risk_44 : decode cX12_risk 44 = .ok (.iload 4, 2) := by decide +kernel
theorem dX12_risk_46 : decode cX12_risk 46 = .ok (.goto 4, 3) := by decide +kernel
theorem dX12_risk_49 : decode cX12_risk 49 = .ok (.iload_n 2, 1) := by decide +kernel
theorem dX12_risk_50 : decode cX12_risk 50 = .ok (.istore_n 2, 1) := by decide +kernel
theorem dX12_risk_51 : decode cX12_risk 51 = .ok (.aload_n 0, 1) := by decide +kernel
theorem dX12_risk_52 : decode cX12_risk 52 = .ok (.iload 4, 2) := by decide +kernel
theorem dX12_risk_54 : decode cX12_risk 54 = .ok (.invokevirtual 252, 3) := by decide +kernel
theorem dX12_risk_57 : decode cX12_risk 57 = .ok (.iload_n 3, 1) := by decide +kernel
theorem dX12_risk_58 : decode cX12_risk 58 = .ok (.if_icmp .le 12, 3) := by decide +kernel
theorem dX12_risk_61 : decode cX12_risk 61 = .ok (.aload_n 0, 1) := by decide +kernel
theorem dX12_risk_62 : decode cX12_risk 62 = .ok (.iload 4, 2) := by decide +kernel
theorem dX12_risk_64 : decode cX12_risk 64 = .ok (.invokevirtual 252, 3) := by decide +kernel
theorem dX12_risk_67 : decode cX12_risk 67 = .ok (.goto 4, 3) := by decide +kernel
theorem dX12_risk_70 : decode cX12_risk 70 = .ok (.iload_n 3, 1) := by decide +kernel
theorem dX12_risk_71 : decode cX12_risk 71 = .ok (.istore_n 3, 1) := by decide +kernel
theorem dX12_risk_72 : decode cX12_risk 72 = .ok (.iinc 4 1, 3) := by decide +kernel
theorem dX12_risk_75 : decode cX12_risk 75 = .ok (.goto (-62), 3) := by decide +kernel
theorem dX12_risk_78 : decode cX12_risk 78 = .ok (.iload_n 1, 1) := by decide +kernel
theorem dX12_risk_79 : decode cX12_risk 79 = .ok (.tableswitch 53 0 4 #[33, 39, 44, 49, 51], 33) := by decide +kernel
theorem dX12_risk_112 : decode cX12_risk 112 = .ok (.aload_n 0, 1) := by decide +kernel
theorem dX12_risk_113 : decode cX12_risk 113 = .ok (.iconst 0, 1) := by decide +kernel
theorem dX12_risk_114 : decode cX12_risk 114 = .ok (.invokevirtual 280, 3) := by decide +kernel
theorem dX12_risk_117 : decode cX12_risk 117 = .ok (.ireturn, 1) := by decide +kernel
theorem dX12_risk_118 : decode cX12_risk 118 = .ok (.aload_n 0, 1) := by decide +kernel
theorem dX12_risk_119 : decode cX12_risk 119 = .ok (.getfield 271, 3) := by decide +kernel
theorem dX12_risk_122 : decode cX12_risk 122 = .ok (.ireturn, 1) := by decide +kernel
theorem dX12_risk_123 : decode cX12_risk 123 = .ok (.aload_n 0, 1) := by decide +kernel
theorem dX12_risk_124 : decode cX12_risk 124 = .ok (.getfield 274, 3) := by decide +kernel
theorem dX12_risk_127 : decode cX12_risk 127 = .ok (.ireturn, 1) := by decide +kernel
theorem dX12_risk_128 : decode cX12_risk 128 = .ok (.iload_n 2, 1) := by decide +kernel
theorem dX12_risk_129 : decode cX12_risk 129 = .ok (.ireturn, 1) := by decide +kernel
theorem dX12_risk_130 : decode cX12_risk 130 = .ok (.iload_n 3, 1) := by decide +kernel
theorem dX12_risk_131 : decode cX12_risk 131 = .ok (.ireturn, 1) := by decide +kernel
theorem dX12_risk_132 : decode cX12_risk 132 = .ok (.iconst (-1), 1) := by decide +kernel
theorem dX12_risk_133 : decode cX12_risk 133 = .ok (.ireturn, 1) := by decide +kernel
theorem dX12_copies_0 : decode cX12_copies 0 = .ok (.iconst 0, 1) := by decide +kernel
theorem dX12_copies_1 : decode cX12_copies 1 = .ok (.istore_n 3, 1) := by decide +kernel
theorem dX12_copies_2 : decode cX12_copies 2 = .ok (.iload_n 3, 1) := by decide +kernel
theorem dX12_copies_3 : decode cX12_copies 3 = .ok (.bipush 100, 2) := by decide +kernel
theorem dX12_copies_5 : decode cX12_copies 5 = .ok (.if_icmp .ge 25, 3) := by decide +kernel
theorem dX12_copies_8 : decode cX12_copies 8 = .ok (.aload_n 0, 1) := by decide +kernel
theorem dX12_copies_9 : decode cX12_copies 9 = .ok (.getfield 7, 3) := by decide +kernel
theorem dX12_copies_12 : decode cX12_copies 12 = .ok (.iload_n 1, 1) := by decide +kernel
theorem dX12_copies_13 : decode cX12_copies 13 = .ok (.iload_n 3, 1) := by decide +kernel
theorem dX12_copies_14 : decode cX12_copies 14 = .ok (.iadd, 1) := by decide +kernel
theorem dX12_copies_15 : decode cX12_copies 15 = .ok (.aload_n 0, 1) := by decide +kernel
theorem dX12_copies_16 : decode cX12_copies 16 = .ok (.getfield 7, 3) := by decide +kernel
theorem dX12_copies_19 : decode cX12_copies 19 = .ok (.iload_n 2, 1) := by decide +kernel
theorem dX12_copies_20 : decode cX12_copies 20 = .ok (.iload_n 3, 1) := by decide +kernel
theorem dX12_copies_21 : decode cX12_copies 21 = .ok (.iadd, 1) := by decide +kernel
theorem dX12_copies_22 : decode cX12_copies 22 = .ok (.iaload, 1) := by decide +kernel
theorem dX12_copies_23 : decode cX12_copies 23 = .ok (.iastore, 1) := by decide +kernel
theorem dX12_copies_24 : decode cX12_copies 24 = .ok (.iinc 3 1, 3) := by decide +kernel
theorem dX12_copies_27 : decode cX12_copies 27 = .ok (.goto (-25), 3) := by decide +kernel
theorem dX12_copies_30 : decode cX12_copies 30 = .ok (.return_, 1) := by decide +kernel
theorem dX12_needless_0 : decode cX12_needless 0 = .ok (.iconst 0, 1) := by decide +kernel
theorem dX12_needless_1 : decode cX12_needless 1 = .ok (.istore_n 1, 1) := by decide +kernel
theorem dX12_needless_2 : decode cX12_needless 2 = .ok (.aload_n 0, 1) := by decide +kernel
theorem dX12_needless_3 : decode cX12_needless 3 = .ok (.iconst 0, 1) := by decide +kernel
theorem dX12_needless_4 : decode cX12_needless 4 = .ok (.invokevirtual 280, 3) := by decide +kernel
theorem dX12_needless_7 : decode cX12_needless 7 = .ok (.istore_n 2, 1) := by decide +kernel
theorem dX12_needless_8 : decode cX12_needless 8 = .ok (.iconst 1, 1) := by decide +kernel
theorem dX12_needless_9 : decode cX12_needless 9 = .ok (.istore_n 3, 1) := by decide +kernel
theorem dX12_needless_10 : decode cX12_needless 10 = .ok (.iload_n 3, 1) := by decide +kernel
theorem dX12_needless_11 : decode cX12_needless 11 = .ok (.aload_n 0, 1) := by decide +kernel
theorem dX12_needless_12 : decode cX12_needless 12 = .ok (.getfield 17, 3) := by decide +kernel
theorem dX12_needless_15 : decode cX12_needless 15 = .ok (.iconst 0, 1) := by decide +kernel
theorem dX12_needless_16 : decode cX12_needless 16 = .ok (.iaload, 1) := by decide +kernel
theorem dX12_needless_17 : decode cX12_needless 17 = .ok (.if_icmp .gt 62, 3) := by decide +kernel
theorem dX12_needless_20 : decode cX12_needless 20 = .ok (.aload_n 0, 1) := by decide +kernel
theorem dX12_needless_21 : decode cX12_needless 21 = .ok (.getfield 7, 3) := by decide +kernel
theorem dX12_needless_24 : decode cX12_needless 24 = .ok (.iload_n 3, 1) := by decide +kernel
theorem dX12_needless_25 : decode cX12_needless 25 = .ok (.iaload, 1) := by decide +kernel
theorem dX12_needless_26 : decode cX12_needless 26 = .ok (.ifCond .le 47, 3) := by decide +kernel
theorem dX12_needless_29 : decode cX12_needless 29 = .ok (.aload_n 0, 1) := by decide +kernel
theorem dX12_needless_30 : decode cX12_needless 30 = .ok (.sipush 300, 3) := by decide +kernel
theorem dX12_needless_33 : decode cX12_needless 33 = .ok (.iconst 0, 1) := by decide +kernel
theorem dX12_needless_34 : decode cX12_needless 34 = .ok (.invokevirtual 283, 3) := by decide +kernel
theorem dX12_needless_37 : decode cX12_needless 37 = .ok (.aload_n 0, 1) := by decide +kernel
theorem dX12_needless_38 : decode cX12_needless 38 = .ok (.getfield 7, 3) := by decide +kernel
theorem dX12_needless_41 : decode cX12_needless 41 = .ok (.sipush 300, 3) := by decide +kernel
theorem dX12_needless_44 : decode cX12_needless 44 = .ok (.iload_n 3, 1) := by decide +kernel
theorem dX12_needless_45 : decode cX12_needless 45 = .ok (.iadd, 1) := by decide +kernel
theorem dX12_needless_46 : decode cX12_needless 46 = .ok (.iconst 0, 1) := by decide +kernel
theorem dX12_needless_47 : decode cX12_needless 47 = .ok (.iastore, 1) := by decide +kernel
theorem dX12_needless_48 : decode cX12_needless 48 = .ok (.iload_n 1, 1) := by decide +kernel
theorem dX12_needless_49 : decode cX12_needless 49 = .ok (.aload_n 0, 1) := by decide +kernel
theorem dX12_needless_50 : decode cX12_needless 50 = .ok (.sipush 300, 3) := by decide +kernel
theorem dX12_needless_53 : decode cX12_needless 53 = .ok (.invokevirtual 280, 3) := by decide +kernel
theorem dX12_needless_56 : decode cX12_needless 56 = .ok (.iload_n 2, 1) := by decide +kernel
theorem dX12_needless_57 : decode cX12_needless 57 = .ok (.if_icmp .gt 13, 3) := by decide +kernel
theorem dX12_needless_60 : decode cX12_needless 60 = .ok (.iconst 1, 1) := by decide +kernel
theorem dX12_needless_61 : decode cX12_needless 61 = .ok (.aload_n 0, 1) := by decide +kernel
theorem dX12_needless_62 : decode cX12_needless 62 = .ok (.iload_n 3, 1) := by decide +kernel
theorem dX12_needless_63 : decode cX12_needless 63 = .ok (.invokevirtual 181, 3) := by decide +kernel
theorem dX12_needless_66 : decode cX12_needless 66 = .ok (.ishl, 1) := by decide +kernel
theorem dX12_needless_67 : decode cX12_needless 67 = .ok (.goto 4, 3) := by decide +kernel
theorem dX12_needless_70 : decode cX12_needless 70 = .ok (.iconst 0, 1) := by decide +kernel
theorem dX12_needless_71 : decode cX12_needless 71 = .ok (.ior, 1) := by decide +kernel
theorem dX12_needless_72 : decode cX12_needless 72 = .ok (.istore_n 1, 1) := by decide +kernel
theorem dX12_needless_73 : decode cX12_needless 73 = .ok (.iinc 3 1, 3) := by decide +kernel
theorem dX12_needless_76 : decode cX12_needless 76 = .ok (.goto (-66), 3) := by decide +kernel
theorem dX12_needless_79 : decode cX12_needless 79 = .ok (.iload_n 1, 1) := by decide +kernel
theorem dX12_needless_80 : decode cX12_needless 80 = .ok (.ireturn, 1) := by decide +kernel
abbrev q_X12_likely (g : Int) (σ : tw_M) : Option tw_V → tw_M → Prop := fun z τ => ∃ r : Int, z = some (vL r) ∧ (-9223372036854775808 ≤ r ∧ r ≤ 9223372036854775807) ∧ σ = τ ∧ True
set_option maxHeartbeats 4000000 in
set_option maxRecDepth 100000 in
theorem l_X12_likely {G : tw_G} (hM : tw_isM G) (g : Int) (hg : -2147483648 ≤ g ∧ g ≤ 2147483647) (σ : tw_M) (hI : tw_I σ) : ∀ N_ : Nat, (∀ (v : Int) (hv : -9223372036854775808 ≤ v ∧ v ≤ 9223372036854775807) (n : Int) (hn : 0 ≤ n ∧ n ≤ 40) (k : Int) (hk : 0 ≤ k ∧ k ≤ 40) (i0 : n = mc σ 0 (σ 91 0).toNat) (hm : (40 - k).toNat < N_), tw_J G (tw_mt RX12 cX12_likely 7 (some .long) 3) (tw_E G (q_X12_likely g σ)) 12 [(0, vR 88), (1, vI g), (2, vL v), (4, vI n), (5, vI k)] [] σ) := by
  intro N_
  induction N_ with
  | zero => exact fun v hv n hn k hk i0 hm => absurd hm (Nat.not_lt_zero _)
  | succ N_ ih =>
    intro v hv n hn k hk i0 hm
    refine j_iload (pc := 12) dX12_likely_12 rfl ?_
    refine j_iload (pc := 14) dX12_likely_14 rfl ?_
    refine j_icmpR_ge (pc := 16) (tgt := 63) ⟨by omega, by omega⟩ ⟨by omega, by omega⟩ dX12_likely_16 rfl (fun h1 => ?_) (fun h1 => ?_)
    · refine j_lload_n (pc := 63) dX12_likely_63 rfl rfl ?_
      exact j_lret (pc := 64) ⟨rfl, rfl⟩ dX12_likely_64 rfl ⟨_, rfl, ⟨by omega, by omega⟩, rfl, trivial⟩
    · refine j_aload_n (pc := 19) dX12_likely_19 rfl rfl ?_
      refine j_aload_n (pc := 20) dX12_likely_20 rfl rfl ?_
      refine j_iconst (pc := 21) dX12_likely_21 ?_
      refine j_iload (pc := 22) dX12_likely_22 rfl ?_
      refine j_callV (pc := 24) (As := [vI 0, vI k]) (st := [vR 88]) (c_X12_footOf hM 0 (by (first | decide | exact ⟨by omega, by omega⟩)) k ⟨by omega, by omega⟩ σ hI (by omega)) mv_X12_198 rfl rfl rfl (a_88 hM) dX12_likely_24 ⟨Nat.le_of_ble_eq_true rfl, Nat.le_of_ble_eq_true rfl⟩ ⟨Nat.le_refl _, Nat.le_refl _⟩ rfl (Nat.le_of_ble_eq_true rfl) rfl (fun z2 σ3 hz2 => ?_)
      obtain ⟨r5, rfl, hr5, rfl, q4_0, q4_1, q4_2, q4_3⟩ := hz2
      replace q4_0 : r5 ≤ σ 91 0 := q4_0
      replace q4_1 : 0 < σ 89 ((0 : Int) + r5).toNat := q4_1
      replace q4_2 : mc σ (0 : Int) r5.toNat = k + 1 := q4_2
      replace q4_3 : (0 : Int) = 0 → r5 = fok (gM 0 σ) k 40 := q4_3
      refine j_st (st' := [vI r5, vR 88]) rfl ?_
      refine j_callV (pc := 27) (As := [vI r5]) (st := []) (c_X12_chanceAt hM r5 ⟨by omega, by omega⟩ σ hI) mv_X12_207 rfl rfl rfl (a_88 hM) dX12_likely_27 ⟨Nat.le_of_ble_eq_true rfl, Nat.le_of_ble_eq_true rfl⟩ ⟨Nat.le_refl _, Nat.le_refl _⟩ rfl (Nat.le_of_ble_eq_true rfl) rfl (fun z6 σ7 hz6 => ?_)
      obtain ⟨r9, rfl, hr9, rfl, -⟩ := hz6
      refine j_st (st' := [vI r9]) rfl ?_
      refine j_istore (pc := 30) (i := 6) (ls' := [(0, vR 88), (1, vI g), (2, vL v), (4, vI n), (5, vI k), (6, vI r9)]) [1, 2, 3, 4, 5, 0] dX12_likely_30 (Nat.le_of_ble_eq_true rfl) rfl rfl ?_
      refine j_lload_n (pc := 32) dX12_likely_32 rfl rfl ?_
      refine j_iload_n (pc := 33) dX12_likely_33 rfl rfl ?_
      refine j_iload (pc := 34) dX12_likely_34 rfl ?_
      refine j_ishr (pc := 36) dX12_likely_36 (fun z10 ez10 => ?_)
      have hz10 : (-2147483648 : Int) ≤ z10 ∧ z10 ≤ 2147483647 := by rw [ez10]; exact shr_in _ _
      refine j_iconst (pc := 37) dX12_likely_37 ?_
      refine j_iand (pc := 38) dX12_likely_38 (fun z11 ez11 => ?_)
      have hz11 : (-2147483648 : Int) ≤ z11 ∧ z11 ≤ 2147483647 := by rw [ez11]; exact and_in _ _
      refine j_iconst (pc := 39) dX12_likely_39 ?_
      refine j_icmpR_ne (pc := 40) (tgt := 49) ⟨by omega, by omega⟩ ⟨by omega, by omega⟩ dX12_likely_40 rfl (fun h12 => ?_) (fun h12 => ?_)
      · refine j_bipush (pc := 49) dX12_likely_49 rfl ?_
        refine j_iload (pc := 51) dX12_likely_51 rfl ?_
        refine j_isub (pc := 53) dX12_likely_53 ?_
        refine j_top (fun z13 ez13 hz13 => ?_)
        refine j_i2l (pc := 54) dX12_likely_54 ?_
        rw [w32_eq (a := z13) (by omega) (by omega)]
        refine j_lmul (pc := 55) dX12_likely_55 ?_
        refine j_topL (fun z14 ez14 hz14 => ?_)
        refine j_lstore_n (pc := 56) (i := 2) (ls' := [(0, vR 88), (1, vI g), (2, vL z14), (4, vI n), (5, vI k)]) [1, 2, 0, 3, 4] dX12_likely_56 rfl (Nat.le_of_ble_eq_true rfl) rfl rfl ?_
        refine j_iinc (pc := 57) (i := 5) (n := 1) (ls' := [(0, vR 88), (1, vI g), (2, vL z14), (4, vI n), (5, vI (k + 1))]) [1, 2, 3, 4, 0] dX12_likely_57 rfl (Nat.le_of_ble_eq_true rfl) rfl rfl ?_
        refine j_goto (pc := 60) (tgt := 12) dX12_likely_60 rfl ?_
        refine j_ls (ls' := [(0, vR 88), (1, vI g), (2, vL z14), (4, vI n), (5, vI (k + 1))]) [0, 1, 2, 3, 4] rfl ?_
        exact ih z14 ⟨by omega, by omega⟩ n ⟨by omega, by omega⟩ (k + 1) ⟨by omega, by omega⟩ (show n = mc σ 0 (σ 91 0).toNat from by omega) (show (40 - (k + 1)).toNat < N_ from by omega)
      · refine j_iload (pc := 43) dX12_likely_43 rfl ?_
        refine j_i2l (pc := 45) dX12_likely_45 ?_
        rw [w32_eq (a := r9) (by omega) (by omega)]
        refine j_goto (pc := 46) (tgt := 55) dX12_likely_46 rfl ?_
        refine j_lmul (pc := 55) dX12_likely_55 ?_
        refine j_topL (fun z15 ez15 hz15 => ?_)
        refine j_lstore_n (pc := 56) (i := 2) (ls' := [(0, vR 88), (1, vI g), (2, vL z15), (4, vI n), (5, vI k)]) [1, 2, 0, 3, 4] dX12_likely_56 rfl (Nat.le_of_ble_eq_true rfl) rfl rfl ?_
        refine j_iinc (pc := 57) (i := 5) (n := 1) (ls' := [(0, vR 88), (1, vI g), (2, vL z15), (4, vI n), (5, vI (k + 1))]) [1, 2, 3, 4, 0] dX12_likely_57 rfl (Nat.le_of_ble_eq_true rfl) rfl rfl ?_
        refine j_goto (pc := 60) (tgt := 12) dX12_likely_60 rfl ?_
        refine j_ls (ls' := [(0, vR 88), (1, vI g), (2, vL z15), (4, vI n), (5, vI (k + 1))]) [0, 1, 2, 3, 4] rfl ?_
        exact ih z15 ⟨by omega, by omega⟩ n ⟨by omega, by omega⟩ (k + 1) ⟨by omega, by omega⟩ (show n = mc σ 0 (σ 91 0).toNat from by omega) (show (40 - (k + 1)).toNat < N_ from by omega)
set_option maxHeartbeats 4000000 in
set_option maxRecDepth 100000 in
theorem c_X12_likely {G : tw_G} (hM : tw_isM G) (g : Int) (hg : -2147483648 ≤ g ∧ g ≤ 2147483647) (σ : tw_M) (hI : tw_I σ) : tw_C G yX12_likely cX12_likely 7 (some .long) 3 [vR 88, vI g] σ (q_X12_likely g σ) := by
  refine tw_met [(0, vR 88), (1, vI g)] (by decide +kernel) rfl (Nat.le_of_ble_eq_true rfl) ?_
  refine j_lconst (pc := 0) (z := 1) dX12_likely_0 rfl ?_
  refine j_lstore_n (pc := 1) (i := 2) (ls' := [(0, vR 88), (1, vI g), (2, vL 1)]) [1, 2, 0] dX12_likely_1 rfl (Nat.le_of_ble_eq_true rfl) rfl rfl ?_
  refine j_aload_n (pc := 2) dX12_likely_2 rfl rfl ?_
  refine j_iconst (pc := 3) dX12_likely_3 ?_
  refine j_callV (pc := 4) (As := [vI 0]) (st := []) (c_X12_all hM 0 (by (first | decide | exact ⟨by omega, by omega⟩)) σ hI) mv_X12_192 rfl rfl rfl (a_88 hM) dX12_likely_4 ⟨Nat.le_of_ble_eq_true rfl, Nat.le_of_ble_eq_true rfl⟩ ⟨Nat.le_refl _, Nat.le_refl _⟩ rfl (Nat.le_of_ble_eq_true rfl) rfl (fun z16 σ17 hz16 => ?_)
  obtain ⟨r19, rfl, hr19, rfl, q18_0⟩ := hz16
  replace q18_0 : r19 = mc σ (0 : Int) (σ 91 0).toNat := q18_0
  refine j_st (st' := [vI r19]) rfl ?_
  refine j_istore (pc := 7) (i := 4) (ls' := [(0, vR 88), (1, vI g), (2, vL 1), (4, vI r19)]) [1, 2, 3, 0] dX12_likely_7 (Nat.le_of_ble_eq_true rfl) rfl rfl ?_
  refine j_iconst (pc := 9) dX12_likely_9 ?_
  refine j_istore (pc := 10) (i := 5) (ls' := [(0, vR 88), (1, vI g), (2, vL 1), (4, vI r19), (5, vI 0)]) [1, 2, 3, 4, 0] dX12_likely_10 (Nat.le_of_ble_eq_true rfl) rfl rfl ?_
  refine j_ls (ls' := [(0, vR 88), (1, vI g), (2, vL 1), (4, vI r19), (5, vI 0)]) [0, 1, 2, 3, 4] rfl ?_
  exact (l_X12_likely hM g hg σ hI (((40 - (0 : Int)).toNat) + 1)) 1 (by (first | decide | exact ⟨by omega, by omega⟩)) r19 ⟨by omega, by omega⟩ 0 (by (first | decide | exact ⟨by omega, by omega⟩)) (show r19 = mc σ 0 (σ 91 0).toNat from by omega) (Nat.lt_succ_self _)
abbrev q_X12_whole  (σ : tw_M) : Option tw_V → tw_M → Prop := fun z τ => ∃ r : Int, z = some (vL r) ∧ (-9223372036854775808 ≤ r ∧ r ≤ 9223372036854775807) ∧ σ = τ ∧ (¬ r = 0)
set_option maxHeartbeats 4000000 in
set_option maxRecDepth 100000 in
theorem l_X12_whole {G : tw_G} (hM : tw_isM G) (σ : tw_M) (hI : tw_I σ) (hq0 : mc σ 0 (σ 91 0).toNat ≤ 10) : ∀ N_ : Nat, (∀ (v : Int) (hv : -9223372036854775808 ≤ v ∧ v ≤ 9223372036854775807) (k : Int) (hk : 0 ≤ k ∧ k ≤ 40) (i0 : v = p20 k) (i1 : k ≤ mc σ 0 (σ 91 0).toNat) (hm : (40 - k).toNat < N_), tw_J G (tw_mt RX12 cX12_whole 4 (some .long) 3) (tw_E G (q_X12_whole σ)) 4 [(0, vR 88), (1, vL v), (3, vI k)] [] σ) := by
  intro N_
  induction N_ with
  | zero => exact fun v hv k hk i0 i1 hm => absurd hm (Nat.not_lt_zero _)
  | succ N_ ih =>
    intro v hv k hk i0 i1 hm
    refine j_iload_n (pc := 4) dX12_whole_4 rfl rfl ?_
    refine j_aload_n (pc := 5) dX12_whole_5 rfl rfl ?_
    refine j_iconst (pc := 6) dX12_whole_6 ?_
    refine j_callV (pc := 7) (As := [vI 0]) (st := [vI k]) (c_X12_all hM 0 (by (first | decide | exact ⟨by omega, by omega⟩)) σ hI) mv_X12_192 rfl rfl rfl (a_88 hM) dX12_whole_7 ⟨Nat.le_of_ble_eq_true rfl, Nat.le_of_ble_eq_true rfl⟩ ⟨Nat.le_refl _, Nat.le_refl _⟩ rfl (Nat.le_of_ble_eq_true rfl) rfl (fun z1 σ2 hz1 => ?_)
    obtain ⟨r4, rfl, hr4, rfl, q3_0⟩ := hz1
    replace q3_0 : r4 = mc σ (0 : Int) (σ 91 0).toNat := q3_0
    refine j_st (st' := [vI r4, vI k]) rfl ?_
    refine j_icmpR_ge (pc := 10) (tgt := 25) ⟨by omega, by omega⟩ ⟨by omega, by omega⟩ dX12_whole_10 rfl (fun h5 => ?_) (fun h5 => ?_)
    · refine j_lload_n (pc := 25) dX12_whole_25 rfl rfl ?_
      exact j_lret (pc := 26) ⟨rfl, rfl⟩ dX12_whole_26 rfl ⟨_, rfl, ⟨by omega, by omega⟩, rfl, by rw [i0]; exact p20_p⟩
    · refine j_lload_n (pc := 13) dX12_whole_13 rfl rfl ?_
      have p9 := p20_s (k := k) (by omega) (by omega)
      refine j_ldc2 (pc := 14) (z := 20) dX12_whole_14 (tw_inc tm_6 (i := 206) rfl rfl) ?_
      refine j_lmul (pc := 17) dX12_whole_17 ?_
      refine j_topL (fun z6 ez6 hz6 => ?_)
      have gz6 : v * 20 < -9223372036854775808 ∨ 9223372036854775807 < v * 20 ∨ z6 = v * 20 := by rw [ez6]; exact w64_or _
      refine j_lstore_n (pc := 18) (i := 1) (ls' := [(0, vR 88), (1, vL z6), (3, vI k)]) [1, 0, 2] dX12_whole_18 rfl (Nat.le_of_ble_eq_true rfl) rfl rfl ?_
      refine j_iinc (pc := 19) (i := 3) (n := 1) (ls' := [(0, vR 88), (1, vL z6), (3, vI (k + 1))]) [1, 2, 0] dX12_whole_19 rfl (Nat.le_of_ble_eq_true rfl) rfl rfl ?_
      refine j_goto (pc := 22) (tgt := 4) dX12_whole_22 rfl ?_
      refine j_ls (ls' := [(0, vR 88), (1, vL z6), (3, vI (k + 1))]) [0, 1, 2] rfl ?_
      exact ih z6 ⟨by omega, by omega⟩ (k + 1) ⟨by omega, by omega⟩ (show z6 = p20 (k + 1) from by omega) (show (k + 1) ≤ mc σ 0 (σ 91 0).toNat from by omega) (show (40 - (k + 1)).toNat < N_ from by omega)
set_option maxHeartbeats 4000000 in
set_option maxRecDepth 100000 in
theorem c_X12_whole {G : tw_G} (hM : tw_isM G) (σ : tw_M) (hI : tw_I σ) (hq0 : mc σ 0 (σ 91 0).toNat ≤ 10) : tw_C G yX12_whole cX12_whole 4 (some .long) 3 [vR 88] σ (q_X12_whole σ) := by
  refine tw_met [(0, vR 88)] (by decide +kernel) rfl (Nat.le_of_ble_eq_true rfl) ?_
  refine j_lconst (pc := 0) (z := 1) dX12_whole_0 rfl ?_
  refine j_lstore_n (pc := 1) (i := 1) (ls' := [(0, vR 88), (1, vL 1)]) [1, 0] dX12_whole_1 rfl (Nat.le_of_ble_eq_true rfl) rfl rfl ?_
  refine j_iconst (pc := 2) dX12_whole_2 ?_
  refine j_istore_n (pc := 3) (i := 3) (ls' := [(0, vR 88), (1, vL 1), (3, vI 0)]) [1, 2, 0] dX12_whole_3 rfl (Nat.le_of_ble_eq_true rfl) rfl rfl ?_
  refine j_ls (ls' := [(0, vR 88), (1, vL 1), (3, vI 0)]) [0, 1, 2] rfl ?_
  exact (l_X12_whole hM σ hI hq0 (((40 - (0 : Int)).toNat) + 1)) 1 (by (first | decide | exact ⟨by omega, by omega⟩)) 0 (by (first | decide | exact ⟨by omega, by omega⟩)) (show (1 : Int) = p20 (0 : Int) from p20_0.symm) (show (0 : Int) ≤ mc σ 0 (σ 91 0).toNat from (mc_in σ 0 _).1) (Nat.lt_succ_self _)
abbrev q_X12_told (u : Int) (d : Int) (w : Int) (σ : tw_M) : Option tw_V → tw_M → Prop := fun z τ => ∃ r : Int, z = some (vL r) ∧ (-9223372036854775808 ≤ r ∧ r ≤ 9223372036854775807) ∧ σ = τ ∧ (r = euM u d (eu u.natAbs d u) w)
set_option maxHeartbeats 4000000 in
set_option maxRecDepth 100000 in
theorem l_X12_told {G : tw_G} (u : Int) (hu : -9223372036854775808 ≤ u ∧ u ≤ 9223372036854775807) (d : Int) (hd : -9223372036854775808 ≤ d ∧ d ≤ 9223372036854775807) (w : Int) (hw : -2147483648 ≤ w ∧ w ≤ 2147483647) (σ : tw_M) (hI : tw_I σ) (hq0 : ¬ d = 0) : ∀ N_ : Nat, (∀ (x : Int) (hx : -9223372036854775808 ≤ x ∧ x ≤ 9223372036854775807) (y : Int) (hy : -9223372036854775808 ≤ y ∧ y ≤ 9223372036854775807) (i0 : ¬ x = 0) (i1 : eu y.natAbs x y = eu u.natAbs d u) (hm : y.natAbs < N_), tw_J G (tw_mt RX12 cX12_told 11 (some .long) 0) (tw_E G (q_X12_told u d w σ)) 6 [(0, vL u), (2, vL d), (4, vI w), (5, vL x), (7, vL y)] [] σ) := by
  intro N_
  induction N_ with
  | zero => exact fun x hx y hy i0 i1 hm => absurd hm (Nat.not_lt_zero _)
  | succ N_ ih =>
    intro x hx y hy i0 i1 hm
    refine j_lload (pc := 6) dX12_told_6 rfl ?_
    refine j_lconst (pc := 8) (z := 0) dX12_told_8 rfl ?_
    refine j_lcmp (pc := 9) dX12_told_9 (fun z1 ez1 => ?_)
    have hz1 : (z1 = 1 ∧ 0 < y) ∨ (z1 = 0 ∧ y = 0) ∨ (z1 = -1 ∧ y < 0) := by rw [ez1]; exact tw_cmp_eq ⟨by omega, by omega⟩ ⟨by omega, by omega⟩
    refine j_ifR_eq (pc := 10) (tgt := 31) ⟨by omega, by omega⟩ dX12_told_10 rfl (fun h2 => ?_) (fun h2 => ?_)
    · have ex : x = eu u.natAbs d u := by rw [← i1, show y = 0 from by omega]; rfl
      refine j_iload (pc := 31) dX12_told_31 rfl ?_
      refine j_ifR_ne (pc := 33) (tgt := 43) ⟨by omega, by omega⟩ dX12_told_33 rfl (fun h3 => ?_) (fun h3 => ?_)
      · refine j_lload_n (pc := 43) dX12_told_43 rfl rfl ?_
        refine j_lload (pc := 44) dX12_told_44 rfl ?_
        refine j_ldiv (pc := 46) dX12_told_46 (tw_nzL ⟨by omega, by omega⟩ (by omega)) (fun z4 ez4 => ?_)
        have hz4 : (-9223372036854775808 : Int) ≤ z4 ∧ z4 ≤ 9223372036854775807 := by rw [ez4]; exact ldivL_in _ _
        have b2 : z4 = euM u d (eu u.natAbs d u) w := by rw [← ex, ez4]; exact (if_neg (by omega)).symm
        exact j_lret (pc := 47) ⟨rfl, rfl⟩ dX12_told_47 rfl ⟨_, rfl, ⟨by omega, by omega⟩, rfl, b2⟩
      · refine j_lload_n (pc := 36) dX12_told_36 rfl rfl ?_
        refine j_lload (pc := 37) dX12_told_37 rfl ?_
        refine j_ldiv (pc := 39) dX12_told_39 (tw_nzL ⟨by omega, by omega⟩ (by omega)) (fun z5 ez5 => ?_)
        have hz5 : (-9223372036854775808 : Int) ≤ z5 ∧ z5 ≤ 9223372036854775807 := by rw [ez5]; exact ldivL_in _ _
        refine j_goto (pc := 40) (tgt := 47) dX12_told_40 rfl ?_
        have b2 : z5 = euM u d (eu u.natAbs d u) w := by rw [← ex, ez5]; exact (if_pos (by omega)).symm
        exact j_lret (pc := 47) ⟨rfl, rfl⟩ dX12_told_47 rfl ⟨_, rfl, ⟨by omega, by omega⟩, rfl, b2⟩
    · refine j_lload (pc := 13) dX12_told_13 rfl ?_
      refine j_lload (pc := 15) dX12_told_15 rfl ?_
      refine j_lrem (pc := 17) dX12_told_17 (tw_nzL ⟨by omega, by omega⟩ (by omega)) (fun z6 ez6 => ?_)
      have hz6 : (-9223372036854775808 : Int) ≤ z6 ∧ z6 ≤ 9223372036854775807 := by rw [ez6]; exact lremL_in _ _
      have gz6 : z6.natAbs < y.natAbs := by rw [ez6]; exact lrem_lt ⟨by omega, by omega⟩ ⟨by omega, by omega⟩ (by omega)
      have b1 := ez6
      refine j_lstore (pc := 18) (i := 9) (ls' := [(0, vL u), (2, vL d), (4, vI w), (7, vL y), (9, vL z6)]) [1, 2, 3, 5, 0] dX12_told_18 (Nat.le_of_ble_eq_true rfl) rfl rfl ?_
      refine j_lload (pc := 20) dX12_told_20 rfl ?_
      refine j_lstore (pc := 22) (i := 5) (ls' := [(0, vL u), (2, vL d), (4, vI w), (5, vL y), (9, vL z6)]) [1, 2, 3, 0, 5] dX12_told_22 (Nat.le_of_ble_eq_true rfl) rfl rfl ?_
      refine j_lload (pc := 24) dX12_told_24 rfl ?_
      refine j_lstore (pc := 26) (i := 7) (ls' := [(0, vL u), (2, vL d), (4, vI w), (5, vL y), (7, vL z6)]) [1, 2, 3, 4, 0] dX12_told_26 (Nat.le_of_ble_eq_true rfl) rfl rfl ?_
      refine j_goto (pc := 28) (tgt := 6) dX12_told_28 rfl ?_
      refine j_ls (ls' := [(0, vL u), (2, vL d), (4, vI w), (5, vL y), (7, vL z6)]) [0, 1, 2, 3, 4] rfl ?_
      exact ih y ⟨by omega, by omega⟩ z6 ⟨by omega, by omega⟩ (show ¬ y = 0 from by omega) (show eu z6.natAbs y z6 = eu u.natAbs d u from (by rw [← i1, eu_nat (x := x) (y := y) (by omega) (by omega) (by omega), b1])) (show z6.natAbs < N_ from by omega)
set_option maxHeartbeats 4000000 in
set_option maxRecDepth 100000 in
theorem c_X12_told {G : tw_G} (u : Int) (hu : -9223372036854775808 ≤ u ∧ u ≤ 9223372036854775807) (d : Int) (hd : -9223372036854775808 ≤ d ∧ d ≤ 9223372036854775807) (w : Int) (hw : -2147483648 ≤ w ∧ w ≤ 2147483647) (σ : tw_M) (hI : tw_I σ) (hq0 : ¬ d = 0) : tw_C G yX12_told cX12_told 11 (some .long) 0 [vL u, vL d, vI w] σ (q_X12_told u d w σ) := by
  refine tw_met [(0, vL u), (2, vL d), (4, vI w)] (by decide +kernel) rfl (Nat.le_of_ble_eq_true rfl) ?_
  refine j_lload_n (pc := 0) dX12_told_0 rfl rfl ?_
  refine j_lstore (pc := 1) (i := 5) (ls' := [(0, vL u), (2, vL d), (4, vI w), (5, vL d)]) [1, 2, 3, 0] dX12_told_1 (Nat.le_of_ble_eq_true rfl) rfl rfl ?_
  refine j_lload_n (pc := 3) dX12_told_3 rfl rfl ?_
  refine j_lstore (pc := 4) (i := 7) (ls' := [(0, vL u), (2, vL d), (4, vI w), (5, vL d), (7, vL u)]) [1, 2, 3, 4, 0] dX12_told_4 (Nat.le_of_ble_eq_true rfl) rfl rfl ?_
  refine j_ls (ls' := [(0, vL u), (2, vL d), (4, vI w), (5, vL d), (7, vL u)]) [0, 1, 2, 3, 4] rfl ?_
  exact (l_X12_told u hu d hd w hw σ hI hq0 ((u.natAbs) + 1)) d ⟨by omega, by omega⟩ u ⟨by omega, by omega⟩ (show ¬ d = 0 from by omega) (show eu u.natAbs d u = eu u.natAbs d u from rfl) (Nat.lt_succ_self _)
abbrev q_X12_harm (h : Int) (d : Int) (w : Int) (σ : tw_M) : Option tw_V → tw_M → Prop := fun z τ => ∃ r : Int, z = some (vL r) ∧ (-9223372036854775808 ≤ r ∧ r ≤ 9223372036854775807) ∧ tw_I τ ∧ tw_F (fun c j => (c = 88 ∧ (j = 19 ∨ j = 20 ∨ j = 21 ∨ j = 22 ∨ j = 23))) σ τ ∧ True
set_option maxHeartbeats 4000000 in
set_option maxRecDepth 100000 in
theorem l_X12_harm {G : tw_G} (hM : tw_isM G) (h : Int) (hh : -2147483648 ≤ h ∧ h ≤ 2147483647) (d : Int) (hd : -2147483648 ≤ d ∧ d ≤ 2147483647) (w : Int) (hw : -2147483648 ≤ w ∧ w ≤ 2147483647) (σ : tw_M) (hI : tw_I σ) (hq0 : mc σ 0 (σ 91 0).toNat ≤ 10) : ∀ N_ : Nat, (∀ (s : Int) (hs : -9223372036854775808 ≤ s ∧ s ≤ 9223372036854775807) (g : Int) (hg : 0 ≤ g ∧ g ≤ 2147483647) (τ : tw_M) (hIτ : tw_I τ) (hFτ : tw_F (fun c j => (c = 88 ∧ (j = 19 ∨ j = 20 ∨ j = 21 ∨ j = 22 ∨ j = 23))) σ τ) (i0 : 1 ≤ h ∧ h ≤ σ 91 0 ∧ h ≤ 40) (hm : (2147483647 - g).toNat < N_), tw_J G (tw_mt RX12 cX12_harm 7 (some .long) 4) (tw_E G (q_X12_harm h d w σ)) 40 [(0, vR 88), (1, vI h), (2, vI d), (3, vI w), (4, vL s), (6, vI g)] [] τ) := by
  intro N_
  induction N_ with
  | zero => exact fun s hs g hg τ hIτ hFτ i0 hm => absurd hm (Nat.not_lt_zero _)
  | succ N_ ih =>
    intro s hs g hg τ hIτ hFτ i0 hm
    refine j_iload (pc := 40) dX12_harm_40 rfl ?_
    refine j_iconst (pc := 42) dX12_harm_42 ?_
    refine j_aload_n (pc := 43) dX12_harm_43 rfl rfl ?_
    refine j_iconst (pc := 44) dX12_harm_44 ?_
    refine j_callV (pc := 45) (As := [vI 0]) (st := [vI 1, vI g]) (c_X12_all hM 0 (by (first | decide | exact ⟨by omega, by omega⟩)) τ hIτ) mv_X12_192 rfl rfl rfl (a_88 hM) dX12_harm_45 ⟨Nat.le_of_ble_eq_true rfl, Nat.le_of_ble_eq_true rfl⟩ ⟨Nat.le_refl _, Nat.le_refl _⟩ rfl (Nat.le_of_ble_eq_true rfl) rfl (fun z1 σ2 hz1 => ?_)
    obtain ⟨r4, rfl, hr4, rfl, q3_0⟩ := hz1
    replace q3_0 : r4 = mc τ (0 : Int) (τ 91 0).toNat := q3_0
    refine j_st (st' := [vI r4, vI 1, vI g]) rfl ?_
    refine j_ishl (pc := 48) dX12_harm_48 (fun z5 ez5 => ?_)
    have hz5 : (-2147483648 : Int) ≤ z5 ∧ z5 ≤ 2147483647 := by rw [ez5]; exact shl_in _ _
    refine j_icmpR_ge (pc := 49) (tgt := 90) ⟨by omega, by omega⟩ ⟨by omega, by omega⟩ dX12_harm_49 rfl (fun h6 => ?_) (fun h6 => ?_)
    · refine j_lload (pc := 90) dX12_harm_90 rfl ?_
      refine j_aload_n (pc := 92) dX12_harm_92 rfl rfl ?_
      refine j_callV (pc := 93) (As := []) (st := [vL s]) (c_X12_whole hM τ hIτ (by rw [(mc_F (b := 0) hI hFτ (fun (f : Int) h1 h2 => (show ¬ ((89 = 88 ∧ ((0 + f).toNat = 19 ∨ (0 + f).toNat = 20 ∨ (0 + f).toNat = 21 ∨ (0 + f).toNat = 22 ∨ (0 + f).toNat = 23))) from fun h => absurd h.1 (by decide))) (show ¬ ((91 = 88 ∧ (0 = 19 ∨ 0 = 20 ∨ 0 = 21 ∨ 0 = 22 ∨ 0 = 23))) from by decide))]; exact hq0)) mv_X12_263 rfl rfl rfl (a_88 hM) dX12_harm_93 ⟨Nat.le_of_ble_eq_true rfl, Nat.le_of_ble_eq_true rfl⟩ ⟨Nat.le_refl _, Nat.le_refl _⟩ rfl (Nat.le_of_ble_eq_true rfl) rfl (fun z7 σ8 hz7 => ?_)
      obtain ⟨r10, rfl, hr10, rfl, q9_0⟩ := hz7
      replace q9_0 : ¬ r10 = 0 := q9_0
      refine j_st (st' := [vL r10, vL s]) rfl ?_
      refine j_iload_n (pc := 96) dX12_harm_96 rfl rfl ?_
      refine j_callS (pc := 97) (As := [vL s, vL r10, vI w]) (st := []) (c_X12_told s ⟨by omega, by omega⟩ r10 ⟨by omega, by omega⟩ w ⟨by omega, by omega⟩ τ hIτ (by omega)) ms_X12_267 rfl dX12_harm_97 ⟨Nat.le_of_ble_eq_true rfl, Nat.le_of_ble_eq_true rfl⟩ ⟨Nat.le_refl _, Nat.le_refl _⟩ rfl (Nat.le_of_ble_eq_true rfl) rfl (fun z11 σ12 hz11 => ?_)
      obtain ⟨r14, rfl, hr14, rfl, q13_0⟩ := hz11
      replace q13_0 : r14 = euM s r10 (eu s.natAbs r10 s) w := q13_0
      refine j_st (st' := [vL r14]) rfl ?_
      exact j_lret (pc := 100) ⟨rfl, rfl⟩ dX12_harm_100 rfl ⟨_, rfl, ⟨by omega, by omega⟩, hIτ, hFτ, trivial⟩
    · refine j_aload_n (pc := 52) dX12_harm_52 rfl rfl ?_
      refine j_iconst (pc := 53) dX12_harm_53 ?_
      refine j_iload_n (pc := 54) dX12_harm_54 rfl rfl ?_
      refine j_iload (pc := 55) dX12_harm_55 rfl ?_
      refine j_callV (pc := 57) (As := [vI 0, vI h, vI g]) (st := []) (c_X12_falls hM 0 (by (first | decide | exact ⟨by omega, by omega⟩)) h ⟨by omega, by omega⟩ g ⟨by omega, by omega⟩ τ hIτ (by omega)) mv_X12_245 rfl rfl rfl (a_88 hM) dX12_harm_57 ⟨Nat.le_of_ble_eq_true rfl, Nat.le_of_ble_eq_true rfl⟩ ⟨Nat.le_refl _, Nat.le_refl _⟩ rfl (Nat.le_of_ble_eq_true rfl) rfl (fun z15 σ16 hz15 => ?_)
      obtain ⟨rfl, hIσ16, hGσ16, q17_0, q17_1⟩ := hz15
      replace q17_0 : (σ16 88 19, σ16 88 20, σ16 88 21, σ16 88 22) = fallG (wM τ) (gM (0 : Int) τ) h g h.toNat 0 := q17_0
      replace q17_1 : σ16 88 23 = strS (wM τ) h (σ16 88 19) := q17_1
      have hFσ16 : tw_F (fun c j => (c = 88 ∧ (j = 19 ∨ j = 20 ∨ j = 21 ∨ j = 22 ∨ j = 23))) σ σ16 := tw_F_tr hFτ hGσ16 (fun c j q => (show (c = 88 ∧ (j = 19 ∨ j = 20 ∨ j = 21 ∨ j = 22 ∨ j = 23)) from by replace q : (c = 88 ∧ (j = 19 ∨ j = 20 ∨ j = 21 ∨ j = 22 ∨ j = 23)) := q; exact q))
      refine j_st (st' := []) rfl ?_
      refine j_lload (pc := 60) dX12_harm_60 rfl ?_
      refine j_aload_n (pc := 62) dX12_harm_62 rfl rfl ?_
      refine j_iload_n (pc := 63) dX12_harm_63 rfl rfl ?_
      refine j_callV (pc := 64) (As := [vI h]) (st := [vL s]) (c_X12_harmNow hM h ⟨by omega, by omega⟩ σ16 hIσ16) mv_X12_252 rfl rfl rfl (a_88 hM) dX12_harm_64 ⟨Nat.le_of_ble_eq_true rfl, Nat.le_of_ble_eq_true rfl⟩ ⟨Nat.le_refl _, Nat.le_refl _⟩ rfl (Nat.le_of_ble_eq_true rfl) rfl (fun z19 σ20 hz19 => ?_)
      obtain ⟨r22, rfl, hr22, rfl, q21_0⟩ := hz19
      replace q21_0 : (σ16 88 23 = -4 ∧ r22 = 0) ∨ (¬ σ16 88 23 = -4 ∧ (r22 = h - σ16 88 23 ∨ σ16 88 23 < -4 ∨ 40 < σ16 88 23)) := q21_0
      refine j_st (st' := [vI r22, vL s]) rfl ?_
      refine j_iload_n (pc := 67) dX12_harm_67 rfl rfl ?_
      refine j_icmpR_lt (pc := 68) (tgt := 80) ⟨by omega, by omega⟩ ⟨by omega, by omega⟩ dX12_harm_68 rfl (fun h23 => ?_) (fun h23 => ?_)
      · refine j_lconst (pc := 80) (z := 0) dX12_harm_80 rfl ?_
        refine j_ladd (pc := 81) dX12_harm_81 ?_
        refine j_lstore (pc := 82) (i := 4) (ls' := [(0, vR 88), (1, vI h), (2, vI d), (3, vI w), (4, vL (s + 0)), (6, vI g)]) [1, 2, 3, 4, 0, 5] dX12_harm_82 (Nat.le_of_ble_eq_true rfl) rfl rfl ?_
        refine j_iinc (pc := 84) (i := 6) (n := 1) (ls' := [(0, vR 88), (1, vI h), (2, vI d), (3, vI w), (4, vL (s + 0)), (6, vI (g + 1))]) [1, 2, 3, 4, 5, 0] dX12_harm_84 rfl (Nat.le_of_ble_eq_true rfl) rfl rfl ?_
        refine j_goto (pc := 87) (tgt := 40) dX12_harm_87 rfl ?_
        refine j_ls (ls' := [(0, vR 88), (1, vI h), (2, vI d), (3, vI w), (4, vL (s + 0)), (6, vI (g + 1))]) [0, 1, 2, 3, 4, 5] rfl ?_
        exact ih (s + 0) ⟨by omega, by omega⟩ (g + 1) ⟨by omega, by omega⟩ σ16 hIσ16 hFσ16 (show 1 ≤ h ∧ h ≤ σ 91 0 ∧ h ≤ 40 from by omega) (show (2147483647 - (g + 1)).toNat < N_ from by omega)
      · refine j_aload_n (pc := 71) dX12_harm_71 rfl rfl ?_
        refine j_iload (pc := 72) dX12_harm_72 rfl ?_
        refine j_callV (pc := 74) (As := [vI g]) (st := [vL s]) (c_X12_likely hM g ⟨by omega, by omega⟩ σ16 hIσ16) mv_X12_259 rfl rfl rfl (a_88 hM) dX12_harm_74 ⟨Nat.le_of_ble_eq_true rfl, Nat.le_of_ble_eq_true rfl⟩ ⟨Nat.le_refl _, Nat.le_refl _⟩ rfl (Nat.le_of_ble_eq_true rfl) rfl (fun z24 σ25 hz24 => ?_)
        obtain ⟨r27, rfl, hr27, rfl, -⟩ := hz24
        refine j_st (st' := [vL r27, vL s]) rfl ?_
        refine j_goto (pc := 77) (tgt := 81) dX12_harm_77 rfl ?_
        refine j_ladd (pc := 81) dX12_harm_81 ?_
        refine j_topL (fun z28 ez28 hz28 => ?_)
        refine j_lstore (pc := 82) (i := 4) (ls' := [(0, vR 88), (1, vI h), (2, vI d), (3, vI w), (4, vL z28), (6, vI g)]) [1, 2, 3, 4, 0, 5] dX12_harm_82 (Nat.le_of_ble_eq_true rfl) rfl rfl ?_
        refine j_iinc (pc := 84) (i := 6) (n := 1) (ls' := [(0, vR 88), (1, vI h), (2, vI d), (3, vI w), (4, vL z28), (6, vI (g + 1))]) [1, 2, 3, 4, 5, 0] dX12_harm_84 rfl (Nat.le_of_ble_eq_true rfl) rfl rfl ?_
        refine j_goto (pc := 87) (tgt := 40) dX12_harm_87 rfl ?_
        refine j_ls (ls' := [(0, vR 88), (1, vI h), (2, vI d), (3, vI w), (4, vL z28), (6, vI (g + 1))]) [0, 1, 2, 3, 4, 5] rfl ?_
        exact ih z28 ⟨by omega, by omega⟩ (g + 1) ⟨by omega, by omega⟩ σ16 hIσ16 hFσ16 (show 1 ≤ h ∧ h ≤ σ 91 0 ∧ h ≤ 40 from by omega) (show (2147483647 - (g + 1)).toNat < N_ from by omega)
set_option maxHeartbeats 4000000 in
set_option maxRecDepth 100000 in
theorem c_X12_harm {G : tw_G} (hM : tw_isM G) (h : Int) (hh : -2147483648 ≤ h ∧ h ≤ 2147483647) (d : Int) (hd : -2147483648 ≤ d ∧ d ≤ 2147483647) (w : Int) (hw : -2147483648 ≤ w ∧ w ≤ 2147483647) (σ : tw_M) (hI : tw_I σ) (hq0 : mc σ 0 (σ 91 0).toNat ≤ 10) : tw_C G yX12_harm cX12_harm 7 (some .long) 4 [vR 88, vI h, vI d, vI w] σ (q_X12_harm h d w σ) := by
  refine tw_met [(0, vR 88), (1, vI h), (2, vI d), (3, vI w)] (by decide +kernel) rfl (Nat.le_of_ble_eq_true rfl) ?_
  refine j_aload_n (pc := 0) dX12_harm_0 rfl rfl ?_
  refine j_iload_n (pc := 1) dX12_harm_1 rfl rfl ?_
  refine j_callV (pc := 2) (As := [vI h]) (st := []) (c_X12_isAt hM h ⟨by omega, by omega⟩ σ hI) mv_X12_175 rfl rfl rfl (a_88 hM) dX12_harm_2 ⟨Nat.le_of_ble_eq_true rfl, Nat.le_of_ble_eq_true rfl⟩ ⟨Nat.le_refl _, Nat.le_refl _⟩ rfl (Nat.le_of_ble_eq_true rfl) rfl (fun z29 σ30 hz29 => ?_)
  obtain ⟨r32, rfl, hr32, rfl, q31_0⟩ := hz29
  replace q31_0 : (r32 = 1 ∧ 1 ≤ h ∧ h ≤ σ 91 0 ∧ h ≤ 40) ∨ (r32 = 0 ∧ ¬ (1 ≤ h ∧ h ≤ σ 91 0)) := q31_0
  refine j_st (st' := [vI r32]) rfl ?_
  refine j_ifR_eq (pc := 5) (tgt := 30) ⟨by omega, by omega⟩ dX12_harm_5 rfl (fun h33 => ?_) (fun h33 => ?_)
  · refine j_ldc2 (pc := 30) (z := -1) dX12_harm_30 (tw_inc tm_7 (i := 81) rfl rfl) ?_
    exact j_lret (pc := 33) ⟨rfl, rfl⟩ dX12_harm_33 rfl ⟨_, rfl, ⟨by omega, by omega⟩, hI, (tw_F_rf), trivial⟩
  · refine j_iload_n (pc := 8) dX12_harm_8 rfl rfl ?_
    refine j_i2l (pc := 9) dX12_harm_9 ?_
    rw [w32_eq (a := d) (by omega) (by omega)]
    refine j_lconst (pc := 10) (z := 1) dX12_harm_10 rfl ?_
    refine j_ldc2 (pc := 11) (z := 40) dX12_harm_11 (tw_inc tm_7 (i := 80) rfl rfl) ?_
    refine j_callS (pc := 14) (As := [vL d, vL 1, vL 40]) (st := []) (c_X12_in d ⟨by omega, by omega⟩ 1 (by (first | decide | exact ⟨by omega, by omega⟩)) 40 (by (first | decide | exact ⟨by omega, by omega⟩)) σ hI) ms_X12_82 rfl dX12_harm_14 ⟨Nat.le_of_ble_eq_true rfl, Nat.le_of_ble_eq_true rfl⟩ ⟨Nat.le_refl _, Nat.le_refl _⟩ rfl (Nat.le_of_ble_eq_true rfl) rfl (fun z34 σ35 hz34 => ?_)
    obtain ⟨r37, rfl, hr37, rfl, q36_0⟩ := hz34
    replace q36_0 : (r37 = 1 ∧ (1 : Int) ≤ d ∧ d ≤ (40 : Int)) ∨ (r37 = 0 ∧ ¬ ((1 : Int) ≤ d ∧ d ≤ (40 : Int))) := q36_0
    refine j_st (st' := [vI r37]) rfl ?_
    refine j_ifR_eq (pc := 17) (tgt := 30) ⟨by omega, by omega⟩ dX12_harm_17 rfl (fun h38 => ?_) (fun h38 => ?_)
    · refine j_ldc2 (pc := 30) (z := -1) dX12_harm_30 (tw_inc tm_7 (i := 81) rfl rfl) ?_
      exact j_lret (pc := 33) ⟨rfl, rfl⟩ dX12_harm_33 rfl ⟨_, rfl, ⟨by omega, by omega⟩, hI, (tw_F_rf), trivial⟩
    · refine j_iload_n (pc := 20) dX12_harm_20 rfl rfl ?_
      refine j_i2l (pc := 21) dX12_harm_21 ?_
      rw [w32_eq (a := w) (by omega) (by omega)]
      refine j_lconst (pc := 22) (z := 0) dX12_harm_22 rfl ?_
      refine j_lconst (pc := 23) (z := 1) dX12_harm_23 rfl ?_
      refine j_callS (pc := 24) (As := [vL w, vL 0, vL 1]) (st := []) (c_X12_in w ⟨by omega, by omega⟩ 0 (by (first | decide | exact ⟨by omega, by omega⟩)) 1 (by (first | decide | exact ⟨by omega, by omega⟩)) σ hI) ms_X12_82 rfl dX12_harm_24 ⟨Nat.le_of_ble_eq_true rfl, Nat.le_of_ble_eq_true rfl⟩ ⟨Nat.le_refl _, Nat.le_refl _⟩ rfl (Nat.le_of_ble_eq_true rfl) rfl (fun z39 σ40 hz39 => ?_)
      obtain ⟨r42, rfl, hr42, rfl, q41_0⟩ := hz39
      replace q41_0 : (r42 = 1 ∧ (0 : Int) ≤ w ∧ w ≤ (1 : Int)) ∨ (r42 = 0 ∧ ¬ ((0 : Int) ≤ w ∧ w ≤ (1 : Int))) := q41_0
      refine j_st (st' := [vI r42]) rfl ?_
      refine j_ifR_ne (pc := 27) (tgt := 34) ⟨by omega, by omega⟩ dX12_harm_27 rfl (fun h43 => ?_) (fun h43 => ?_)
      · refine j_lconst (pc := 34) (z := 0) dX12_harm_34 rfl ?_
        refine j_lstore (pc := 35) (i := 4) (ls' := [(0, vR 88), (1, vI h), (2, vI d), (3, vI w), (4, vL 0)]) [1, 2, 3, 4, 0] dX12_harm_35 (Nat.le_of_ble_eq_true rfl) rfl rfl ?_
        refine j_iconst (pc := 37) dX12_harm_37 ?_
        refine j_istore (pc := 38) (i := 6) (ls' := [(0, vR 88), (1, vI h), (2, vI d), (3, vI w), (4, vL 0), (6, vI 0)]) [1, 2, 3, 4, 5, 0] dX12_harm_38 (Nat.le_of_ble_eq_true rfl) rfl rfl ?_
        refine j_ls (ls' := [(0, vR 88), (1, vI h), (2, vI d), (3, vI w), (4, vL 0), (6, vI 0)]) [0, 1, 2, 3, 4, 5] rfl ?_
        exact (l_X12_harm hM h hh d hd w hw σ hI hq0 (((2147483647 - (0 : Int)).toNat) + 1)) 0 (by (first | decide | exact ⟨by omega, by omega⟩)) 0 (by (first | decide | exact ⟨by omega, by omega⟩)) σ hI (tw_F_rf) (show 1 ≤ h ∧ h ≤ σ 91 0 ∧ h ≤ 40 from by omega) (Nat.lt_succ_self _)
      · refine j_ldc2 (pc := 30) (z := -1) dX12_harm_30 (tw_inc tm_7 (i := 81) rfl rfl) ?_
        exact j_lret (pc := 33) ⟨rfl, rfl⟩ dX12_harm_33 rfl ⟨_, rfl, ⟨by omega, by omega⟩, hI, (tw_F_rf), trivial⟩
abbrev q_X12_mean (h : Int) (w : Int) (σ : tw_M) : Option tw_V → tw_M → Prop := fun z τ => ∃ r : Int, z = some (vL r) ∧ (-9223372036854775808 ≤ r ∧ r ≤ 9223372036854775807) ∧ tw_I τ ∧ tw_F (fun c j => (c = 88 ∧ (j = 19 ∨ j = 20 ∨ j = 21 ∨ j = 22 ∨ j = 23))) σ τ ∧ True
set_option maxHeartbeats 4000000 in
set_option maxRecDepth 100000 in
theorem l_X12_mean {G : tw_G} (hM : tw_isM G) (h : Int) (hh : -2147483648 ≤ h ∧ h ≤ 2147483647) (w : Int) (hw : -2147483648 ≤ w ∧ w ≤ 2147483647) (σ : tw_M) (hI : tw_I σ) (hq0 : mc σ 0 (σ 91 0).toNat ≤ 10) : ∀ N_ : Nat, (∀ (s : Int) (hs : -9223372036854775808 ≤ s ∧ s ≤ 9223372036854775807) (g : Int) (hg : 0 ≤ g ∧ g ≤ 2147483647) (τ : tw_M) (hIτ : tw_I τ) (hFτ : tw_F (fun c j => (c = 88 ∧ (j = 19 ∨ j = 20 ∨ j = 21 ∨ j = 22 ∨ j = 23))) σ τ) (i0 : 1 ≤ h ∧ h ≤ σ 91 0 ∧ h ≤ 40) (hm : (2147483647 - g).toNat < N_), tw_J G (tw_mt RX12 cX12_mean 6 (some .long) 4) (tw_E G (q_X12_mean h w σ)) 27 [(0, vR 88), (1, vI h), (2, vI w), (3, vL s), (5, vI g)] [] τ) := by
  intro N_
  induction N_ with
  | zero => exact fun s hs g hg τ hIτ hFτ i0 hm => absurd hm (Nat.not_lt_zero _)
  | succ N_ ih =>
    intro s hs g hg τ hIτ hFτ i0 hm
    refine j_iload (pc := 27) dX12_mean_27 rfl ?_
    refine j_iconst (pc := 29) dX12_mean_29 ?_
    refine j_aload_n (pc := 30) dX12_mean_30 rfl rfl ?_
    refine j_iconst (pc := 31) dX12_mean_31 ?_
    refine j_callV (pc := 32) (As := [vI 0]) (st := [vI 1, vI g]) (c_X12_all hM 0 (by (first | decide | exact ⟨by omega, by omega⟩)) τ hIτ) mv_X12_192 rfl rfl rfl (a_88 hM) dX12_mean_32 ⟨Nat.le_of_ble_eq_true rfl, Nat.le_of_ble_eq_true rfl⟩ ⟨Nat.le_refl _, Nat.le_refl _⟩ rfl (Nat.le_of_ble_eq_true rfl) rfl (fun z1 σ2 hz1 => ?_)
    obtain ⟨r4, rfl, hr4, rfl, q3_0⟩ := hz1
    replace q3_0 : r4 = mc τ (0 : Int) (τ 91 0).toNat := q3_0
    refine j_st (st' := [vI r4, vI 1, vI g]) rfl ?_
    refine j_ishl (pc := 35) dX12_mean_35 (fun z5 ez5 => ?_)
    have hz5 : (-2147483648 : Int) ≤ z5 ∧ z5 ≤ 2147483647 := by rw [ez5]; exact shl_in _ _
    refine j_icmpR_ge (pc := 36) (tgt := 69) ⟨by omega, by omega⟩ ⟨by omega, by omega⟩ dX12_mean_36 rfl (fun h6 => ?_) (fun h6 => ?_)
    · refine j_lload_n (pc := 69) dX12_mean_69 rfl rfl ?_
      refine j_aload_n (pc := 70) dX12_mean_70 rfl rfl ?_
      refine j_callV (pc := 71) (As := []) (st := [vL s]) (c_X12_whole hM τ hIτ (by rw [(mc_F (b := 0) hI hFτ (fun (f : Int) h1 h2 => (show ¬ ((89 = 88 ∧ ((0 + f).toNat = 19 ∨ (0 + f).toNat = 20 ∨ (0 + f).toNat = 21 ∨ (0 + f).toNat = 22 ∨ (0 + f).toNat = 23))) from fun h => absurd h.1 (by decide))) (show ¬ ((91 = 88 ∧ (0 = 19 ∨ 0 = 20 ∨ 0 = 21 ∨ 0 = 22 ∨ 0 = 23))) from by decide))]; exact hq0)) mv_X12_263 rfl rfl rfl (a_88 hM) dX12_mean_71 ⟨Nat.le_of_ble_eq_true rfl, Nat.le_of_ble_eq_true rfl⟩ ⟨Nat.le_refl _, Nat.le_refl _⟩ rfl (Nat.le_of_ble_eq_true rfl) rfl (fun z7 σ8 hz7 => ?_)
      obtain ⟨r10, rfl, hr10, rfl, q9_0⟩ := hz7
      replace q9_0 : ¬ r10 = 0 := q9_0
      refine j_st (st' := [vL r10, vL s]) rfl ?_
      refine j_iload_n (pc := 74) dX12_mean_74 rfl rfl ?_
      refine j_callS (pc := 75) (As := [vL s, vL r10, vI w]) (st := []) (c_X12_told s ⟨by omega, by omega⟩ r10 ⟨by omega, by omega⟩ w ⟨by omega, by omega⟩ τ hIτ (by omega)) ms_X12_267 rfl dX12_mean_75 ⟨Nat.le_of_ble_eq_true rfl, Nat.le_of_ble_eq_true rfl⟩ ⟨Nat.le_refl _, Nat.le_refl _⟩ rfl (Nat.le_of_ble_eq_true rfl) rfl (fun z11 σ12 hz11 => ?_)
      obtain ⟨r14, rfl, hr14, rfl, q13_0⟩ := hz11
      replace q13_0 : r14 = euM s r10 (eu s.natAbs r10 s) w := q13_0
      refine j_st (st' := [vL r14]) rfl ?_
      exact j_lret (pc := 78) ⟨rfl, rfl⟩ dX12_mean_78 rfl ⟨_, rfl, ⟨by omega, by omega⟩, hIτ, hFτ, trivial⟩
    · refine j_aload_n (pc := 39) dX12_mean_39 rfl rfl ?_
      refine j_iconst (pc := 40) dX12_mean_40 ?_
      refine j_iload_n (pc := 41) dX12_mean_41 rfl rfl ?_
      refine j_iload (pc := 42) dX12_mean_42 rfl ?_
      refine j_callV (pc := 44) (As := [vI 0, vI h, vI g]) (st := []) (c_X12_falls hM 0 (by (first | decide | exact ⟨by omega, by omega⟩)) h ⟨by omega, by omega⟩ g ⟨by omega, by omega⟩ τ hIτ (by omega)) mv_X12_245 rfl rfl rfl (a_88 hM) dX12_mean_44 ⟨Nat.le_of_ble_eq_true rfl, Nat.le_of_ble_eq_true rfl⟩ ⟨Nat.le_refl _, Nat.le_refl _⟩ rfl (Nat.le_of_ble_eq_true rfl) rfl (fun z15 σ16 hz15 => ?_)
      obtain ⟨rfl, hIσ16, hGσ16, q17_0, q17_1⟩ := hz15
      replace q17_0 : (σ16 88 19, σ16 88 20, σ16 88 21, σ16 88 22) = fallG (wM τ) (gM (0 : Int) τ) h g h.toNat 0 := q17_0
      replace q17_1 : σ16 88 23 = strS (wM τ) h (σ16 88 19) := q17_1
      have hFσ16 : tw_F (fun c j => (c = 88 ∧ (j = 19 ∨ j = 20 ∨ j = 21 ∨ j = 22 ∨ j = 23))) σ σ16 := tw_F_tr hFτ hGσ16 (fun c j q => (show (c = 88 ∧ (j = 19 ∨ j = 20 ∨ j = 21 ∨ j = 22 ∨ j = 23)) from by replace q : (c = 88 ∧ (j = 19 ∨ j = 20 ∨ j = 21 ∨ j = 22 ∨ j = 23)) := q; exact q))
      refine j_st (st' := []) rfl ?_
      refine j_lload_n (pc := 47) dX12_mean_47 rfl rfl ?_
      refine j_aload_n (pc := 48) dX12_mean_48 rfl rfl ?_
      refine j_iload (pc := 49) dX12_mean_49 rfl ?_
      refine j_callV (pc := 51) (As := [vI g]) (st := [vL s]) (c_X12_likely hM g ⟨by omega, by omega⟩ σ16 hIσ16) mv_X12_259 rfl rfl rfl (a_88 hM) dX12_mean_51 ⟨Nat.le_of_ble_eq_true rfl, Nat.le_of_ble_eq_true rfl⟩ ⟨Nat.le_refl _, Nat.le_refl _⟩ rfl (Nat.le_of_ble_eq_true rfl) rfl (fun z19 σ20 hz19 => ?_)
      obtain ⟨r22, rfl, hr22, rfl, -⟩ := hz19
      refine j_st (st' := [vL r22, vL s]) rfl ?_
      refine j_aload_n (pc := 54) dX12_mean_54 rfl rfl ?_
      refine j_iload_n (pc := 55) dX12_mean_55 rfl rfl ?_
      refine j_callV (pc := 56) (As := [vI h]) (st := [vL r22, vL s]) (c_X12_harmNow hM h ⟨by omega, by omega⟩ σ16 hIσ16) mv_X12_252 rfl rfl rfl (a_88 hM) dX12_mean_56 ⟨Nat.le_of_ble_eq_true rfl, Nat.le_of_ble_eq_true rfl⟩ ⟨Nat.le_refl _, Nat.le_refl _⟩ rfl (Nat.le_of_ble_eq_true rfl) rfl (fun z23 σ24 hz23 => ?_)
      obtain ⟨r26, rfl, hr26, rfl, q25_0⟩ := hz23
      replace q25_0 : (σ16 88 23 = -4 ∧ r26 = 0) ∨ (¬ σ16 88 23 = -4 ∧ (r26 = h - σ16 88 23 ∨ σ16 88 23 < -4 ∨ 40 < σ16 88 23)) := q25_0
      refine j_st (st' := [vI r26, vL r22, vL s]) rfl ?_
      refine j_i2l (pc := 59) dX12_mean_59 ?_
      rw [w32_eq (a := r26) (by omega) (by omega)]
      refine j_lmul (pc := 60) dX12_mean_60 ?_
      refine j_topL (fun z27 ez27 hz27 => ?_)
      refine j_ladd (pc := 61) dX12_mean_61 ?_
      refine j_topL (fun z28 ez28 hz28 => ?_)
      refine j_lstore_n (pc := 62) (i := 3) (ls' := [(0, vR 88), (1, vI h), (2, vI w), (3, vL z28), (5, vI g)]) [1, 2, 3, 0, 4] dX12_mean_62 rfl (Nat.le_of_ble_eq_true rfl) rfl rfl ?_
      refine j_iinc (pc := 63) (i := 5) (n := 1) (ls' := [(0, vR 88), (1, vI h), (2, vI w), (3, vL z28), (5, vI (g + 1))]) [1, 2, 3, 4, 0] dX12_mean_63 rfl (Nat.le_of_ble_eq_true rfl) rfl rfl ?_
      refine j_goto (pc := 66) (tgt := 27) dX12_mean_66 rfl ?_
      refine j_ls (ls' := [(0, vR 88), (1, vI h), (2, vI w), (3, vL z28), (5, vI (g + 1))]) [0, 1, 2, 3, 4] rfl ?_
      exact ih z28 ⟨by omega, by omega⟩ (g + 1) ⟨by omega, by omega⟩ σ16 hIσ16 hFσ16 (show 1 ≤ h ∧ h ≤ σ 91 0 ∧ h ≤ 40 from by omega) (show (2147483647 - (g + 1)).toNat < N_ from by omega)
set_option maxHeartbeats 4000000 in
set_option maxRecDepth 100000 in
theorem c_X12_mean {G : tw_G} (hM : tw_isM G) (h : Int) (hh : -2147483648 ≤ h ∧ h ≤ 2147483647) (w : Int) (hw : -2147483648 ≤ w ∧ w ≤ 2147483647) (σ : tw_M) (hI : tw_I σ) (hq0 : mc σ 0 (σ 91 0).toNat ≤ 10) : tw_C G yX12_mean cX12_mean 6 (some .long) 4 [vR 88, vI h, vI w] σ (q_X12_mean h w σ) := by
  refine tw_met [(0, vR 88), (1, vI h), (2, vI w)] (by decide +kernel) rfl (Nat.le_of_ble_eq_true rfl) ?_
  refine j_aload_n (pc := 0) dX12_mean_0 rfl rfl ?_
  refine j_iload_n (pc := 1) dX12_mean_1 rfl rfl ?_
  refine j_callV (pc := 2) (As := [vI h]) (st := []) (c_X12_isAt hM h ⟨by omega, by omega⟩ σ hI) mv_X12_175 rfl rfl rfl (a_88 hM) dX12_mean_2 ⟨Nat.le_of_ble_eq_true rfl, Nat.le_of_ble_eq_true rfl⟩ ⟨Nat.le_refl _, Nat.le_refl _⟩ rfl (Nat.le_of_ble_eq_true rfl) rfl (fun z29 σ30 hz29 => ?_)
  obtain ⟨r32, rfl, hr32, rfl, q31_0⟩ := hz29
  replace q31_0 : (r32 = 1 ∧ 1 ≤ h ∧ h ≤ σ 91 0 ∧ h ≤ 40) ∨ (r32 = 0 ∧ ¬ (1 ≤ h ∧ h ≤ σ 91 0)) := q31_0
  refine j_st (st' := [vI r32]) rfl ?_
  refine j_ifR_eq (pc := 5) (tgt := 18) ⟨by omega, by omega⟩ dX12_mean_5 rfl (fun h33 => ?_) (fun h33 => ?_)
  · refine j_ldc2 (pc := 18) (z := -1) dX12_mean_18 (tw_inc tm_7 (i := 81) rfl rfl) ?_
    exact j_lret (pc := 21) ⟨rfl, rfl⟩ dX12_mean_21 rfl ⟨_, rfl, ⟨by omega, by omega⟩, hI, (tw_F_rf), trivial⟩
  · refine j_iload_n (pc := 8) dX12_mean_8 rfl rfl ?_
    refine j_i2l (pc := 9) dX12_mean_9 ?_
    rw [w32_eq (a := w) (by omega) (by omega)]
    refine j_lconst (pc := 10) (z := 0) dX12_mean_10 rfl ?_
    refine j_lconst (pc := 11) (z := 1) dX12_mean_11 rfl ?_
    refine j_callS (pc := 12) (As := [vL w, vL 0, vL 1]) (st := []) (c_X12_in w ⟨by omega, by omega⟩ 0 (by (first | decide | exact ⟨by omega, by omega⟩)) 1 (by (first | decide | exact ⟨by omega, by omega⟩)) σ hI) ms_X12_82 rfl dX12_mean_12 ⟨Nat.le_of_ble_eq_true rfl, Nat.le_of_ble_eq_true rfl⟩ ⟨Nat.le_refl _, Nat.le_refl _⟩ rfl (Nat.le_of_ble_eq_true rfl) rfl (fun z34 σ35 hz34 => ?_)
    obtain ⟨r37, rfl, hr37, rfl, q36_0⟩ := hz34
    replace q36_0 : (r37 = 1 ∧ (0 : Int) ≤ w ∧ w ≤ (1 : Int)) ∨ (r37 = 0 ∧ ¬ ((0 : Int) ≤ w ∧ w ≤ (1 : Int))) := q36_0
    refine j_st (st' := [vI r37]) rfl ?_
    refine j_ifR_ne (pc := 15) (tgt := 22) ⟨by omega, by omega⟩ dX12_mean_15 rfl (fun h38 => ?_) (fun h38 => ?_)
    · refine j_lconst (pc := 22) (z := 0) dX12_mean_22 rfl ?_
      refine j_lstore_n (pc := 23) (i := 3) (ls' := [(0, vR 88), (1, vI h), (2, vI w), (3, vL 0)]) [1, 2, 3, 0] dX12_mean_23 rfl (Nat.le_of_ble_eq_true rfl) rfl rfl ?_
      refine j_iconst (pc := 24) dX12_mean_24 ?_
      refine j_istore (pc := 25) (i := 5) (ls' := [(0, vR 88), (1, vI h), (2, vI w), (3, vL 0), (5, vI 0)]) [1, 2, 3, 4, 0] dX12_mean_25 (Nat.le_of_ble_eq_true rfl) rfl rfl ?_
      refine j_ls (ls' := [(0, vR 88), (1, vI h), (2, vI w), (3, vL 0), (5, vI 0)]) [0, 1, 2, 3, 4] rfl ?_
      exact (l_X12_mean hM h hh w hw σ hI hq0 (((2147483647 - (0 : Int)).toNat) + 1)) 0 (by (first | decide | exact ⟨by omega, by omega⟩)) 0 (by (first | decide | exact ⟨by omega, by omega⟩)) σ hI (tw_F_rf) (show 1 ≤ h ∧ h ≤ σ 91 0 ∧ h ≤ 40 from by omega) (Nat.lt_succ_self _)
    · refine j_ldc2 (pc := 18) (z := -1) dX12_mean_18 (tw_inc tm_7 (i := 81) rfl rfl) ?_
      exact j_lret (pc := 21) ⟨rfl, rfl⟩ dX12_mean_21 rfl ⟨_, rfl, ⟨by omega, by omega⟩, hI, (tw_F_rf), trivial⟩
abbrev q_X12_riskOf (b : Int) (σ : tw_M) : Option tw_V → tw_M → Prop := fun z τ => ∃ r : Int, z = some (vI r) ∧ (-2147483648 ≤ r ∧ r ≤ 2147483647) ∧ tw_I τ ∧ tw_F (fun c j => (c = 88 ∧ (j = 19 ∨ j = 20 ∨ j = 21 ∨ j = 22 ∨ j = 23))) σ τ ∧ (r = rsk (wM σ) (gM b σ) 1023 (σ 91 0).toNat)
set_option maxHeartbeats 4000000 in
set_option maxRecDepth 100000 in
theorem l_X12_riskOf {G : tw_G} (hM : tw_isM G) (b : Int) (hb : 0 ≤ b ∧ b ≤ 300) (σ : tw_M) (hI : tw_I σ) (hq0 : b % 100 = 0) : ∀ N_ : Nat, (∀ (s : Int) (hs : -2147483648 ≤ s ∧ s ≤ 2147483647) (h : Int) (hh : 1 ≤ h ∧ h ≤ 41) (τ : tw_M) (hIτ : tw_I τ) (hFτ : tw_F (fun c j => (c = 88 ∧ (j = 19 ∨ j = 20 ∨ j = 21 ∨ j = 22 ∨ j = 23))) σ τ) (i0 : σ 91 8 + 1 ≤ h) (i1 : h ≤ σ 91 0 + 1 ∨ h = σ 91 8 + 1) (i2 : -400 * (h - 1) ≤ s ∧ s ≤ 400 * (h - 1)) (i3 : s = rsk (wM σ) (gM b σ) 1023 (h - 1).toNat) (hm : (41 - h).toNat < N_), tw_J G (tw_mt RX12 cX12_riskOf 4 (some .int) 3) (tw_E G (q_X12_riskOf b σ)) 12 [(0, vR 88), (1, vI b), (2, vI s), (3, vI h)] [] τ) := by
  intro N_
  induction N_ with
  | zero => exact fun s hs h hh τ hIτ hFτ i0 i1 i2 i3 hm => absurd hm (Nat.not_lt_zero _)
  | succ N_ ih =>
    intro s hs h hh τ hIτ hFτ i0 i1 i2 i3 hm
    have MT : wM τ = wM σ := wM_F (fun j a b => hFτ 91 j (show ¬ ((91 = 88 ∧ (j = 19 ∨ j = 20 ∨ j = 21 ∨ j = 22 ∨ j = 23))) from fun h => absurd h.1 (by decide))) (fun j => hFτ 92 j (show ¬ ((92 = 88 ∧ (j = 19 ∨ j = 20 ∨ j = 21 ∨ j = 22 ∨ j = 23))) from fun h => absurd h.1 (by decide)))
    have M8 : wM σ 108 = τ 91 8 := (wM_r (j := 8) (by decide)).trans (hFτ 91 8 (show ¬ ((91 = 88 ∧ (8 = 19 ∨ 8 = 20 ∨ 8 = 21 ∨ 8 = 22 ∨ 8 = 23))) from by decide)).symm
    have R8 : wM σ 108 = σ 91 8 := wM_r (j := 8) (by decide)
    have GT : gM b τ = gM b σ := gM_F (fun f x1 x2 => hFτ 89 _ (show ¬ ((89 = 88 ∧ ((b + f).toNat = 19 ∨ (b + f).toNat = 20 ∨ (b + f).toNat = 21 ∨ (b + f).toNat = 22 ∨ (b + f).toNat = 23))) from fun h => absurd h.1 (by decide)))
    have ft : (1 : Int) ≤ σ 91 0 ∧ σ 91 0 ≤ 40 := hI 91 0
    have n0 : τ 91 0 = σ 91 0 := hFτ 91 0 (show ¬ ((91 = 88 ∧ (0 = 19 ∨ 0 = 20 ∨ 0 = 21 ∨ 0 = 22 ∨ 0 = 23))) from by decide)
    have n8 : τ 91 8 = σ 91 8 := hFτ 91 8 (show ¬ ((91 = 88 ∧ (8 = 19 ∨ 8 = 20 ∨ 8 = 21 ∨ 8 = 22 ∨ 8 = 23))) from by decide)
    refine j_iload_n (pc := 12) dX12_riskOf_12 rfl rfl ?_
    refine j_aload_n (pc := 13) dX12_riskOf_13 rfl rfl ?_
    refine j_getR (pc := 14) (r := 91) fl_X12_17 dX12_riskOf_14 (a_88 hM) rfl ?_
    refine j_iconst (pc := 17) dX12_riskOf_17 ?_
    refine j_iald (pc := 18) dX12_riskOf_18 (a_91 hM) (by omega) (by omega) (by decide) ?_
    refine j_topV (show τ 91 (Int.toNat 0) = τ 91 0 from rfl) ?_
    have f1 : (1 : Int) ≤ τ 91 0 ∧ τ 91 0 ≤ 40 := hIτ 91 0
    refine j_icmpR_gt (pc := 19) (tgt := 52) ⟨by omega, by omega⟩ ⟨by omega, by omega⟩ dX12_riskOf_19 rfl (fun h2 => ?_) (fun h2 => ?_)
    · refine j_iload_n (pc := 52) dX12_riskOf_52 rfl rfl ?_
      exact j_iret (pc := 53) ⟨rfl, rfl⟩ dX12_riskOf_53 rfl ⟨_, rfl, ⟨by omega, by omega⟩, hIτ, hFτ, (by by_cases q : h = σ 91 0 + 1; (rw [show σ 91 0 = h - 1 from by omega]; exact i3); (rw [i3, rsk_low (a := (σ 91 0).toNat) (b := (h - 1).toNat) (by omega) (by rw [R8]; omega)]))⟩
    · refine j_aload_n (pc := 22) dX12_riskOf_22 rfl rfl ?_
      refine j_iload_n (pc := 23) dX12_riskOf_23 rfl rfl ?_
      refine j_iload_n (pc := 24) dX12_riskOf_24 rfl rfl ?_
      refine j_sipush (pc := 25) dX12_riskOf_25 rfl ?_
      refine j_callV (pc := 28) (As := [vI b, vI h, vI 1023]) (st := []) (c_X12_falls hM b ⟨by omega, by omega⟩ h ⟨by omega, by omega⟩ 1023 (by (first | decide | exact ⟨by omega, by omega⟩)) τ hIτ (by omega)) mv_X12_245 rfl rfl rfl (a_88 hM) dX12_riskOf_28 ⟨Nat.le_of_ble_eq_true rfl, Nat.le_of_ble_eq_true rfl⟩ ⟨Nat.le_refl _, Nat.le_refl _⟩ rfl (Nat.le_of_ble_eq_true rfl) rfl (fun z3 σ4 hz3 => ?_)
      obtain ⟨rfl, hIσ4, hGσ4, q5_0, q5_1⟩ := hz3
      replace q5_0 : (σ4 88 19, σ4 88 20, σ4 88 21, σ4 88 22) = fallG (wM τ) (gM b τ) h (1023 : Int) h.toNat 0 := q5_0
      replace q5_1 : σ4 88 23 = strS (wM τ) h (σ4 88 19) := q5_1
      have hFσ4 : tw_F (fun c j => (c = 88 ∧ (j = 19 ∨ j = 20 ∨ j = 21 ∨ j = 22 ∨ j = 23))) σ σ4 := tw_F_tr hFτ hGσ4 (fun c j q => (show (c = 88 ∧ (j = 19 ∨ j = 20 ∨ j = 21 ∨ j = 22 ∨ j = 23)) from by replace q : (c = 88 ∧ (j = 19 ∨ j = 20 ∨ j = 21 ∨ j = 22 ∨ j = 23)) := q; exact q))
      refine j_st (st' := []) rfl ?_
      refine j_iload_n (pc := 31) dX12_riskOf_31 rfl rfl ?_
      refine j_aload_n (pc := 32) dX12_riskOf_32 rfl rfl ?_
      refine j_iload_n (pc := 33) dX12_riskOf_33 rfl rfl ?_
      refine j_iconst (pc := 34) dX12_riskOf_34 ?_
      refine j_callV (pc := 35) (As := [vI h, vI 0]) (st := [vI s]) (c_X12_of hM h ⟨by omega, by omega⟩ 0 (by (first | decide | exact ⟨by omega, by omega⟩)) σ4 hIσ4) mv_X12_184 rfl rfl rfl (a_88 hM) dX12_riskOf_35 ⟨Nat.le_of_ble_eq_true rfl, Nat.le_of_ble_eq_true rfl⟩ ⟨Nat.le_refl _, Nat.le_refl _⟩ rfl (Nat.le_of_ble_eq_true rfl) rfl (fun z7 σ8 hz7 => ?_)
      obtain ⟨r10, rfl, hr10, rfl, q9_0⟩ := hz7
      replace q9_0 : r10 = σ4 92 (5 * h + (0 : Int)).toNat := q9_0
      refine j_st (st' := [vI r10, vI s]) rfl ?_
      refine j_aload_n (pc := 38) dX12_riskOf_38 rfl rfl ?_
      refine j_iload_n (pc := 39) dX12_riskOf_39 rfl rfl ?_
      refine j_callV (pc := 40) (As := [vI h]) (st := [vI r10, vI s]) (c_X12_harmNow hM h ⟨by omega, by omega⟩ σ4 hIσ4) mv_X12_252 rfl rfl rfl (a_88 hM) dX12_riskOf_40 ⟨Nat.le_of_ble_eq_true rfl, Nat.le_of_ble_eq_true rfl⟩ ⟨Nat.le_refl _, Nat.le_refl _⟩ rfl (Nat.le_of_ble_eq_true rfl) rfl (fun z11 σ12 hz11 => ?_)
      obtain ⟨r14, rfl, hr14, rfl, q13_0⟩ := hz11
      replace q13_0 : (σ4 88 23 = -4 ∧ r14 = 0) ∨ (¬ σ4 88 23 = -4 ∧ (r14 = h - σ4 88 23 ∨ σ4 88 23 < -4 ∨ 40 < σ4 88 23)) := q13_0
      refine j_st (st' := [vI r14, vI r10, vI s]) rfl ?_
      have hB := wM_bd (σ := σ) (h := h) ⟨by omega, by omega⟩
      have hf : r14 = harF (wM σ) (gM b σ) h 1023 := by
        have t := q5_0
        have u := q5_1
        rw [MT] at u
        rw [MT, GT] at t
        unfold harF
        rw [← t]
        exact harS_of u ⟨by omega, by omega⟩ q13_0
      have hh9 : wH (wM σ) h = r10 := (wM_0 ⟨by omega, by omega⟩).trans ((q9_0).trans (hFσ4 92 _ (show ¬ ((92 = 88 ∧ ((5 * h + 0).toNat = 19 ∨ (5 * h + 0).toNat = 20 ∨ (5 * h + 0).toNat = 21 ∨ (5 * h + 0).toNat = 22 ∨ (5 * h + 0).toNat = 23))) from fun h => absurd h.1 (by decide)))).symm
      have p9 := mul_bd (a := r10) (b := r14) ⟨by omega, by omega⟩ (by rw [hf]; unfold harF; exact har_bd ⟨by omega, by omega⟩ ⟨by omega, by omega⟩)
      refine j_imul (pc := 43) dX12_riskOf_43 ?_
      refine j_top (fun z15 ez15 hz15 => ?_)
      have gz15 : r10 * r14 < -2147483648 ∨ 2147483647 < r10 * r14 ∨ z15 = r10 * r14 := by rw [ez15]; exact w32_or _
      obtain ⟨p8, hp8⟩ : ∃ p8, p8 = z15 := ⟨_, rfl⟩
      refine j_iadd (pc := 44) dX12_riskOf_44 ?_
      refine j_top (fun z16 ez16 hz16 => ?_)
      have gz16 : s + z15 < -2147483648 ∨ 2147483647 < s + z15 ∨ z16 = s + z15 := by rw [ez16]; exact w32_or _
      refine j_istore_n (pc := 45) (i := 2) (ls' := [(0, vR 88), (1, vI b), (2, vI z16), (3, vI h)]) [1, 2, 0, 3] dX12_riskOf_45 rfl (Nat.le_of_ble_eq_true rfl) rfl rfl ?_
      refine j_iinc (pc := 46) (i := 3) (n := 1) (ls' := [(0, vR 88), (1, vI b), (2, vI z16), (3, vI (h + 1))]) [1, 2, 3, 0] dX12_riskOf_46 rfl (Nat.le_of_ble_eq_true rfl) rfl rfl ?_
      refine j_goto (pc := 49) (tgt := 12) dX12_riskOf_49 rfl ?_
      refine j_ls (ls' := [(0, vR 88), (1, vI b), (2, vI z16), (3, vI (h + 1))]) [0, 1, 2, 3] rfl ?_
      exact ih z16 ⟨by omega, by omega⟩ (h + 1) ⟨by omega, by omega⟩ σ4 hIσ4 hFσ4 (show σ 91 8 + 1 ≤ (h + 1) from by omega) (show (h + 1) ≤ σ 91 0 + 1 ∨ (h + 1) = σ 91 8 + 1 from by omega) (show -400 * ((h + 1) - 1) ≤ z16 ∧ z16 ≤ 400 * ((h + 1) - 1) from by omega) (show z16 = rsk (wM σ) (gM b σ) 1023 ((h + 1) - 1).toNat from (rsk_u0 (p := p8) (by omega) (by rw [R8]; omega) i3 (by rw [hh9, ← hf]; omega) (by omega))) (show (41 - (h + 1)).toNat < N_ from by omega)
set_option maxHeartbeats 4000000 in
set_option maxRecDepth 100000 in
theorem c_X12_riskOf {G : tw_G} (hM : tw_isM G) (b : Int) (hb : 0 ≤ b ∧ b ≤ 300) (σ : tw_M) (hI : tw_I σ) (hq0 : b % 100 = 0) : tw_C G yX12_riskOf cX12_riskOf 4 (some .int) 3 [vR 88, vI b] σ (q_X12_riskOf b σ) := by
  refine tw_met [(0, vR 88), (1, vI b)] (by decide +kernel) rfl (Nat.le_of_ble_eq_true rfl) ?_
  have R8 : wM σ 108 = σ 91 8 := wM_r (j := 8) (by decide)
  refine j_iconst (pc := 0) dX12_riskOf_0 ?_
  refine j_istore_n (pc := 1) (i := 2) (ls' := [(0, vR 88), (1, vI b), (2, vI 0)]) [1, 2, 0] dX12_riskOf_1 rfl (Nat.le_of_ble_eq_true rfl) rfl rfl ?_
  refine j_aload_n (pc := 2) dX12_riskOf_2 rfl rfl ?_
  refine j_getR (pc := 3) (r := 91) fl_X12_17 dX12_riskOf_3 (a_88 hM) rfl ?_
  refine j_bipush (pc := 6) dX12_riskOf_6 rfl ?_
  refine j_iald (pc := 8) dX12_riskOf_8 (a_91 hM) (by omega) (by omega) (by decide) ?_
  refine j_topV (show σ 91 (Int.toNat 8) = σ 91 8 from rfl) ?_
  have f17 : (0 : Int) ≤ σ 91 8 ∧ σ 91 8 ≤ 9 := hI 91 8
  refine j_iconst (pc := 9) dX12_riskOf_9 ?_
  refine j_iadd (pc := 10) dX12_riskOf_10 ?_
  refine j_istore_n (pc := 11) (i := 3) (ls' := [(0, vR 88), (1, vI b), (2, vI 0), (3, vI ((σ 91 8) + 1))]) [1, 2, 3, 0] dX12_riskOf_11 rfl (Nat.le_of_ble_eq_true rfl) rfl rfl ?_
  refine j_ls (ls' := [(0, vR 88), (1, vI b), (2, vI 0), (3, vI ((σ 91 8) + 1))]) [0, 1, 2, 3] rfl ?_
  exact (l_X12_riskOf hM b hb σ hI hq0 (((41 - ((σ 91 8) + 1)).toNat) + 1)) 0 (by (first | decide | exact ⟨by omega, by omega⟩)) ((σ 91 8) + 1) ⟨by omega, by omega⟩ σ hI (tw_F_rf) (show σ 91 8 + 1 ≤ ((σ 91 8) + 1) from by omega) (show ((σ 91 8) + 1) ≤ σ 91 0 + 1 ∨ ((σ 91 8) + 1) = σ 91 8 + 1 from by omega) (show -400 * (((σ 91 8) + 1) - 1) ≤ (0 : Int) ∧ (0 : Int) ≤ 400 * (((σ 91 8) + 1) - 1) from by omega) (show (0 : Int) = rsk (wM σ) (gM b σ) 1023 (((σ 91 8) + 1) - 1).toNat from ((rsk_low (a := 0) (Nat.zero_le _) (by rw [R8]; omega)).trans rfl).symm) (Nat.lt_succ_self _)
abbrev q_X12_findEffort (b : Int) (σ : tw_M) : Option tw_V → tw_M → Prop := fun z τ => z = none ∧ tw_I τ ∧ tw_F (fun c j => (c = 88 ∧ (j = 24 ∨ j = 25))) σ τ ∧ (τ 88 24 = eff (wM σ) (gM b σ) (σ 91 0).toNat) ∧ (TMs (wM σ) (gM b σ) (-4) 1 (σ 91 0 + 1) (τ 88 25))
set_option maxHeartbeats 4000000 in
set_option maxRecDepth 100000 in
theorem l_X12_findEffort {G : tw_G} (hM : tw_isM G) (b : Int) (hb : 0 ≤ b ∧ b ≤ 300) (σ : tw_M) (hI : tw_I σ) : ∀ N_ : Nat, (∀ (h : Int) (hh : 1 ≤ h ∧ h ≤ 41) (τ : tw_M) (hIτ : tw_I τ) (hFτ : tw_F (fun c j => (c = 88 ∧ (j = 24 ∨ j = 25))) σ τ) (i0 : h ≤ σ 91 0 + 1) (i1 : CLI (wM σ) (gM b σ) (-4) 1 h (cnt (gM b σ) (h - 1).toNat) (τ 88 24) (τ 88 25)) (hm : (41 - h).toNat < N_), tw_J G (tw_mt RX12 cX12_findEffort 3 none 1) (tw_E G (q_X12_findEffort b σ)) 13 [(0, vR 88), (1, vI b), (2, vI h)] [] τ) := by
  intro N_
  induction N_ with
  | zero => exact fun h hh τ hIτ hFτ i0 i1 hm => absurd hm (Nat.not_lt_zero _)
  | succ N_ ih =>
    intro h hh τ hIτ hFτ i0 i1 hm
    have MT : wM τ = wM σ := wM_F (fun j a b => hFτ 91 j (show ¬ ((91 = 88 ∧ (j = 24 ∨ j = 25))) from fun h => absurd h.1 (by decide))) (fun j => hFτ 92 j (show ¬ ((92 = 88 ∧ (j = 24 ∨ j = 25))) from fun h => absurd h.1 (by decide)))
    have M1 : wM σ 101 = τ 91 1 := (wM_r (j := 1) (by decide)).trans (hFτ 91 1 (show ¬ ((91 = 88 ∧ (1 = 24 ∨ 1 = 25))) from by decide)).symm
    have M2 : wM σ 102 = τ 91 2 := (wM_r (j := 2) (by decide)).trans (hFτ 91 2 (show ¬ ((91 = 88 ∧ (2 = 24 ∨ 2 = 25))) from by decide)).symm
    have n0 : τ 91 0 = σ 91 0 := hFτ 91 0 (show ¬ ((91 = 88 ∧ (0 = 24 ∨ 0 = 25))) from by decide)
    have ft : (1 : Int) ≤ σ 91 0 ∧ σ 91 0 ≤ 40 := hI 91 0
    refine j_iload_n (pc := 13) dX12_findEffort_13 rfl rfl ?_
    refine j_aload_n (pc := 14) dX12_findEffort_14 rfl rfl ?_
    refine j_getR (pc := 15) (r := 91) fl_X12_17 dX12_findEffort_15 (a_88 hM) rfl ?_
    refine j_iconst (pc := 18) dX12_findEffort_18 ?_
    refine j_iald (pc := 19) dX12_findEffort_19 (a_91 hM) (by omega) (by omega) (by decide) ?_
    refine j_topV (show τ 91 (Int.toNat 0) = τ 91 0 from rfl) ?_
    have f1 : (1 : Int) ≤ τ 91 0 ∧ τ 91 0 ≤ 40 := hIτ 91 0
    refine j_icmpR_gt (pc := 20) (tgt := 130) ⟨by omega, by omega⟩ ⟨by omega, by omega⟩ dX12_findEffort_20 rfl (fun h2 => ?_) (fun h2 => ?_)
    · exact j_vret (pc := 130) ⟨rfl, rfl⟩ dX12_findEffort_130 rfl ⟨rfl, hIτ, hFτ, (by rw [i1.2.1, show h - 1 = σ 91 0 from by omega]), (by (have c := i1.2.2); rw [show h = σ 91 0 + 1 from by omega] at c; exact c)⟩
    · have g9 : gM b σ h.toNat = τ 89 (b + h).toNat := (gM_at ⟨by omega, by omega⟩).trans (hFτ 89 _ (show ¬ ((89 = 88 ∧ ((b + h).toNat = 24 ∨ (b + h).toNat = 25))) from fun h => absurd h.1 (by decide))).symm
      have h39 : wR (wM σ) h = σ 92 (5 * h + 3).toNat := wM_3 ⟨by omega, by omega⟩
      have b9 := mw_01 (j := (5 * h + 3).toNat) hI (by omega)
      have f3 := hFτ 92 (5 * h + 3).toNat (show ¬ ((92 = 88 ∧ ((5 * h + 3).toNat = 24 ∨ (5 * h + 3).toNat = 25))) from fun h => absurd h.1 (by decide))
      refine j_aload_n (pc := 23) dX12_findEffort_23 rfl rfl ?_
      refine j_dup (pc := 24) dX12_findEffort_24 rfl ?_
      refine j_getI (pc := 25) fl_X12_271 dX12_findEffort_25 (a_88 hM) rfl ?_
      have f3 : (-2147483648 : Int) ≤ τ 88 24 ∧ τ 88 24 ≤ 2147483647 := hIτ 88 24
      refine j_aload_n (pc := 28) dX12_findEffort_28 rfl rfl ?_
      refine j_iload_n (pc := 29) dX12_findEffort_29 rfl rfl ?_
      refine j_iconst (pc := 30) dX12_findEffort_30 ?_
      refine j_callV (pc := 31) (As := [vI h, vI 0]) (st := [vI (τ 88 24), vR 88]) (c_X12_of hM h ⟨by omega, by omega⟩ 0 (by (first | decide | exact ⟨by omega, by omega⟩)) τ hIτ) mv_X12_184 rfl rfl rfl (a_88 hM) dX12_findEffort_31 ⟨Nat.le_of_ble_eq_true rfl, Nat.le_of_ble_eq_true rfl⟩ ⟨Nat.le_refl _, Nat.le_refl _⟩ rfl (Nat.le_of_ble_eq_true rfl) rfl (fun z4 σ5 hz4 => ?_)
      obtain ⟨r7, rfl, hr7, rfl, q6_0⟩ := hz4
      replace q6_0 : r7 = τ 92 (5 * h + (0 : Int)).toNat := q6_0
      refine j_st (st' := [vI r7, vI (τ 88 24), vR 88]) rfl ?_
      have hh9 : wH (wM σ) h = r7 := (wM_0 ⟨by omega, by omega⟩).trans ((q6_0).trans (hFτ 92 _ (show ¬ ((92 = 88 ∧ ((5 * h + 0).toNat = 24 ∨ (5 * h + 0).toNat = 25))) from fun h => absurd h.1 (by decide)))).symm
      refine j_iadd (pc := 34) dX12_findEffort_34 ?_
      refine j_top (fun z8 ez8 hz8 => ?_)
      have x1 := ez8; rw [← hh9] at x1
      refine j_putI (pc := 35) fl_X12_271 fp_X12_24 dX12_findEffort_35 (a_88 hM) rfl (j_nm (fun σ9 (eσ9 : σ9 = tw_up τ 88 24 z8) => ?_))
      have hIσ9 : tw_I σ9 := tw_I_up hIτ eσ9 (show (-2147483648 : Int) ≤ z8 ∧ z8 ≤ 2147483647 from ⟨by omega, by omega⟩)
      have hFσ9 : tw_F (fun c j => (c = 88 ∧ (j = 24 ∨ j = 25))) σ σ9 := tw_F_up hFτ eσ9 (show (88 = 88 ∧ (24 = 24 ∨ 24 = 25)) from ⟨rfl, (Or.inl rfl)⟩)
      refine j_aload_n (pc := 38) dX12_findEffort_38 rfl rfl ?_
      refine j_dup (pc := 39) dX12_findEffort_39 rfl ?_
      refine j_getI (pc := 40) fl_X12_271 dX12_findEffort_40 (a_88 hM) rfl ?_
      refine j_topV (show σ9 88 24 = z8 from (tw_eq1 eσ9)) ?_
      refine j_aload_n (pc := 43) dX12_findEffort_43 rfl rfl ?_
      refine j_getR (pc := 44) (r := 89) fl_X12_7 dX12_findEffort_44 (a_88 hM) rfl ?_
      refine j_iload_n (pc := 47) dX12_findEffort_47 rfl rfl ?_
      refine j_iload_n (pc := 48) dX12_findEffort_48 rfl rfl ?_
      refine j_iadd (pc := 49) dX12_findEffort_49 ?_
      refine j_iald (pc := 50) dX12_findEffort_50 (a_89 hM) (by omega) (by omega) (by decide) ?_
      refine j_topV (show σ9 89 ((b + h).toNat) = τ 89 ((b + h).toNat) from (tw_ne1 eσ9 (by (first | decide | omega)))) ?_
      have f10 : (-2147483648 : Int) ≤ τ 89 ((b + h).toNat) ∧ τ 89 ((b + h).toNat) ≤ 2147483647 := st_D hIτ _
      refine j_ifR_le (pc := 51) (tgt := 63) ⟨by omega, by omega⟩ dX12_findEffort_51 rfl (fun h11 => ?_) (fun h11 => ?_)
      · refine j_iconst (pc := 63) dX12_findEffort_63 ?_
        refine j_iadd (pc := 64) dX12_findEffort_64 ?_
        refine j_putI (pc := 65) fl_X12_271 fp_X12_24 dX12_findEffort_65 (a_88 hM) rfl (j_nm (fun σ12 (eσ12 : σ12 = tw_up σ9 88 24 (z8 + 0)) => ?_))
        have hIσ12 : tw_I σ12 := tw_I_up hIσ9 eσ12 (show (-2147483648 : Int) ≤ z8 + 0 ∧ z8 + 0 ≤ 2147483647 from ⟨by omega, by omega⟩)
        have hFσ12 : tw_F (fun c j => (c = 88 ∧ (j = 24 ∨ j = 25))) σ σ12 := tw_F_up hFσ9 eσ12 (show (88 = 88 ∧ (24 = 24 ∨ 24 = 25)) from ⟨rfl, (Or.inl rfl)⟩)
        have he7 : σ12 88 24 = _ := (tw_eq1 eσ12)
        refine j_aload_n (pc := 68) dX12_findEffort_68 rfl rfl ?_
        refine j_aload_n (pc := 69) dX12_findEffort_69 rfl rfl ?_
        refine j_getI (pc := 70) fl_X12_271 dX12_findEffort_70 (a_88 hM) rfl ?_
        refine j_topV (show σ12 88 24 = z8 + 0 from (tw_eq1 eσ12)) ?_
        refine j_aload_n (pc := 73) dX12_findEffort_73 rfl rfl ?_
        refine j_getR (pc := 74) (r := 91) fl_X12_17 dX12_findEffort_74 (a_88 hM) rfl ?_
        refine j_iconst (pc := 77) dX12_findEffort_77 ?_
        refine j_iald (pc := 78) dX12_findEffort_78 (a_91 hM) (by omega) (by omega) (by decide) ?_
        refine j_topV (show σ12 91 (Int.toNat 1) = σ12 91 1 from rfl) ?_
        refine j_topV (show σ12 91 1 = τ 91 1 from ((tw_ne1 eσ12 (by (first | decide | omega)))).trans (tw_ne1 eσ9 (by (first | decide | omega)))) ?_
        have f13 : (1 : Int) ≤ τ 91 1 ∧ τ 91 1 ≤ 999 := hIτ 91 1
        refine j_icmpR_le (pc := 79) (tgt := 95) ⟨by omega, by omega⟩ ⟨by omega, by omega⟩ dX12_findEffort_79 rfl (fun h14 => ?_) (fun h14 => ?_)
        · refine j_aload_n (pc := 95) dX12_findEffort_95 rfl rfl ?_
          refine j_getI (pc := 96) fl_X12_274 dX12_findEffort_96 (a_88 hM) rfl ?_
          refine j_topV (show σ12 88 25 = τ 88 25 from ((tw_ne1 eσ12 (by (first | decide | omega)))).trans (tw_ne1 eσ9 (by (first | decide | omega)))) ?_
          have f15 : (-2147483648 : Int) ≤ τ 88 25 ∧ τ 88 25 ≤ 2147483647 := hIτ 88 25
          refine j_putI (pc := 99) fl_X12_274 fp_X12_25 dX12_findEffort_99 (a_88 hM) rfl (j_nm (fun σ16 (eσ16 : σ16 = tw_up σ12 88 25 (τ 88 25)) => ?_))
          have hIσ16 : tw_I σ16 := tw_I_up hIσ12 eσ16 (show (-2147483648 : Int) ≤ τ 88 25 ∧ τ 88 25 ≤ 2147483647 from ⟨by omega, by omega⟩)
          have hFσ16 : tw_F (fun c j => (c = 88 ∧ (j = 24 ∨ j = 25))) σ σ16 := tw_F_up hFσ12 eσ16 (show (88 = 88 ∧ (25 = 24 ∨ 25 = 25)) from ⟨rfl, (Or.inr rfl)⟩)
          refine j_aload_n (pc := 102) dX12_findEffort_102 rfl rfl ?_
          refine j_aload_n (pc := 103) dX12_findEffort_103 rfl rfl ?_
          refine j_iload_n (pc := 104) dX12_findEffort_104 rfl rfl ?_
          refine j_iconst (pc := 105) dX12_findEffort_105 ?_
          refine j_callV (pc := 106) (As := [vI h, vI 3]) (st := [vR 88]) (c_X12_of hM h ⟨by omega, by omega⟩ 3 (by (first | decide | exact ⟨by omega, by omega⟩)) σ16 hIσ16) mv_X12_184 rfl rfl rfl (a_88 hM) dX12_findEffort_106 ⟨Nat.le_of_ble_eq_true rfl, Nat.le_of_ble_eq_true rfl⟩ ⟨Nat.le_refl _, Nat.le_refl _⟩ rfl (Nat.le_of_ble_eq_true rfl) rfl (fun z17 σ18 hz17 => ?_)
          obtain ⟨r20, rfl, hr20, rfl, q19_0⟩ := hz17
          replace q19_0 : r20 = σ16 92 (5 * h + (3 : Int)).toNat := q19_0
          refine j_st (st' := [vI r20, vR 88]) rfl ?_
          have f4 := hFσ16 92 (5 * h + 3).toNat (show ¬ ((92 = 88 ∧ ((5 * h + 3).toNat = 24 ∨ (5 * h + 3).toNat = 25))) from fun h => absurd h.1 (by decide))
          refine j_iconst (pc := 109) dX12_findEffort_109 ?_
          refine j_icmpR_ne (pc := 110) (tgt := 117) ⟨by omega, by omega⟩ ⟨by omega, by omega⟩ dX12_findEffort_110 rfl (fun h21 => ?_) (fun h21 => ?_)
          · refine j_aload_n (pc := 117) dX12_findEffort_117 rfl rfl ?_
            refine j_getI (pc := 118) fl_X12_271 dX12_findEffort_118 (a_88 hM) rfl ?_
            refine j_topV (show σ16 88 24 = z8 + 0 from ((tw_ne1 eσ16 (by (first | decide | omega)))).trans (tw_eq1 eσ12)) ?_
            refine j_putI (pc := 121) fl_X12_271 fp_X12_24 dX12_findEffort_121 (a_88 hM) rfl (j_nm (fun σ22 (eσ22 : σ22 = tw_up σ16 88 24 (z8 + 0)) => ?_))
            have hIσ22 : tw_I σ22 := tw_I_up hIσ16 eσ22 (show (-2147483648 : Int) ≤ z8 + 0 ∧ z8 + 0 ≤ 2147483647 from ⟨by omega, by omega⟩)
            have hFσ22 : tw_F (fun c j => (c = 88 ∧ (j = 24 ∨ j = 25))) σ σ22 := tw_F_up hFσ16 eσ22 (show (88 = 88 ∧ (24 = 24 ∨ 24 = 25)) from ⟨rfl, (Or.inl rfl)⟩)
            refine j_iinc (pc := 124) (i := 2) (n := 1) (ls' := [(0, vR 88), (1, vI b), (2, vI (h + 1))]) [1, 2, 0] dX12_findEffort_124 rfl (Nat.le_of_ble_eq_true rfl) rfl rfl ?_
            refine j_goto (pc := 127) (tgt := 13) dX12_findEffort_127 rfl ?_
            refine j_ls (ls' := [(0, vR 88), (1, vI b), (2, vI (h + 1))]) [0, 1, 2] rfl ?_
            have y23 : σ22 88 24 = z8 + 0 := (tw_eq1 eσ22)
            have y24 : σ22 88 25 = τ 88 25 := ((tw_ne1 eσ22 (by (first | decide | omega)))).trans (tw_eq1 eσ16)
            exact ih (h + 1) ⟨by omega, by omega⟩ σ22 hIσ22 hFσ22 (show (h + 1) ≤ σ 91 0 + 1 from by omega) (show CLI (wM σ) (gM b σ) (-4) 1 (h + 1) (cnt (gM b σ) ((h + 1) - 1).toNat) (σ22 88 24) (σ22 88 25) from (CL_s (e2 := σ12 88 24) i1 (by omega) ⟨by omega, by omega⟩ x1 (by (have c9 := cnt_si (g := gM b σ) (f := h) (by omega)); rw [show (h + 1 - 1 : Int) = h from by omega]; first | exact Or.inl ⟨by omega, by omega, he7.trans x2⟩ | exact Or.inr ⟨by omega, by omega, by omega⟩) (by omega) (by omega))) (show (41 - (h + 1)).toNat < N_ from by omega)
          · refine j_iconst (pc := 113) dX12_findEffort_113 ?_
            refine j_goto (pc := 114) (tgt := 121) dX12_findEffort_114 rfl ?_
            refine j_putI (pc := 121) fl_X12_271 fp_X12_24 dX12_findEffort_121 (a_88 hM) rfl (j_nm (fun σ25 (eσ25 : σ25 = tw_up σ16 88 24 0) => ?_))
            have hIσ25 : tw_I σ25 := tw_I_up hIσ16 eσ25 (show (-2147483648 : Int) ≤ 0 ∧ 0 ≤ 2147483647 from by decide)
            have hFσ25 : tw_F (fun c j => (c = 88 ∧ (j = 24 ∨ j = 25))) σ σ25 := tw_F_up hFσ16 eσ25 (show (88 = 88 ∧ (24 = 24 ∨ 24 = 25)) from ⟨rfl, (Or.inl rfl)⟩)
            refine j_iinc (pc := 124) (i := 2) (n := 1) (ls' := [(0, vR 88), (1, vI b), (2, vI (h + 1))]) [1, 2, 0] dX12_findEffort_124 rfl (Nat.le_of_ble_eq_true rfl) rfl rfl ?_
            refine j_goto (pc := 127) (tgt := 13) dX12_findEffort_127 rfl ?_
            refine j_ls (ls' := [(0, vR 88), (1, vI b), (2, vI (h + 1))]) [0, 1, 2] rfl ?_
            have y26 : σ25 88 24 = 0 := (tw_eq1 eσ25)
            have y27 : σ25 88 25 = τ 88 25 := ((tw_ne1 eσ25 (by (first | decide | omega)))).trans (tw_eq1 eσ16)
            exact ih (h + 1) ⟨by omega, by omega⟩ σ25 hIσ25 hFσ25 (show (h + 1) ≤ σ 91 0 + 1 from by omega) (show CLI (wM σ) (gM b σ) (-4) 1 (h + 1) (cnt (gM b σ) ((h + 1) - 1).toNat) (σ25 88 24) (σ25 88 25) from (CL_s (e2 := σ12 88 24) i1 (by omega) ⟨by omega, by omega⟩ x1 (by (have c9 := cnt_si (g := gM b σ) (f := h) (by omega)); rw [show (h + 1 - 1 : Int) = h from by omega]; first | exact Or.inl ⟨by omega, by omega, he7.trans x2⟩ | exact Or.inr ⟨by omega, by omega, by omega⟩) (by omega) (by omega))) (show (41 - (h + 1)).toNat < N_ from by omega)
        · refine j_aload_n (pc := 82) dX12_findEffort_82 rfl rfl ?_
          refine j_getI (pc := 83) fl_X12_274 dX12_findEffort_83 (a_88 hM) rfl ?_
          refine j_topV (show σ12 88 25 = τ 88 25 from ((tw_ne1 eσ12 (by (first | decide | omega)))).trans (tw_ne1 eσ9 (by (first | decide | omega)))) ?_
          have f28 : (-2147483648 : Int) ≤ τ 88 25 ∧ τ 88 25 ≤ 2147483647 := hIτ 88 25
          refine j_bipush (pc := 86) dX12_findEffort_86 rfl ?_
          refine j_icmpR_ne (pc := 88) (tgt := 95) ⟨by omega, by omega⟩ ⟨by omega, by omega⟩ dX12_findEffort_88 rfl (fun h29 => ?_) (fun h29 => ?_)
          · refine j_aload_n (pc := 95) dX12_findEffort_95 rfl rfl ?_
            refine j_getI (pc := 96) fl_X12_274 dX12_findEffort_96 (a_88 hM) rfl ?_
            refine j_topV (show σ12 88 25 = τ 88 25 from ((tw_ne1 eσ12 (by (first | decide | omega)))).trans (tw_ne1 eσ9 (by (first | decide | omega)))) ?_
            refine j_putI (pc := 99) fl_X12_274 fp_X12_25 dX12_findEffort_99 (a_88 hM) rfl (j_nm (fun σ30 (eσ30 : σ30 = tw_up σ12 88 25 (τ 88 25)) => ?_))
            have hIσ30 : tw_I σ30 := tw_I_up hIσ12 eσ30 (show (-2147483648 : Int) ≤ τ 88 25 ∧ τ 88 25 ≤ 2147483647 from ⟨by omega, by omega⟩)
            have hFσ30 : tw_F (fun c j => (c = 88 ∧ (j = 24 ∨ j = 25))) σ σ30 := tw_F_up hFσ12 eσ30 (show (88 = 88 ∧ (25 = 24 ∨ 25 = 25)) from ⟨rfl, (Or.inr rfl)⟩)
            refine j_aload_n (pc := 102) dX12_findEffort_102 rfl rfl ?_
            refine j_aload_n (pc := 103) dX12_findEffort_103 rfl rfl ?_
            refine j_iload_n (pc := 104) dX12_findEffort_104 rfl rfl ?_
            refine j_iconst (pc := 105) dX12_findEffort_105 ?_
            refine j_callV (pc := 106) (As := [vI h, vI 3]) (st := [vR 88]) (c_X12_of hM h ⟨by omega, by omega⟩ 3 (by (first | decide | exact ⟨by omega, by omega⟩)) σ30 hIσ30) mv_X12_184 rfl rfl rfl (a_88 hM) dX12_findEffort_106 ⟨Nat.le_of_ble_eq_true rfl, Nat.le_of_ble_eq_true rfl⟩ ⟨Nat.le_refl _, Nat.le_refl _⟩ rfl (Nat.le_of_ble_eq_true rfl) rfl (fun z31 σ32 hz31 => ?_)
            obtain ⟨r34, rfl, hr34, rfl, q33_0⟩ := hz31
            replace q33_0 : r34 = σ30 92 (5 * h + (3 : Int)).toNat := q33_0
            refine j_st (st' := [vI r34, vR 88]) rfl ?_
            have f4 := hFσ30 92 (5 * h + 3).toNat (show ¬ ((92 = 88 ∧ ((5 * h + 3).toNat = 24 ∨ (5 * h + 3).toNat = 25))) from fun h => absurd h.1 (by decide))
            refine j_iconst (pc := 109) dX12_findEffort_109 ?_
            refine j_icmpR_ne (pc := 110) (tgt := 117) ⟨by omega, by omega⟩ ⟨by omega, by omega⟩ dX12_findEffort_110 rfl (fun h35 => ?_) (fun h35 => ?_)
            · refine j_aload_n (pc := 117) dX12_findEffort_117 rfl rfl ?_
              refine j_getI (pc := 118) fl_X12_271 dX12_findEffort_118 (a_88 hM) rfl ?_
              refine j_topV (show σ30 88 24 = z8 + 0 from ((tw_ne1 eσ30 (by (first | decide | omega)))).trans (tw_eq1 eσ12)) ?_
              refine j_putI (pc := 121) fl_X12_271 fp_X12_24 dX12_findEffort_121 (a_88 hM) rfl (j_nm (fun σ36 (eσ36 : σ36 = tw_up σ30 88 24 (z8 + 0)) => ?_))
              have hIσ36 : tw_I σ36 := tw_I_up hIσ30 eσ36 (show (-2147483648 : Int) ≤ z8 + 0 ∧ z8 + 0 ≤ 2147483647 from ⟨by omega, by omega⟩)
              have hFσ36 : tw_F (fun c j => (c = 88 ∧ (j = 24 ∨ j = 25))) σ σ36 := tw_F_up hFσ30 eσ36 (show (88 = 88 ∧ (24 = 24 ∨ 24 = 25)) from ⟨rfl, (Or.inl rfl)⟩)
              refine j_iinc (pc := 124) (i := 2) (n := 1) (ls' := [(0, vR 88), (1, vI b), (2, vI (h + 1))]) [1, 2, 0] dX12_findEffort_124 rfl (Nat.le_of_ble_eq_true rfl) rfl rfl ?_
              refine j_goto (pc := 127) (tgt := 13) dX12_findEffort_127 rfl ?_
              refine j_ls (ls' := [(0, vR 88), (1, vI b), (2, vI (h + 1))]) [0, 1, 2] rfl ?_
              have y37 : σ36 88 24 = z8 + 0 := (tw_eq1 eσ36)
              have y38 : σ36 88 25 = τ 88 25 := ((tw_ne1 eσ36 (by (first | decide | omega)))).trans (tw_eq1 eσ30)
              exact ih (h + 1) ⟨by omega, by omega⟩ σ36 hIσ36 hFσ36 (show (h + 1) ≤ σ 91 0 + 1 from by omega) (show CLI (wM σ) (gM b σ) (-4) 1 (h + 1) (cnt (gM b σ) ((h + 1) - 1).toNat) (σ36 88 24) (σ36 88 25) from (CL_s (e2 := σ12 88 24) i1 (by omega) ⟨by omega, by omega⟩ x1 (by (have c9 := cnt_si (g := gM b σ) (f := h) (by omega)); rw [show (h + 1 - 1 : Int) = h from by omega]; first | exact Or.inl ⟨by omega, by omega, he7.trans x2⟩ | exact Or.inr ⟨by omega, by omega, by omega⟩) (by omega) (by omega))) (show (41 - (h + 1)).toNat < N_ from by omega)
            · refine j_iconst (pc := 113) dX12_findEffort_113 ?_
              refine j_goto (pc := 114) (tgt := 121) dX12_findEffort_114 rfl ?_
              refine j_putI (pc := 121) fl_X12_271 fp_X12_24 dX12_findEffort_121 (a_88 hM) rfl (j_nm (fun σ39 (eσ39 : σ39 = tw_up σ30 88 24 0) => ?_))
              have hIσ39 : tw_I σ39 := tw_I_up hIσ30 eσ39 (show (-2147483648 : Int) ≤ 0 ∧ 0 ≤ 2147483647 from by decide)
              have hFσ39 : tw_F (fun c j => (c = 88 ∧ (j = 24 ∨ j = 25))) σ σ39 := tw_F_up hFσ30 eσ39 (show (88 = 88 ∧ (24 = 24 ∨ 24 = 25)) from ⟨rfl, (Or.inl rfl)⟩)
              refine j_iinc (pc := 124) (i := 2) (n := 1) (ls' := [(0, vR 88), (1, vI b), (2, vI (h + 1))]) [1, 2, 0] dX12_findEffort_124 rfl (Nat.le_of_ble_eq_true rfl) rfl rfl ?_
              refine j_goto (pc := 127) (tgt := 13) dX12_findEffort_127 rfl ?_
              refine j_ls (ls' := [(0, vR 88), (1, vI b), (2, vI (h + 1))]) [0, 1, 2] rfl ?_
              have y40 : σ39 88 24 = 0 := (tw_eq1 eσ39)
              have y41 : σ39 88 25 = τ 88 25 := ((tw_ne1 eσ39 (by (first | decide | omega)))).trans (tw_eq1 eσ30)
              exact ih (h + 1) ⟨by omega, by omega⟩ σ39 hIσ39 hFσ39 (show (h + 1) ≤ σ 91 0 + 1 from by omega) (show CLI (wM σ) (gM b σ) (-4) 1 (h + 1) (cnt (gM b σ) ((h + 1) - 1).toNat) (σ39 88 24) (σ39 88 25) from (CL_s (e2 := σ12 88 24) i1 (by omega) ⟨by omega, by omega⟩ x1 (by (have c9 := cnt_si (g := gM b σ) (f := h) (by omega)); rw [show (h + 1 - 1 : Int) = h from by omega]; first | exact Or.inl ⟨by omega, by omega, he7.trans x2⟩ | exact Or.inr ⟨by omega, by omega, by omega⟩) (by omega) (by omega))) (show (41 - (h + 1)).toNat < N_ from by omega)
          · refine j_iload_n (pc := 91) dX12_findEffort_91 rfl rfl ?_
            refine j_goto (pc := 92) (tgt := 99) dX12_findEffort_92 rfl ?_
            refine j_putI (pc := 99) fl_X12_274 fp_X12_25 dX12_findEffort_99 (a_88 hM) rfl (j_nm (fun σ42 (eσ42 : σ42 = tw_up σ12 88 25 h) => ?_))
            have hIσ42 : tw_I σ42 := tw_I_up hIσ12 eσ42 (show (-2147483648 : Int) ≤ h ∧ h ≤ 2147483647 from ⟨by omega, by omega⟩)
            have hFσ42 : tw_F (fun c j => (c = 88 ∧ (j = 24 ∨ j = 25))) σ σ42 := tw_F_up hFσ12 eσ42 (show (88 = 88 ∧ (25 = 24 ∨ 25 = 25)) from ⟨rfl, (Or.inr rfl)⟩)
            refine j_aload_n (pc := 102) dX12_findEffort_102 rfl rfl ?_
            refine j_aload_n (pc := 103) dX12_findEffort_103 rfl rfl ?_
            refine j_iload_n (pc := 104) dX12_findEffort_104 rfl rfl ?_
            refine j_iconst (pc := 105) dX12_findEffort_105 ?_
            refine j_callV (pc := 106) (As := [vI h, vI 3]) (st := [vR 88]) (c_X12_of hM h ⟨by omega, by omega⟩ 3 (by (first | decide | exact ⟨by omega, by omega⟩)) σ42 hIσ42) mv_X12_184 rfl rfl rfl (a_88 hM) dX12_findEffort_106 ⟨Nat.le_of_ble_eq_true rfl, Nat.le_of_ble_eq_true rfl⟩ ⟨Nat.le_refl _, Nat.le_refl _⟩ rfl (Nat.le_of_ble_eq_true rfl) rfl (fun z43 σ44 hz43 => ?_)
            obtain ⟨r46, rfl, hr46, rfl, q45_0⟩ := hz43
            replace q45_0 : r46 = σ42 92 (5 * h + (3 : Int)).toNat := q45_0
            refine j_st (st' := [vI r46, vR 88]) rfl ?_
            have f4 := hFσ42 92 (5 * h + 3).toNat (show ¬ ((92 = 88 ∧ ((5 * h + 3).toNat = 24 ∨ (5 * h + 3).toNat = 25))) from fun h => absurd h.1 (by decide))
            refine j_iconst (pc := 109) dX12_findEffort_109 ?_
            refine j_icmpR_ne (pc := 110) (tgt := 117) ⟨by omega, by omega⟩ ⟨by omega, by omega⟩ dX12_findEffort_110 rfl (fun h47 => ?_) (fun h47 => ?_)
            · refine j_aload_n (pc := 117) dX12_findEffort_117 rfl rfl ?_
              refine j_getI (pc := 118) fl_X12_271 dX12_findEffort_118 (a_88 hM) rfl ?_
              refine j_topV (show σ42 88 24 = z8 + 0 from ((tw_ne1 eσ42 (by (first | decide | omega)))).trans (tw_eq1 eσ12)) ?_
              refine j_putI (pc := 121) fl_X12_271 fp_X12_24 dX12_findEffort_121 (a_88 hM) rfl (j_nm (fun σ48 (eσ48 : σ48 = tw_up σ42 88 24 (z8 + 0)) => ?_))
              have hIσ48 : tw_I σ48 := tw_I_up hIσ42 eσ48 (show (-2147483648 : Int) ≤ z8 + 0 ∧ z8 + 0 ≤ 2147483647 from ⟨by omega, by omega⟩)
              have hFσ48 : tw_F (fun c j => (c = 88 ∧ (j = 24 ∨ j = 25))) σ σ48 := tw_F_up hFσ42 eσ48 (show (88 = 88 ∧ (24 = 24 ∨ 24 = 25)) from ⟨rfl, (Or.inl rfl)⟩)
              refine j_iinc (pc := 124) (i := 2) (n := 1) (ls' := [(0, vR 88), (1, vI b), (2, vI (h + 1))]) [1, 2, 0] dX12_findEffort_124 rfl (Nat.le_of_ble_eq_true rfl) rfl rfl ?_
              refine j_goto (pc := 127) (tgt := 13) dX12_findEffort_127 rfl ?_
              refine j_ls (ls' := [(0, vR 88), (1, vI b), (2, vI (h + 1))]) [0, 1, 2] rfl ?_
              have y49 : σ48 88 24 = z8 + 0 := (tw_eq1 eσ48)
              have y50 : σ48 88 25 = h := ((tw_ne1 eσ48 (by (first | decide | omega)))).trans (tw_eq1 eσ42)
              exact ih (h + 1) ⟨by omega, by omega⟩ σ48 hIσ48 hFσ48 (show (h + 1) ≤ σ 91 0 + 1 from by omega) (show CLI (wM σ) (gM b σ) (-4) 1 (h + 1) (cnt (gM b σ) ((h + 1) - 1).toNat) (σ48 88 24) (σ48 88 25) from (CL_s (e2 := σ12 88 24) i1 (by omega) ⟨by omega, by omega⟩ x1 (by (have c9 := cnt_si (g := gM b σ) (f := h) (by omega)); rw [show (h + 1 - 1 : Int) = h from by omega]; first | exact Or.inl ⟨by omega, by omega, he7.trans x2⟩ | exact Or.inr ⟨by omega, by omega, by omega⟩) (by omega) (by omega))) (show (41 - (h + 1)).toNat < N_ from by omega)
            · refine j_iconst (pc := 113) dX12_findEffort_113 ?_
              refine j_goto (pc := 114) (tgt := 121) dX12_findEffort_114 rfl ?_
              refine j_putI (pc := 121) fl_X12_271 fp_X12_24 dX12_findEffort_121 (a_88 hM) rfl (j_nm (fun σ51 (eσ51 : σ51 = tw_up σ42 88 24 0) => ?_))
              have hIσ51 : tw_I σ51 := tw_I_up hIσ42 eσ51 (show (-2147483648 : Int) ≤ 0 ∧ 0 ≤ 2147483647 from by decide)
              have hFσ51 : tw_F (fun c j => (c = 88 ∧ (j = 24 ∨ j = 25))) σ σ51 := tw_F_up hFσ42 eσ51 (show (88 = 88 ∧ (24 = 24 ∨ 24 = 25)) from ⟨rfl, (Or.inl rfl)⟩)
              refine j_iinc (pc := 124) (i := 2) (n := 1) (ls' := [(0, vR 88), (1, vI b), (2, vI (h + 1))]) [1, 2, 0] dX12_findEffort_124 rfl (Nat.le_of_ble_eq_true rfl) rfl rfl ?_
              refine j_goto (pc := 127) (tgt := 13) dX12_findEffort_127 rfl ?_
              refine j_ls (ls' := [(0, vR 88), (1, vI b), (2, vI (h + 1))]) [0, 1, 2] rfl ?_
              have y52 : σ51 88 24 = 0 := (tw_eq1 eσ51)
              have y53 : σ51 88 25 = h := ((tw_ne1 eσ51 (by (first | decide | omega)))).trans (tw_eq1 eσ42)
              exact ih (h + 1) ⟨by omega, by omega⟩ σ51 hIσ51 hFσ51 (show (h + 1) ≤ σ 91 0 + 1 from by omega) (show CLI (wM σ) (gM b σ) (-4) 1 (h + 1) (cnt (gM b σ) ((h + 1) - 1).toNat) (σ51 88 24) (σ51 88 25) from (CL_s (e2 := σ12 88 24) i1 (by omega) ⟨by omega, by omega⟩ x1 (by (have c9 := cnt_si (g := gM b σ) (f := h) (by omega)); rw [show (h + 1 - 1 : Int) = h from by omega]; first | exact Or.inl ⟨by omega, by omega, he7.trans x2⟩ | exact Or.inr ⟨by omega, by omega, by omega⟩) (by omega) (by omega))) (show (41 - (h + 1)).toNat < N_ from by omega)
      · refine j_aload_n (pc := 54) dX12_findEffort_54 rfl rfl ?_
        refine j_getR (pc := 55) (r := 91) fl_X12_17 dX12_findEffort_55 (a_88 hM) rfl ?_
        refine j_iconst (pc := 58) dX12_findEffort_58 ?_
        refine j_iald (pc := 59) dX12_findEffort_59 (a_91 hM) (by omega) (by omega) (by decide) ?_
        refine j_topV (show σ9 91 (Int.toNat 2) = σ9 91 2 from rfl) ?_
        refine j_topV (show σ9 91 2 = τ 91 2 from (tw_ne1 eσ9 (by (first | decide | omega)))) ?_
        have f54 : (0 : Int) ≤ τ 91 2 ∧ τ 91 2 ≤ 99 := hIτ 91 2
        refine j_goto (pc := 60) (tgt := 64) dX12_findEffort_60 rfl ?_
        refine j_iadd (pc := 64) dX12_findEffort_64 ?_
        refine j_top (fun z55 ez55 hz55 => ?_)
        have x2 := ez55; rw [← M2] at x2
        refine j_putI (pc := 65) fl_X12_271 fp_X12_24 dX12_findEffort_65 (a_88 hM) rfl (j_nm (fun σ56 (eσ56 : σ56 = tw_up σ9 88 24 z55) => ?_))
        have hIσ56 : tw_I σ56 := tw_I_up hIσ9 eσ56 (show (-2147483648 : Int) ≤ z55 ∧ z55 ≤ 2147483647 from ⟨by omega, by omega⟩)
        have hFσ56 : tw_F (fun c j => (c = 88 ∧ (j = 24 ∨ j = 25))) σ σ56 := tw_F_up hFσ9 eσ56 (show (88 = 88 ∧ (24 = 24 ∨ 24 = 25)) from ⟨rfl, (Or.inl rfl)⟩)
        have he7 : σ56 88 24 = _ := (tw_eq1 eσ56)
        refine j_aload_n (pc := 68) dX12_findEffort_68 rfl rfl ?_
        refine j_aload_n (pc := 69) dX12_findEffort_69 rfl rfl ?_
        refine j_getI (pc := 70) fl_X12_271 dX12_findEffort_70 (a_88 hM) rfl ?_
        refine j_topV (show σ56 88 24 = z55 from (tw_eq1 eσ56)) ?_
        refine j_aload_n (pc := 73) dX12_findEffort_73 rfl rfl ?_
        refine j_getR (pc := 74) (r := 91) fl_X12_17 dX12_findEffort_74 (a_88 hM) rfl ?_
        refine j_iconst (pc := 77) dX12_findEffort_77 ?_
        refine j_iald (pc := 78) dX12_findEffort_78 (a_91 hM) (by omega) (by omega) (by decide) ?_
        refine j_topV (show σ56 91 (Int.toNat 1) = σ56 91 1 from rfl) ?_
        refine j_topV (show σ56 91 1 = τ 91 1 from ((tw_ne1 eσ56 (by (first | decide | omega)))).trans (tw_ne1 eσ9 (by (first | decide | omega)))) ?_
        have f57 : (1 : Int) ≤ τ 91 1 ∧ τ 91 1 ≤ 999 := hIτ 91 1
        refine j_icmpR_le (pc := 79) (tgt := 95) ⟨by omega, by omega⟩ ⟨by omega, by omega⟩ dX12_findEffort_79 rfl (fun h58 => ?_) (fun h58 => ?_)
        · refine j_aload_n (pc := 95) dX12_findEffort_95 rfl rfl ?_
          refine j_getI (pc := 96) fl_X12_274 dX12_findEffort_96 (a_88 hM) rfl ?_
          refine j_topV (show σ56 88 25 = τ 88 25 from ((tw_ne1 eσ56 (by (first | decide | omega)))).trans (tw_ne1 eσ9 (by (first | decide | omega)))) ?_
          have f59 : (-2147483648 : Int) ≤ τ 88 25 ∧ τ 88 25 ≤ 2147483647 := hIτ 88 25
          refine j_putI (pc := 99) fl_X12_274 fp_X12_25 dX12_findEffort_99 (a_88 hM) rfl (j_nm (fun σ60 (eσ60 : σ60 = tw_up σ56 88 25 (τ 88 25)) => ?_))
          have hIσ60 : tw_I σ60 := tw_I_up hIσ56 eσ60 (show (-2147483648 : Int) ≤ τ 88 25 ∧ τ 88 25 ≤ 2147483647 from ⟨by omega, by omega⟩)
          have hFσ60 : tw_F (fun c j => (c = 88 ∧ (j = 24 ∨ j = 25))) σ σ60 := tw_F_up hFσ56 eσ60 (show (88 = 88 ∧ (25 = 24 ∨ 25 = 25)) from ⟨rfl, (Or.inr rfl)⟩)
          refine j_aload_n (pc := 102) dX12_findEffort_102 rfl rfl ?_
          refine j_aload_n (pc := 103) dX12_findEffort_103 rfl rfl ?_
          refine j_iload_n (pc := 104) dX12_findEffort_104 rfl rfl ?_
          refine j_iconst (pc := 105) dX12_findEffort_105 ?_
          refine j_callV (pc := 106) (As := [vI h, vI 3]) (st := [vR 88]) (c_X12_of hM h ⟨by omega, by omega⟩ 3 (by (first | decide | exact ⟨by omega, by omega⟩)) σ60 hIσ60) mv_X12_184 rfl rfl rfl (a_88 hM) dX12_findEffort_106 ⟨Nat.le_of_ble_eq_true rfl, Nat.le_of_ble_eq_true rfl⟩ ⟨Nat.le_refl _, Nat.le_refl _⟩ rfl (Nat.le_of_ble_eq_true rfl) rfl (fun z61 σ62 hz61 => ?_)
          obtain ⟨r64, rfl, hr64, rfl, q63_0⟩ := hz61
          replace q63_0 : r64 = σ60 92 (5 * h + (3 : Int)).toNat := q63_0
          refine j_st (st' := [vI r64, vR 88]) rfl ?_
          have f4 := hFσ60 92 (5 * h + 3).toNat (show ¬ ((92 = 88 ∧ ((5 * h + 3).toNat = 24 ∨ (5 * h + 3).toNat = 25))) from fun h => absurd h.1 (by decide))
          refine j_iconst (pc := 109) dX12_findEffort_109 ?_
          refine j_icmpR_ne (pc := 110) (tgt := 117) ⟨by omega, by omega⟩ ⟨by omega, by omega⟩ dX12_findEffort_110 rfl (fun h65 => ?_) (fun h65 => ?_)
          · refine j_aload_n (pc := 117) dX12_findEffort_117 rfl rfl ?_
            refine j_getI (pc := 118) fl_X12_271 dX12_findEffort_118 (a_88 hM) rfl ?_
            refine j_topV (show σ60 88 24 = z55 from ((tw_ne1 eσ60 (by (first | decide | omega)))).trans (tw_eq1 eσ56)) ?_
            refine j_putI (pc := 121) fl_X12_271 fp_X12_24 dX12_findEffort_121 (a_88 hM) rfl (j_nm (fun σ66 (eσ66 : σ66 = tw_up σ60 88 24 z55) => ?_))
            have hIσ66 : tw_I σ66 := tw_I_up hIσ60 eσ66 (show (-2147483648 : Int) ≤ z55 ∧ z55 ≤ 2147483647 from ⟨by omega, by omega⟩)
            have hFσ66 : tw_F (fun c j => (c = 88 ∧ (j = 24 ∨ j = 25))) σ σ66 := tw_F_up hFσ60 eσ66 (show (88 = 88 ∧ (24 = 24 ∨ 24 = 25)) from ⟨rfl, (Or.inl rfl)⟩)
            refine j_iinc (pc := 124) (i := 2) (n := 1) (ls' := [(0, vR 88), (1, vI b), (2, vI (h + 1))]) [1, 2, 0] dX12_findEffort_124 rfl (Nat.le_of_ble_eq_true rfl) rfl rfl ?_
            refine j_goto (pc := 127) (tgt := 13) dX12_findEffort_127 rfl ?_
            refine j_ls (ls' := [(0, vR 88), (1, vI b), (2, vI (h + 1))]) [0, 1, 2] rfl ?_
            have y67 : σ66 88 24 = z55 := (tw_eq1 eσ66)
            have y68 : σ66 88 25 = τ 88 25 := ((tw_ne1 eσ66 (by (first | decide | omega)))).trans (tw_eq1 eσ60)
            exact ih (h + 1) ⟨by omega, by omega⟩ σ66 hIσ66 hFσ66 (show (h + 1) ≤ σ 91 0 + 1 from by omega) (show CLI (wM σ) (gM b σ) (-4) 1 (h + 1) (cnt (gM b σ) ((h + 1) - 1).toNat) (σ66 88 24) (σ66 88 25) from (CL_s (e2 := σ56 88 24) i1 (by omega) ⟨by omega, by omega⟩ x1 (by (have c9 := cnt_si (g := gM b σ) (f := h) (by omega)); rw [show (h + 1 - 1 : Int) = h from by omega]; first | exact Or.inl ⟨by omega, by omega, he7.trans x2⟩ | exact Or.inr ⟨by omega, by omega, by omega⟩) (by omega) (by omega))) (show (41 - (h + 1)).toNat < N_ from by omega)
          · refine j_iconst (pc := 113) dX12_findEffort_113 ?_
            refine j_goto (pc := 114) (tgt := 121) dX12_findEffort_114 rfl ?_
            refine j_putI (pc := 121) fl_X12_271 fp_X12_24 dX12_findEffort_121 (a_88 hM) rfl (j_nm (fun σ69 (eσ69 : σ69 = tw_up σ60 88 24 0) => ?_))
            have hIσ69 : tw_I σ69 := tw_I_up hIσ60 eσ69 (show (-2147483648 : Int) ≤ 0 ∧ 0 ≤ 2147483647 from by decide)
            have hFσ69 : tw_F (fun c j => (c = 88 ∧ (j = 24 ∨ j = 25))) σ σ69 := tw_F_up hFσ60 eσ69 (show (88 = 88 ∧ (24 = 24 ∨ 24 = 25)) from ⟨rfl, (Or.inl rfl)⟩)
            refine j_iinc (pc := 124) (i := 2) (n := 1) (ls' := [(0, vR 88), (1, vI b), (2, vI (h + 1))]) [1, 2, 0] dX12_findEffort_124 rfl (Nat.le_of_ble_eq_true rfl) rfl rfl ?_
            refine j_goto (pc := 127) (tgt := 13) dX12_findEffort_127 rfl ?_
            refine j_ls (ls' := [(0, vR 88), (1, vI b), (2, vI (h + 1))]) [0, 1, 2] rfl ?_
            have y70 : σ69 88 24 = 0 := (tw_eq1 eσ69)
            have y71 : σ69 88 25 = τ 88 25 := ((tw_ne1 eσ69 (by (first | decide | omega)))).trans (tw_eq1 eσ60)
            exact ih (h + 1) ⟨by omega, by omega⟩ σ69 hIσ69 hFσ69 (show (h + 1) ≤ σ 91 0 + 1 from by omega) (show CLI (wM σ) (gM b σ) (-4) 1 (h + 1) (cnt (gM b σ) ((h + 1) - 1).toNat) (σ69 88 24) (σ69 88 25) from (CL_s (e2 := σ56 88 24) i1 (by omega) ⟨by omega, by omega⟩ x1 (by (have c9 := cnt_si (g := gM b σ) (f := h) (by omega)); rw [show (h + 1 - 1 : Int) = h from by omega]; first | exact Or.inl ⟨by omega, by omega, he7.trans x2⟩ | exact Or.inr ⟨by omega, by omega, by omega⟩) (by omega) (by omega))) (show (41 - (h + 1)).toNat < N_ from by omega)
        · refine j_aload_n (pc := 82) dX12_findEffort_82 rfl rfl ?_
          refine j_getI (pc := 83) fl_X12_274 dX12_findEffort_83 (a_88 hM) rfl ?_
          refine j_topV (show σ56 88 25 = τ 88 25 from ((tw_ne1 eσ56 (by (first | decide | omega)))).trans (tw_ne1 eσ9 (by (first | decide | omega)))) ?_
          have f72 : (-2147483648 : Int) ≤ τ 88 25 ∧ τ 88 25 ≤ 2147483647 := hIτ 88 25
          refine j_bipush (pc := 86) dX12_findEffort_86 rfl ?_
          refine j_icmpR_ne (pc := 88) (tgt := 95) ⟨by omega, by omega⟩ ⟨by omega, by omega⟩ dX12_findEffort_88 rfl (fun h73 => ?_) (fun h73 => ?_)
          · refine j_aload_n (pc := 95) dX12_findEffort_95 rfl rfl ?_
            refine j_getI (pc := 96) fl_X12_274 dX12_findEffort_96 (a_88 hM) rfl ?_
            refine j_topV (show σ56 88 25 = τ 88 25 from ((tw_ne1 eσ56 (by (first | decide | omega)))).trans (tw_ne1 eσ9 (by (first | decide | omega)))) ?_
            refine j_putI (pc := 99) fl_X12_274 fp_X12_25 dX12_findEffort_99 (a_88 hM) rfl (j_nm (fun σ74 (eσ74 : σ74 = tw_up σ56 88 25 (τ 88 25)) => ?_))
            have hIσ74 : tw_I σ74 := tw_I_up hIσ56 eσ74 (show (-2147483648 : Int) ≤ τ 88 25 ∧ τ 88 25 ≤ 2147483647 from ⟨by omega, by omega⟩)
            have hFσ74 : tw_F (fun c j => (c = 88 ∧ (j = 24 ∨ j = 25))) σ σ74 := tw_F_up hFσ56 eσ74 (show (88 = 88 ∧ (25 = 24 ∨ 25 = 25)) from ⟨rfl, (Or.inr rfl)⟩)
            refine j_aload_n (pc := 102) dX12_findEffort_102 rfl rfl ?_
            refine j_aload_n (pc := 103) dX12_findEffort_103 rfl rfl ?_
            refine j_iload_n (pc := 104) dX12_findEffort_104 rfl rfl ?_
            refine j_iconst (pc := 105) dX12_findEffort_105 ?_
            refine j_callV (pc := 106) (As := [vI h, vI 3]) (st := [vR 88]) (c_X12_of hM h ⟨by omega, by omega⟩ 3 (by (first | decide | exact ⟨by omega, by omega⟩)) σ74 hIσ74) mv_X12_184 rfl rfl rfl (a_88 hM) dX12_findEffort_106 ⟨Nat.le_of_ble_eq_true rfl, Nat.le_of_ble_eq_true rfl⟩ ⟨Nat.le_refl _, Nat.le_refl _⟩ rfl (Nat.le_of_ble_eq_true rfl) rfl (fun z75 σ76 hz75 => ?_)
            obtain ⟨r78, rfl, hr78, rfl, q77_0⟩ := hz75
            replace q77_0 : r78 = σ74 92 (5 * h + (3 : Int)).toNat := q77_0
            refine j_st (st' := [vI r78, vR 88]) rfl ?_
            have f4 := hFσ74 92 (5 * h + 3).toNat (show ¬ ((92 = 88 ∧ ((5 * h + 3).toNat = 24 ∨ (5 * h + 3).toNat = 25))) from fun h => absurd h.1 (by decide))
            refine j_iconst (pc := 109) dX12_findEffort_109 ?_
            refine j_icmpR_ne (pc := 110) (tgt := 117) ⟨by omega, by omega⟩ ⟨by omega, by omega⟩ dX12_findEffort_110 rfl (fun h79 => ?_) (fun h79 => ?_)
            · refine j_aload_n (pc := 117) dX12_findEffort_117 rfl rfl ?_
              refine j_getI (pc := 118) fl_X12_271 dX12_findEffort_118 (a_88 hM) rfl ?_
              refine j_topV (show σ74 88 24 = z55 from ((tw_ne1 eσ74 (by (first | decide | omega)))).trans (tw_eq1 eσ56)) ?_
              refine j_putI (pc := 121) fl_X12_271 fp_X12_24 dX12_findEffort_121 (a_88 hM) rfl (j_nm (fun σ80 (eσ80 : σ80 = tw_up σ74 88 24 z55) => ?_))
              have hIσ80 : tw_I σ80 := tw_I_up hIσ74 eσ80 (show (-2147483648 : Int) ≤ z55 ∧ z55 ≤ 2147483647 from ⟨by omega, by omega⟩)
              have hFσ80 : tw_F (fun c j => (c = 88 ∧ (j = 24 ∨ j = 25))) σ σ80 := tw_F_up hFσ74 eσ80 (show (88 = 88 ∧ (24 = 24 ∨ 24 = 25)) from ⟨rfl, (Or.inl rfl)⟩)
              refine j_iinc (pc := 124) (i := 2) (n := 1) (ls' := [(0, vR 88), (1, vI b), (2, vI (h + 1))]) [1, 2, 0] dX12_findEffort_124 rfl (Nat.le_of_ble_eq_true rfl) rfl rfl ?_
              refine j_goto (pc := 127) (tgt := 13) dX12_findEffort_127 rfl ?_
              refine j_ls (ls' := [(0, vR 88), (1, vI b), (2, vI (h + 1))]) [0, 1, 2] rfl ?_
              have y81 : σ80 88 24 = z55 := (tw_eq1 eσ80)
              have y82 : σ80 88 25 = τ 88 25 := ((tw_ne1 eσ80 (by (first | decide | omega)))).trans (tw_eq1 eσ74)
              exact ih (h + 1) ⟨by omega, by omega⟩ σ80 hIσ80 hFσ80 (show (h + 1) ≤ σ 91 0 + 1 from by omega) (show CLI (wM σ) (gM b σ) (-4) 1 (h + 1) (cnt (gM b σ) ((h + 1) - 1).toNat) (σ80 88 24) (σ80 88 25) from (CL_s (e2 := σ56 88 24) i1 (by omega) ⟨by omega, by omega⟩ x1 (by (have c9 := cnt_si (g := gM b σ) (f := h) (by omega)); rw [show (h + 1 - 1 : Int) = h from by omega]; first | exact Or.inl ⟨by omega, by omega, he7.trans x2⟩ | exact Or.inr ⟨by omega, by omega, by omega⟩) (by omega) (by omega))) (show (41 - (h + 1)).toNat < N_ from by omega)
            · refine j_iconst (pc := 113) dX12_findEffort_113 ?_
              refine j_goto (pc := 114) (tgt := 121) dX12_findEffort_114 rfl ?_
              refine j_putI (pc := 121) fl_X12_271 fp_X12_24 dX12_findEffort_121 (a_88 hM) rfl (j_nm (fun σ83 (eσ83 : σ83 = tw_up σ74 88 24 0) => ?_))
              have hIσ83 : tw_I σ83 := tw_I_up hIσ74 eσ83 (show (-2147483648 : Int) ≤ 0 ∧ 0 ≤ 2147483647 from by decide)
              have hFσ83 : tw_F (fun c j => (c = 88 ∧ (j = 24 ∨ j = 25))) σ σ83 := tw_F_up hFσ74 eσ83 (show (88 = 88 ∧ (24 = 24 ∨ 24 = 25)) from ⟨rfl, (Or.inl rfl)⟩)
              refine j_iinc (pc := 124) (i := 2) (n := 1) (ls' := [(0, vR 88), (1, vI b), (2, vI (h + 1))]) [1, 2, 0] dX12_findEffort_124 rfl (Nat.le_of_ble_eq_true rfl) rfl rfl ?_
              refine j_goto (pc := 127) (tgt := 13) dX12_findEffort_127 rfl ?_
              refine j_ls (ls' := [(0, vR 88), (1, vI b), (2, vI (h + 1))]) [0, 1, 2] rfl ?_
              have y84 : σ83 88 24 = 0 := (tw_eq1 eσ83)
              have y85 : σ83 88 25 = τ 88 25 := ((tw_ne1 eσ83 (by (first | decide | omega)))).trans (tw_eq1 eσ74)
              exact ih (h + 1) ⟨by omega, by omega⟩ σ83 hIσ83 hFσ83 (show (h + 1) ≤ σ 91 0 + 1 from by omega) (show CLI (wM σ) (gM b σ) (-4) 1 (h + 1) (cnt (gM b σ) ((h + 1) - 1).toNat) (σ83 88 24) (σ83 88 25) from (CL_s (e2 := σ56 88 24) i1 (by omega) ⟨by omega, by omega⟩ x1 (by (have c9 := cnt_si (g := gM b σ) (f := h) (by omega)); rw [show (h + 1 - 1 : Int) = h from by omega]; first | exact Or.inl ⟨by omega, by omega, he7.trans x2⟩ | exact Or.inr ⟨by omega, by omega, by omega⟩) (by omega) (by omega))) (show (41 - (h + 1)).toNat < N_ from by omega)
          · refine j_iload_n (pc := 91) dX12_findEffort_91 rfl rfl ?_
            refine j_goto (pc := 92) (tgt := 99) dX12_findEffort_92 rfl ?_
            refine j_putI (pc := 99) fl_X12_274 fp_X12_25 dX12_findEffort_99 (a_88 hM) rfl (j_nm (fun σ86 (eσ86 : σ86 = tw_up σ56 88 25 h) => ?_))
            have hIσ86 : tw_I σ86 := tw_I_up hIσ56 eσ86 (show (-2147483648 : Int) ≤ h ∧ h ≤ 2147483647 from ⟨by omega, by omega⟩)
            have hFσ86 : tw_F (fun c j => (c = 88 ∧ (j = 24 ∨ j = 25))) σ σ86 := tw_F_up hFσ56 eσ86 (show (88 = 88 ∧ (25 = 24 ∨ 25 = 25)) from ⟨rfl, (Or.inr rfl)⟩)
            refine j_aload_n (pc := 102) dX12_findEffort_102 rfl rfl ?_
            refine j_aload_n (pc := 103) dX12_findEffort_103 rfl rfl ?_
            refine j_iload_n (pc := 104) dX12_findEffort_104 rfl rfl ?_
            refine j_iconst (pc := 105) dX12_findEffort_105 ?_
            refine j_callV (pc := 106) (As := [vI h, vI 3]) (st := [vR 88]) (c_X12_of hM h ⟨by omega, by omega⟩ 3 (by (first | decide | exact ⟨by omega, by omega⟩)) σ86 hIσ86) mv_X12_184 rfl rfl rfl (a_88 hM) dX12_findEffort_106 ⟨Nat.le_of_ble_eq_true rfl, Nat.le_of_ble_eq_true rfl⟩ ⟨Nat.le_refl _, Nat.le_refl _⟩ rfl (Nat.le_of_ble_eq_true rfl) rfl (fun z87 σ88 hz87 => ?_)
            obtain ⟨r90, rfl, hr90, rfl, q89_0⟩ := hz87
            replace q89_0 : r90 = σ86 92 (5 * h + (3 : Int)).toNat := q89_0
            refine j_st (st' := [vI r90, vR 88]) rfl ?_
            have f4 := hFσ86 92 (5 * h + 3).toNat (show ¬ ((92 = 88 ∧ ((5 * h + 3).toNat = 24 ∨ (5 * h + 3).toNat = 25))) from fun h => absurd h.1 (by decide))
            refine j_iconst (pc := 109) dX12_findEffort_109 ?_
            refine j_icmpR_ne (pc := 110) (tgt := 117) ⟨by omega, by omega⟩ ⟨by omega, by omega⟩ dX12_findEffort_110 rfl (fun h91 => ?_) (fun h91 => ?_)
            · refine j_aload_n (pc := 117) dX12_findEffort_117 rfl rfl ?_
              refine j_getI (pc := 118) fl_X12_271 dX12_findEffort_118 (a_88 hM) rfl ?_
              refine j_topV (show σ86 88 24 = z55 from ((tw_ne1 eσ86 (by (first | decide | omega)))).trans (tw_eq1 eσ56)) ?_
              refine j_putI (pc := 121) fl_X12_271 fp_X12_24 dX12_findEffort_121 (a_88 hM) rfl (j_nm (fun σ92 (eσ92 : σ92 = tw_up σ86 88 24 z55) => ?_))
              have hIσ92 : tw_I σ92 := tw_I_up hIσ86 eσ92 (show (-2147483648 : Int) ≤ z55 ∧ z55 ≤ 2147483647 from ⟨by omega, by omega⟩)
              have hFσ92 : tw_F (fun c j => (c = 88 ∧ (j = 24 ∨ j = 25))) σ σ92 := tw_F_up hFσ86 eσ92 (show (88 = 88 ∧ (24 = 24 ∨ 24 = 25)) from ⟨rfl, (Or.inl rfl)⟩)
              refine j_iinc (pc := 124) (i := 2) (n := 1) (ls' := [(0, vR 88), (1, vI b), (2, vI (h + 1))]) [1, 2, 0] dX12_findEffort_124 rfl (Nat.le_of_ble_eq_true rfl) rfl rfl ?_
              refine j_goto (pc := 127) (tgt := 13) dX12_findEffort_127 rfl ?_
              refine j_ls (ls' := [(0, vR 88), (1, vI b), (2, vI (h + 1))]) [0, 1, 2] rfl ?_
              have y93 : σ92 88 24 = z55 := (tw_eq1 eσ92)
              have y94 : σ92 88 25 = h := ((tw_ne1 eσ92 (by (first | decide | omega)))).trans (tw_eq1 eσ86)
              exact ih (h + 1) ⟨by omega, by omega⟩ σ92 hIσ92 hFσ92 (show (h + 1) ≤ σ 91 0 + 1 from by omega) (show CLI (wM σ) (gM b σ) (-4) 1 (h + 1) (cnt (gM b σ) ((h + 1) - 1).toNat) (σ92 88 24) (σ92 88 25) from (CL_s (e2 := σ56 88 24) i1 (by omega) ⟨by omega, by omega⟩ x1 (by (have c9 := cnt_si (g := gM b σ) (f := h) (by omega)); rw [show (h + 1 - 1 : Int) = h from by omega]; first | exact Or.inl ⟨by omega, by omega, he7.trans x2⟩ | exact Or.inr ⟨by omega, by omega, by omega⟩) (by omega) (by omega))) (show (41 - (h + 1)).toNat < N_ from by omega)
            · refine j_iconst (pc := 113) dX12_findEffort_113 ?_
              refine j_goto (pc := 114) (tgt := 121) dX12_findEffort_114 rfl ?_
              refine j_putI (pc := 121) fl_X12_271 fp_X12_24 dX12_findEffort_121 (a_88 hM) rfl (j_nm (fun σ95 (eσ95 : σ95 = tw_up σ86 88 24 0) => ?_))
              have hIσ95 : tw_I σ95 := tw_I_up hIσ86 eσ95 (show (-2147483648 : Int) ≤ 0 ∧ 0 ≤ 2147483647 from by decide)
              have hFσ95 : tw_F (fun c j => (c = 88 ∧ (j = 24 ∨ j = 25))) σ σ95 := tw_F_up hFσ86 eσ95 (show (88 = 88 ∧ (24 = 24 ∨ 24 = 25)) from ⟨rfl, (Or.inl rfl)⟩)
              refine j_iinc (pc := 124) (i := 2) (n := 1) (ls' := [(0, vR 88), (1, vI b), (2, vI (h + 1))]) [1, 2, 0] dX12_findEffort_124 rfl (Nat.le_of_ble_eq_true rfl) rfl rfl ?_
              refine j_goto (pc := 127) (tgt := 13) dX12_findEffort_127 rfl ?_
              refine j_ls (ls' := [(0, vR 88), (1, vI b), (2, vI (h + 1))]) [0, 1, 2] rfl ?_
              have y96 : σ95 88 24 = 0 := (tw_eq1 eσ95)
              have y97 : σ95 88 25 = h := ((tw_ne1 eσ95 (by (first | decide | omega)))).trans (tw_eq1 eσ86)
              exact ih (h + 1) ⟨by omega, by omega⟩ σ95 hIσ95 hFσ95 (show (h + 1) ≤ σ 91 0 + 1 from by omega) (show CLI (wM σ) (gM b σ) (-4) 1 (h + 1) (cnt (gM b σ) ((h + 1) - 1).toNat) (σ95 88 24) (σ95 88 25) from (CL_s (e2 := σ56 88 24) i1 (by omega) ⟨by omega, by omega⟩ x1 (by (have c9 := cnt_si (g := gM b σ) (f := h) (by omega)); rw [show (h + 1 - 1 : Int) = h from by omega]; first | exact Or.inl ⟨by omega, by omega, he7.trans x2⟩ | exact Or.inr ⟨by omega, by omega, by omega⟩) (by omega) (by omega))) (show (41 - (h + 1)).toNat < N_ from by omega)
set_option maxHeartbeats 4000000 in
set_option maxRecDepth 100000 in
theorem c_X12_findEffort {G : tw_G} (hM : tw_isM G) (b : Int) (hb : 0 ≤ b ∧ b ≤ 300) (σ : tw_M) (hI : tw_I σ) : tw_C G yX12_findEffort cX12_findEffort 3 none 1 [vR 88, vI b] σ (q_X12_findEffort b σ) := by
  refine tw_met [(0, vR 88), (1, vI b)] (by decide +kernel) rfl (Nat.le_of_ble_eq_true rfl) ?_
  have ft : (1 : Int) ≤ σ 91 0 ∧ σ 91 0 ≤ 40 := hI 91 0
  refine j_aload_n (pc := 0) dX12_findEffort_0 rfl rfl ?_
  refine j_iconst (pc := 1) dX12_findEffort_1 ?_
  refine j_putI (pc := 2) fl_X12_271 fp_X12_24 dX12_findEffort_2 (a_88 hM) rfl (j_nm (fun σ98 (eσ98 : σ98 = tw_up σ 88 24 0) => ?_))
  have hIσ98 : tw_I σ98 := tw_I_up hI eσ98 (show (-2147483648 : Int) ≤ 0 ∧ 0 ≤ 2147483647 from by decide)
  have hFσ98 : tw_F (fun c j => (c = 88 ∧ (j = 24 ∨ j = 25))) σ σ98 := tw_F_up (tw_F_rf) eσ98 (show (88 = 88 ∧ (24 = 24 ∨ 24 = 25)) from ⟨rfl, (Or.inl rfl)⟩)
  refine j_aload_n (pc := 5) dX12_findEffort_5 rfl rfl ?_
  refine j_bipush (pc := 6) dX12_findEffort_6 rfl ?_
  refine j_putI (pc := 8) fl_X12_274 fp_X12_25 dX12_findEffort_8 (a_88 hM) rfl (j_nm (fun σ99 (eσ99 : σ99 = tw_up σ98 88 25 (-4)) => ?_))
  have hIσ99 : tw_I σ99 := tw_I_up hIσ98 eσ99 (show (-2147483648 : Int) ≤ -4 ∧ -4 ≤ 2147483647 from by decide)
  have hFσ99 : tw_F (fun c j => (c = 88 ∧ (j = 24 ∨ j = 25))) σ σ99 := tw_F_up hFσ98 eσ99 (show (88 = 88 ∧ (25 = 24 ∨ 25 = 25)) from ⟨rfl, (Or.inr rfl)⟩)
  refine j_iconst (pc := 11) dX12_findEffort_11 ?_
  refine j_istore_n (pc := 12) (i := 2) (ls' := [(0, vR 88), (1, vI b), (2, vI 1)]) [1, 2, 0] dX12_findEffort_12 rfl (Nat.le_of_ble_eq_true rfl) rfl rfl ?_
  refine j_ls (ls' := [(0, vR 88), (1, vI b), (2, vI 1)]) [0, 1, 2] rfl ?_
  have y100 : σ99 88 24 = 0 := ((tw_ne1 eσ99 (by (first | decide | omega)))).trans (tw_eq1 eσ98)
  have y101 : σ99 88 25 = -4 := (tw_eq1 eσ99)
  exact (l_X12_findEffort hM b hb σ hI (((41 - (1 : Int)).toNat) + 1)) 1 (by (first | decide | exact ⟨by omega, by omega⟩)) σ99 hIσ99 hFσ99 (show (1 : Int) ≤ σ 91 0 + 1 from by omega) (show CLI (wM σ) (gM b σ) (-4) 1 (1 : Int) (cnt (gM b σ) ((1 : Int) - 1).toNat) (σ99 88 24) (σ99 88 25) from (CL_0 rfl ((((tw_ne1 eσ99 (by (first | decide | omega)))).trans (tw_eq1 eσ98)).trans rfl) (tw_eq1 eσ99))) (Nat.lt_succ_self _)
abbrev q_X12_risk (w : Int) (σ : tw_M) : Option tw_V → tw_M → Prop := fun z τ => ∃ r : Int, z = some (vI r) ∧ (-2147483648 ≤ r ∧ r ≤ 2147483647) ∧ tw_I τ ∧ tw_F (fun c j => (c = 88 ∧ (j = 19 ∨ j = 20 ∨ j = 21 ∨ j = 22 ∨ j = 23 ∨ j = 24 ∨ j = 25))) σ τ ∧ True
set_option maxHeartbeats 4000000 in
set_option maxRecDepth 100000 in
theorem l_X12_risk {G : tw_G} (hM : tw_isM G) (w : Int) (hw : -2147483648 ≤ w ∧ w ≤ 2147483647) (σ : tw_M) (hI : tw_I σ) : ∀ N_ : Nat, (∀ (v : Int) (hv : -2147483648 ≤ v ∧ v ≤ 2147483647) (m : Int) (hm : -2147483648 ≤ m ∧ m ≤ 2147483647) (h : Int) (hh : 1 ≤ h ∧ h ≤ 41) (τ : tw_M) (hIτ : tw_I τ) (hFτ : tw_F (fun c j => (c = 88 ∧ (j = 19 ∨ j = 20 ∨ j = 21 ∨ j = 22 ∨ j = 23 ∨ j = 24 ∨ j = 25))) σ τ)  (hm : (41 - h).toNat < N_), tw_J G (tw_mt RX12 cX12_risk 5 (some .int) 4) (tw_E G (q_X12_risk w σ)) 13 [(0, vR 88), (1, vI w), (2, vI v), (3, vI m), (4, vI h)] [] τ) := by
  intro N_
  induction N_ with
  | zero => exact fun v hv m hm h hh τ hIτ hFτ hm => absurd hm (Nat.not_lt_zero _)
  | succ N_ ih =>
    intro v hv m hm h hh τ hIτ hFτ hm
    refine j_iload (pc := 13) dX12_risk_13 rfl ?_
    refine j_aload_n (pc := 15) dX12_risk_15 rfl rfl ?_
    refine j_getR (pc := 16) (r := 91) fl_X12_17 dX12_risk_16 (a_88 hM) rfl ?_
    refine j_iconst (pc := 19) dX12_risk_19 ?_
    refine j_iald (pc := 20) dX12_risk_20 (a_91 hM) (by omega) (by omega) (by decide) ?_
    refine j_topV (show τ 91 (Int.toNat 0) = τ 91 0 from rfl) ?_
    have f1 : (1 : Int) ≤ τ 91 0 ∧ τ 91 0 ≤ 40 := hIτ 91 0
    refine j_icmpR_gt (pc := 21) (tgt := 78) ⟨by omega, by omega⟩ ⟨by omega, by omega⟩ dX12_risk_21 rfl (fun h2 => ?_) (fun h2 => ?_)
    · refine j_iload_n (pc := 78) dX12_risk_78 rfl rfl ?_
      rcases (show w < 0 ∨ w = 0 ∨ w = 1 ∨ w = 2 ∨ w = 3 ∨ w = 4 ∨ 4 < w from by omega) with h3 | h3 | h3 | h3 | h3 | h3 | h3
      · refine j_tsOut (pc := 79) (tgt := 132) dX12_risk_79 ⟨by omega, by omega⟩ (Or.inl h3) rfl ?_
        refine j_iconst (pc := 132) dX12_risk_132 ?_
        exact j_iret (pc := 133) ⟨rfl, rfl⟩ dX12_risk_133 rfl ⟨_, rfl, ⟨by omega, by omega⟩, hIτ, hFτ, trivial⟩
      · refine j_tsIn (pc := 79) (tgt := 112) 0 dX12_risk_79 h3 (by decide) ⟨by decide, by decide⟩ rfl rfl ?_
        refine j_aload_n (pc := 112) dX12_risk_112 rfl rfl ?_
        refine j_iconst (pc := 113) dX12_risk_113 ?_
        refine j_callV (pc := 114) (As := [vI 0]) (st := []) (c_X12_riskOf hM 0 (by (first | decide | exact ⟨by omega, by omega⟩)) τ hIτ (by omega)) mv_X12_280 rfl rfl rfl (a_88 hM) dX12_risk_114 ⟨Nat.le_of_ble_eq_true rfl, Nat.le_of_ble_eq_true rfl⟩ ⟨Nat.le_refl _, Nat.le_refl _⟩ rfl (Nat.le_of_ble_eq_true rfl) rfl (fun z4 σ5 hz4 => ?_)
        obtain ⟨r7, rfl, hr7, hIσ5, hGσ5, q6_0⟩ := hz4
        replace q6_0 : r7 = rsk (wM τ) (gM (0 : Int) τ) 1023 (τ 91 0).toNat := q6_0
        have hFσ5 : tw_F (fun c j => (c = 88 ∧ (j = 19 ∨ j = 20 ∨ j = 21 ∨ j = 22 ∨ j = 23 ∨ j = 24 ∨ j = 25))) σ σ5 := tw_F_tr hFτ hGσ5 (fun c j q => (show (c = 88 ∧ (j = 19 ∨ j = 20 ∨ j = 21 ∨ j = 22 ∨ j = 23 ∨ j = 24 ∨ j = 25)) from by replace q : (c = 88 ∧ (j = 19 ∨ j = 20 ∨ j = 21 ∨ j = 22 ∨ j = 23)) := q; exact ⟨q.1, (q.2.elim (fun z => (Or.inl z)) (fun z => (z.elim (fun z => (Or.inr (Or.inl z))) (fun z => (z.elim (fun z => (Or.inr (Or.inr (Or.inl z)))) (fun z => (z.elim (fun z => (Or.inr (Or.inr (Or.inr (Or.inl z))))) (fun z => (Or.inr (Or.inr (Or.inr (Or.inr (Or.inl z)))))))))))))⟩))
        refine j_st (st' := [vI r7]) rfl ?_
        exact j_iret (pc := 117) ⟨rfl, rfl⟩ dX12_risk_117 rfl ⟨_, rfl, ⟨by omega, by omega⟩, hIσ5, hFσ5, trivial⟩
      · refine j_tsIn (pc := 79) (tgt := 118) 1 dX12_risk_79 h3 (by decide) ⟨by decide, by decide⟩ rfl rfl ?_
        refine j_aload_n (pc := 118) dX12_risk_118 rfl rfl ?_
        refine j_getI (pc := 119) fl_X12_271 dX12_risk_119 (a_88 hM) rfl ?_
        have f8 : (-2147483648 : Int) ≤ τ 88 24 ∧ τ 88 24 ≤ 2147483647 := hIτ 88 24
        exact j_iret (pc := 122) ⟨rfl, rfl⟩ dX12_risk_122 rfl ⟨_, rfl, ⟨by omega, by omega⟩, hIτ, hFτ, trivial⟩
      · refine j_tsIn (pc := 79) (tgt := 123) 2 dX12_risk_79 h3 (by decide) ⟨by decide, by decide⟩ rfl rfl ?_
        refine j_aload_n (pc := 123) dX12_risk_123 rfl rfl ?_
        refine j_getI (pc := 124) fl_X12_274 dX12_risk_124 (a_88 hM) rfl ?_
        have f9 : (-2147483648 : Int) ≤ τ 88 25 ∧ τ 88 25 ≤ 2147483647 := hIτ 88 25
        exact j_iret (pc := 127) ⟨rfl, rfl⟩ dX12_risk_127 rfl ⟨_, rfl, ⟨by omega, by omega⟩, hIτ, hFτ, trivial⟩
      · refine j_tsIn (pc := 79) (tgt := 128) 3 dX12_risk_79 h3 (by decide) ⟨by decide, by decide⟩ rfl rfl ?_
        refine j_iload_n (pc := 128) dX12_risk_128 rfl rfl ?_
        exact j_iret (pc := 129) ⟨rfl, rfl⟩ dX12_risk_129 rfl ⟨_, rfl, ⟨by omega, by omega⟩, hIτ, hFτ, trivial⟩
      · refine j_tsIn (pc := 79) (tgt := 130) 4 dX12_risk_79 h3 (by decide) ⟨by decide, by decide⟩ rfl rfl ?_
        refine j_iload_n (pc := 130) dX12_risk_130 rfl rfl ?_
        exact j_iret (pc := 131) ⟨rfl, rfl⟩ dX12_risk_131 rfl ⟨_, rfl, ⟨by omega, by omega⟩, hIτ, hFτ, trivial⟩
      · refine j_tsOut (pc := 79) (tgt := 132) dX12_risk_79 ⟨by omega, by omega⟩ (Or.inr h3) rfl ?_
        refine j_iconst (pc := 132) dX12_risk_132 ?_
        exact j_iret (pc := 133) ⟨rfl, rfl⟩ dX12_risk_133 rfl ⟨_, rfl, ⟨by omega, by omega⟩, hIτ, hFτ, trivial⟩
    · refine j_aload_n (pc := 24) dX12_risk_24 rfl rfl ?_
      refine j_iconst (pc := 25) dX12_risk_25 ?_
      refine j_iload (pc := 26) dX12_risk_26 rfl ?_
      refine j_sipush (pc := 28) dX12_risk_28 rfl ?_
      refine j_callV (pc := 31) (As := [vI 0, vI h, vI 1023]) (st := []) (c_X12_falls hM 0 (by (first | decide | exact ⟨by omega, by omega⟩)) h ⟨by omega, by omega⟩ 1023 (by (first | decide | exact ⟨by omega, by omega⟩)) τ hIτ (by omega)) mv_X12_245 rfl rfl rfl (a_88 hM) dX12_risk_31 ⟨Nat.le_of_ble_eq_true rfl, Nat.le_of_ble_eq_true rfl⟩ ⟨Nat.le_refl _, Nat.le_refl _⟩ rfl (Nat.le_of_ble_eq_true rfl) rfl (fun z10 σ11 hz10 => ?_)
      obtain ⟨rfl, hIσ11, hGσ11, q12_0, q12_1⟩ := hz10
      replace q12_0 : (σ11 88 19, σ11 88 20, σ11 88 21, σ11 88 22) = fallG (wM τ) (gM (0 : Int) τ) h (1023 : Int) h.toNat 0 := q12_0
      replace q12_1 : σ11 88 23 = strS (wM τ) h (σ11 88 19) := q12_1
      have hFσ11 : tw_F (fun c j => (c = 88 ∧ (j = 19 ∨ j = 20 ∨ j = 21 ∨ j = 22 ∨ j = 23 ∨ j = 24 ∨ j = 25))) σ σ11 := tw_F_tr hFτ hGσ11 (fun c j q => (show (c = 88 ∧ (j = 19 ∨ j = 20 ∨ j = 21 ∨ j = 22 ∨ j = 23 ∨ j = 24 ∨ j = 25)) from by replace q : (c = 88 ∧ (j = 19 ∨ j = 20 ∨ j = 21 ∨ j = 22 ∨ j = 23)) := q; exact ⟨q.1, (q.2.elim (fun z => (Or.inl z)) (fun z => (z.elim (fun z => (Or.inr (Or.inl z))) (fun z => (z.elim (fun z => (Or.inr (Or.inr (Or.inl z)))) (fun z => (z.elim (fun z => (Or.inr (Or.inr (Or.inr (Or.inl z))))) (fun z => (Or.inr (Or.inr (Or.inr (Or.inr (Or.inl z)))))))))))))⟩))
      refine j_st (st' := []) rfl ?_
      refine j_aload_n (pc := 34) dX12_risk_34 rfl rfl ?_
      refine j_iload (pc := 35) dX12_risk_35 rfl ?_
      refine j_callV (pc := 37) (As := [vI h]) (st := []) (c_X12_harmNow hM h ⟨by omega, by omega⟩ σ11 hIσ11) mv_X12_252 rfl rfl rfl (a_88 hM) dX12_risk_37 ⟨Nat.le_of_ble_eq_true rfl, Nat.le_of_ble_eq_true rfl⟩ ⟨Nat.le_refl _, Nat.le_refl _⟩ rfl (Nat.le_of_ble_eq_true rfl) rfl (fun z14 σ15 hz14 => ?_)
      obtain ⟨r17, rfl, hr17, rfl, q16_0⟩ := hz14
      replace q16_0 : (σ11 88 23 = -4 ∧ r17 = 0) ∨ (¬ σ11 88 23 = -4 ∧ (r17 = h - σ11 88 23 ∨ σ11 88 23 < -4 ∨ 40 < σ11 88 23)) := q16_0
      refine j_st (st' := [vI r17]) rfl ?_
      refine j_iload_n (pc := 40) dX12_risk_40 rfl rfl ?_
      refine j_icmpR_le (pc := 41) (tgt := 49) ⟨by omega, by omega⟩ ⟨by omega, by omega⟩ dX12_risk_41 rfl (fun h18 => ?_) (fun h18 => ?_)
      · refine j_iload_n (pc := 49) dX12_risk_49 rfl rfl ?_
        refine j_istore_n (pc := 50) (i := 2) (ls' := [(0, vR 88), (1, vI w), (2, vI v), (3, vI m), (4, vI h)]) [1, 2, 0, 3, 4] dX12_risk_50 rfl (Nat.le_of_ble_eq_true rfl) rfl rfl ?_
        refine j_aload_n (pc := 51) dX12_risk_51 rfl rfl ?_
        refine j_iload (pc := 52) dX12_risk_52 rfl ?_
        refine j_callV (pc := 54) (As := [vI h]) (st := []) (c_X12_harmNow hM h ⟨by omega, by omega⟩ σ11 hIσ11) mv_X12_252 rfl rfl rfl (a_88 hM) dX12_risk_54 ⟨Nat.le_of_ble_eq_true rfl, Nat.le_of_ble_eq_true rfl⟩ ⟨Nat.le_refl _, Nat.le_refl _⟩ rfl (Nat.le_of_ble_eq_true rfl) rfl (fun z19 σ20 hz19 => ?_)
        obtain ⟨r22, rfl, hr22, rfl, q21_0⟩ := hz19
        replace q21_0 : (σ11 88 23 = -4 ∧ r22 = 0) ∨ (¬ σ11 88 23 = -4 ∧ (r22 = h - σ11 88 23 ∨ σ11 88 23 < -4 ∨ 40 < σ11 88 23)) := q21_0
        refine j_st (st' := [vI r22]) rfl ?_
        refine j_iload_n (pc := 57) dX12_risk_57 rfl rfl ?_
        refine j_icmpR_le (pc := 58) (tgt := 70) ⟨by omega, by omega⟩ ⟨by omega, by omega⟩ dX12_risk_58 rfl (fun h23 => ?_) (fun h23 => ?_)
        · refine j_iload_n (pc := 70) dX12_risk_70 rfl rfl ?_
          refine j_istore_n (pc := 71) (i := 3) (ls' := [(0, vR 88), (1, vI w), (2, vI v), (3, vI m), (4, vI h)]) [1, 2, 3, 0, 4] dX12_risk_71 rfl (Nat.le_of_ble_eq_true rfl) rfl rfl ?_
          refine j_iinc (pc := 72) (i := 4) (n := 1) (ls' := [(0, vR 88), (1, vI w), (2, vI v), (3, vI m), (4, vI (h + 1))]) [1, 2, 3, 4, 0] dX12_risk_72 rfl (Nat.le_of_ble_eq_true rfl) rfl rfl ?_
          refine j_goto (pc := 75) (tgt := 13) dX12_risk_75 rfl ?_
          refine j_ls (ls' := [(0, vR 88), (1, vI w), (2, vI v), (3, vI m), (4, vI (h + 1))]) [0, 1, 2, 3, 4] rfl ?_
          exact ih v ⟨by omega, by omega⟩ m ⟨by omega, by omega⟩ (h + 1) ⟨by omega, by omega⟩ σ11 hIσ11 hFσ11 (show (41 - (h + 1)).toNat < N_ from by omega)
        · refine j_aload_n (pc := 61) dX12_risk_61 rfl rfl ?_
          refine j_iload (pc := 62) dX12_risk_62 rfl ?_
          refine j_callV (pc := 64) (As := [vI h]) (st := []) (c_X12_harmNow hM h ⟨by omega, by omega⟩ σ11 hIσ11) mv_X12_252 rfl rfl rfl (a_88 hM) dX12_risk_64 ⟨Nat.le_of_ble_eq_true rfl, Nat.le_of_ble_eq_true rfl⟩ ⟨Nat.le_refl _, Nat.le_refl _⟩ rfl (Nat.le_of_ble_eq_true rfl) rfl (fun z24 σ25 hz24 => ?_)
          obtain ⟨r27, rfl, hr27, rfl, q26_0⟩ := hz24
          replace q26_0 : (σ11 88 23 = -4 ∧ r27 = 0) ∨ (¬ σ11 88 23 = -4 ∧ (r27 = h - σ11 88 23 ∨ σ11 88 23 < -4 ∨ 40 < σ11 88 23)) := q26_0
          refine j_st (st' := [vI r27]) rfl ?_
          refine j_goto (pc := 67) (tgt := 71) dX12_risk_67 rfl ?_
          refine j_istore_n (pc := 71) (i := 3) (ls' := [(0, vR 88), (1, vI w), (2, vI v), (3, vI r27), (4, vI h)]) [1, 2, 3, 0, 4] dX12_risk_71 rfl (Nat.le_of_ble_eq_true rfl) rfl rfl ?_
          refine j_iinc (pc := 72) (i := 4) (n := 1) (ls' := [(0, vR 88), (1, vI w), (2, vI v), (3, vI r27), (4, vI (h + 1))]) [1, 2, 3, 4, 0] dX12_risk_72 rfl (Nat.le_of_ble_eq_true rfl) rfl rfl ?_
          refine j_goto (pc := 75) (tgt := 13) dX12_risk_75 rfl ?_
          refine j_ls (ls' := [(0, vR 88), (1, vI w), (2, vI v), (3, vI r27), (4, vI (h + 1))]) [0, 1, 2, 3, 4] rfl ?_
          exact ih v ⟨by omega, by omega⟩ r27 ⟨by omega, by omega⟩ (h + 1) ⟨by omega, by omega⟩ σ11 hIσ11 hFσ11 (show (41 - (h + 1)).toNat < N_ from by omega)
      · refine j_iload (pc := 44) dX12_risk_44 rfl ?_
        refine j_goto (pc := 46) (tgt := 50) dX12_risk_46 rfl ?_
        refine j_istore_n (pc := 50) (i := 2) (ls' := [(0, vR 88), (1, vI w), (2, vI h), (3, vI m), (4, vI h)]) [1, 2, 0, 3, 4] dX12_risk_50 rfl (Nat.le_of_ble_eq_true rfl) rfl rfl ?_
        refine j_aload_n (pc := 51) dX12_risk_51 rfl rfl ?_
        refine j_iload (pc := 52) dX12_risk_52 rfl ?_
        refine j_callV (pc := 54) (As := [vI h]) (st := []) (c_X12_harmNow hM h ⟨by omega, by omega⟩ σ11 hIσ11) mv_X12_252 rfl rfl rfl (a_88 hM) dX12_risk_54 ⟨Nat.le_of_ble_eq_true rfl, Nat.le_of_ble_eq_true rfl⟩ ⟨Nat.le_refl _, Nat.le_refl _⟩ rfl (Nat.le_of_ble_eq_true rfl) rfl (fun z28 σ29 hz28 => ?_)
        obtain ⟨r31, rfl, hr31, rfl, q30_0⟩ := hz28
        replace q30_0 : (σ11 88 23 = -4 ∧ r31 = 0) ∨ (¬ σ11 88 23 = -4 ∧ (r31 = h - σ11 88 23 ∨ σ11 88 23 < -4 ∨ 40 < σ11 88 23)) := q30_0
        refine j_st (st' := [vI r31]) rfl ?_
        refine j_iload_n (pc := 57) dX12_risk_57 rfl rfl ?_
        refine j_icmpR_le (pc := 58) (tgt := 70) ⟨by omega, by omega⟩ ⟨by omega, by omega⟩ dX12_risk_58 rfl (fun h32 => ?_) (fun h32 => ?_)
        · refine j_iload_n (pc := 70) dX12_risk_70 rfl rfl ?_
          refine j_istore_n (pc := 71) (i := 3) (ls' := [(0, vR 88), (1, vI w), (2, vI h), (3, vI m), (4, vI h)]) [1, 2, 3, 0, 4] dX12_risk_71 rfl (Nat.le_of_ble_eq_true rfl) rfl rfl ?_
          refine j_iinc (pc := 72) (i := 4) (n := 1) (ls' := [(0, vR 88), (1, vI w), (2, vI h), (3, vI m), (4, vI (h + 1))]) [1, 2, 3, 4, 0] dX12_risk_72 rfl (Nat.le_of_ble_eq_true rfl) rfl rfl ?_
          refine j_goto (pc := 75) (tgt := 13) dX12_risk_75 rfl ?_
          refine j_ls (ls' := [(0, vR 88), (1, vI w), (2, vI h), (3, vI m), (4, vI (h + 1))]) [0, 1, 2, 3, 4] rfl ?_
          exact ih h ⟨by omega, by omega⟩ m ⟨by omega, by omega⟩ (h + 1) ⟨by omega, by omega⟩ σ11 hIσ11 hFσ11 (show (41 - (h + 1)).toNat < N_ from by omega)
        · refine j_aload_n (pc := 61) dX12_risk_61 rfl rfl ?_
          refine j_iload (pc := 62) dX12_risk_62 rfl ?_
          refine j_callV (pc := 64) (As := [vI h]) (st := []) (c_X12_harmNow hM h ⟨by omega, by omega⟩ σ11 hIσ11) mv_X12_252 rfl rfl rfl (a_88 hM) dX12_risk_64 ⟨Nat.le_of_ble_eq_true rfl, Nat.le_of_ble_eq_true rfl⟩ ⟨Nat.le_refl _, Nat.le_refl _⟩ rfl (Nat.le_of_ble_eq_true rfl) rfl (fun z33 σ34 hz33 => ?_)
          obtain ⟨r36, rfl, hr36, rfl, q35_0⟩ := hz33
          replace q35_0 : (σ11 88 23 = -4 ∧ r36 = 0) ∨ (¬ σ11 88 23 = -4 ∧ (r36 = h - σ11 88 23 ∨ σ11 88 23 < -4 ∨ 40 < σ11 88 23)) := q35_0
          refine j_st (st' := [vI r36]) rfl ?_
          refine j_goto (pc := 67) (tgt := 71) dX12_risk_67 rfl ?_
          refine j_istore_n (pc := 71) (i := 3) (ls' := [(0, vR 88), (1, vI w), (2, vI h), (3, vI r36), (4, vI h)]) [1, 2, 3, 0, 4] dX12_risk_71 rfl (Nat.le_of_ble_eq_true rfl) rfl rfl ?_
          refine j_iinc (pc := 72) (i := 4) (n := 1) (ls' := [(0, vR 88), (1, vI w), (2, vI h), (3, vI r36), (4, vI (h + 1))]) [1, 2, 3, 4, 0] dX12_risk_72 rfl (Nat.le_of_ble_eq_true rfl) rfl rfl ?_
          refine j_goto (pc := 75) (tgt := 13) dX12_risk_75 rfl ?_
          refine j_ls (ls' := [(0, vR 88), (1, vI w), (2, vI h), (3, vI r36), (4, vI (h + 1))]) [0, 1, 2, 3, 4] rfl ?_
          exact ih h ⟨by omega, by omega⟩ r36 ⟨by omega, by omega⟩ (h + 1) ⟨by omega, by omega⟩ σ11 hIσ11 hFσ11 (show (41 - (h + 1)).toNat < N_ from by omega)
set_option maxHeartbeats 4000000 in
set_option maxRecDepth 100000 in
theorem c_X12_risk {G : tw_G} (hM : tw_isM G) (w : Int) (hw : -2147483648 ≤ w ∧ w ≤ 2147483647) (σ : tw_M) (hI : tw_I σ) : tw_C G yX12_risk cX12_risk 5 (some .int) 4 [vR 88, vI w] σ (q_X12_risk w σ) := by
  refine tw_met [(0, vR 88), (1, vI w)] (by decide +kernel) rfl (Nat.le_of_ble_eq_true rfl) ?_
  refine j_aload_n (pc := 0) dX12_risk_0 rfl rfl ?_
  refine j_iconst (pc := 1) dX12_risk_1 ?_
  refine j_callV (pc := 2) (As := [vI 0]) (st := []) (c_X12_findEffort hM 0 (by (first | decide | exact ⟨by omega, by omega⟩)) σ hI) mv_X12_277 rfl rfl rfl (a_88 hM) dX12_risk_2 ⟨Nat.le_of_ble_eq_true rfl, Nat.le_of_ble_eq_true rfl⟩ ⟨Nat.le_refl _, Nat.le_refl _⟩ rfl (Nat.le_of_ble_eq_true rfl) rfl (fun z37 σ38 hz37 => ?_)
  obtain ⟨rfl, hIσ38, hGσ38, q39_0, q39_1⟩ := hz37
  replace q39_0 : σ38 88 24 = eff (wM σ) (gM (0 : Int) σ) (σ 91 0).toNat := q39_0
  replace q39_1 : TMs (wM σ) (gM (0 : Int) σ) (-4) 1 (σ 91 0 + 1) (σ38 88 25) := q39_1
  have hFσ38 : tw_F (fun c j => (c = 88 ∧ (j = 19 ∨ j = 20 ∨ j = 21 ∨ j = 22 ∨ j = 23 ∨ j = 24 ∨ j = 25))) σ σ38 := tw_F_tr (tw_F_rf) hGσ38 (fun c j q => (show (c = 88 ∧ (j = 19 ∨ j = 20 ∨ j = 21 ∨ j = 22 ∨ j = 23 ∨ j = 24 ∨ j = 25)) from by replace q : (c = 88 ∧ (j = 24 ∨ j = 25)) := q; exact ⟨q.1, (q.2.elim (fun z => (Or.inr (Or.inr (Or.inr (Or.inr (Or.inr (Or.inl z))))))) (fun z => (Or.inr (Or.inr (Or.inr (Or.inr (Or.inr (Or.inr z))))))))⟩))
  refine j_st (st' := []) rfl ?_
  refine j_bipush (pc := 5) dX12_risk_5 rfl ?_
  refine j_istore_n (pc := 7) (i := 2) (ls' := [(0, vR 88), (1, vI w), (2, vI (-4))]) [1, 2, 0] dX12_risk_7 rfl (Nat.le_of_ble_eq_true rfl) rfl rfl ?_
  refine j_iconst (pc := 8) dX12_risk_8 ?_
  refine j_istore_n (pc := 9) (i := 3) (ls' := [(0, vR 88), (1, vI w), (2, vI (-4)), (3, vI 0)]) [1, 2, 3, 0] dX12_risk_9 rfl (Nat.le_of_ble_eq_true rfl) rfl rfl ?_
  refine j_iconst (pc := 10) dX12_risk_10 ?_
  refine j_istore (pc := 11) (i := 4) (ls' := [(0, vR 88), (1, vI w), (2, vI (-4)), (3, vI 0), (4, vI 1)]) [1, 2, 3, 4, 0] dX12_risk_11 (Nat.le_of_ble_eq_true rfl) rfl rfl ?_
  refine j_ls (ls' := [(0, vR 88), (1, vI w), (2, vI (-4)), (3, vI 0), (4, vI 1)]) [0, 1, 2, 3, 4] rfl ?_
  exact (l_X12_risk hM w hw σ hI (((41 - (1 : Int)).toNat) + 1)) (-4) (by (first | decide | exact ⟨by omega, by omega⟩)) 0 (by (first | decide | exact ⟨by omega, by omega⟩)) 1 (by (first | decide | exact ⟨by omega, by omega⟩)) σ38 hIσ38 hFσ38 (Nat.lt_succ_self _)
abbrev q_X12_copies (t : Int) (o : Int) (σ : tw_M) : Option tw_V → tw_M → Prop := fun z τ => z = none ∧ tw_I τ ∧ tw_F (fun c j => (c = 89 ∧ t ≤ (j : Int) ∧ (j : Int) < t + 100)) σ τ ∧ (∀ j : Nat, (j : Int) < 100 → τ 89 (t + (j : Int)).toNat = σ 89 (o + (j : Int)).toNat)
set_option maxHeartbeats 4000000 in
set_option maxRecDepth 100000 in
theorem l_X12_copies {G : tw_G} (hM : tw_isM G) (t : Int) (ht : 0 ≤ t ∧ t ≤ 300) (o : Int) (ho : 0 ≤ o ∧ o ≤ 300) (σ : tw_M) (hI : tw_I σ) (hq0 : t % 100 = 0) (hq1 : o % 100 = 0) (hq2 : ¬ t = o) : ∀ N_ : Nat, (∀ (k : Int) (hk : 0 ≤ k ∧ k ≤ 100) (τ : tw_M) (hIτ : tw_I τ) (hFτ : tw_F (fun c j => (c = 89 ∧ t ≤ (j : Int) ∧ (j : Int) < t + 100)) σ τ) (i0 : ∀ j : Nat, (j : Int) < k → τ 89 (t + (j : Int)).toNat = σ 89 (o + (j : Int)).toNat) (hm : (100 - k).toNat < N_), tw_J G (tw_mt RX12 cX12_copies 4 none 0) (tw_E G (q_X12_copies t o σ)) 2 [(0, vR 88), (1, vI t), (2, vI o), (3, vI k)] [] τ) := by
  intro N_
  induction N_ with
  | zero => exact fun k hk τ hIτ hFτ i0 hm => absurd hm (Nat.not_lt_zero _)
  | succ N_ ih =>
    intro k hk τ hIτ hFτ i0 hm
    refine j_iload_n (pc := 2) dX12_copies_2 rfl rfl ?_
    refine j_bipush (pc := 3) dX12_copies_3 rfl ?_
    refine j_icmpR_ge (pc := 5) (tgt := 30) ⟨by omega, by omega⟩ ⟨by omega, by omega⟩ dX12_copies_5 rfl (fun h1 => ?_) (fun h1 => ?_)
    · exact j_vret (pc := 30) ⟨rfl, rfl⟩ dX12_copies_30 rfl ⟨rfl, hIτ, hFτ, fun j hj => i0 j (by omega)⟩
    · refine j_aload_n (pc := 8) dX12_copies_8 rfl rfl ?_
      refine j_getR (pc := 9) (r := 89) fl_X12_7 dX12_copies_9 (a_88 hM) rfl ?_
      refine j_iload_n (pc := 12) dX12_copies_12 rfl rfl ?_
      refine j_iload_n (pc := 13) dX12_copies_13 rfl rfl ?_
      refine j_iadd (pc := 14) dX12_copies_14 ?_
      refine j_aload_n (pc := 15) dX12_copies_15 rfl rfl ?_
      refine j_getR (pc := 16) (r := 89) fl_X12_7 dX12_copies_16 (a_88 hM) rfl ?_
      refine j_iload_n (pc := 19) dX12_copies_19 rfl rfl ?_
      refine j_iload_n (pc := 20) dX12_copies_20 rfl rfl ?_
      refine j_iadd (pc := 21) dX12_copies_21 ?_
      refine j_iald (pc := 22) dX12_copies_22 (a_89 hM) (by omega) (by omega) (by decide) ?_
      have f2 : (-2147483648 : Int) ≤ τ 89 ((o + k).toNat) ∧ τ 89 ((o + k).toNat) ≤ 2147483647 := st_D hIτ _
      refine j_iast (pc := 23) dX12_copies_23 (a_89 hM) (by omega) (by omega) (by decide) (j_nm (fun σ3 (eσ3 : σ3 = tw_up τ 89 ((t + k).toNat) (τ 89 ((o + k).toNat))) => ?_))
      have hIσ3 : tw_I σ3 := tw_I_up hIτ eσ3  (by rw [← st_cong (show (o + k).toNat % 100 = (t + k).toNat % 100 from by omega)]; exact hIτ 89 _)
      have hFσ3 : tw_F (fun c j => (c = 89 ∧ t ≤ (j : Int) ∧ (j : Int) < t + 100)) σ σ3 := tw_F_up hFτ eσ3 (show (89 = 89 ∧ t ≤ ((t + k).toNat : Int) ∧ ((t + k).toNat : Int) < t + 100) from by omega)
      refine j_iinc (pc := 24) (i := 3) (n := 1) (ls' := [(0, vR 88), (1, vI t), (2, vI o), (3, vI (k + 1))]) [1, 2, 3, 0] dX12_copies_24 rfl (Nat.le_of_ble_eq_true rfl) rfl rfl ?_
      refine j_goto (pc := 27) (tgt := 2) dX12_copies_27 rfl ?_
      refine j_ls (ls' := [(0, vR 88), (1, vI t), (2, vI o), (3, vI (k + 1))]) [0, 1, 2, 3] rfl ?_
      exact ih (k + 1) ⟨by omega, by omega⟩ σ3 hIσ3 hFσ3 (show ∀ j : Nat, (j : Int) < (k + 1) → σ3 89 (t + (j : Int)).toNat = σ 89 (o + (j : Int)).toNat from (fun j hj => by by_cases q : (j : Int) = k; (rw [tw_eq2 eσ3 (by omega), q]; exact hFτ 89 _ (show ¬ ((89 = 89 ∧ t ≤ ((o + k).toNat : Int) ∧ ((o + k).toNat : Int) < t + 100)) from by omega)); (rw [tw_ne1 eσ3 (by (first | decide | omega))]; exact i0 j (by omega)))) (show (100 - (k + 1)).toNat < N_ from by omega)
set_option maxHeartbeats 4000000 in
set_option maxRecDepth 100000 in
theorem c_X12_copies {G : tw_G} (hM : tw_isM G) (t : Int) (ht : 0 ≤ t ∧ t ≤ 300) (o : Int) (ho : 0 ≤ o ∧ o ≤ 300) (σ : tw_M) (hI : tw_I σ) (hq0 : t % 100 = 0) (hq1 : o % 100 = 0) (hq2 : ¬ t = o) : tw_C G yX12_copies cX12_copies 4 none 0 [vR 88, vI t, vI o] σ (q_X12_copies t o σ) := by
  refine tw_met [(0, vR 88), (1, vI t), (2, vI o)] (by decide +kernel) rfl (Nat.le_of_ble_eq_true rfl) ?_
  refine j_iconst (pc := 0) dX12_copies_0 ?_
  refine j_istore_n (pc := 1) (i := 3) (ls' := [(0, vR 88), (1, vI t), (2, vI o), (3, vI 0)]) [1, 2, 3, 0] dX12_copies_1 rfl (Nat.le_of_ble_eq_true rfl) rfl rfl ?_
  refine j_ls (ls' := [(0, vR 88), (1, vI t), (2, vI o), (3, vI 0)]) [0, 1, 2, 3] rfl ?_
  exact (l_X12_copies hM t ht o ho σ hI hq0 hq1 hq2 (((100 - (0 : Int)).toNat) + 1)) 0 (by (first | decide | exact ⟨by omega, by omega⟩)) σ hI (tw_F_rf) (show ∀ j : Nat, (j : Int) < (0 : Int) → σ 89 (t + (j : Int)).toNat = σ 89 (o + (j : Int)).toNat from (fun j hj => by exfalso; omega)) (Nat.lt_succ_self _)
abbrev q_X12_needless  (σ : tw_M) : Option tw_V → tw_M → Prop := fun z τ => ∃ r : Int, z = some (vI r) ∧ (-2147483648 ≤ r ∧ r ≤ 2147483647) ∧ tw_I τ ∧ tw_F (fun c j => (c = 88 ∧ (j = 19 ∨ j = 20 ∨ j = 21 ∨ j = 22 ∨ j = 23)) ∨ (c = 89 ∧ 300 ≤ j)) σ τ ∧ True
set_option maxHeartbeats 4000000 in
set_option maxRecDepth 100000 in
theorem l_X12_needless {G : tw_G} (hM : tw_isM G) (σ : tw_M) (hI : tw_I σ) (hq0 : mc σ 0 (σ 91 0).toNat ≤ 10) : ∀ N_ : Nat, (∀ (s : Int) (hs : -2147483648 ≤ s ∧ s ≤ 2147483647) (v : Int) (hv : -2147483648 ≤ v ∧ v ≤ 2147483647) (h : Int) (hh : 1 ≤ h ∧ h ≤ 41) (τ : tw_M) (hIτ : tw_I τ) (hFτ : tw_F (fun c j => (c = 88 ∧ (j = 19 ∨ j = 20 ∨ j = 21 ∨ j = 22 ∨ j = 23)) ∨ (c = 89 ∧ 300 ≤ j)) σ τ)  (hm : (41 - h).toNat < N_), tw_J G (tw_mt RX12 cX12_needless 4 (some .int) 4) (tw_E G (q_X12_needless σ)) 10 [(0, vR 88), (1, vI s), (2, vI v), (3, vI h)] [] τ) := by
  intro N_
  induction N_ with
  | zero => exact fun s hs v hv h hh τ hIτ hFτ hm => absurd hm (Nat.not_lt_zero _)
  | succ N_ ih =>
    intro s hs v hv h hh τ hIτ hFτ hm
    refine j_iload_n (pc := 10) dX12_needless_10 rfl rfl ?_
    refine j_aload_n (pc := 11) dX12_needless_11 rfl rfl ?_
    refine j_getR (pc := 12) (r := 91) fl_X12_17 dX12_needless_12 (a_88 hM) rfl ?_
    refine j_iconst (pc := 15) dX12_needless_15 ?_
    refine j_iald (pc := 16) dX12_needless_16 (a_91 hM) (by omega) (by omega) (by decide) ?_
    refine j_topV (show τ 91 (Int.toNat 0) = τ 91 0 from rfl) ?_
    have f1 : (1 : Int) ≤ τ 91 0 ∧ τ 91 0 ≤ 40 := hIτ 91 0
    refine j_icmpR_gt (pc := 17) (tgt := 79) ⟨by omega, by omega⟩ ⟨by omega, by omega⟩ dX12_needless_17 rfl (fun h2 => ?_) (fun h2 => ?_)
    · refine j_iload_n (pc := 79) dX12_needless_79 rfl rfl ?_
      exact j_iret (pc := 80) ⟨rfl, rfl⟩ dX12_needless_80 rfl ⟨_, rfl, ⟨by omega, by omega⟩, hIτ, hFτ, trivial⟩
    · refine j_aload_n (pc := 20) dX12_needless_20 rfl rfl ?_
      refine j_getR (pc := 21) (r := 89) fl_X12_7 dX12_needless_21 (a_88 hM) rfl ?_
      refine j_iload_n (pc := 24) dX12_needless_24 rfl rfl ?_
      refine j_iald (pc := 25) dX12_needless_25 (a_89 hM) (by omega) (by omega) (by decide) ?_
      have f3 : (-2147483648 : Int) ≤ τ 89 (h.toNat) ∧ τ 89 (h.toNat) ≤ 2147483647 := st_D hIτ _
      refine j_ifR_le (pc := 26) (tgt := 73) ⟨by omega, by omega⟩ dX12_needless_26 rfl (fun h4 => ?_) (fun h4 => ?_)
      · refine j_iinc (pc := 73) (i := 3) (n := 1) (ls' := [(0, vR 88), (1, vI s), (2, vI v), (3, vI (h + 1))]) [1, 2, 3, 0] dX12_needless_73 rfl (Nat.le_of_ble_eq_true rfl) rfl rfl ?_
        refine j_goto (pc := 76) (tgt := 10) dX12_needless_76 rfl ?_
        refine j_ls (ls' := [(0, vR 88), (1, vI s), (2, vI v), (3, vI (h + 1))]) [0, 1, 2, 3] rfl ?_
        exact ih s ⟨by omega, by omega⟩ v ⟨by omega, by omega⟩ (h + 1) ⟨by omega, by omega⟩ τ hIτ hFτ (show (41 - (h + 1)).toNat < N_ from by omega)
      · refine j_aload_n (pc := 29) dX12_needless_29 rfl rfl ?_
        refine j_sipush (pc := 30) dX12_needless_30 rfl ?_
        refine j_iconst (pc := 33) dX12_needless_33 ?_
        refine j_callV (pc := 34) (As := [vI 300, vI 0]) (st := []) (c_X12_copies hM 300 (by (first | decide | exact ⟨by omega, by omega⟩)) 0 (by (first | decide | exact ⟨by omega, by omega⟩)) τ hIτ (by omega) (by omega) (by omega)) mv_X12_283 rfl rfl rfl (a_88 hM) dX12_needless_34 ⟨Nat.le_of_ble_eq_true rfl, Nat.le_of_ble_eq_true rfl⟩ ⟨Nat.le_refl _, Nat.le_refl _⟩ rfl (Nat.le_of_ble_eq_true rfl) rfl (fun z5 σ6 hz5 => ?_)
        obtain ⟨rfl, hIσ6, hGσ6, q7_0⟩ := hz5
        replace q7_0 : ∀ j : Nat, (j : Int) < 100 → σ6 89 ((300 : Int) + (j : Int)).toNat = τ 89 ((0 : Int) + (j : Int)).toNat := q7_0
        have hFσ6 : tw_F (fun c j => (c = 88 ∧ (j = 19 ∨ j = 20 ∨ j = 21 ∨ j = 22 ∨ j = 23)) ∨ (c = 89 ∧ 300 ≤ j)) σ σ6 := tw_F_tr hFτ hGσ6 (fun c j q => (show (c = 88 ∧ (j = 19 ∨ j = 20 ∨ j = 21 ∨ j = 22 ∨ j = 23)) ∨ (c = 89 ∧ 300 ≤ j) from by replace q : (c = 89 ∧ (300 : Int) ≤ (j : Int) ∧ (j : Int) < (300 : Int) + 100) := q; omega))
        refine j_st (st' := []) rfl ?_
        refine j_aload_n (pc := 37) dX12_needless_37 rfl rfl ?_
        refine j_getR (pc := 38) (r := 89) fl_X12_7 dX12_needless_38 (a_88 hM) rfl ?_
        refine j_sipush (pc := 41) dX12_needless_41 rfl ?_
        refine j_iload_n (pc := 44) dX12_needless_44 rfl rfl ?_
        refine j_iadd (pc := 45) dX12_needless_45 ?_
        refine j_iconst (pc := 46) dX12_needless_46 ?_
        refine j_iast (pc := 47) dX12_needless_47 (a_89 hM) (by omega) (by omega) (by decide) (j_nm (fun σ9 (eσ9 : σ9 = tw_up σ6 89 ((300 + h).toNat) 0) => ?_))
        have hIσ9 : tw_I σ9 := tw_I_up hIσ6 eσ9  st_w0
        have hFσ9 : tw_F (fun c j => (c = 88 ∧ (j = 19 ∨ j = 20 ∨ j = 21 ∨ j = 22 ∨ j = 23)) ∨ (c = 89 ∧ 300 ≤ j)) σ σ9 := tw_F_up hFσ6 eσ9 (show (89 = 88 ∧ ((300 + h).toNat = 19 ∨ (300 + h).toNat = 20 ∨ (300 + h).toNat = 21 ∨ (300 + h).toNat = 22 ∨ (300 + h).toNat = 23)) ∨ (89 = 89 ∧ 300 ≤ (300 + h).toNat) from by omega)
        refine j_iload_n (pc := 48) dX12_needless_48 rfl rfl ?_
        refine j_aload_n (pc := 49) dX12_needless_49 rfl rfl ?_
        refine j_sipush (pc := 50) dX12_needless_50 rfl ?_
        refine j_callV (pc := 53) (As := [vI 300]) (st := [vI s]) (c_X12_riskOf hM 300 (by (first | decide | exact ⟨by omega, by omega⟩)) σ9 hIσ9 (by omega)) mv_X12_280 rfl rfl rfl (a_88 hM) dX12_needless_53 ⟨Nat.le_of_ble_eq_true rfl, Nat.le_of_ble_eq_true rfl⟩ ⟨Nat.le_refl _, Nat.le_refl _⟩ rfl (Nat.le_of_ble_eq_true rfl) rfl (fun z10 σ11 hz10 => ?_)
        obtain ⟨r13, rfl, hr13, hIσ11, hGσ11, q12_0⟩ := hz10
        replace q12_0 : r13 = rsk (wM σ9) (gM (300 : Int) σ9) 1023 (σ9 91 0).toNat := q12_0
        have y14 : σ9 91 0 = τ 91 0 := ((tw_ne1 eσ9 (by (first | decide | omega)))).trans (hGσ6 91 0 (show ¬ ((91 = 89 ∧ (300 : Int) ≤ (0 : Int) ∧ (0 : Int) < (300 : Int) + 100)) from fun h => absurd h.1 (by decide)))
        have hFσ11 : tw_F (fun c j => (c = 88 ∧ (j = 19 ∨ j = 20 ∨ j = 21 ∨ j = 22 ∨ j = 23)) ∨ (c = 89 ∧ 300 ≤ j)) σ σ11 := tw_F_tr hFσ9 hGσ11 (fun c j q => (show (c = 88 ∧ (j = 19 ∨ j = 20 ∨ j = 21 ∨ j = 22 ∨ j = 23)) ∨ (c = 89 ∧ 300 ≤ j) from by replace q : (c = 88 ∧ (j = 19 ∨ j = 20 ∨ j = 21 ∨ j = 22 ∨ j = 23)) := q; exact (Or.inl q)))
        refine j_st (st' := [vI r13, vI s]) rfl ?_
        refine j_iload_n (pc := 56) dX12_needless_56 rfl rfl ?_
        refine j_icmpR_gt (pc := 57) (tgt := 70) ⟨by omega, by omega⟩ ⟨by omega, by omega⟩ dX12_needless_57 rfl (fun h15 => ?_) (fun h15 => ?_)
        · refine j_iconst (pc := 70) dX12_needless_70 ?_
          refine j_ior (pc := 71) dX12_needless_71 (fun z16 ez16 => ?_)
          have hz16 : (-2147483648 : Int) ≤ z16 ∧ z16 ≤ 2147483647 := by rw [ez16]; exact or_in _ _
          refine j_istore_n (pc := 72) (i := 1) (ls' := [(0, vR 88), (1, vI z16), (2, vI v), (3, vI h)]) [1, 0, 2, 3] dX12_needless_72 rfl (Nat.le_of_ble_eq_true rfl) rfl rfl ?_
          refine j_iinc (pc := 73) (i := 3) (n := 1) (ls' := [(0, vR 88), (1, vI z16), (2, vI v), (3, vI (h + 1))]) [1, 2, 3, 0] dX12_needless_73 rfl (Nat.le_of_ble_eq_true rfl) rfl rfl ?_
          refine j_goto (pc := 76) (tgt := 10) dX12_needless_76 rfl ?_
          refine j_ls (ls' := [(0, vR 88), (1, vI z16), (2, vI v), (3, vI (h + 1))]) [0, 1, 2, 3] rfl ?_
          exact ih z16 ⟨by omega, by omega⟩ v ⟨by omega, by omega⟩ (h + 1) ⟨by omega, by omega⟩ σ11 hIσ11 hFσ11 (show (41 - (h + 1)).toNat < N_ from by omega)
        · refine j_iconst (pc := 60) dX12_needless_60 ?_
          refine j_aload_n (pc := 61) dX12_needless_61 rfl rfl ?_
          refine j_iload_n (pc := 62) dX12_needless_62 rfl rfl ?_
          refine j_callV (pc := 63) (As := [vI h]) (st := [vI 1, vI s]) (c_X12_numberAt hM h ⟨by omega, by omega⟩ σ11 hIσ11) mv_X12_181 rfl rfl rfl (a_88 hM) dX12_needless_63 ⟨Nat.le_of_ble_eq_true rfl, Nat.le_of_ble_eq_true rfl⟩ ⟨Nat.le_refl _, Nat.le_refl _⟩ rfl (Nat.le_of_ble_eq_true rfl) rfl (fun z17 σ18 hz17 => ?_)
          obtain ⟨r20, rfl, hr20, rfl, q19_0⟩ := hz17
          replace q19_0 : (0 < σ11 89 h.toNat ∧ r20 = cnt (gM 0 σ11) h.toNat - 1) ∨ (σ11 89 h.toNat ≤ 0 ∧ r20 = -4) := q19_0
          have y21 : σ11 89 (h.toNat) = σ9 89 (h.toNat) := (hGσ11 89 (h.toNat) (show ¬ ((89 = 88 ∧ (h.toNat = 19 ∨ h.toNat = 20 ∨ h.toNat = 21 ∨ h.toNat = 22 ∨ h.toNat = 23))) from fun h => absurd h.1 (by decide)))
          refine j_st (st' := [vI r20, vI 1, vI s]) rfl ?_
          refine j_ishl (pc := 66) dX12_needless_66 (fun z22 ez22 => ?_)
          have hz22 : (-2147483648 : Int) ≤ z22 ∧ z22 ≤ 2147483647 := by rw [ez22]; exact shl_in _ _
          refine j_goto (pc := 67) (tgt := 71) dX12_needless_67 rfl ?_
          refine j_ior (pc := 71) dX12_needless_71 (fun z23 ez23 => ?_)
          have hz23 : (-2147483648 : Int) ≤ z23 ∧ z23 ≤ 2147483647 := by rw [ez23]; exact or_in _ _
          refine j_istore_n (pc := 72) (i := 1) (ls' := [(0, vR 88), (1, vI z23), (2, vI v), (3, vI h)]) [1, 0, 2, 3] dX12_needless_72 rfl (Nat.le_of_ble_eq_true rfl) rfl rfl ?_
          refine j_iinc (pc := 73) (i := 3) (n := 1) (ls' := [(0, vR 88), (1, vI z23), (2, vI v), (3, vI (h + 1))]) [1, 2, 3, 0] dX12_needless_73 rfl (Nat.le_of_ble_eq_true rfl) rfl rfl ?_
          refine j_goto (pc := 76) (tgt := 10) dX12_needless_76 rfl ?_
          refine j_ls (ls' := [(0, vR 88), (1, vI z23), (2, vI v), (3, vI (h + 1))]) [0, 1, 2, 3] rfl ?_
          exact ih z23 ⟨by omega, by omega⟩ v ⟨by omega, by omega⟩ (h + 1) ⟨by omega, by omega⟩ σ11 hIσ11 hFσ11 (show (41 - (h + 1)).toNat < N_ from by omega)
set_option maxHeartbeats 4000000 in
set_option maxRecDepth 100000 in
theorem c_X12_needless {G : tw_G} (hM : tw_isM G) (σ : tw_M) (hI : tw_I σ) (hq0 : mc σ 0 (σ 91 0).toNat ≤ 10) : tw_C G yX12_needless cX12_needless 4 (some .int) 4 [vR 88] σ (q_X12_needless σ) := by
  refine tw_met [(0, vR 88)] (by decide +kernel) rfl (Nat.le_of_ble_eq_true rfl) ?_
  refine j_iconst (pc := 0) dX12_needless_0 ?_
  refine j_istore_n (pc := 1) (i := 1) (ls' := [(0, vR 88), (1, vI 0)]) [1, 0] dX12_needless_1 rfl (Nat.le_of_ble_eq_true rfl) rfl rfl ?_
  refine j_aload_n (pc := 2) dX12_needless_2 rfl rfl ?_
  refine j_iconst (pc := 3) dX12_needless_3 ?_
  refine j_callV (pc := 4) (As := [vI 0]) (st := []) (c_X12_riskOf hM 0 (by (first | decide | exact ⟨by omega, by omega⟩)) σ hI (by omega)) mv_X12_280 rfl rfl rfl (a_88 hM) dX12_needless_4 ⟨Nat.le_of_ble_eq_true rfl, Nat.le_of_ble_eq_true rfl⟩ ⟨Nat.le_refl _, Nat.le_refl _⟩ rfl (Nat.le_of_ble_eq_true rfl) rfl (fun z24 σ25 hz24 => ?_)
  obtain ⟨r27, rfl, hr27, hIσ25, hGσ25, q26_0⟩ := hz24
  replace q26_0 : r27 = rsk (wM σ) (gM (0 : Int) σ) 1023 (σ 91 0).toNat := q26_0
  have hFσ25 : tw_F (fun c j => (c = 88 ∧ (j = 19 ∨ j = 20 ∨ j = 21 ∨ j = 22 ∨ j = 23)) ∨ (c = 89 ∧ 300 ≤ j)) σ σ25 := tw_F_tr (tw_F_rf) hGσ25 (fun c j q => (show (c = 88 ∧ (j = 19 ∨ j = 20 ∨ j = 21 ∨ j = 22 ∨ j = 23)) ∨ (c = 89 ∧ 300 ≤ j) from by replace q : (c = 88 ∧ (j = 19 ∨ j = 20 ∨ j = 21 ∨ j = 22 ∨ j = 23)) := q; exact (Or.inl q)))
  refine j_st (st' := [vI r27]) rfl ?_
  refine j_istore_n (pc := 7) (i := 2) (ls' := [(0, vR 88), (1, vI 0), (2, vI r27)]) [1, 2, 0] dX12_needless_7 rfl (Nat.le_of_ble_eq_true rfl) rfl rfl ?_
  refine j_iconst (pc := 8) dX12_needless_8 ?_
  refine j_istore_n (pc := 9) (i := 3) (ls' := [(0, vR 88), (1, vI 0), (2, vI r27), (3, vI 1)]) [1, 2, 3, 0] dX12_needless_9 rfl (Nat.le_of_ble_eq_true rfl) rfl rfl ?_
  refine j_ls (ls' := [(0, vR 88), (1, vI 0), (2, vI r27), (3, vI 1)]) [0, 1, 2, 3] rfl ?_
  exact (l_X12_needless hM σ hI hq0 (((41 - (1 : Int)).toNat) + 1)) 0 (by (first | decide | exact ⟨by omega, by omega⟩)) r27 ⟨by omega, by omega⟩ 1 (by (first | decide | exact ⟨by omega, by omega⟩)) σ25 hIσ25 hFσ25 (Nat.lt_succ_self _)
