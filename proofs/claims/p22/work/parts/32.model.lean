/-! 32.model -/
theorem dX12_whyNot_0 : decode cX12_whyNot 0 = .ok (.aload_n 0, 1) := by decide +kernel
theorem dX12_whyNot_1 : decode cX12_whyNot 1 = .ok (.iload_n 1, 1) := by decide +kernel
theorem dX12_whyNot_2 : decode cX12_whyNot 2 = .ok (.invokevirtual 175, 3) := by decide +kernel
theorem dX12_whyNot_5 : decode cX12_whyNot 5 = .ok (.ifCond .eq 15, 3) := by decide +kernel
theorem dX12_whyNot_8 : decode cX12_whyNot 8 = .ok (.iload_n 2, 1) := by decide +kernel
theorem dX12_whyNot_9 : decode cX12_whyNot 9 = .ok (.i2l, 1) := by decide +kernel
theorem dX12_whyNot_10 : decode cX12_whyNot 10 = .ok (.lconst 1, 1) := by decide +kernel
theorem dX12_whyNot_11 : decode cX12_whyNot 11 = .ok (.ldc2_w 187, 3) := by decide +kernel
theorem dX12_whyNot_14 : decode cX12_whyNot 14 = .ok (.invokestatic 82, 3) := by decide +kernel
theorem dX12_whyNot_17 : decode cX12_whyNot 17 = .ok (.ifCond .ne 5, 3) := by decide +kernel
theorem dX12_whyNot_20 : decode cX12_whyNot 20 = .ok (.iconst (-1), 1) := by decide +kernel
theorem dX12_whyNot_21 : decode cX12_whyNot 21 = .ok (.ireturn, 1) := by decide +kernel
theorem dX12_whyNot_22 : decode cX12_whyNot 22 = .ok (.aload_n 0, 1) := by decide +kernel
theorem dX12_whyNot_23 : decode cX12_whyNot 23 = .ok (.iload_n 1, 1) := by decide +kernel
theorem dX12_whyNot_24 : decode cX12_whyNot 24 = .ok (.iconst 1, 1) := by decide +kernel
theorem dX12_whyNot_25 : decode cX12_whyNot 25 = .ok (.invokevirtual 184, 3) := by decide +kernel
theorem dX12_whyNot_28 : decode cX12_whyNot 28 = .ok (.ifCond .eq 27, 3) := by decide +kernel
theorem dX12_whyNot_31 : decode cX12_whyNot 31 = .ok (.aload_n 0, 1) := by decide +kernel
theorem dX12_whyNot_32 : decode cX12_whyNot 32 = .ok (.getfield 7, 3) := by decide +kernel
theorem dX12_whyNot_35 : decode cX12_whyNot 35 = .ok (.iload_n 1, 1) := by decide +kernel
theorem dX12_whyNot_36 : decode cX12_whyNot 36 = .ok (.iaload, 1) := by decide +kernel
theorem dX12_whyNot_37 : decode cX12_whyNot 37 = .ok (.ifCond .gt 18, 3) := by decide +kernel
theorem dX12_whyNot_40 : decode cX12_whyNot 40 = .ok (.aload_n 0, 1) := by decide +kernel
theorem dX12_whyNot_41 : decode cX12_whyNot 41 = .ok (.iload_n 1, 1) := by decide +kernel
theorem dX12_whyNot_42 : decode cX12_whyNot 42 = .ok (.iconst 1, 1) := by decide +kernel
theorem dX12_whyNot_43 : decode cX12_whyNot 43 = .ok (.invokevirtual 184, 3) := by decide +kernel
theorem dX12_whyNot_46 : decode cX12_whyNot 46 = .ok (.iload_n 2, 1) := by decide +kernel
theorem dX12_whyNot_47 : decode cX12_whyNot 47 = .ok (.isub, 1) := by decide +kernel
theorem dX12_whyNot_48 : decode cX12_whyNot 48 = .ok (.invokestatic 189, 3) := by decide +kernel
theorem dX12_whyNot_51 : decode cX12_whyNot 51 = .ok (.iconst 1, 1) := by decide +kernel
theorem dX12_whyNot_52 : decode cX12_whyNot 52 = .ok (.if_icmp .le 6, 3) := by decide +kernel
theorem dX12_whyNot_55 : decode cX12_whyNot 55 = .ok (.bipush (-2), 2) := by decide +kernel
theorem dX12_whyNot_57 : decode cX12_whyNot 57 = .ok (.ireturn, 1) := by decide +kernel
theorem dX12_whyNot_58 : decode cX12_whyNot 58 = .ok (.aload_n 0, 1) := by decide +kernel
theorem dX12_whyNot_59 : decode cX12_whyNot 59 = .ok (.iconst 0, 1) := by decide +kernel
theorem dX12_whyNot_60 : decode cX12_whyNot 60 = .ok (.invokevirtual 192, 3) := by decide +kernel
theorem dX12_whyNot_63 : decode cX12_whyNot 63 = .ok (.bipush 10, 2) := by decide +kernel
theorem dX12_whyNot_65 : decode cX12_whyNot 65 = .ok (.if_icmp .ne 8, 3) := by decide +kernel
theorem dX12_whyNot_68 : decode cX12_whyNot 68 = .ok (.bipush (-3), 2) := by decide +kernel
theorem dX12_whyNot_70 : decode cX12_whyNot 70 = .ok (.goto 21, 3) := by decide +kernel
theorem dX12_whyNot_73 : decode cX12_whyNot 73 = .ok (.aload_n 0, 1) := by decide +kernel
theorem dX12_whyNot_74 : decode cX12_whyNot 74 = .ok (.getfield 7, 3) := by decide +kernel
theorem dX12_whyNot_77 : decode cX12_whyNot 77 = .ok (.bipush 82, 2) := by decide +kernel
theorem dX12_whyNot_79 : decode cX12_whyNot 79 = .ok (.iload_n 2, 1) := by decide +kernel
theorem dX12_whyNot_80 : decode cX12_whyNot 80 = .ok (.iadd, 1) := by decide +kernel
theorem dX12_whyNot_81 : decode cX12_whyNot 81 = .ok (.iaload, 1) := by decide +kernel
theorem dX12_whyNot_82 : decode cX12_whyNot 82 = .ok (.ifCond .ne 8, 3) := by decide +kernel
theorem dX12_whyNot_85 : decode cX12_whyNot 85 = .ok (.bipush (-4), 2) := by decide +kernel
theorem dX12_whyNot_87 : decode cX12_whyNot 87 = .ok (.goto 4, 3) := by decide +kernel
theorem dX12_whyNot_90 : decode cX12_whyNot 90 = .ok (.iconst 0, 1) := by decide +kernel
theorem dX12_whyNot_91 : decode cX12_whyNot 91 = .ok (.ireturn, 1) := by decide +kernel
theorem dX12_put_0 : decode cX12_put 0 = .ok (.aload_n 0, 1) := by decide +kernel
theorem dX12_put_1 : decode cX12_put 1 = .ok (.iload_n 1, 1) := by decide +kernel
theorem dX12_put_2 : decode cX12_put 2 = .ok (.iload_n 2, 1) := by decide +kernel
theorem dX12_put_3 : decode cX12_put 3 = .ok (.invokevirtual 195, 3) := by decide +kernel
theorem dX12_put_6 : decode cX12_put 6 = .ok (.istore_n 3, 1) := by decide +kernel
theorem dX12_put_7 : decode cX12_put 7 = .ok (.iload_n 3, 1) := by decide +kernel
theorem dX12_put_8 : decode cX12_put 8 = .ok (.ifCond .eq 5, 3) := by decide +kernel
theorem dX12_put_11 : decode cX12_put 11 = .ok (.iload_n 3, 1) := by decide +kernel
theorem dX12_put_12 : decode cX12_put 12 = .ok (.ireturn, 1) := by decide +kernel
theorem dX12_put_13 : decode cX12_put 13 = .ok (.aload_n 0, 1) := by decide +kernel
theorem dX12_put_14 : decode cX12_put 14 = .ok (.getfield 7, 3) := by decide +kernel
theorem dX12_put_17 : decode cX12_put 17 = .ok (.iload_n 1, 1) := by decide +kernel
theorem dX12_put_18 : decode cX12_put 18 = .ok (.iload_n 2, 1) := by decide +kernel
theorem dX12_put_19 : decode cX12_put 19 = .ok (.iastore, 1) := by decide +kernel
theorem dX12_put_20 : decode cX12_put 20 = .ok (.aload_n 0, 1) := by decide +kernel
theorem dX12_put_21 : decode cX12_put 21 = .ok (.getfield 7, 3) := by decide +kernel
theorem dX12_put_24 : decode cX12_put 24 = .ok (.bipush 41, 2) := by decide +kernel
theorem dX12_put_26 : decode cX12_put 26 = .ok (.iload_n 1, 1) := by decide +kernel
theorem dX12_put_27 : decode cX12_put 27 = .ok (.iadd, 1) := by decide +kernel
theorem dX12_put_28 : decode cX12_put 28 = .ok (.iconst 0, 1) := by decide +kernel
theorem dX12_put_29 : decode cX12_put 29 = .ok (.iastore, 1) := by decide +kernel
theorem dX12_put_30 : decode cX12_put 30 = .ok (.aload_n 0, 1) := by decide +kernel
theorem dX12_put_31 : decode cX12_put 31 = .ok (.getfield 7, 3) := by decide +kernel
theorem dX12_put_34 : decode cX12_put 34 = .ok (.bipush 82, 2) := by decide +kernel
theorem dX12_put_36 : decode cX12_put 36 = .ok (.iload_n 2, 1) := by decide +kernel
theorem dX12_put_37 : decode cX12_put 37 = .ok (.iadd, 1) := by decide +kernel
theorem dX12_put_38 : decode cX12_put 38 = .ok (.dup2, 1) := by decide +kernel
theorem dX12_put_39 : decode cX12_put 39 = .ok (.iaload, 1) := by decide +kernel
theorem dX12_put_40 : decode cX12_put 40 = .ok (.iconst 1, 1) := by decide +kernel
theorem dX12_put_41 : decode cX12_put 41 = .ok (.isub, 1) := by decide +kernel
theorem dX12_put_42 : decode cX12_put 42 = .ok (.iastore, 1) := by decide +kernel
theorem dX12_put_43 : decode cX12_put 43 = .ok (.aload_n 0, 1) := by decide +kernel
theorem dX12_put_44 : decode cX12_put 44 = .ok (.iload_n 1, 1) := by decide +kernel
theorem dX12_put_45 : decode cX12_put 45 = .ok (.invokevirtual 181, 3) := by decide +kernel
theorem dX12_put_48 : decode cX12_put 48 = .ok (.ireturn, 1) := by decide +kernel
theorem dX12_take_0 : decode cX12_take 0 = .ok (.aload_n 0, 1) := by decide +kernel
theorem dX12_take_1 : decode cX12_take 1 = .ok (.iload_n 1, 1) := by decide +kernel
theorem dX12_take_2 : decode cX12_take 2 = .ok (.invokevirtual 175, 3) := by decide +kernel
theorem dX12_take_5 : decode cX12_take 5 = .ok (.ifCond .ne 5, 3) := by decide +kernel
theorem dX12_take_8 : decode cX12_take 8 = .ok (.iconst (-1), 1) := by decide +kernel
theorem dX12_take_9 : decode cX12_take 9 = .ok (.ireturn, 1) := by decide +kernel
theorem dX12_take_10 : decode cX12_take 10 = .ok (.aload_n 0, 1) := by decide +kernel
theorem dX12_take_11 : decode cX12_take 11 = .ok (.getfield 7, 3) := by decide +kernel
theorem dX12_take_14 : decode cX12_take 14 = .ok (.iload_n 1, 1) := by decide +kernel
theorem dX12_take_15 : decode cX12_take 15 = .ok (.iaload, 1) := by decide +kernel
theorem dX12_take_16 : decode cX12_take 16 = .ok (.ifCond .ne 6, 3) := by decide +kernel
theorem dX12_take_19 : decode cX12_take 19 = .ok (.bipush (-4), 2) := by decide +kernel
theorem dX12_take_21 : decode cX12_take 21 = .ok (.ireturn, 1) := by decide +kernel
theorem dX12_take_22 : decode cX12_take 22 = .ok (.aload_n 0, 1) := by decide +kernel
theorem dX12_take_23 : decode cX12_take 23 = .ok (.getfield 7, 3) := by decide +kernel
theorem dX12_take_26 : decode cX12_take 26 = .ok (.iload_n 1, 1) := by decide +kernel
theorem dX12_take_27 : decode cX12_take 27 = .ok (.iaload, 1) := by decide +kernel
theorem dX12_take_28 : decode cX12_take 28 = .ok (.istore_n 2, 1) := by decide +kernel
theorem dX12_take_29 : decode cX12_take 29 = .ok (.aload_n 0, 1) := by decide +kernel
theorem dX12_take_30 : decode cX12_take 30 = .ok (.getfield 7, 3) := by decide +kernel
theorem dX12_take_33 : decode cX12_take 33 = .ok (.bipush 82, 2) := by decide +kernel
theorem dX12_take_35 : decode cX12_take 35 = .ok (.iload_n 2, 1) := by decide +kernel
theorem dX12_take_36 : decode cX12_take 36 = .ok (.iadd, 1) := by decide +kernel
theorem dX12_take_37 : decode cX12_take 37 = .ok (.dup2, 1) := by decide +kernel
theorem dX12_take_38 : decode cX12_take 38 = .ok (.iaload, 1) := by decide +kernel
theorem dX12_take_39 : decode cX12_take 39 = .ok (.iconst 1, 1) := by decide +kernel
theorem dX12_take_40 : decode cX12_take 40 = .ok (.iadd, 1) := by decide +kernel
theorem dX12_take_41 : decode cX12_take 41 = .ok (.iastore, 1) := by decide +kernel
theorem dX12_take_42 : decode cX12_take 42 = .ok (.aload_n 0, 1) := by decide +kernel
theorem dX12_take_43 : decode cX12_take 43 = .ok (.getfield 7, 3) := by decide +kernel
theorem dX12_take_46 : decode cX12_take 46 = .ok (.iload_n 1, 1) := by decide +kernel
theorem dX12_take_47 : decode cX12_take 47 = .ok (.iconst 0, 1) := by decide +kernel
theorem dX12_take_48 : decode cX12_take 48 = .ok (.iastore, 1) := by decide +kernel
theorem dX12_take_49 : decode cX12_take 49 = .ok (.aload_n 0, 1) := by decide +kernel
theorem dX12_take_50 : decode cX12_take 50 = .ok (.getfield 7, 3) := by decide +kernel
theorem dX12_take_53 : decode cX12_take 53 = .ok (.bipush 41, 2) := by decide +kernel
theorem dX12_take_55 : decode cX12_take 55 = .ok (.iload_n 1, 1) := by decide +kernel
theorem dX12_take_56 : decode cX12_take 56 = .ok (.iadd, 1) := by decide +kernel
theorem dX12_take_57 : decode cX12_take 57 = .ok (.iconst 0, 1) := by decide +kernel
theorem dX12_take_58 : decode cX12_take 58 = .ok (.iastore, 1) := by decide +kernel
theorem dX12_take_59 : decode cX12_take 59 = .ok (.iload_n 2, 1) := by decide +kernel
theorem dX12_take_60 : decode cX12_take 60 = .ok (.ireturn, 1) := by decide +kernel
theorem dX12_sling_0 : decode cX12_sling 0 = .ok (.aload_n 0, 1) := by decide +kernel
theorem dX12_sling_1 : decode cX12_sling 1 = .ok (.iload_n 1, 1) := by decide +kernel
theorem dX12_sling_2 : decode cX12_sling 2 = .ok (.invokevirtual 175, 3) := by decide +kernel
theorem dX12_sling_5 : decode cX12_sling 5 = .ok (.ifCond .ne 5, 3) := by decide +kernel
theorem dX12_sling_8 : decode cX12_sling 8 = .ok (.iconst (-1), 1) := by decide +kernel
theorem dX12_sling_9 : decode cX12_sling 9 = .ok (.ireturn, 1) := by decide +kernel
theorem dX12_sling_10 : decode cX12_sling 10 = .ok (.aload_n 0, 1) := by decide +kernel
theorem dX12_sling_11 : decode cX12_sling 11 = .ok (.getfield 7, 3) := by decide +kernel
theorem dX12_sling_14 : decode cX12_sling 14 = .ok (.iload_n 1, 1) := by decide +kernel
theorem dX12_sling_15 : decode cX12_sling 15 = .ok (.iaload, 1) := by decide +kernel
theorem dX12_sling_16 : decode cX12_sling 16 = .ok (.ifCond .ne 6, 3) := by decide +kernel
theorem dX12_sling_19 : decode cX12_sling 19 = .ok (.bipush (-4), 2) := by decide +kernel
theorem dX12_sling_21 : decode cX12_sling 21 = .ok (.ireturn, 1) := by decide +kernel
theorem dX12_sling_22 : decode cX12_sling 22 = .ok (.aload_n 0, 1) := by decide +kernel
theorem dX12_sling_23 : decode cX12_sling 23 = .ok (.getfield 7, 3) := by decide +kernel
theorem dX12_sling_26 : decode cX12_sling 26 = .ok (.bipush 41, 2) := by decide +kernel
theorem dX12_sling_28 : decode cX12_sling 28 = .ok (.iload_n 1, 1) := by decide +kernel
theorem dX12_sling_29 : decode cX12_sling 29 = .ok (.iadd, 1) := by decide +kernel
theorem dX12_sling_30 : decode cX12_sling 30 = .ok (.iaload, 1) := by decide +kernel
theorem dX12_sling_31 : decode cX12_sling 31 = .ok (.istore_n 3, 1) := by decide +kernel
theorem dX12_sling_32 : decode cX12_sling 32 = .ok (.aload_n 0, 1) := by decide +kernel
theorem dX12_sling_33 : decode cX12_sling 33 = .ok (.getfield 7, 3) := by decide +kernel
theorem dX12_sling_36 : decode cX12_sling 36 = .ok (.bipush 41, 2) := by decide +kernel
theorem dX12_sling_38 : decode cX12_sling 38 = .ok (.iload_n 1, 1) := by decide +kernel
theorem dX12_sling_39 : decode cX12_sling 39 = .ok (.iadd, 1) := by decide +kernel
theorem dX12_sling_40 : decode cX12_sling 40 = .ok (.iload_n 2, 1) := by decide +kernel
theorem dX12_sling_41 : decode cX12_sling 41 = .ok (.invokestatic 168, 3) := by decide +kernel
theorem dX12_sling_44 : decode cX12_sling 44 = .ok (.iastore, 1) := by decide +kernel
theorem dX12_sling_45 : decode cX12_sling 45 = .ok (.iload_n 3, 1) := by decide +kernel
theorem dX12_sling_46 : decode cX12_sling 46 = .ok (.ireturn, 1) := by decide +kernel
theorem dX12_strip_0 : decode cX12_strip 0 = .ok (.aload_n 0, 1) := by decide +kernel
theorem dX12_strip_1 : decode cX12_strip 1 = .ok (.iconst 0, 1) := by decide +kernel
theorem dX12_strip_2 : decode cX12_strip 2 = .ok (.invokevirtual 192, 3) := by decide +kernel
theorem dX12_strip_5 : decode cX12_strip 5 = .ok (.istore_n 1, 1) := by decide +kernel
theorem dX12_strip_6 : decode cX12_strip 6 = .ok (.iconst 1, 1) := by decide +kernel
theorem dX12_strip_7 : decode cX12_strip 7 = .ok (.istore_n 2, 1) := by decide +kernel
theorem dX12_strip_8 : decode cX12_strip 8 = .ok (.iload_n 2, 1) := by decide +kernel
theorem dX12_strip_9 : decode cX12_strip 9 = .ok (.aload_n 0, 1) := by decide +kernel
theorem dX12_strip_10 : decode cX12_strip 10 = .ok (.getfield 17, 3) := by decide +kernel
theorem dX12_strip_13 : decode cX12_strip 13 = .ok (.iconst 0, 1) := by decide +kernel
theorem dX12_strip_14 : decode cX12_strip 14 = .ok (.iaload, 1) := by decide +kernel
theorem dX12_strip_15 : decode cX12_strip 15 = .ok (.if_icmp .gt 24, 3) := by decide +kernel
theorem dX12_strip_18 : decode cX12_strip 18 = .ok (.aload_n 0, 1) := by decide +kernel
theorem dX12_strip_19 : decode cX12_strip 19 = .ok (.getfield 7, 3) := by decide +kernel
theorem dX12_strip_22 : decode cX12_strip 22 = .ok (.iload_n 2, 1) := by decide +kernel
theorem dX12_strip_23 : decode cX12_strip 23 = .ok (.iaload, 1) := by decide +kernel
theorem dX12_strip_24 : decode cX12_strip 24 = .ok (.ifCond .le 9, 3) := by decide +kernel
theorem dX12_strip_27 : decode cX12_strip 27 = .ok (.aload_n 0, 1) := by decide +kernel
theorem dX12_strip_28 : decode cX12_strip 28 = .ok (.iload_n 2, 1) := by decide +kernel
theorem dX12_strip_29 : decode cX12_strip 29 = .ok (.invokevirtual 217, 3) := by decide +kernel
theorem dX12_strip_32 : decode cX12_strip 32 = .ok (.pop, 1) := by decide +kernel
theorem dX12_strip_33 : decode cX12_strip 33 = .ok (.iinc 2 1, 3) := by decide +kernel
theorem dX12_strip_36 : decode cX12_strip 36 = .ok (.goto (-28), 3) := by decide +kernel
theorem dX12_strip_39 : decode cX12_strip 39 = .ok (.iload_n 1, 1) := by decide +kernel
theorem dX12_strip_40 : decode cX12_strip 40 = .ok (.ireturn, 1) := by decide +kernel
theorem dX12_torn_0 : decode cX12_torn 0 = .ok (.aload_n 0, 1) := by decide +kernel
theorem dX12_torn_1 : decode cX12_torn 1 = .ok (.getfield 383, 3) := by decide +kernel
theorem dX12_torn_4 : decode cX12_torn 4 = .ok (.ireturn, 1) := by decide +kernel
theorem dX12_fault_0 : decode cX12_fault 0 = .ok (.aload_n 0, 1) := by decide +kernel
theorem dX12_fault_1 : decode cX12_fault 1 = .ok (.getfield 91, 3) := by decide +kernel
theorem dX12_fault_4 : decode cX12_fault 4 = .ok (.ireturn, 1) := by decide +kernel
theorem dX12_feetWith_0 : decode cX12_feetWith 0 = .ok (.iconst 0, 1) := by decide +kernel
theorem dX12_feetWith_1 : decode cX12_feetWith 1 = .ok (.istore_n 2, 1) := by decide +kernel
theorem dX12_feetWith_2 : decode cX12_feetWith 2 = .ok (.iconst 1, 1) := by decide +kernel
theorem dX12_feetWith_3 : decode cX12_feetWith 3 = .ok (.istore_n 3, 1) := by decide +kernel
theorem dX12_feetWith_4 : decode cX12_feetWith 4 = .ok (.iload_n 3, 1) := by decide +kernel
theorem dX12_feetWith_5 : decode cX12_feetWith 5 = .ok (.aload_n 0, 1) := by decide +kernel
theorem dX12_feetWith_6 : decode cX12_feetWith 6 = .ok (.getfield 17, 3) := by decide +kernel
theorem dX12_feetWith_9 : decode cX12_feetWith 9 = .ok (.iconst 0, 1) := by decide +kernel
theorem dX12_feetWith_10 : decode cX12_feetWith 10 = .ok (.iaload, 1) := by decide +kernel
theorem dX12_feetWith_11 : decode cX12_feetWith 11 = .ok (.if_icmp .gt 29, 3) := by decide +kernel
theorem dX12_feetWith_14 : decode cX12_feetWith 14 = .ok (.iload_n 2, 1) := by decide +kernel
theorem dX12_feetWith_15 : decode cX12_feetWith 15 = .ok (.aload_n 0, 1) := by decide +kernel
theorem dX12_feetWith_16 : decode cX12_feetWith 16 = .ok (.iload_n 3, 1) := by decide +kernel
theorem dX12_feetWith_17 : decode cX12_feetWith 17 = .ok (.iload_n 1, 1) := by decide +kernel
theorem dX12_feetWith_18 : decode cX12_feetWith 18 = .ok (.invokevirtual 184, 3) := by decide +kernel
theorem dX12_feetWith_21 : decode cX12_feetWith 21 = .ok (.ifCond .le 7, 3) := by decide +kernel
theorem dX12_feetWith_24 : decode cX12_feetWith 24 = .ok (.iconst 1, 1) := by decide +kernel
theorem dX12_feetWith_25 : decode cX12_feetWith 25 = .ok (.goto 4, 3) := by decide +kernel
theorem dX12_feetWith_28 : decode cX12_feetWith 28 = .ok (.iconst 0, 1) := by decide +kernel
theorem dX12_feetWith_29 : decode cX12_feetWith 29 = .ok (.invokestatic 168, 3) := by decide +kernel
theorem dX12_feetWith_32 : decode cX12_feetWith 32 = .ok (.iadd, 1) := by decide +kernel
theorem dX12_feetWith_33 : decode cX12_feetWith 33 = .ok (.istore_n 2, 1) := by decide +kernel
theorem dX12_feetWith_34 : decode cX12_feetWith 34 = .ok (.iinc 3 1, 3) := by decide +kernel
theorem dX12_feetWith_37 : decode cX12_feetWith 37 = .ok (.goto (-33), 3) := by decide +kernel
theorem dX12_feetWith_40 : decode cX12_feetWith 40 = .ok (.iload_n 2, 1) := by decide +kernel
theorem dX12_feetWith_41 : decode cX12_feetWith 41 = .ok (.ireturn, 1) := by decide +kernel
theorem dX12_racked_0 : decode cX12_racked 0 = .ok (.iconst 0, 1) := by decide +kernel
theorem dX12_racked_1 : decode cX12_racked 1 = .ok (.istore_n 1, 1) := by decide +kernel
theorem dX12_racked_2 : decode cX12_racked 2 = .ok (.iconst 1, 1) := by decide +kernel
theorem dX12_racked_3 : decode cX12_racked 3 = .ok (.istore_n 2, 1) := by decide +kernel
theorem dX12_racked_4 : decode cX12_racked 4 = .ok (.iload_n 2, 1) := by decide +kernel
theorem dX12_racked_5 : decode cX12_racked 5 = .ok (.bipush 10, 2) := by decide +kernel
theorem dX12_racked_7 : decode cX12_racked 7 = .ok (.if_icmp .gt 21, 3) := by decide +kernel
theorem dX12_racked_10 : decode cX12_racked 10 = .ok (.iload_n 1, 1) := by decide +kernel
theorem dX12_racked_11 : decode cX12_racked 11 = .ok (.aload_n 0, 1) := by decide +kernel
theorem dX12_racked_12 : decode cX12_racked 12 = .ok (.getfield 7, 3) := by decide +kernel
theorem dX12_racked_15 : decode cX12_racked 15 = .ok (.bipush 82, 2) := by decide +kernel
theorem dX12_racked_17 : decode cX12_racked 17 = .ok (.iload_n 2, 1) := by decide +kernel
theorem dX12_racked_18 : decode cX12_racked 18 = .ok (.iadd, 1) := by decide +kernel
theorem dX12_racked_19 : decode cX12_racked 19 = .ok (.iaload, 1) := by decide +kernel
theorem dX12_racked_20 : decode cX12_racked 20 = .ok (.iadd, 1) := by decide +kernel
theorem dX12_racked_21 : decode cX12_racked 21 = .ok (.istore_n 1, 1) := by decide +kernel
theorem dX12_racked_22 : decode cX12_racked 22 = .ok (.iinc 2 1, 3) := by decide +kernel
theorem dX12_racked_25 : decode cX12_racked 25 = .ok (.goto (-21), 3) := by decide +kernel
theorem dX12_racked_28 : decode cX12_racked 28 = .ok (.iload_n 1, 1) := by decide +kernel
theorem dX12_racked_29 : decode cX12_racked 29 = .ok (.ireturn, 1) := by decide +kernel
theorem dX12_rule_0 : decode cX12_rule 0 = .ok (.iload_n 1, 1) := by decide +kernel
theorem dX12_rule_1 : decode cX12_rule 1 = .ok (.i2l, 1) := by decide +kernel
theorem dX12_rule_2 : decode cX12_rule 2 = .ok (.lconst 0, 1) := by decide +kernel
theorem dX12_rule_3 : decode cX12_rule 3 = .ok (.ldc2_w 147, 3) := by decide +kernel
theorem dX12_rule_6 : decode cX12_rule 6 = .ok (.invokestatic 82, 3) := by decide +kernel
theorem dX12_rule_9 : decode cX12_rule 9 = .ok (.ifCond .eq 12, 3) := by decide +kernel
theorem dX12_rule_12 : decode cX12_rule 12 = .ok (.aload_n 0, 1) := by decide +kernel
theorem dX12_rule_13 : decode cX12_rule 13 = .ok (.getfield 17, 3) := by decide +kernel
theorem dX12_rule_16 : decode cX12_rule 16 = .ok (.iload_n 1, 1) := by decide +kernel
theorem dX12_rule_17 : decode cX12_rule 17 = .ok (.iaload, 1) := by decide +kernel
theorem dX12_rule_18 : decode cX12_rule 18 = .ok (.goto 33, 3) := by decide +kernel
theorem dX12_rule_21 : decode cX12_rule 21 = .ok (.iload_n 1, 1) := by decide +kernel
theorem dX12_rule_22 : decode cX12_rule 22 = .ok (.i2l, 1) := by decide +kernel
theorem dX12_rule_23 : decode cX12_rule 23 = .ok (.ldc2_w 164, 3) := by decide +kernel
theorem dX12_rule_26 : decode cX12_rule 26 = .ok (.ldc2_w 166, 3) := by decide +kernel
theorem dX12_rule_29 : decode cX12_rule 29 = .ok (.invokestatic 82, 3) := by decide +kernel
theorem dX12_rule_32 : decode cX12_rule 32 = .ok (.ifCond .eq 18, 3) := by decide +kernel
theorem dX12_rule_35 : decode cX12_rule 35 = .ok (.aload_n 0, 1) := by decide +kernel
theorem dX12_rule_36 : decode cX12_rule 36 = .ok (.getfield 7, 3) := by decide +kernel
theorem dX12_rule_39 : decode cX12_rule 39 = .ok (.bipush 82, 2) := by decide +kernel
theorem dX12_rule_41 : decode cX12_rule 41 = .ok (.iload_n 1, 1) := by decide +kernel
theorem dX12_rule_42 : decode cX12_rule 42 = .ok (.iadd, 1) := by decide +kernel
theorem dX12_rule_43 : decode cX12_rule 43 = .ok (.bipush 10, 2) := by decide +kernel
theorem dX12_rule_45 : decode cX12_rule 45 = .ok (.isub, 1) := by decide +kernel
theorem dX12_rule_46 : decode cX12_rule 46 = .ok (.iaload, 1) := by decide +kernel
theorem dX12_rule_47 : decode cX12_rule 47 = .ok (.goto 4, 3) := by decide +kernel
theorem dX12_rule_50 : decode cX12_rule 50 = .ok (.iconst (-1), 1) := by decide +kernel
theorem dX12_rule_51 : decode cX12_rule 51 = .ok (.ireturn, 1) := by decide +kernel
theorem dX12_image_0 : decode cX12_image 0 = .ok (.iload_n 1, 1) := by decide +kernel
theorem dX12_image_1 : decode cX12_image 1 = .ok (.i2l, 1) := by decide +kernel
theorem dX12_image_2 : decode cX12_image 2 = .ok (.lconst 0, 1) := by decide +kernel
theorem dX12_image_3 : decode cX12_image 3 = .ok (.lconst 1, 1) := by decide +kernel
theorem dX12_image_4 : decode cX12_image 4 = .ok (.invokestatic 82, 3) := by decide +kernel
theorem dX12_image_7 : decode cX12_image 7 = .ok (.ifCond .ne 5, 3) := by decide +kernel
theorem dX12_image_10 : decode cX12_image 10 = .ok (.iconst (-1), 1) := by decide +kernel
theorem dX12_image_11 : decode cX12_image 11 = .ok (.ireturn, 1) := by decide +kernel
theorem dX12_image_12 : decode cX12_image 12 = .ok (.aload_n 0, 1) := by decide +kernel
theorem dX12_image_13 : decode cX12_image 13 = .ok (.getfield 13, 3) := by decide +kernel
theorem dX12_image_16 : decode cX12_image 16 = .ok (.iload_n 1, 1) := by decide +kernel
theorem dX12_image_17 : decode cX12_image 17 = .ok (.baload, 1) := by decide +kernel
theorem dX12_image_18 : decode cX12_image 18 = .ok (.invokestatic 168, 3) := by decide +kernel
theorem dX12_image_21 : decode cX12_image 21 = .ok (.istore_n 2, 1) := by decide +kernel
theorem dX12_image_22 : decode cX12_image 22 = .ok (.aload_n 0, 1) := by decide +kernel
theorem dX12_image_23 : decode cX12_image 23 = .ok (.getfield 13, 3) := by decide +kernel
theorem dX12_image_26 : decode cX12_image 26 = .ok (.iload_n 1, 1) := by decide +kernel
theorem dX12_image_27 : decode cX12_image 27 = .ok (.iconst 1, 1) := by decide +kernel
theorem dX12_image_28 : decode cX12_image 28 = .ok (.bastore, 1) := by decide +kernel
theorem dX12_image_29 : decode cX12_image 29 = .ok (.aload_n 0, 1) := by decide +kernel
theorem dX12_image_30 : decode cX12_image 30 = .ok (.getfield 7, 3) := by decide +kernel
theorem dX12_image_33 : decode cX12_image 33 = .ok (.bipush 97, 2) := by decide +kernel
theorem dX12_image_35 : decode cX12_image 35 = .ok (.aload_n 0, 1) := by decide +kernel
theorem dX12_image_36 : decode cX12_image 36 = .ok (.getfield 17, 3) := by decide +kernel
theorem dX12_image_39 : decode cX12_image 39 = .ok (.iconst 5, 1) := by decide +kernel
theorem dX12_image_40 : decode cX12_image 40 = .ok (.iaload, 1) := by decide +kernel
theorem dX12_image_41 : decode cX12_image 41 = .ok (.iastore, 1) := by decide +kernel
theorem dX12_image_42 : decode cX12_image 42 = .ok (.aload_n 0, 1) := by decide +kernel
theorem dX12_image_43 : decode cX12_image 43 = .ok (.getfield 7, 3) := by decide +kernel
theorem dX12_image_46 : decode cX12_image 46 = .ok (.bipush 98, 2) := by decide +kernel
theorem dX12_image_48 : decode cX12_image 48 = .ok (.aload_n 0, 1) := by decide +kernel
theorem dX12_image_49 : decode cX12_image 49 = .ok (.getfield 17, 3) := by decide +kernel
theorem dX12_image_52 : decode cX12_image 52 = .ok (.bipush 6, 2) := by decide +kernel
theorem dX12_image_54 : decode cX12_image 54 = .ok (.iaload, 1) := by decide +kernel
theorem dX12_image_55 : decode cX12_image 55 = .ok (.iastore, 1) := by decide +kernel
theorem dX12_image_56 : decode cX12_image 56 = .ok (.aload_n 0, 1) := by decide +kernel
theorem dX12_image_57 : decode cX12_image 57 = .ok (.bipush 100, 2) := by decide +kernel
theorem dX12_image_59 : decode cX12_image 59 = .ok (.bipush 100, 2) := by decide +kernel
theorem dX12_image_61 : decode cX12_image 61 = .ok (.iload_n 1, 1) := by decide +kernel
theorem dX12_image_62 : decode cX12_image 62 = .ok (.imul, 1) := by decide +kernel
theorem dX12_image_63 : decode cX12_image 63 = .ok (.iadd, 1) := by decide +kernel
theorem dX12_image_64 : decode cX12_image 64 = .ok (.iconst 0, 1) := by decide +kernel
theorem dX12_image_65 : decode cX12_image 65 = .ok (.invokevirtual 283, 3) := by decide +kernel
theorem dX12_image_68 : decode cX12_image 68 = .ok (.iload_n 2, 1) := by decide +kernel
theorem dX12_image_69 : decode cX12_image 69 = .ok (.ireturn, 1) := by decide +kernel
theorem dX12_back_0 : decode cX12_back 0 = .ok (.iload_n 1, 1) := by decide +kernel
theorem dX12_back_1 : decode cX12_back 1 = .ok (.i2l, 1) := by decide +kernel
theorem dX12_back_2 : decode cX12_back 2 = .ok (.lconst 0, 1) := by decide +kernel
theorem dX12_back_3 : decode cX12_back 3 = .ok (.lconst 1, 1) := by decide +kernel
theorem dX12_back_4 : decode cX12_back 4 = .ok (.invokestatic 82, 3) := by decide +kernel
theorem dX12_back_7 : decode cX12_back 7 = .ok (.ifCond .ne 5, 3) := by decide +kernel
theorem dX12_back_10 : decode cX12_back 10 = .ok (.iconst (-1), 1) := by decide +kernel
theorem dX12_back_11 : decode cX12_back 11 = .ok (.ireturn, 1) := by decide +kernel
theorem dX12_back_12 : decode cX12_back 12 = .ok (.aload_n 0, 1) := by decide +kernel
theorem dX12_back_13 : decode cX12_back 13 = .ok (.getfield 13, 3) := by decide +kernel
theorem dX12_back_16 : decode cX12_back 16 = .ok (.iload_n 1, 1) := by decide +kernel
theorem dX12_back_17 : decode cX12_back 17 = .ok (.baload, 1) := by decide +kernel
theorem dX12_back_18 : decode cX12_back 18 = .ok (.ifCond .ne 6, 3) := by decide +kernel
theorem dX12_back_21 : decode cX12_back 21 = .ok (.bipush (-2), 2) := by decide +kernel
theorem dX12_back_23 : decode cX12_back 23 = .ok (.ireturn, 1) := by decide +kernel
theorem dX12_back_24 : decode cX12_back 24 = .ok (.aload_n 0, 1) := by decide +kernel
theorem dX12_back_25 : decode cX12_back 25 = .ok (.iconst 0, 1) := by decide +kernel
theorem dX12_back_26 : decode cX12_back 26 = .ok (.bipush 100, 2) := by decide +kernel
theorem dX12_back_28 : decode cX12_back 28 = .ok (.bipush 100, 2) := by decide +kernel
theorem dX12_back_30 : decode cX12_back 30 = .ok (.iload_n 1, 1) := by decide +kernel
theorem dX12_back_31 : decode cX12_back 31 = .ok (.imul, 1) := by decide +kernel
theorem dX12_back_32 : decode cX12_back 32 = .ok (.iadd, 1) := by decide +kernel
theorem dX12_back_33 : decode cX12_back 33 = .ok (.invokevirtual 283, 3) := by decide +kernel
theorem dX12_back_36 : decode cX12_back 36 = .ok (.aload_n 0, 1) := by decide +kernel
theorem dX12_back_37 : decode cX12_back 37 = .ok (.getfield 17, 3) := by decide +kernel
theorem dX12_back_40 : decode cX12_back 40 = .ok (.iconst 5, 1) := by decide +kernel
theorem dX12_back_41 : decode cX12_back 41 = .ok (.aload_n 0, 1) := by decide +kernel
theorem dX12_back_42 : decode cX12_back 42 = .ok (.getfield 7, 3) := by decide +kernel
theorem dX12_back_45 : decode cX12_back 45 = .ok (.bipush 97, 2) := by decide +kernel
theorem dX12_back_47 : decode cX12_back 47 = .ok (.iaload, 1) := by decide +kernel
theorem dX12_back_48 : decode cX12_back 48 = .ok (.iastore, 1) := by decide +kernel
theorem dX12_back_49 : decode cX12_back 49 = .ok (.aload_n 0, 1) := by decide +kernel
theorem dX12_back_50 : decode cX12_back 50 = .ok (.getfield 17, 3) := by decide +kernel
theorem dX12_back_53 : decode cX12_back 53 = .ok (.bipush 6, 2) := by decide +kernel
theorem dX12_back_55 : decode cX12_back 55 = .ok (.aload_n 0, 1) := by decide +kernel
theorem dX12_back_56 : decode cX12_back 56 = .ok (.getfield 7, 3) := by decide +kernel
theorem dX12_back_59 : decode cX12_back 59 = .ok (.bipush 98, 2) := by decide +kernel
theorem dX12_back_61 : decode cX12_back 61 = .ok (.iaload, 1) := by decide +kernel
theorem dX12_back_62 : decode cX12_back 62 = .ok (.iastore, 1) := by decide +kernel
theorem dX12_back_63 : decode cX12_back 63 = .ok (.aload_n 0, 1) := by decide +kernel
theorem dX12_back_64 : decode cX12_back 64 = .ok (.iconst 0, 1) := by decide +kernel
theorem dX12_back_65 : decode cX12_back 65 = .ok (.invokevirtual 192, 3) := by decide +kernel
theorem dX12_back_68 : decode cX12_back 68 = .ok (.ireturn, 1) := by decide +kernel
theorem dX12_isSheet_0 : decode cX12_isSheet 0 = .ok (.iload_n 0, 1) := by decide +kernel
theorem dX12_isSheet_1 : decode cX12_isSheet 1 = .ok (.i2l, 1) := by decide +kernel
theorem dX12_isSheet_2 : decode cX12_isSheet 2 = .ok (.lconst 0, 1) := by decide +kernel
theorem dX12_isSheet_3 : decode cX12_isSheet 3 = .ok (.ldc2_w 375, 3) := by decide +kernel
theorem dX12_isSheet_6 : decode cX12_isSheet 6 = .ok (.invokestatic 82, 3) := by decide +kernel
theorem dX12_isSheet_9 : decode cX12_isSheet 9 = .ok (.ifCond .eq 19, 3) := by decide +kernel
theorem dX12_isSheet_12 : decode cX12_isSheet 12 = .ok (.iload_n 1, 1) := by decide +kernel
theorem dX12_isSheet_13 : decode cX12_isSheet 13 = .ok (.i2l, 1) := by decide +kernel
theorem dX12_isSheet_14 : decode cX12_isSheet 14 = .ok (.lconst 0, 1) := by decide +kernel
theorem dX12_isSheet_15 : decode cX12_isSheet 15 = .ok (.ldc2_w 312, 3) := by decide +kernel
theorem dX12_isSheet_18 : decode cX12_isSheet 18 = .ok (.invokestatic 82, 3) := by decide +kernel
theorem dX12_isSheet_21 : decode cX12_isSheet 21 = .ok (.ifCond .eq 7, 3) := by decide +kernel
theorem dX12_isSheet_24 : decode cX12_isSheet 24 = .ok (.iconst 1, 1) := by decide +kernel
theorem dX12_isSheet_25 : decode cX12_isSheet 25 = .ok (.goto 4, 3) := by decide +kernel
theorem dX12_isSheet_28 : decode cX12_isSheet 28 = .ok (.iconst 0, 1) := by decide +kernel
theorem dX12_isSheet_29 : decode cX12_isSheet 29 = .ok (.ireturn, 1) := by decide +kernel
theorem dX12_sheet_0 : decode cX12_sheet 0 = .ok (.iload_n 1, 1) := by decide +kernel
theorem dX12_sheet_1 : decode cX12_sheet 1 = .ok (.iload_n 2, 1) := by decide +kernel
theorem dX12_sheet_2 : decode cX12_sheet 2 = .ok (.invokestatic 377, 3) := by decide +kernel
theorem dX12_sheet_5 : decode cX12_sheet 5 = .ok (.ifCond .eq 9, 3) := by decide +kernel
theorem dX12_sheet_8 : decode cX12_sheet 8 = .ok (.iload_n 3, 1) := by decide +kernel
theorem dX12_sheet_9 : decode cX12_sheet 9 = .ok (.bipush 40, 2) := by decide +kernel
theorem dX12_sheet_11 : decode cX12_sheet 11 = .ok (.if_icmp .le 5, 3) := by decide +kernel
theorem dX12_sheet_14 : decode cX12_sheet 14 = .ok (.iconst (-1), 1) := by decide +kernel
theorem dX12_sheet_15 : decode cX12_sheet 15 = .ok (.ireturn, 1) := by decide +kernel
theorem dX12_sheet_16 : decode cX12_sheet 16 = .ok (.iload_n 3, 1) := by decide +kernel
theorem dX12_sheet_17 : decode cX12_sheet 17 = .ok (.ifCond .ge 6, 3) := by decide +kernel
theorem dX12_sheet_20 : decode cX12_sheet 20 = .ok (.bipush (-14), 2) := by decide +kernel
theorem dX12_sheet_22 : decode cX12_sheet 22 = .ok (.ireturn, 1) := by decide +kernel
theorem dX12_sheet_23 : decode cX12_sheet 23 = .ok (.aload_n 0, 1) := by decide +kernel
theorem dX12_sheet_24 : decode cX12_sheet 24 = .ok (.getfield 56, 3) := by decide +kernel
theorem dX12_sheet_27 : decode cX12_sheet 27 = .ok (.iload_n 1, 1) := by decide +kernel
theorem dX12_sheet_28 : decode cX12_sheet 28 = .ok (.iload_n 2, 1) := by decide +kernel
theorem dX12_sheet_29 : decode cX12_sheet 29 = .ok (.iastore, 1) := by decide +kernel
theorem dX12_sheet_30 : decode cX12_sheet 30 = .ok (.aload_n 0, 1) := by decide +kernel
theorem dX12_sheet_31 : decode cX12_sheet 31 = .ok (.getfield 59, 3) := by decide +kernel
theorem dX12_sheet_34 : decode cX12_sheet 34 = .ok (.iload_n 1, 1) := by decide +kernel
theorem dX12_sheet_35 : decode cX12_sheet 35 = .ok (.iload_n 3, 1) := by decide +kernel
theorem dX12_sheet_36 : decode cX12_sheet 36 = .ok (.iastore, 1) := by decide +kernel
theorem dX12_sheet_37 : decode cX12_sheet 37 = .ok (.iconst 0, 1) := by decide +kernel
theorem dX12_sheet_38 : decode cX12_sheet 38 = .ok (.istore 4, 2) := by decide +kernel
theorem dX12_sheet_40 : decode cX12_sheet 40 = .ok (.iload 4, 2) := by decide +kernel
theorem dX12_sheet_42 : decode cX12_sheet 42 = .ok (.bipush 40, 2) := by decide +kernel
theorem dX12_sheet_44 : decode cX12_sheet 44 = .ok (.if_icmp .ge 22, 3) := by decide +kernel
theorem dX12_sheet_47 : decode cX12_sheet 47 = .ok (.aload_n 0, 1) := by decide +kernel
theorem dX12_sheet_48 : decode cX12_sheet 48 = .ok (.getfield 62, 3) := by decide +kernel
theorem dX12_sheet_51 : decode cX12_sheet 51 = .ok (.bipush 40, 2) := by decide +kernel
theorem dX12_sheet_53 : decode cX12_sheet 53 = .ok (.iload_n 1, 1) := by decide +kernel
theorem dX12_sheet_54 : decode cX12_sheet 54 = .ok (.imul, 1) := by decide +kernel
theorem dX12_sheet_55 : decode cX12_sheet 55 = .ok (.iload 4, 2) := by decide +kernel
theorem dX12_sheet_57 : decode cX12_sheet 57 = .ok (.iadd, 1) := by decide +kernel
theorem dX12_sheet_58 : decode cX12_sheet 58 = .ok (.iconst 0, 1) := by decide +kernel
theorem dX12_sheet_59 : decode cX12_sheet 59 = .ok (.iastore, 1) := by decide +kernel
theorem dX12_sheet_60 : decode cX12_sheet 60 = .ok (.iinc 4 1, 3) := by decide +kernel
theorem dX12_sheet_63 : decode cX12_sheet 63 = .ok (.goto (-23), 3) := by decide +kernel
theorem dX12_sheet_66 : decode cX12_sheet 66 = .ok (.iconst 1, 1) := by decide +kernel
theorem dX12_sheet_67 : decode cX12_sheet 67 = .ok (.ireturn, 1) := by decide +kernel
theorem dX12_lay_0 : decode cX12_lay 0 = .ok (.iload_n 1, 1) := by decide +kernel
theorem dX12_lay_1 : decode cX12_lay 1 = .ok (.iconst 0, 1) := by decide +kernel
theorem dX12_lay_2 : decode cX12_lay 2 = .ok (.invokestatic 377, 3) := by decide +kernel
theorem dX12_lay_5 : decode cX12_lay 5 = .ok (.ifCond .ne 5, 3) := by decide +kernel
theorem dX12_lay_8 : decode cX12_lay 8 = .ok (.iconst (-1), 1) := by decide +kernel
theorem dX12_lay_9 : decode cX12_lay 9 = .ok (.ireturn, 1) := by decide +kernel
theorem dX12_lay_10 : decode cX12_lay 10 = .ok (.aload_n 0, 1) := by decide +kernel
theorem dX12_lay_11 : decode cX12_lay 11 = .ok (.getfield 56, 3) := by decide +kernel
theorem dX12_lay_14 : decode cX12_lay 14 = .ok (.iload_n 1, 1) := by decide +kernel
theorem dX12_lay_15 : decode cX12_lay 15 = .ok (.iaload, 1) := by decide +kernel
theorem dX12_lay_16 : decode cX12_lay 16 = .ok (.bipush (-4), 2) := by decide +kernel
theorem dX12_lay_18 : decode cX12_lay 18 = .ok (.if_icmp .ne 6, 3) := by decide +kernel
theorem dX12_lay_21 : decode cX12_lay 21 = .ok (.bipush (-11), 2) := by decide +kernel
theorem dX12_lay_23 : decode cX12_lay 23 = .ok (.ireturn, 1) := by decide +kernel
theorem dX12_lay_24 : decode cX12_lay 24 = .ok (.iload_n 2, 1) := by decide +kernel
theorem dX12_lay_25 : decode cX12_lay 25 = .ok (.i2l, 1) := by decide +kernel
theorem dX12_lay_26 : decode cX12_lay 26 = .ok (.lconst 0, 1) := by decide +kernel
theorem dX12_lay_27 : decode cX12_lay 27 = .ok (.aload_n 0, 1) := by decide +kernel
theorem dX12_lay_28 : decode cX12_lay 28 = .ok (.getfield 59, 3) := by decide +kernel
theorem dX12_lay_31 : decode cX12_lay 31 = .ok (.iload_n 1, 1) := by decide +kernel
theorem dX12_lay_32 : decode cX12_lay 32 = .ok (.iaload, 1) := by decide +kernel
theorem dX12_lay_33 : decode cX12_lay 33 = .ok (.iconst 1, 1) := by decide +kernel
theorem dX12_lay_34 : decode cX12_lay 34 = .ok (.isub, 1) := by decide +kernel
theorem dX12_lay_35 : decode cX12_lay 35 = .ok (.i2l, 1) := by decide +kernel
theorem dX12_lay_36 : decode cX12_lay 36 = .ok (.invokestatic 82, 3) := by decide +kernel
theorem dX12_lay_39 : decode cX12_lay 39 = .ok (.ifCond .ne 6, 3) := by decide +kernel
theorem dX12_lay_42 : decode cX12_lay 42 = .ok (.bipush (-12), 2) := by decide +kernel
theorem dX12_lay_44 : decode cX12_lay 44 = .ok (.ireturn, 1) := by decide +kernel
theorem dX12_lay_45 : decode cX12_lay 45 = .ok (.aload_n 0, 1) := by decide +kernel
theorem dX12_lay_46 : decode cX12_lay 46 = .ok (.getfield 62, 3) := by decide +kernel
theorem dX12_lay_49 : decode cX12_lay 49 = .ok (.bipush 40, 2) := by decide +kernel
theorem dX12_lay_51 : decode cX12_lay 51 = .ok (.iload_n 1, 1) := by decide +kernel
theorem dX12_lay_52 : decode cX12_lay 52 = .ok (.imul, 1) := by decide +kernel
theorem dX12_lay_53 : decode cX12_lay 53 = .ok (.iload_n 2, 1) := by decide +kernel
theorem dX12_lay_54 : decode cX12_lay 54 = .ok (.iadd, 1) := by decide +kernel
theorem dX12_lay_55 : decode cX12_lay 55 = .ok (.aload_n 0, 1) := by decide +kernel
theorem dX12_lay_56 : decode cX12_lay 56 = .ok (.getfield 56, 3) := by decide +kernel
theorem dX12_lay_59 : decode cX12_lay 59 = .ok (.iload_n 1, 1) := by decide +kernel
theorem dX12_lay_60 : decode cX12_lay 60 = .ok (.iaload, 1) := by decide +kernel
theorem dX12_lay_61 : decode cX12_lay 61 = .ok (.ifCond .ne 8, 3) := by decide +kernel
theorem dX12_lay_64 : decode cX12_lay 64 = .ok (.iload_n 3, 1) := by decide +kernel
theorem dX12_lay_65 : decode cX12_lay 65 = .ok (.i2b, 1) := by decide +kernel
theorem dX12_lay_66 : decode cX12_lay 66 = .ok (.goto 19, 3) := by decide +kernel
theorem dX12_lay_69 : decode cX12_lay 69 = .ok (.aload_n 0, 1) := by decide +kernel
theorem dX12_lay_70 : decode cX12_lay 70 = .ok (.getfield 56, 3) := by decide +kernel
theorem dX12_lay_73 : decode cX12_lay 73 = .ok (.iload_n 1, 1) := by decide +kernel
theorem dX12_lay_74 : decode cX12_lay 74 = .ok (.iaload, 1) := by decide +kernel
theorem dX12_lay_75 : decode cX12_lay 75 = .ok (.iconst 1, 1) := by decide +kernel
theorem dX12_lay_76 : decode cX12_lay 76 = .ok (.if_icmp .ne 8, 3) := by decide +kernel
theorem dX12_lay_79 : decode cX12_lay 79 = .ok (.iload_n 3, 1) := by decide +kernel
theorem dX12_lay_80 : decode cX12_lay 80 = .ok (.i2s, 1) := by decide +kernel
theorem dX12_lay_81 : decode cX12_lay 81 = .ok (.goto 4, 3) := by decide +kernel
theorem dX12_lay_84 : decode cX12_lay 84 = .ok (.iload_n 3, 1) := by decide +kernel
theorem dX12_lay_85 : decode cX12_lay 85 = .ok (.iastore, 1) := by decide +kernel
theorem dX12_lay_86 : decode cX12_lay 86 = .ok (.iconst 1, 1) := by decide +kernel
theorem dX12_lay_87 : decode cX12_lay 87 = .ok (.ireturn, 1) := by decide +kernel
theorem dX12_read_0 : decode cX12_read 0 = .ok (.iload_n 1, 1) := by decide +kernel
theorem dX12_read_1 : decode cX12_read 1 = .ok (.iload_n 2, 1) := by decide +kernel
theorem dX12_read_2 : decode cX12_read 2 = .ok (.invokestatic 377, 3) := by decide +kernel
theorem dX12_read_5 : decode cX12_read 5 = .ok (.ifCond .eq 16, 3) := by decide +kernel
theorem dX12_read_8 : decode cX12_read 8 = .ok (.iload 4, 2) := by decide +kernel
theorem dX12_read_10 : decode cX12_read 10 = .ok (.i2l, 1) := by decide +kernel
theorem dX12_read_11 : decode cX12_read 11 = .ok (.lconst 0, 1) := by decide +kernel
theorem dX12_read_12 : decode cX12_read 12 = .ok (.ldc2_w 187, 3) := by decide +kernel
theorem dX12_read_15 : decode cX12_read 15 = .ok (.invokestatic 82, 3) := by decide +kernel
theorem dX12_read_18 : decode cX12_read 18 = .ok (.ifCond .ne 5, 3) := by decide +kernel
theorem dX12_read_21 : decode cX12_read 21 = .ok (.iconst (-1), 1) := by decide +kernel
theorem dX12_read_22 : decode cX12_read 22 = .ok (.ireturn, 1) := by decide +kernel
theorem dX12_read_23 : decode cX12_read 23 = .ok (.aload_n 0, 1) := by decide +kernel
theorem dX12_read_24 : decode cX12_read 24 = .ok (.sipush 300, 3) := by decide +kernel
theorem dX12_read_27 : decode cX12_read 27 = .ok (.iconst 0, 1) := by decide +kernel
theorem dX12_read_28 : decode cX12_read 28 = .ok (.invokevirtual 283, 3) := by decide +kernel
theorem dX12_read_31 : decode cX12_read 31 = .ok (.iconst 0, 1) := by decide +kernel
theorem dX12_read_32 : decode cX12_read 32 = .ok (.istore 5, 2) := by decide +kernel
theorem dX12_read_34 : decode cX12_read 34 = .ok (.iconst 0, 1) := by decide +kernel
theorem dX12_read_35 : decode cX12_read 35 = .ok (.istore 6, 2) := by decide +kernel
theorem dX12_read_37 : decode cX12_read 37 = .ok (.iconst 0, 1) := by decide +kernel
theorem dX12_read_38 : decode cX12_read 38 = .ok (.istore 7, 2) := by decide +kernel
theorem dX12_read_40 : decode cX12_read 40 = .ok (.iload 7, 2) := by decide +kernel
theorem dX12_read_42 : decode cX12_read 42 = .ok (.iload 4, 2) := by decide +kernel
theorem dX12_read_44 : decode cX12_read 44 = .ok (.if_icmp .ge 162, 3) := by decide +kernel
theorem dX12_read_47 : decode cX12_read 47 = .ok (.iload 5, 2) := by decide +kernel
theorem dX12_read_49 : decode cX12_read 49 = .ok (.ifCond .ne 157, 3) := by decide +kernel
theorem dX12_read_52 : decode cX12_read 52 = .ok (.iconst 0, 1) := by decide +kernel
theorem dX12_read_53 : decode cX12_read 53 = .ok (.istore 8, 2) := by decide +kernel
theorem dX12_read_55 : decode cX12_read 55 = .ok (.iload 8, 2) := by decide +kernel
theorem dX12_read_57 : decode cX12_read 57 = .ok (.iconst 2, 1) := by decide +kernel
theorem dX12_read_58 : decode cX12_read 58 = .ok (.if_icmp .ge 84, 3) := by decide +kernel
theorem dX12_read_61 : decode cX12_read 61 = .ok (.iload 5, 2) := by decide +kernel
theorem dX12_read_63 : decode cX12_read 63 = .ok (.ifCond .ne 79, 3) := by decide +kernel
theorem dX12_read_66 : decode cX12_read 66 = .ok (.iload_n 3, 1) := by decide +kernel
theorem dX12_read_67 : decode cX12_read 67 = .ok (.i2l, 1) := by decide +kernel
theorem dX12_read_68 : decode cX12_read 68 = .ok (.iconst 2, 1) := by decide +kernel
theorem dX12_read_69 : decode cX12_read 69 = .ok (.iload 7, 2) := by decide +kernel
theorem dX12_read_71 : decode cX12_read 71 = .ok (.imul, 1) := by decide +kernel
theorem dX12_read_72 : decode cX12_read 72 = .ok (.i2l, 1) := by decide +kernel
theorem dX12_read_73 : decode cX12_read 73 = .ok (.ladd, 1) := by decide +kernel
theorem dX12_read_74 : decode cX12_read 74 = .ok (.iload 8, 2) := by decide +kernel
theorem dX12_read_76 : decode cX12_read 76 = .ok (.i2l, 1) := by decide +kernel
theorem dX12_read_77 : decode cX12_read 77 = .ok (.ladd, 1) := by decide +kernel
theorem dX12_read_78 : decode cX12_read 78 = .ok (.lstore 9, 2) := by decide +kernel
theorem dX12_read_80 : decode cX12_read 80 = .ok (.aload_n 0, 1) := by decide +kernel
theorem dX12_read_81 : decode cX12_read 81 = .ok (.getfield 56, 3) := by decide +kernel
theorem dX12_read_84 : decode cX12_read 84 = .ok (.iload_n 1, 1) := by decide +kernel
theorem dX12_read_85 : decode cX12_read 85 = .ok (.iaload, 1) := by decide +kernel
theorem dX12_read_86 : decode cX12_read 86 = .ok (.bipush (-4), 2) := by decide +kernel
theorem dX12_read_88 : decode cX12_read 88 = .ok (.if_icmp .ne 7, 3) := by decide +kernel
theorem dX12_read_91 : decode cX12_read 91 = .ok (.iconst 1, 1) := by decide +kernel
theorem dX12_read_92 : decode cX12_read 92 = .ok (.goto 42, 3) := by decide +kernel
theorem dX12_read_95 : decode cX12_read 95 = .ok (.aload_n 0, 1) := by decide +kernel
theorem dX12_read_96 : decode cX12_read 96 = .ok (.getfield 56, 3) := by decide +kernel
theorem dX12_read_99 : decode cX12_read 99 = .ok (.iload_n 1, 1) := by decide +kernel
theorem dX12_read_100 : decode cX12_read 100 = .ok (.iaload, 1) := by decide +kernel
theorem dX12_read_101 : decode cX12_read 101 = .ok (.iload_n 2, 1) := by decide +kernel
theorem dX12_read_102 : decode cX12_read 102 = .ok (.if_icmp .eq 7, 3) := by decide +kernel
theorem dX12_read_105 : decode cX12_read 105 = .ok (.iconst 3, 1) := by decide +kernel
theorem dX12_read_106 : decode cX12_read 106 = .ok (.goto 28, 3) := by decide +kernel
theorem dX12_read_109 : decode cX12_read 109 = .ok (.lload 9, 2) := by decide +kernel
theorem dX12_read_111 : decode cX12_read 111 = .ok (.lconst 0, 1) := by decide +kernel
theorem dX12_read_112 : decode cX12_read 112 = .ok (.lcmp, 1) := by decide +kernel
theorem dX12_read_113 : decode cX12_read 113 = .ok (.ifCond .lt 16, 3) := by decide +kernel
theorem dX12_read_116 : decode cX12_read 116 = .ok (.lload 9, 2) := by decide +kernel
theorem dX12_read_118 : decode cX12_read 118 = .ok (.aload_n 0, 1) := by decide +kernel
theorem dX12_read_119 : decode cX12_read 119 = .ok (.getfield 59, 3) := by decide +kernel
theorem dX12_read_122 : decode cX12_read 122 = .ok (.iload_n 1, 1) := by decide +kernel
theorem dX12_read_123 : decode cX12_read 123 = .ok (.iaload, 1) := by decide +kernel
theorem dX12_read_124 : decode cX12_read 124 = .ok (.i2l, 1) := by decide +kernel
theorem dX12_read_125 : decode cX12_read 125 = .ok (.lcmp, 1) := by decide +kernel
theorem dX12_read_126 : decode cX12_read 126 = .ok (.ifCond .lt 7, 3) := by decide +kernel
theorem dX12_read_129 : decode cX12_read 129 = .ok (.iconst 2, 1) := by decide +kernel
theorem dX12_read_130 : decode cX12_read 130 = .ok (.goto 4, 3) := by decide +kernel
theorem dX12_read_133 : decode cX12_read 133 = .ok (.iconst 0, 1) := by decide +kernel
theorem dX12_read_134 : decode cX12_read 134 = .ok (.istore 5, 2) := by decide +kernel
theorem dX12_read_136 : decode cX12_read 136 = .ok (.iinc 8 1, 3) := by decide +kernel
theorem dX12_read_139 : decode cX12_read 139 = .ok (.goto (-84), 3) := by decide +kernel
theorem dX12_read_142 : decode cX12_read 142 = .ok (.iload 5, 2) := by decide +kernel
theorem dX12_read_144 : decode cX12_read 144 = .ok (.ifCond .ne 56, 3) := by decide +kernel
theorem dX12_read_147 : decode cX12_read 147 = .ok (.bipush 40, 2) := by decide +kernel
theorem dX12_read_149 : decode cX12_read 149 = .ok (.iload_n 1, 1) := by decide +kernel
theorem dX12_read_150 : decode cX12_read 150 = .ok (.imul, 1) := by decide +kernel
theorem dX12_read_151 : decode cX12_read 151 = .ok (.iload_n 3, 1) := by decide +kernel
theorem dX12_read_152 : decode cX12_read 152 = .ok (.iadd, 1) := by decide +kernel
theorem dX12_read_153 : decode cX12_read 153 = .ok (.iconst 2, 1) := by decide +kernel
theorem dX12_read_154 : decode cX12_read 154 = .ok (.iload 7, 2) := by decide +kernel
theorem dX12_read_156 : decode cX12_read 156 = .ok (.imul, 1) := by decide +kernel
theorem dX12_read_157 : decode cX12_read 157 = .ok (.iadd, 1) := by decide +kernel
theorem dX12_read_158 : decode cX12_read 158 = .ok (.istore 8, 2) := by decide +kernel
theorem dX12_read_160 : decode cX12_read 160 = .ok (.aload_n 0, 1) := by decide +kernel
theorem dX12_read_161 : decode cX12_read 161 = .ok (.aload_n 0, 1) := by decide +kernel
theorem dX12_read_162 : decode cX12_read 162 = .ok (.getfield 62, 3) := by decide +kernel
theorem dX12_read_165 : decode cX12_read 165 = .ok (.iload 8, 2) := by decide +kernel
theorem dX12_read_167 : decode cX12_read 167 = .ok (.iaload, 1) := by decide +kernel
theorem dX12_read_168 : decode cX12_read 168 = .ok (.aload_n 0, 1) := by decide +kernel
theorem dX12_read_169 : decode cX12_read 169 = .ok (.getfield 62, 3) := by decide +kernel
theorem dX12_read_172 : decode cX12_read 172 = .ok (.iload 8, 2) := by decide +kernel
theorem dX12_read_174 : decode cX12_read 174 = .ok (.iconst 1, 1) := by decide +kernel
theorem dX12_read_175 : decode cX12_read 175 = .ok (.iadd, 1) := by decide +kernel
theorem dX12_read_176 : decode cX12_read 176 = .ok (.iaload, 1) := by decide +kernel
theorem dX12_read_177 : decode cX12_read 177 = .ok (.invokevirtual 380, 3) := by decide +kernel
theorem dX12_read_180 : decode cX12_read 180 = .ok (.ifCond .ge 17, 3) := by decide +kernel
theorem dX12_read_183 : decode cX12_read 183 = .ok (.aload_n 0, 1) := by decide +kernel
theorem dX12_read_184 : decode cX12_read 184 = .ok (.iconst 0, 1) := by decide +kernel
theorem dX12_read_185 : decode cX12_read 185 = .ok (.sipush 300, 3) := by decide +kernel
theorem dX12_read_188 : decode cX12_read 188 = .ok (.invokevirtual 283, 3) := by decide +kernel
theorem dX12_read_191 : decode cX12_read 191 = .ok (.bipush (-20), 2) := by decide +kernel
theorem dX12_read_193 : decode cX12_read 193 = .ok (.iload 7, 2) := by decide +kernel
theorem dX12_read_195 : decode cX12_read 195 = .ok (.isub, 1) := by decide +kernel
theorem dX12_read_196 : decode cX12_read 196 = .ok (.ireturn, 1) := by decide +kernel
theorem dX12_read_197 : decode cX12_read 197 = .ok (.iinc 6 1, 3) := by decide +kernel
theorem dX12_read_200 : decode cX12_read 200 = .ok (.iinc 7 1, 3) := by decide +kernel
theorem dX12_read_203 : decode cX12_read 203 = .ok (.goto (-163), 3) := by decide +kernel
theorem dX12_read_206 : decode cX12_read 206 = .ok (.aload_n 0, 1) := by decide +kernel
theorem dX12_read_207 : decode cX12_read 207 = .ok (.iload 5, 2) := by decide +kernel
theorem dX12_read_209 : decode cX12_read 209 = .ok (.putfield 383, 3) := by decide +kernel
theorem dX12_read_212 : decode cX12_read 212 = .ok (.iload 6, 2) := by decide +kernel
theorem dX12_read_214 : decode cX12_read 214 = .ok (.ireturn, 1) := by decide +kernel
theorem dX12_count_0 : decode cX12_count 0 = .ok (.iload_n 1, 1) := by decide +kernel
theorem dX12_count_1 : decode cX12_count 1 = .ok (.tableswitch 132 0 8 #[51, 57, 62, 68, 74, 79, 84, 104, 109], 51) := by decide +kernel
theorem dX12_count_52 : decode cX12_count 52 = .ok (.aload_n 0, 1) := by decide +kernel
theorem dX12_count_53 : decode cX12_count 53 = .ok (.iconst 0, 1) := by decide +kernel
theorem dX12_count_54 : decode cX12_count 54 = .ok (.invokevirtual 192, 3) := by decide +kernel
theorem dX12_count_57 : decode cX12_count 57 = .ok (.ireturn, 1) := by decide +kernel
theorem dX12_count_58 : decode cX12_count 58 = .ok (.aload_n 0, 1) := by decide +kernel
theorem dX12_count_59 : decode cX12_count 59 = .ok (.invokevirtual 298, 3) := by decide +kernel
theorem dX12_count_62 : decode cX12_count 62 = .ok (.ireturn, 1) := by decide +kernel
theorem dX12_count_63 : decode cX12_count 63 = .ok (.aload_n 0, 1) := by decide +kernel
theorem dX12_count_64 : decode cX12_count 64 = .ok (.iconst 2, 1) := by decide +kernel
theorem dX12_count_65 : decode cX12_count 65 = .ok (.invokevirtual 386, 3) := by decide +kernel
theorem dX12_count_68 : decode cX12_count 68 = .ok (.ireturn, 1) := by decide +kernel
theorem dX12_count_69 : decode cX12_count 69 = .ok (.aload_n 0, 1) := by decide +kernel
theorem dX12_count_70 : decode cX12_count 70 = .ok (.iconst 3, 1) := by decide +kernel
theorem dX12_count_71 : decode cX12_count 71 = .ok (.invokevirtual 386, 3) := by decide +kernel
theorem dX12_count_74 : decode cX12_count 74 = .ok (.ireturn, 1) := by decide +kernel
theorem dX12_count_75 : decode cX12_count 75 = .ok (.aload_n 0, 1) := by decide +kernel
theorem dX12_count_76 : decode cX12_count 76 = .ok (.invokevirtual 389, 3) := by decide +kernel
theorem dX12_count_79 : decode cX12_count 79 = .ok (.ireturn, 1) := by decide +kernel
theorem dX12_count_80 : decode cX12_count 80 = .ok (.aload_n 0, 1) := by decide +kernel
theorem dX12_count_81 : decode cX12_count 81 = .ok (.invokevirtual 343, 3) := by decide +kernel
theorem dX12_count_84 : decode cX12_count 84 = .ok (.ireturn, 1) := by decide +kernel
theorem dX12_count_85 : decode cX12_count 85 = .ok (.aload_n 0, 1) := by decide +kernel
theorem dX12_count_86 : decode cX12_count 86 = .ok (.getfield 13, 3) := by decide +kernel
theorem dX12_count_89 : decode cX12_count 89 = .ok (.iconst 0, 1) := by decide +kernel
theorem dX12_count_90 : decode cX12_count 90 = .ok (.baload, 1) := by decide +kernel
theorem dX12_count_91 : decode cX12_count 91 = .ok (.invokestatic 168, 3) := by decide +kernel
theorem dX12_count_94 : decode cX12_count 94 = .ok (.aload_n 0, 1) := by decide +kernel
theorem dX12_count_95 : decode cX12_count 95 = .ok (.getfield 13, 3) := by decide +kernel
theorem dX12_count_98 : decode cX12_count 98 = .ok (.iconst 1, 1) := by decide +kernel
theorem dX12_count_99 : decode cX12_count 99 = .ok (.baload, 1) := by decide +kernel
theorem dX12_count_100 : decode cX12_count 100 = .ok (.invokestatic 168, 3) := by decide +kernel
theorem dX12_count_103 : decode cX12_count 103 = .ok (.iadd, 1) := by decide +kernel
theorem dX12_count_104 : decode cX12_count 104 = .ok (.ireturn, 1) := by decide +kernel
theorem dX12_count_105 : decode cX12_count 105 = .ok (.aload_n 0, 1) := by decide +kernel
theorem dX12_count_106 : decode cX12_count 106 = .ok (.getfield 86, 3) := by decide +kernel
theorem dX12_count_109 : decode cX12_count 109 = .ok (.ireturn, 1) := by decide +kernel
theorem dX12_count_110 : decode cX12_count 110 = .ok (.aload_n 0, 1) := by decide +kernel
theorem dX12_count_111 : decode cX12_count 111 = .ok (.getfield 56, 3) := by decide +kernel
theorem dX12_count_114 : decode cX12_count 114 = .ok (.iconst 0, 1) := by decide +kernel
theorem dX12_count_115 : decode cX12_count 115 = .ok (.iaload, 1) := by decide +kernel
theorem dX12_count_116 : decode cX12_count 116 = .ok (.bipush (-4), 2) := by decide +kernel
theorem dX12_count_118 : decode cX12_count 118 = .ok (.if_icmp .ne 8, 3) := by decide +kernel
theorem dX12_count_121 : decode cX12_count 121 = .ok (.bipush (-4), 2) := by decide +kernel
theorem dX12_count_123 : decode cX12_count 123 = .ok (.goto 9, 3) := by decide +kernel
theorem dX12_count_126 : decode cX12_count 126 = .ok (.aload_n 0, 1) := by decide +kernel
theorem dX12_count_127 : decode cX12_count 127 = .ok (.getfield 59, 3) := by decide +kernel
theorem dX12_count_130 : decode cX12_count 130 = .ok (.iconst 0, 1) := by decide +kernel
theorem dX12_count_131 : decode cX12_count 131 = .ok (.iaload, 1) := by decide +kernel
theorem dX12_count_132 : decode cX12_count 132 = .ok (.ireturn, 1) := by decide +kernel
theorem dX12_count_133 : decode cX12_count 133 = .ok (.iconst (-1), 1) := by decide +kernel
theorem dX12_count_134 : decode cX12_count 134 = .ok (.ireturn, 1) := by decide +kernel
theorem dX12_feed_0 : decode cX12_feed 0 = .ok (.aload_n 0, 1) := by decide +kernel
theorem dX12_feed_1 : decode cX12_feed 1 = .ok (.getfield 86, 3) := by decide +kernel
theorem dX12_feed_4 : decode cX12_feed 4 = .ok (.bipush 8, 2) := by decide +kernel
theorem dX12_feed_6 : decode cX12_feed 6 = .ok (.iadd, 1) := by decide +kernel
theorem dX12_feed_7 : decode cX12_feed 7 = .ok (.sipush 400, 3) := by decide +kernel
theorem dX12_feed_10 : decode cX12_feed 10 = .ok (.if_icmp .le 6, 3) := by decide +kernel
theorem dX12_feed_13 : decode cX12_feed 13 = .ok (.bipush (-3), 2) := by decide +kernel
theorem dX12_feed_15 : decode cX12_feed 15 = .ok (.ireturn, 1) := by decide +kernel
theorem dX12_feed_16 : decode cX12_feed 16 = .ok (.bipush 56, 2) := by decide +kernel
theorem dX12_feed_18 : decode cX12_feed 18 = .ok (.istore_n 3, 1) := by decide +kernel
theorem dX12_feed_19 : decode cX12_feed 19 = .ok (.iload_n 3, 1) := by decide +kernel
theorem dX12_feed_20 : decode cX12_feed 20 = .ok (.ifCond .lt 36, 3) := by decide +kernel
theorem dX12_feed_23 : decode cX12_feed 23 = .ok (.aload_n 0, 1) := by decide +kernel
theorem dX12_feed_24 : decode cX12_feed 24 = .ok (.getfield 38, 3) := by decide +kernel
theorem dX12_feed_27 : decode cX12_feed 27 = .ok (.aload_n 0, 1) := by decide +kernel
theorem dX12_feed_28 : decode cX12_feed 28 = .ok (.getfield 86, 3) := by decide +kernel
theorem dX12_feed_31 : decode cX12_feed 31 = .ok (.lload_n 1, 1) := by decide +kernel
theorem dX12_feed_32 : decode cX12_feed 32 = .ok (.iload_n 3, 1) := by decide +kernel
theorem dX12_feed_33 : decode cX12_feed 33 = .ok (.lshr, 1) := by decide +kernel
theorem dX12_feed_34 : decode cX12_feed 34 = .ok (.ldc2_w 89, 3) := by decide +kernel
theorem dX12_feed_37 : decode cX12_feed 37 = .ok (.land, 1) := by decide +kernel
theorem dX12_feed_38 : decode cX12_feed 38 = .ok (.l2i, 1) := by decide +kernel
theorem dX12_feed_39 : decode cX12_feed 39 = .ok (.iastore, 1) := by decide +kernel
theorem dX12_feed_40 : decode cX12_feed 40 = .ok (.aload_n 0, 1) := by decide +kernel
theorem dX12_feed_41 : decode cX12_feed 41 = .ok (.dup, 1) := by decide +kernel
theorem dX12_feed_42 : decode cX12_feed 42 = .ok (.getfield 86, 3) := by decide +kernel
theorem dX12_feed_45 : decode cX12_feed 45 = .ok (.iconst 1, 1) := by decide +kernel
theorem dX12_feed_46 : decode cX12_feed 46 = .ok (.iadd, 1) := by decide +kernel
theorem dX12_feed_47 : decode cX12_feed 47 = .ok (.putfield 86, 3) := by decide +kernel
theorem dX12_feed_50 : decode cX12_feed 50 = .ok (.iinc 3 (-8), 3) := by decide +kernel
theorem dX12_feed_53 : decode cX12_feed 53 = .ok (.goto (-34), 3) := by decide +kernel
theorem dX12_feed_56 : decode cX12_feed 56 = .ok (.aload_n 0, 1) := by decide +kernel
theorem dX12_feed_57 : decode cX12_feed 57 = .ok (.getfield 86, 3) := by decide +kernel
theorem dX12_feed_60 : decode cX12_feed 60 = .ok (.ireturn, 1) := by decide +kernel
theorem dX12_end_0 : decode cX12_end 0 = .ok (.iload_n 1, 1) := by decide +kernel
theorem dX12_end_1 : decode cX12_end 1 = .ok (.i2l, 1) := by decide +kernel
theorem dX12_end_2 : decode cX12_end 2 = .ok (.lconst 0, 1) := by decide +kernel
theorem dX12_end_3 : decode cX12_end 3 = .ok (.aload_n 0, 1) := by decide +kernel
theorem dX12_end_4 : decode cX12_end 4 = .ok (.getfield 86, 3) := by decide +kernel
theorem dX12_end_7 : decode cX12_end 7 = .ok (.i2l, 1) := by decide +kernel
theorem dX12_end_8 : decode cX12_end 8 = .ok (.invokestatic 82, 3) := by decide +kernel
theorem dX12_end_11 : decode cX12_end 11 = .ok (.ifCond .ne 5, 3) := by decide +kernel
theorem dX12_end_14 : decode cX12_end 14 = .ok (.iconst (-1), 1) := by decide +kernel
theorem dX12_end_15 : decode cX12_end 15 = .ok (.ireturn, 1) := by decide +kernel
theorem dX12_end_16 : decode cX12_end 16 = .ok (.aload_n 0, 1) := by decide +kernel
theorem dX12_end_17 : decode cX12_end 17 = .ok (.getfield 86, 3) := by decide +kernel
theorem dX12_end_20 : decode cX12_end 20 = .ok (.istore_n 2, 1) := by decide +kernel
theorem dX12_end_21 : decode cX12_end 21 = .ok (.aload_n 0, 1) := by decide +kernel
theorem dX12_end_22 : decode cX12_end 22 = .ok (.iload_n 1, 1) := by decide +kernel
theorem dX12_end_23 : decode cX12_end 23 = .ok (.putfield 86, 3) := by decide +kernel
theorem dX12_end_26 : decode cX12_end 26 = .ok (.iload_n 2, 1) := by decide +kernel
theorem dX12_end_27 : decode cX12_end 27 = .ok (.ireturn, 1) := by decide +kernel
abbrev q_X12_whyNot (h : Int) (s : Int) (σ : tw_M) : Option tw_V → tw_M → Prop := fun z τ => ∃ r : Int, z = some (vI r) ∧ (-2147483648 ≤ r ∧ r ≤ 2147483647) ∧ σ = τ ∧ (¬ r = 0 ∨ (1 ≤ h ∧ h ≤ σ 91 0 ∧ h ≤ 40 ∧ 1 ≤ s ∧ s ≤ 10 ∧ σ 89 h.toNat = 0 ∧ ¬ mc σ 0 (σ 91 0).toNat = 10)) ∧ (mI σ → r = whyS (wM σ) (gM 0 σ h.toNat) (cnt (gM 0 σ) (σ 91 0).toNat) (σ 89 (82 + s).toNat) h s)
set_option maxHeartbeats 4000000 in
set_option maxRecDepth 100000 in
theorem c_X12_whyNot {G : tw_G} (hM : tw_isM G) (h : Int) (hh : -2147483648 ≤ h ∧ h ≤ 2147483647) (s : Int) (hs : -2147483648 ≤ s ∧ s ≤ 2147483647) (σ : tw_M) (hI : tw_I σ) : tw_C G yX12_whyNot cX12_whyNot 3 (some .int) 3 [vR 88, vI h, vI s] σ (q_X12_whyNot h s σ) := by
  refine tw_met [(0, vR 88), (1, vI h), (2, vI s)] (by decide +kernel) rfl (Nat.le_of_ble_eq_true rfl) ?_
  have r0 : wM σ 100 = σ 91 0 := wM_r (j := 0) (by decide)
  refine j_aload_n (pc := 0) dX12_whyNot_0 rfl rfl ?_
  refine j_iload_n (pc := 1) dX12_whyNot_1 rfl rfl ?_
  refine j_callV (pc := 2) (As := [vI h]) (st := []) (c_X12_isAt hM h ⟨by omega, by omega⟩ σ hI) mv_X12_175 rfl rfl rfl (a_88 hM) dX12_whyNot_2 ⟨Nat.le_of_ble_eq_true rfl, Nat.le_of_ble_eq_true rfl⟩ ⟨Nat.le_refl _, Nat.le_refl _⟩ rfl (Nat.le_of_ble_eq_true rfl) rfl (fun z1 σ2 hz1 => ?_)
  obtain ⟨r4, rfl, hr4, rfl, q3_0⟩ := hz1
  replace q3_0 : (r4 = 1 ∧ 1 ≤ h ∧ h ≤ σ 91 0 ∧ h ≤ 40) ∨ (r4 = 0 ∧ ¬ (1 ≤ h ∧ h ≤ σ 91 0)) := q3_0
  refine j_st (st' := [vI r4]) rfl ?_
  refine j_ifR_eq (pc := 5) (tgt := 20) ⟨by omega, by omega⟩ dX12_whyNot_5 rfl (fun h5 => ?_) (fun h5 => ?_)
  · refine j_iconst (pc := 20) dX12_whyNot_20 ?_
    have fin : mI σ → (-1) = whyS (wM σ) (gM 0 σ h.toNat) (cnt (gM 0 σ) (σ 91 0).toNat) (σ 89 (82 + s).toNat) h s := fun M => (why_1 (W := wM σ) (gh := gM 0 σ h.toNat) (n := cnt (gM 0 σ) (σ 91 0).toNat) (rs := σ 89 (82 + s).toNat) (h := h) (s := s) (by omega)).symm
    exact j_iret (pc := 21) ⟨rfl, rfl⟩ dX12_whyNot_21 rfl ⟨_, rfl, ⟨by omega, by omega⟩, rfl, by omega, fin⟩
  · refine j_iload_n (pc := 8) dX12_whyNot_8 rfl rfl ?_
    refine j_i2l (pc := 9) dX12_whyNot_9 ?_
    rw [w32_eq (a := s) (by omega) (by omega)]
    refine j_lconst (pc := 10) (z := 1) dX12_whyNot_10 rfl ?_
    refine j_ldc2 (pc := 11) (z := 10) dX12_whyNot_11 (tw_inc tm_6 (i := 239) rfl rfl) ?_
    refine j_callS (pc := 14) (As := [vL s, vL 1, vL 10]) (st := []) (c_X12_in s ⟨by omega, by omega⟩ 1 (by (first | decide | exact ⟨by omega, by omega⟩)) 10 (by (first | decide | exact ⟨by omega, by omega⟩)) σ hI) ms_X12_82 rfl dX12_whyNot_14 ⟨Nat.le_of_ble_eq_true rfl, Nat.le_of_ble_eq_true rfl⟩ ⟨Nat.le_refl _, Nat.le_refl _⟩ rfl (Nat.le_of_ble_eq_true rfl) rfl (fun z6 σ7 hz6 => ?_)
    obtain ⟨r9, rfl, hr9, rfl, q8_0⟩ := hz6
    replace q8_0 : (r9 = 1 ∧ (1 : Int) ≤ s ∧ s ≤ (10 : Int)) ∨ (r9 = 0 ∧ ¬ ((1 : Int) ≤ s ∧ s ≤ (10 : Int))) := q8_0
    refine j_st (st' := [vI r9]) rfl ?_
    refine j_ifR_ne (pc := 17) (tgt := 22) ⟨by omega, by omega⟩ dX12_whyNot_17 rfl (fun h10 => ?_) (fun h10 => ?_)
    · have ft : (1 : Int) ≤ σ 91 0 ∧ σ 91 0 ≤ 40 := hI 91 0
      have c9 : wC (wM σ) h = σ 92 (5 * h + 1).toNat := wM_1 ⟨by omega, by omega⟩
      have g9 : gM 0 σ h.toNat = σ 89 h.toNat := (gM_at (b := 0) ⟨by omega, by omega⟩).trans (by rw [show (0 + h).toNat = h.toNat from by omega])
      refine j_aload_n (pc := 22) dX12_whyNot_22 rfl rfl ?_
      refine j_iload_n (pc := 23) dX12_whyNot_23 rfl rfl ?_
      refine j_iconst (pc := 24) dX12_whyNot_24 ?_
      refine j_callV (pc := 25) (As := [vI h, vI 1]) (st := []) (c_X12_of hM h ⟨by omega, by omega⟩ 1 (by (first | decide | exact ⟨by omega, by omega⟩)) σ hI) mv_X12_184 rfl rfl rfl (a_88 hM) dX12_whyNot_25 ⟨Nat.le_of_ble_eq_true rfl, Nat.le_of_ble_eq_true rfl⟩ ⟨Nat.le_refl _, Nat.le_refl _⟩ rfl (Nat.le_of_ble_eq_true rfl) rfl (fun z11 σ12 hz11 => ?_)
      obtain ⟨r14, rfl, hr14, rfl, q13_0⟩ := hz11
      replace q13_0 : r14 = σ 92 (5 * h + (1 : Int)).toNat := q13_0
      refine j_st (st' := [vI r14]) rfl ?_
      refine j_ifR_eq (pc := 28) (tgt := 55) ⟨by omega, by omega⟩ dX12_whyNot_28 rfl (fun h15 => ?_) (fun h15 => ?_)
      · refine j_bipush (pc := 55) dX12_whyNot_55 rfl ?_
        have fin : mI σ → (-2) = whyS (wM σ) (gM 0 σ h.toNat) (cnt (gM 0 σ) (σ 91 0).toNat) (σ 89 (82 + s).toNat) h s := fun M => (why_2 (W := wM σ) (gh := gM 0 σ h.toNat) (n := cnt (gM 0 σ) (σ 91 0).toNat) (rs := σ 89 (82 + s).toNat) (h := h) (s := s) ⟨by omega, by omega, by omega, by omega⟩ (by omega)).symm
        exact j_iret (pc := 57) ⟨rfl, rfl⟩ dX12_whyNot_57 rfl ⟨_, rfl, ⟨by omega, by omega⟩, rfl, by omega, fin⟩
      · refine j_aload_n (pc := 31) dX12_whyNot_31 rfl rfl ?_
        refine j_getR (pc := 32) (r := 89) fl_X12_7 dX12_whyNot_32 (a_88 hM) rfl ?_
        refine j_iload_n (pc := 35) dX12_whyNot_35 rfl rfl ?_
        refine j_iald (pc := 36) dX12_whyNot_36 (a_89 hM) (by omega) (by omega) (by decide) ?_
        have f16 : (-2147483648 : Int) ≤ σ 89 (h.toNat) ∧ σ 89 (h.toNat) ≤ 2147483647 := st_D hI _
        have g17 : (0 : Int) ≤ σ 89 (h.toNat) ∧ σ 89 (h.toNat) ≤ 10 := st_p hI (by omega)
        refine j_ifR_gt (pc := 37) (tgt := 55) ⟨by omega, by omega⟩ dX12_whyNot_37 rfl (fun h18 => ?_) (fun h18 => ?_)
        · refine j_bipush (pc := 55) dX12_whyNot_55 rfl ?_
          have fin : mI σ → (-2) = whyS (wM σ) (gM 0 σ h.toNat) (cnt (gM 0 σ) (σ 91 0).toNat) (σ 89 (82 + s).toNat) h s := fun M => (why_2 (W := wM σ) (gh := gM 0 σ h.toNat) (n := cnt (gM 0 σ) (σ 91 0).toNat) (rs := σ 89 (82 + s).toNat) (h := h) (s := s) ⟨by omega, by omega, by omega, by omega⟩ (by omega)).symm
          exact j_iret (pc := 57) ⟨rfl, rfl⟩ dX12_whyNot_57 rfl ⟨_, rfl, ⟨by omega, by omega⟩, rfl, by omega, fin⟩
        · refine j_aload_n (pc := 40) dX12_whyNot_40 rfl rfl ?_
          refine j_iload_n (pc := 41) dX12_whyNot_41 rfl rfl ?_
          refine j_iconst (pc := 42) dX12_whyNot_42 ?_
          refine j_callV (pc := 43) (As := [vI h, vI 1]) (st := []) (c_X12_of hM h ⟨by omega, by omega⟩ 1 (by (first | decide | exact ⟨by omega, by omega⟩)) σ hI) mv_X12_184 rfl rfl rfl (a_88 hM) dX12_whyNot_43 ⟨Nat.le_of_ble_eq_true rfl, Nat.le_of_ble_eq_true rfl⟩ ⟨Nat.le_refl _, Nat.le_refl _⟩ rfl (Nat.le_of_ble_eq_true rfl) rfl (fun z19 σ20 hz19 => ?_)
          obtain ⟨r22, rfl, hr22, rfl, q21_0⟩ := hz19
          replace q21_0 : r22 = σ 92 (5 * h + (1 : Int)).toNat := q21_0
          refine j_st (st' := [vI r22]) rfl ?_
          refine j_iload_n (pc := 46) dX12_whyNot_46 rfl rfl ?_
          refine j_isub (pc := 47) dX12_whyNot_47 ?_
          refine j_callS (pc := 48) (As := [vI (r22 - s)]) (st := []) (c_X12_size (r22 - s) ⟨by omega, by omega⟩ σ hI) ms_X12_189 rfl dX12_whyNot_48 ⟨Nat.le_of_ble_eq_true rfl, Nat.le_of_ble_eq_true rfl⟩ ⟨Nat.le_refl _, Nat.le_refl _⟩ rfl (Nat.le_of_ble_eq_true rfl) rfl (fun z23 σ24 hz23 => ?_)
          obtain ⟨r26, rfl, hr26, rfl, q25_0⟩ := hz23
          replace q25_0 : (0 ≤ (r22 - s) ∧ r26 = (r22 - s)) ∨ ((r22 - s) < 0 ∧ r26 = -(r22 - s)) := q25_0
          refine j_st (st' := [vI r26]) rfl ?_
          refine j_iconst (pc := 51) dX12_whyNot_51 ?_
          refine j_icmpR_le (pc := 52) (tgt := 58) ⟨by omega, by omega⟩ ⟨by omega, by omega⟩ dX12_whyNot_52 rfl (fun h27 => ?_) (fun h27 => ?_)
          · refine j_aload_n (pc := 58) dX12_whyNot_58 rfl rfl ?_
            refine j_iconst (pc := 59) dX12_whyNot_59 ?_
            refine j_callV (pc := 60) (As := [vI 0]) (st := []) (c_X12_all hM 0 (by (first | decide | exact ⟨by omega, by omega⟩)) σ hI) mv_X12_192 rfl rfl rfl (a_88 hM) dX12_whyNot_60 ⟨Nat.le_of_ble_eq_true rfl, Nat.le_of_ble_eq_true rfl⟩ ⟨Nat.le_refl _, Nat.le_refl _⟩ rfl (Nat.le_of_ble_eq_true rfl) rfl (fun z28 σ29 hz28 => ?_)
            obtain ⟨r31, rfl, hr31, rfl, q30_0⟩ := hz28
            replace q30_0 : r31 = mc σ (0 : Int) (σ 91 0).toNat := q30_0
            refine j_st (st' := [vI r31]) rfl ?_
            have n9 := q30_0; rw [mc_gM (by omega)] at n9
            refine j_bipush (pc := 63) dX12_whyNot_63 rfl ?_
            refine j_icmpR_ne (pc := 65) (tgt := 73) ⟨by omega, by omega⟩ ⟨by omega, by omega⟩ dX12_whyNot_65 rfl (fun h32 => ?_) (fun h32 => ?_)
            · refine j_aload_n (pc := 73) dX12_whyNot_73 rfl rfl ?_
              refine j_getR (pc := 74) (r := 89) fl_X12_7 dX12_whyNot_74 (a_88 hM) rfl ?_
              refine j_bipush (pc := 77) dX12_whyNot_77 rfl ?_
              refine j_iload_n (pc := 79) dX12_whyNot_79 rfl rfl ?_
              refine j_iadd (pc := 80) dX12_whyNot_80 ?_
              refine j_iald (pc := 81) dX12_whyNot_81 (a_89 hM) (by omega) (by omega) (by decide) ?_
              have f33 : (-2147483648 : Int) ≤ σ 89 ((82 + s).toNat) ∧ σ 89 ((82 + s).toNat) ≤ 2147483647 := st_D hI _
              refine j_ifR_ne (pc := 82) (tgt := 90) ⟨by omega, by omega⟩ dX12_whyNot_82 rfl (fun h34 => ?_) (fun h34 => ?_)
              · refine j_iconst (pc := 90) dX12_whyNot_90 ?_
                have fin : mI σ → 0 = whyS (wM σ) (gM 0 σ h.toNat) (cnt (gM 0 σ) (σ 91 0).toNat) (σ 89 (82 + s).toNat) h s := fun M => by
                  have m := M.1
                  rw [mc_gM (by omega)] at m
                  exact (why_0 (W := wM σ) (gh := gM 0 σ h.toNat) (n := cnt (gM 0 σ) (σ 91 0).toNat) (rs := σ 89 (82 + s).toNat) (h := h) (s := s) ⟨by omega, by omega, by omega, by omega⟩ (by omega) (by omega) (by omega)).symm
                exact j_iret (pc := 91) ⟨rfl, rfl⟩ dX12_whyNot_91 rfl ⟨_, rfl, ⟨by omega, by omega⟩, rfl, by omega, fin⟩
              · refine j_bipush (pc := 85) dX12_whyNot_85 rfl ?_
                refine j_goto (pc := 87) (tgt := 91) dX12_whyNot_87 rfl ?_
                have fin : mI σ → (-4) = whyS (wM σ) (gM 0 σ h.toNat) (cnt (gM 0 σ) (σ 91 0).toNat) (σ 89 (82 + s).toNat) h s := fun M => by
                  have m := M.1
                  rw [mc_gM (by omega)] at m
                  first
                  | exact (why_3 (W := wM σ) (gh := gM 0 σ h.toNat) (n := cnt (gM 0 σ) (σ 91 0).toNat) (rs := σ 89 (82 + s).toNat) (h := h) (s := s) ⟨by omega, by omega, by omega, by omega⟩ (by omega) (by omega)).symm
                  | exact (why_4 (W := wM σ) (gh := gM 0 σ h.toNat) (n := cnt (gM 0 σ) (σ 91 0).toNat) (rs := σ 89 (82 + s).toNat) (h := h) (s := s) ⟨by omega, by omega, by omega, by omega⟩ (by omega) (by omega) (by omega)).symm
                exact j_iret (pc := 91) ⟨rfl, rfl⟩ dX12_whyNot_91 rfl ⟨_, rfl, ⟨by omega, by omega⟩, rfl, by omega, fin⟩
            · refine j_bipush (pc := 68) dX12_whyNot_68 rfl ?_
              refine j_goto (pc := 70) (tgt := 91) dX12_whyNot_70 rfl ?_
              have fin : mI σ → (-3) = whyS (wM σ) (gM 0 σ h.toNat) (cnt (gM 0 σ) (σ 91 0).toNat) (σ 89 (82 + s).toNat) h s := fun M => by
                have m := M.1
                rw [mc_gM (by omega)] at m
                first
                | exact (why_3 (W := wM σ) (gh := gM 0 σ h.toNat) (n := cnt (gM 0 σ) (σ 91 0).toNat) (rs := σ 89 (82 + s).toNat) (h := h) (s := s) ⟨by omega, by omega, by omega, by omega⟩ (by omega) (by omega)).symm
                | exact (why_4 (W := wM σ) (gh := gM 0 σ h.toNat) (n := cnt (gM 0 σ) (σ 91 0).toNat) (rs := σ 89 (82 + s).toNat) (h := h) (s := s) ⟨by omega, by omega, by omega, by omega⟩ (by omega) (by omega) (by omega)).symm
              exact j_iret (pc := 91) ⟨rfl, rfl⟩ dX12_whyNot_91 rfl ⟨_, rfl, ⟨by omega, by omega⟩, rfl, by omega, fin⟩
          · refine j_bipush (pc := 55) dX12_whyNot_55 rfl ?_
            have fin : mI σ → (-2) = whyS (wM σ) (gM 0 σ h.toNat) (cnt (gM 0 σ) (σ 91 0).toNat) (σ 89 (82 + s).toNat) h s := fun M => (why_2 (W := wM σ) (gh := gM 0 σ h.toNat) (n := cnt (gM 0 σ) (σ 91 0).toNat) (rs := σ 89 (82 + s).toNat) (h := h) (s := s) ⟨by omega, by omega, by omega, by omega⟩ (by omega)).symm
            exact j_iret (pc := 57) ⟨rfl, rfl⟩ dX12_whyNot_57 rfl ⟨_, rfl, ⟨by omega, by omega⟩, rfl, by omega, fin⟩
    · refine j_iconst (pc := 20) dX12_whyNot_20 ?_
      have fin : mI σ → (-1) = whyS (wM σ) (gM 0 σ h.toNat) (cnt (gM 0 σ) (σ 91 0).toNat) (σ 89 (82 + s).toNat) h s := fun M => (why_1 (W := wM σ) (gh := gM 0 σ h.toNat) (n := cnt (gM 0 σ) (σ 91 0).toNat) (rs := σ 89 (82 + s).toNat) (h := h) (s := s) (by omega)).symm
      exact j_iret (pc := 21) ⟨rfl, rfl⟩ dX12_whyNot_21 rfl ⟨_, rfl, ⟨by omega, by omega⟩, rfl, by omega, fin⟩
abbrev q_X12_put (h : Int) (s : Int) (σ : tw_M) : Option tw_V → tw_M → Prop := fun z τ => ∃ r : Int, z = some (vI r) ∧ (-2147483648 ≤ r ∧ r ≤ 2147483647) ∧ tw_I τ ∧ tw_F (fun c j => (c = 89 ∧ j < 93)) σ τ ∧ (mI τ) ∧ ((¬ whyS (wM σ) (gM 0 σ h.toNat) (cnt (gM 0 σ) (σ 91 0).toNat) (σ 89 (82 + s).toNat) h s = 0 ∧ r = whyS (wM σ) (gM 0 σ h.toNat) (cnt (gM 0 σ) (σ 91 0).toNat) (σ 89 (82 + s).toNat) h s ∧ ∀ c j, τ c j = σ c j) ∨ (whyS (wM σ) (gM 0 σ h.toNat) (cnt (gM 0 σ) (σ 91 0).toNat) (σ 89 (82 + s).toNat) h s = 0 ∧ r = cnt (gM 0 σ) h.toNat ∧ τ 89 h.toNat = s ∧ τ 89 (41 + h).toNat = 0 ∧ (σ 89 (82 + s).toNat < 0 ∨ τ 89 (82 + s).toNat = σ 89 (82 + s).toNat - 1) ∧ ∀ j : Nat, ¬ j = h.toNat → ¬ j = (41 + h).toNat → ¬ j = (82 + s).toNat → τ 89 j = σ 89 j))
set_option maxHeartbeats 4000000 in
set_option maxRecDepth 100000 in
theorem c_X12_put {G : tw_G} (hM : tw_isM G) (h : Int) (hh : -2147483648 ≤ h ∧ h ≤ 2147483647) (s : Int) (hs : -2147483648 ≤ s ∧ s ≤ 2147483647) (σ : tw_M) (hI : tw_I σ) (hq0 : mI σ) : tw_C G yX12_put cX12_put 4 (some .int) 4 [vR 88, vI h, vI s] σ (q_X12_put h s σ) := by
  refine tw_met [(0, vR 88), (1, vI h), (2, vI s)] (by decide +kernel) rfl (Nat.le_of_ble_eq_true rfl) ?_
  refine j_aload_n (pc := 0) dX12_put_0 rfl rfl ?_
  refine j_iload_n (pc := 1) dX12_put_1 rfl rfl ?_
  refine j_iload_n (pc := 2) dX12_put_2 rfl rfl ?_
  refine j_callV (pc := 3) (As := [vI h, vI s]) (st := []) (c_X12_whyNot hM h ⟨by omega, by omega⟩ s ⟨by omega, by omega⟩ σ hI) mv_X12_195 rfl rfl rfl (a_88 hM) dX12_put_3 ⟨Nat.le_of_ble_eq_true rfl, Nat.le_of_ble_eq_true rfl⟩ ⟨Nat.le_refl _, Nat.le_refl _⟩ rfl (Nat.le_of_ble_eq_true rfl) rfl (fun z1 σ2 hz1 => ?_)
  obtain ⟨r4, rfl, hr4, rfl, q3_0, q3_1⟩ := hz1
  replace q3_0 : ¬ r4 = 0 ∨ (1 ≤ h ∧ h ≤ σ 91 0 ∧ h ≤ 40 ∧ 1 ≤ s ∧ s ≤ 10 ∧ σ 89 h.toNat = 0 ∧ ¬ mc σ 0 (σ 91 0).toNat = 10) := q3_0
  replace q3_1 : mI σ → r4 = whyS (wM σ) (gM 0 σ h.toNat) (cnt (gM 0 σ) (σ 91 0).toNat) (σ 89 (82 + s).toNat) h s := q3_1
  refine j_st (st' := [vI r4]) rfl ?_
  refine j_istore_n (pc := 6) (i := 3) (ls' := [(0, vR 88), (1, vI h), (2, vI s), (3, vI r4)]) [1, 2, 3, 0] dX12_put_6 rfl (Nat.le_of_ble_eq_true rfl) rfl rfl ?_
  have wy := q3_1 hq0
  refine j_iload_n (pc := 7) dX12_put_7 rfl rfl ?_
  refine j_ifR_eq (pc := 8) (tgt := 13) ⟨by omega, by omega⟩ dX12_put_8 rfl (fun h5 => ?_) (fun h5 => ?_)
  · refine j_aload_n (pc := 13) dX12_put_13 rfl rfl ?_
    refine j_getR (pc := 14) (r := 89) fl_X12_7 dX12_put_14 (a_88 hM) rfl ?_
    refine j_iload_n (pc := 17) dX12_put_17 rfl rfl ?_
    refine j_iload_n (pc := 18) dX12_put_18 rfl rfl ?_
    refine j_iast (pc := 19) dX12_put_19 (a_89 hM) (by omega) (by omega) (by decide) (j_nm (fun σ6 (eσ6 : σ6 = tw_up σ 89 (h.toNat) s) => ?_))
    have hIσ6 : tw_I σ6 := tw_I_up hI eσ6  (st_wp (by omega) (by omega))
    have hFσ6 : tw_F (fun c j => (c = 89 ∧ j < 93)) σ σ6 := tw_F_up (tw_F_rf) eσ6 (show (89 = 89 ∧ h.toNat < 93) from by omega)
    refine j_aload_n (pc := 20) dX12_put_20 rfl rfl ?_
    refine j_getR (pc := 21) (r := 89) fl_X12_7 dX12_put_21 (a_88 hM) rfl ?_
    refine j_bipush (pc := 24) dX12_put_24 rfl ?_
    refine j_iload_n (pc := 26) dX12_put_26 rfl rfl ?_
    refine j_iadd (pc := 27) dX12_put_27 ?_
    refine j_iconst (pc := 28) dX12_put_28 ?_
    refine j_iast (pc := 29) dX12_put_29 (a_89 hM) (by omega) (by omega) (by decide) (j_nm (fun σ7 (eσ7 : σ7 = tw_up σ6 89 ((41 + h).toNat) 0) => ?_))
    have hIσ7 : tw_I σ7 := tw_I_up hIσ6 eσ7  st_w0
    have hFσ7 : tw_F (fun c j => (c = 89 ∧ j < 93)) σ σ7 := tw_F_up hFσ6 eσ7 (show (89 = 89 ∧ (41 + h).toNat < 93) from by omega)
    refine j_aload_n (pc := 30) dX12_put_30 rfl rfl ?_
    refine j_getR (pc := 31) (r := 89) fl_X12_7 dX12_put_31 (a_88 hM) rfl ?_
    refine j_bipush (pc := 34) dX12_put_34 rfl ?_
    refine j_iload_n (pc := 36) dX12_put_36 rfl rfl ?_
    refine j_iadd (pc := 37) dX12_put_37 ?_
    refine j_dup2 (pc := 38) dX12_put_38 rfl rfl ?_
    refine j_iald (pc := 39) dX12_put_39 (a_89 hM) (by omega) (by omega) (by decide) ?_
    have f8 : (-2147483648 : Int) ≤ σ7 89 ((82 + s).toNat) ∧ σ7 89 ((82 + s).toNat) ≤ 2147483647 := st_D hIσ7 _
    refine j_iconst (pc := 40) dX12_put_40 ?_
    have v3 : σ7 89 (82 + s).toNat = σ 89 (82 + s).toNat := (tw_ne1 eσ7 (by (first | decide | omega))).trans (tw_ne1 eσ6 (by (first | decide | omega)))
    refine j_isub (pc := 41) dX12_put_41 ?_
    refine j_top (fun z9 ez9 hz9 => ?_)
    have gz9 : (σ7 89 ((82 + s).toNat)) - 1 < -2147483648 ∨ 2147483647 < (σ7 89 ((82 + s).toNat)) - 1 ∨ z9 = (σ7 89 ((82 + s).toNat)) - 1 := by rw [ez9]; exact w32_or _
    refine j_iast (pc := 42) dX12_put_42 (a_89 hM) (by omega) (by omega) (by decide) (j_nm (fun σ10 (eσ10 : σ10 = tw_up σ7 89 ((82 + s).toNat) z9) => ?_))
    have hIσ10 : tw_I σ10 := tw_I_up hIσ7 eσ10  (st_wd (by omega) (by omega))
    have hFσ10 : tw_F (fun c j => (c = 89 ∧ j < 93)) σ σ10 := tw_F_up hFσ7 eσ10 (show (89 = 89 ∧ (82 + s).toNat < 93) from by omega)
    refine j_aload_n (pc := 43) dX12_put_43 rfl rfl ?_
    refine j_iload_n (pc := 44) dX12_put_44 rfl rfl ?_
    refine j_callV (pc := 45) (As := [vI h]) (st := []) (c_X12_numberAt hM h ⟨by omega, by omega⟩ σ10 hIσ10) mv_X12_181 rfl rfl rfl (a_88 hM) dX12_put_45 ⟨Nat.le_of_ble_eq_true rfl, Nat.le_of_ble_eq_true rfl⟩ ⟨Nat.le_refl _, Nat.le_refl _⟩ rfl (Nat.le_of_ble_eq_true rfl) rfl (fun z11 σ12 hz11 => ?_)
    obtain ⟨r14, rfl, hr14, rfl, q13_0⟩ := hz11
    replace q13_0 : (0 < σ10 89 h.toNat ∧ r14 = cnt (gM 0 σ10) h.toNat - 1) ∨ (σ10 89 h.toNat ≤ 0 ∧ r14 = -4) := q13_0
    refine j_st (st' := [vI r14]) rfl ?_
    have fin : (¬ whyS (wM σ) (gM 0 σ h.toNat) (cnt (gM 0 σ) (σ 91 0).toNat) (σ 89 (82 + s).toNat) h s = 0 ∧ r14 = whyS (wM σ) (gM 0 σ h.toNat) (cnt (gM 0 σ) (σ 91 0).toNat) (σ 89 (82 + s).toNat) h s ∧ ∀ c j, σ10 c j = σ c j) ∨ (whyS (wM σ) (gM 0 σ h.toNat) (cnt (gM 0 σ) (σ 91 0).toNat) (σ 89 (82 + s).toNat) h s = 0 ∧ r14 = cnt (gM 0 σ) h.toNat ∧ σ10 89 h.toNat = s ∧ σ10 89 (41 + h).toNat = 0 ∧ (σ 89 (82 + s).toNat < 0 ∨ σ10 89 (82 + s).toNat = σ 89 (82 + s).toNat - 1) ∧ ∀ j : Nat, ¬ j = h.toNat → ¬ j = (41 + h).toNat → ¬ j = (82 + s).toNat → σ10 89 j = σ 89 j) := by
      have y0 := why_ok (show whyS (wM σ) (gM 0 σ h.toNat) (cnt (gM 0 σ) (σ 91 0).toNat) (σ 89 (82 + s).toNat) h s = 0 from by omega)
      have g9 : gM 0 σ h.toNat = σ 89 h.toNat := (gM_at (b := 0) ⟨by omega, by omega⟩).trans (by rw [show (0 + h).toNat = h.toNat from by omega])
      have n9 : gM 0 σ10 h.toNat = σ10 89 h.toNat := (gM_at (b := 0) ⟨by omega, by omega⟩).trans (by rw [show (0 + h).toNat = h.toNat from by omega])
      have m1 : σ10 89 h.toNat = s := (tw_ne1 eσ10 (by (first | decide | omega))).trans ((tw_ne1 eσ7 (by (first | decide | omega))).trans (tw_eq1 eσ6))
      have c1 := cnt_si (g := gM 0 σ10) (f := h) (by omega)
      have c2 := cnt_si (g := gM 0 σ) (f := h) (by omega)
      have c3 : cnt (gM 0 σ10) (h - 1).toNat = cnt (gM 0 σ) (h - 1).toNat := cnt_congr (fun f f1 f2 => by
        unfold gM
        rw [if_pos ⟨f1, by omega⟩, if_pos ⟨f1, by omega⟩]
        exact (tw_ne1 eσ10 (by (first | decide | omega))).trans ((tw_ne1 eσ7 (by (first | decide | omega))).trans (tw_ne1 eσ6 (by (first | decide | omega)))))
      have m3 : σ10 89 (82 + s).toNat = z9 := tw_eq1 eσ10
      exact Or.inr ⟨by omega, by omega, m1, (tw_ne1 eσ10 (by (first | decide | omega))).trans (tw_eq1 eσ7), by omega, fun j j1 j2 j3 => (tw_ne1 eσ10 (by (first | decide | omega))).trans ((tw_ne1 eσ7 (by (first | decide | omega))).trans (tw_ne1 eσ6 (by (first | decide | omega))))⟩
    have y15 : σ10 89 ((82 + s).toNat) = z9 := (tw_eq1 eσ10)
    exact j_iret (pc := 48) ⟨rfl, rfl⟩ dX12_put_48 rfl ⟨_, rfl, ⟨by omega, by omega⟩, hIσ10, hFσ10, (by first | exact hq0 | exact mI_put hI hq0 (by omega) (by omega) (by omega) (by omega) eσ6 eσ7 eσ10), fin⟩
  · refine j_iload_n (pc := 11) dX12_put_11 rfl rfl ?_
    have fin : (¬ whyS (wM σ) (gM 0 σ h.toNat) (cnt (gM 0 σ) (σ 91 0).toNat) (σ 89 (82 + s).toNat) h s = 0 ∧ r4 = whyS (wM σ) (gM 0 σ h.toNat) (cnt (gM 0 σ) (σ 91 0).toNat) (σ 89 (82 + s).toNat) h s ∧ ∀ c j, σ c j = σ c j) ∨ (whyS (wM σ) (gM 0 σ h.toNat) (cnt (gM 0 σ) (σ 91 0).toNat) (σ 89 (82 + s).toNat) h s = 0 ∧ r4 = cnt (gM 0 σ) h.toNat ∧ σ 89 h.toNat = s ∧ σ 89 (41 + h).toNat = 0 ∧ (σ 89 (82 + s).toNat < 0 ∨ σ 89 (82 + s).toNat = σ 89 (82 + s).toNat - 1) ∧ ∀ j : Nat, ¬ j = h.toNat → ¬ j = (41 + h).toNat → ¬ j = (82 + s).toNat → σ 89 j = σ 89 j) := Or.inl ⟨by omega, wy, fun c j => rfl⟩
    exact j_iret (pc := 12) ⟨rfl, rfl⟩ dX12_put_12 rfl ⟨_, rfl, ⟨by omega, by omega⟩, hI, (tw_F_rf), (by first | exact hq0 | exact mI_put hI hq0 (by omega) (by omega) (by omega) (by omega) _ _ _), fin⟩
abbrev q_X12_take (h : Int) (σ : tw_M) : Option tw_V → tw_M → Prop := fun z τ => ∃ r : Int, z = some (vI r) ∧ (-2147483648 ≤ r ∧ r ≤ 2147483647) ∧ tw_I τ ∧ tw_F (fun c j => (c = 89 ∧ j < 93)) σ τ ∧ (mI τ) ∧ ((r = -1 ∧ ¬ (1 ≤ h ∧ h ≤ σ 91 0) ∧ ∀ c j, τ c j = σ c j) ∨ (r = -4 ∧ (1 ≤ h ∧ h ≤ σ 91 0) ∧ σ 89 h.toNat = 0 ∧ ∀ c j, τ c j = σ c j) ∨ ((1 ≤ h ∧ h ≤ σ 91 0) ∧ 0 < σ 89 h.toNat ∧ r = σ 89 h.toNat ∧ r ≤ 10 ∧ τ 89 h.toNat = 0 ∧ τ 89 (41 + h).toNat = 0 ∧ (1000 < σ 89 (82 + r).toNat ∨ σ 89 (82 + r).toNat < 0 ∨ τ 89 (82 + r).toNat = σ 89 (82 + r).toNat + 1) ∧ ∀ j : Nat, ¬ j = h.toNat → ¬ j = (41 + h).toNat → ¬ j = (82 + r).toNat → τ 89 j = σ 89 j))
set_option maxHeartbeats 4000000 in
set_option maxRecDepth 100000 in
theorem c_X12_take {G : tw_G} (hM : tw_isM G) (h : Int) (hh : -2147483648 ≤ h ∧ h ≤ 2147483647) (σ : tw_M) (hI : tw_I σ) (hq0 : mI σ) : tw_C G yX12_take cX12_take 3 (some .int) 2 [vR 88, vI h] σ (q_X12_take h σ) := by
  refine tw_met [(0, vR 88), (1, vI h)] (by decide +kernel) rfl (Nat.le_of_ble_eq_true rfl) ?_
  refine j_aload_n (pc := 0) dX12_take_0 rfl rfl ?_
  refine j_iload_n (pc := 1) dX12_take_1 rfl rfl ?_
  refine j_callV (pc := 2) (As := [vI h]) (st := []) (c_X12_isAt hM h ⟨by omega, by omega⟩ σ hI) mv_X12_175 rfl rfl rfl (a_88 hM) dX12_take_2 ⟨Nat.le_of_ble_eq_true rfl, Nat.le_of_ble_eq_true rfl⟩ ⟨Nat.le_refl _, Nat.le_refl _⟩ rfl (Nat.le_of_ble_eq_true rfl) rfl (fun z1 σ2 hz1 => ?_)
  obtain ⟨r4, rfl, hr4, rfl, q3_0⟩ := hz1
  replace q3_0 : (r4 = 1 ∧ 1 ≤ h ∧ h ≤ σ 91 0 ∧ h ≤ 40) ∨ (r4 = 0 ∧ ¬ (1 ≤ h ∧ h ≤ σ 91 0)) := q3_0
  refine j_st (st' := [vI r4]) rfl ?_
  refine j_ifR_ne (pc := 5) (tgt := 10) ⟨by omega, by omega⟩ dX12_take_5 rfl (fun h5 => ?_) (fun h5 => ?_)
  · refine j_aload_n (pc := 10) dX12_take_10 rfl rfl ?_
    refine j_getR (pc := 11) (r := 89) fl_X12_7 dX12_take_11 (a_88 hM) rfl ?_
    refine j_iload_n (pc := 14) dX12_take_14 rfl rfl ?_
    refine j_iald (pc := 15) dX12_take_15 (a_89 hM) (by omega) (by omega) (by decide) ?_
    have f6 : (-2147483648 : Int) ≤ σ 89 (h.toNat) ∧ σ 89 (h.toNat) ≤ 2147483647 := st_D hI _
    have g7 : (0 : Int) ≤ σ 89 (h.toNat) ∧ σ 89 (h.toNat) ≤ 10 := st_p hI (by omega)
    refine j_ifR_ne (pc := 16) (tgt := 22) ⟨by omega, by omega⟩ dX12_take_16 rfl (fun h8 => ?_) (fun h8 => ?_)
    · refine j_aload_n (pc := 22) dX12_take_22 rfl rfl ?_
      refine j_getR (pc := 23) (r := 89) fl_X12_7 dX12_take_23 (a_88 hM) rfl ?_
      refine j_iload_n (pc := 26) dX12_take_26 rfl rfl ?_
      refine j_iald (pc := 27) dX12_take_27 (a_89 hM) (by omega) (by omega) (by decide) ?_
      have g9 : (0 : Int) ≤ σ 89 (h.toNat) ∧ σ 89 (h.toNat) ≤ 10 := st_p hI (by omega)
      refine j_istore_n (pc := 28) (i := 2) (ls' := [(0, vR 88), (1, vI h), (2, vI (σ 89 (h.toNat)))]) [1, 2, 0] dX12_take_28 rfl (Nat.le_of_ble_eq_true rfl) rfl rfl ?_
      refine j_aload_n (pc := 29) dX12_take_29 rfl rfl ?_
      refine j_getR (pc := 30) (r := 89) fl_X12_7 dX12_take_30 (a_88 hM) rfl ?_
      refine j_bipush (pc := 33) dX12_take_33 rfl ?_
      refine j_iload_n (pc := 35) dX12_take_35 rfl rfl ?_
      refine j_iadd (pc := 36) dX12_take_36 ?_
      refine j_dup2 (pc := 37) dX12_take_37 rfl rfl ?_
      refine j_iald (pc := 38) dX12_take_38 (a_89 hM) (by omega) (by omega) (by decide) ?_
      have f10 : (-2147483648 : Int) ≤ σ 89 ((82 + (σ 89 (h.toNat))).toNat) ∧ σ 89 ((82 + (σ 89 (h.toNat))).toNat) ≤ 2147483647 := st_D hI _
      refine j_iconst (pc := 39) dX12_take_39 ?_
      refine j_iadd (pc := 40) dX12_take_40 ?_
      refine j_top (fun z11 ez11 hz11 => ?_)
      have gz11 : (σ 89 ((82 + (σ 89 (h.toNat))).toNat)) + 1 < -2147483648 ∨ 2147483647 < (σ 89 ((82 + (σ 89 (h.toNat))).toNat)) + 1 ∨ z11 = (σ 89 ((82 + (σ 89 (h.toNat))).toNat)) + 1 := by rw [ez11]; exact w32_or _
      refine j_iast (pc := 41) dX12_take_41 (a_89 hM) (by omega) (by omega) (by decide) (j_nm (fun σ12 (eσ12 : σ12 = tw_up σ 89 ((82 + (σ 89 (h.toNat))).toNat) z11) => ?_))
      have hIσ12 : tw_I σ12 := tw_I_up hI eσ12  (st_wd (by omega) (by omega))
      have hFσ12 : tw_F (fun c j => (c = 89 ∧ j < 93)) σ σ12 := tw_F_up (tw_F_rf) eσ12 (show (89 = 89 ∧ (82 + (σ 89 (h.toNat))).toNat < 93) from by omega)
      refine j_aload_n (pc := 42) dX12_take_42 rfl rfl ?_
      refine j_getR (pc := 43) (r := 89) fl_X12_7 dX12_take_43 (a_88 hM) rfl ?_
      refine j_iload_n (pc := 46) dX12_take_46 rfl rfl ?_
      refine j_iconst (pc := 47) dX12_take_47 ?_
      refine j_iast (pc := 48) dX12_take_48 (a_89 hM) (by omega) (by omega) (by decide) (j_nm (fun σ13 (eσ13 : σ13 = tw_up σ12 89 (h.toNat) 0) => ?_))
      have hIσ13 : tw_I σ13 := tw_I_up hIσ12 eσ13  st_w0
      have hFσ13 : tw_F (fun c j => (c = 89 ∧ j < 93)) σ σ13 := tw_F_up hFσ12 eσ13 (show (89 = 89 ∧ h.toNat < 93) from by omega)
      refine j_aload_n (pc := 49) dX12_take_49 rfl rfl ?_
      refine j_getR (pc := 50) (r := 89) fl_X12_7 dX12_take_50 (a_88 hM) rfl ?_
      refine j_bipush (pc := 53) dX12_take_53 rfl ?_
      refine j_iload_n (pc := 55) dX12_take_55 rfl rfl ?_
      refine j_iadd (pc := 56) dX12_take_56 ?_
      refine j_iconst (pc := 57) dX12_take_57 ?_
      refine j_iast (pc := 58) dX12_take_58 (a_89 hM) (by omega) (by omega) (by decide) (j_nm (fun σ14 (eσ14 : σ14 = tw_up σ13 89 ((41 + h).toNat) 0) => ?_))
      have hIσ14 : tw_I σ14 := tw_I_up hIσ13 eσ14  st_w0
      have hFσ14 : tw_F (fun c j => (c = 89 ∧ j < 93)) σ σ14 := tw_F_up hFσ13 eσ14 (show (89 = 89 ∧ (41 + h).toNat < 93) from by omega)
      refine j_iload_n (pc := 59) dX12_take_59 rfl rfl ?_
      have fin : ((σ 89 (h.toNat)) = -1 ∧ ¬ (1 ≤ h ∧ h ≤ σ 91 0) ∧ ∀ c j, σ14 c j = σ c j) ∨ ((σ 89 (h.toNat)) = -4 ∧ (1 ≤ h ∧ h ≤ σ 91 0) ∧ σ 89 h.toNat = 0 ∧ ∀ c j, σ14 c j = σ c j) ∨ ((1 ≤ h ∧ h ≤ σ 91 0) ∧ 0 < σ 89 h.toNat ∧ (σ 89 (h.toNat)) = σ 89 h.toNat ∧ (σ 89 (h.toNat)) ≤ 10 ∧ σ14 89 h.toNat = 0 ∧ σ14 89 (41 + h).toNat = 0 ∧ (1000 < σ 89 (82 + (σ 89 (h.toNat))).toNat ∨ σ 89 (82 + (σ 89 (h.toNat))).toNat < 0 ∨ σ14 89 (82 + (σ 89 (h.toNat))).toNat = σ 89 (82 + (σ 89 (h.toNat))).toNat + 1) ∧ ∀ j : Nat, ¬ j = h.toNat → ¬ j = (41 + h).toNat → ¬ j = (82 + (σ 89 (h.toNat))).toNat → σ14 89 j = σ 89 j) := by
        have m3 : σ14 89 (82 + σ 89 h.toNat).toNat = z11 := (tw_ne1 eσ14 (by (first | decide | omega))).trans ((tw_ne1 eσ13 (by (first | decide | omega))).trans (tw_eq1 eσ12))
        exact Or.inr (Or.inr ⟨by omega, by omega, rfl, by omega, (tw_ne1 eσ14 (by (first | decide | omega))).trans (tw_eq1 eσ13), tw_eq1 eσ14, by omega, fun j j1 j2 j3 => (tw_ne1 eσ14 (by (first | decide | omega))).trans ((tw_ne1 eσ13 (by (first | decide | omega))).trans (tw_ne1 eσ12 (by (first | decide | omega))))⟩)
      have y15 : σ14 89 ((41 + h).toNat) = 0 := (tw_eq1 eσ14)
      exact j_iret (pc := 60) ⟨rfl, rfl⟩ dX12_take_60 rfl ⟨_, rfl, ⟨by omega, by omega⟩, hIσ14, hFσ14, (by first | exact hq0 | exact mI_take hI hq0 (by omega) (by omega) eσ12 eσ13 eσ14), fin⟩
    · refine j_bipush (pc := 19) dX12_take_19 rfl ?_
      have fin : ((-4) = -1 ∧ ¬ (1 ≤ h ∧ h ≤ σ 91 0) ∧ ∀ c j, σ c j = σ c j) ∨ ((-4) = -4 ∧ (1 ≤ h ∧ h ≤ σ 91 0) ∧ σ 89 h.toNat = 0 ∧ ∀ c j, σ c j = σ c j) ∨ ((1 ≤ h ∧ h ≤ σ 91 0) ∧ 0 < σ 89 h.toNat ∧ (-4) = σ 89 h.toNat ∧ (-4) ≤ 10 ∧ σ 89 h.toNat = 0 ∧ σ 89 (41 + h).toNat = 0 ∧ (1000 < σ 89 (82 + (-4)).toNat ∨ σ 89 (82 + (-4)).toNat < 0 ∨ σ 89 (82 + (-4)).toNat = σ 89 (82 + (-4)).toNat + 1) ∧ ∀ j : Nat, ¬ j = h.toNat → ¬ j = (41 + h).toNat → ¬ j = (82 + (-4)).toNat → σ 89 j = σ 89 j) := Or.inr (Or.inl ⟨rfl, by omega, by omega, fun c j => rfl⟩)
      exact j_iret (pc := 21) ⟨rfl, rfl⟩ dX12_take_21 rfl ⟨_, rfl, ⟨by omega, by omega⟩, hI, (tw_F_rf), (by first | exact hq0 | exact mI_take hI hq0 (by omega) (by omega) _ _ _), fin⟩
  · refine j_iconst (pc := 8) dX12_take_8 ?_
    have fin : ((-1) = -1 ∧ ¬ (1 ≤ h ∧ h ≤ σ 91 0) ∧ ∀ c j, σ c j = σ c j) ∨ ((-1) = -4 ∧ (1 ≤ h ∧ h ≤ σ 91 0) ∧ σ 89 h.toNat = 0 ∧ ∀ c j, σ c j = σ c j) ∨ ((1 ≤ h ∧ h ≤ σ 91 0) ∧ 0 < σ 89 h.toNat ∧ (-1) = σ 89 h.toNat ∧ (-1) ≤ 10 ∧ σ 89 h.toNat = 0 ∧ σ 89 (41 + h).toNat = 0 ∧ (1000 < σ 89 (82 + (-1)).toNat ∨ σ 89 (82 + (-1)).toNat < 0 ∨ σ 89 (82 + (-1)).toNat = σ 89 (82 + (-1)).toNat + 1) ∧ ∀ j : Nat, ¬ j = h.toNat → ¬ j = (41 + h).toNat → ¬ j = (82 + (-1)).toNat → σ 89 j = σ 89 j) := Or.inl ⟨rfl, by omega, fun c j => rfl⟩
    exact j_iret (pc := 9) ⟨rfl, rfl⟩ dX12_take_9 rfl ⟨_, rfl, ⟨by omega, by omega⟩, hI, (tw_F_rf), (by first | exact hq0 | exact mI_take hI hq0 (by omega) (by omega) _ _ _), fin⟩
abbrev q_X12_sling (h : Int) (e : Int) (σ : tw_M) : Option tw_V → tw_M → Prop := fun z τ => ∃ r : Int, z = some (vI r) ∧ (-2147483648 ≤ r ∧ r ≤ 2147483647) ∧ tw_I τ ∧ tw_F (fun c j => (c = 89 ∧ j < 93)) σ τ ∧ (mI τ) ∧ ((r = -1 ∧ ¬ (1 ≤ h ∧ h ≤ σ 91 0) ∧ ∀ c j, τ c j = σ c j) ∨ (r = -4 ∧ (1 ≤ h ∧ h ≤ σ 91 0) ∧ σ 89 h.toNat = 0 ∧ ∀ c j, τ c j = σ c j) ∨ ((1 ≤ h ∧ h ≤ σ 91 0) ∧ ¬ σ 89 h.toNat = 0 ∧ r = σ 89 (41 + h).toNat ∧ τ 89 (41 + h).toNat = e ∧ ∀ j : Nat, ¬ j = (41 + h).toNat → τ 89 j = σ 89 j))
set_option maxHeartbeats 4000000 in
set_option maxRecDepth 100000 in
theorem c_X12_sling {G : tw_G} (hM : tw_isM G) (h : Int) (hh : -2147483648 ≤ h ∧ h ≤ 2147483647) (e : Int) (he : 0 ≤ e ∧ e ≤ 1) (σ : tw_M) (hI : tw_I σ) (hq0 : mI σ) : tw_C G yX12_sling cX12_sling 4 (some .int) 2 [vR 88, vI h, vI e] σ (q_X12_sling h e σ) := by
  refine tw_met [(0, vR 88), (1, vI h), (2, vI e)] (by decide +kernel) rfl (Nat.le_of_ble_eq_true rfl) ?_
  refine j_aload_n (pc := 0) dX12_sling_0 rfl rfl ?_
  refine j_iload_n (pc := 1) dX12_sling_1 rfl rfl ?_
  refine j_callV (pc := 2) (As := [vI h]) (st := []) (c_X12_isAt hM h ⟨by omega, by omega⟩ σ hI) mv_X12_175 rfl rfl rfl (a_88 hM) dX12_sling_2 ⟨Nat.le_of_ble_eq_true rfl, Nat.le_of_ble_eq_true rfl⟩ ⟨Nat.le_refl _, Nat.le_refl _⟩ rfl (Nat.le_of_ble_eq_true rfl) rfl (fun z1 σ2 hz1 => ?_)
  obtain ⟨r4, rfl, hr4, rfl, q3_0⟩ := hz1
  replace q3_0 : (r4 = 1 ∧ 1 ≤ h ∧ h ≤ σ 91 0 ∧ h ≤ 40) ∨ (r4 = 0 ∧ ¬ (1 ≤ h ∧ h ≤ σ 91 0)) := q3_0
  refine j_st (st' := [vI r4]) rfl ?_
  refine j_ifR_ne (pc := 5) (tgt := 10) ⟨by omega, by omega⟩ dX12_sling_5 rfl (fun h5 => ?_) (fun h5 => ?_)
  · refine j_aload_n (pc := 10) dX12_sling_10 rfl rfl ?_
    refine j_getR (pc := 11) (r := 89) fl_X12_7 dX12_sling_11 (a_88 hM) rfl ?_
    refine j_iload_n (pc := 14) dX12_sling_14 rfl rfl ?_
    refine j_iald (pc := 15) dX12_sling_15 (a_89 hM) (by omega) (by omega) (by decide) ?_
    have f6 : (-2147483648 : Int) ≤ σ 89 (h.toNat) ∧ σ 89 (h.toNat) ≤ 2147483647 := st_D hI _
    refine j_ifR_ne (pc := 16) (tgt := 22) ⟨by omega, by omega⟩ dX12_sling_16 rfl (fun h7 => ?_) (fun h7 => ?_)
    · refine j_aload_n (pc := 22) dX12_sling_22 rfl rfl ?_
      refine j_getR (pc := 23) (r := 89) fl_X12_7 dX12_sling_23 (a_88 hM) rfl ?_
      refine j_bipush (pc := 26) dX12_sling_26 rfl ?_
      refine j_iload_n (pc := 28) dX12_sling_28 rfl rfl ?_
      refine j_iadd (pc := 29) dX12_sling_29 ?_
      refine j_iald (pc := 30) dX12_sling_30 (a_89 hM) (by omega) (by omega) (by decide) ?_
      have f8 : (-2147483648 : Int) ≤ σ 89 ((41 + h).toNat) ∧ σ 89 ((41 + h).toNat) ≤ 2147483647 := st_D hI _
      refine j_istore_n (pc := 31) (i := 3) (ls' := [(0, vR 88), (1, vI h), (2, vI e), (3, vI (σ 89 ((41 + h).toNat)))]) [1, 2, 3, 0] dX12_sling_31 rfl (Nat.le_of_ble_eq_true rfl) rfl rfl ?_
      refine j_aload_n (pc := 32) dX12_sling_32 rfl rfl ?_
      refine j_getR (pc := 33) (r := 89) fl_X12_7 dX12_sling_33 (a_88 hM) rfl ?_
      refine j_bipush (pc := 36) dX12_sling_36 rfl ?_
      refine j_iload_n (pc := 38) dX12_sling_38 rfl rfl ?_
      refine j_iadd (pc := 39) dX12_sling_39 ?_
      refine j_iload_n (pc := 40) dX12_sling_40 rfl rfl ?_
      refine j_callS (pc := 41) (As := [vI e]) (st := [vI (41 + h), vR 89]) (c_X12_flag e ⟨by omega, by omega⟩ σ hI) ms_X12_168 rfl dX12_sling_41 ⟨Nat.le_of_ble_eq_true rfl, Nat.le_of_ble_eq_true rfl⟩ ⟨Nat.le_refl _, Nat.le_refl _⟩ rfl (Nat.le_of_ble_eq_true rfl) rfl (fun z9 σ10 hz9 => ?_)
      obtain ⟨r12, rfl, hr12, rfl, q11_0⟩ := hz9
      replace q11_0 : r12 = e := q11_0
      refine j_st (st' := [vI r12, vI (41 + h), vR 89]) rfl ?_
      refine j_iast (pc := 44) dX12_sling_44 (a_89 hM) (by omega) (by omega) (by decide) (j_nm (fun σ13 (eσ13 : σ13 = tw_up σ 89 ((41 + h).toNat) r12) => ?_))
      have hIσ13 : tw_I σ13 := tw_I_up hI eσ13  (st_wd (by omega) (by omega))
      have hFσ13 : tw_F (fun c j => (c = 89 ∧ j < 93)) σ σ13 := tw_F_up (tw_F_rf) eσ13 (show (89 = 89 ∧ (41 + h).toNat < 93) from by omega)
      refine j_iload_n (pc := 45) dX12_sling_45 rfl rfl ?_
      have fin : ((σ 89 ((41 + h).toNat)) = -1 ∧ ¬ (1 ≤ h ∧ h ≤ σ 91 0) ∧ ∀ c j, σ13 c j = σ c j) ∨ ((σ 89 ((41 + h).toNat)) = -4 ∧ (1 ≤ h ∧ h ≤ σ 91 0) ∧ σ 89 h.toNat = 0 ∧ ∀ c j, σ13 c j = σ c j) ∨ ((1 ≤ h ∧ h ≤ σ 91 0) ∧ ¬ σ 89 h.toNat = 0 ∧ (σ 89 ((41 + h).toNat)) = σ 89 (41 + h).toNat ∧ σ13 89 (41 + h).toNat = e ∧ ∀ j : Nat, ¬ j = (41 + h).toNat → σ13 89 j = σ 89 j) := by
        have m3 : σ13 89 (41 + h).toNat = r12 := tw_eq1 eσ13
        exact Or.inr (Or.inr ⟨by omega, by omega, rfl, by omega, fun j j1 => tw_ne1 eσ13 (Or.inr j1)⟩)
      have y14 : σ13 89 ((41 + h).toNat) = r12 := (tw_eq1 eσ13)
      exact j_iret (pc := 46) ⟨rfl, rfl⟩ dX12_sling_46 rfl ⟨_, rfl, ⟨by omega, by omega⟩, hIσ13, hFσ13, (by first | exact hq0 | exact mI_one hI hq0 (by omega) eσ13), fin⟩
    · refine j_bipush (pc := 19) dX12_sling_19 rfl ?_
      have fin : ((-4) = -1 ∧ ¬ (1 ≤ h ∧ h ≤ σ 91 0) ∧ ∀ c j, σ c j = σ c j) ∨ ((-4) = -4 ∧ (1 ≤ h ∧ h ≤ σ 91 0) ∧ σ 89 h.toNat = 0 ∧ ∀ c j, σ c j = σ c j) ∨ ((1 ≤ h ∧ h ≤ σ 91 0) ∧ ¬ σ 89 h.toNat = 0 ∧ (-4) = σ 89 (41 + h).toNat ∧ σ 89 (41 + h).toNat = e ∧ ∀ j : Nat, ¬ j = (41 + h).toNat → σ 89 j = σ 89 j) := Or.inr (Or.inl ⟨rfl, by omega, by omega, fun c j => rfl⟩)
      exact j_iret (pc := 21) ⟨rfl, rfl⟩ dX12_sling_21 rfl ⟨_, rfl, ⟨by omega, by omega⟩, hI, (tw_F_rf), (by first | exact hq0 | exact mI_one hI hq0 (by omega) _), fin⟩
  · refine j_iconst (pc := 8) dX12_sling_8 ?_
    have fin : ((-1) = -1 ∧ ¬ (1 ≤ h ∧ h ≤ σ 91 0) ∧ ∀ c j, σ c j = σ c j) ∨ ((-1) = -4 ∧ (1 ≤ h ∧ h ≤ σ 91 0) ∧ σ 89 h.toNat = 0 ∧ ∀ c j, σ c j = σ c j) ∨ ((1 ≤ h ∧ h ≤ σ 91 0) ∧ ¬ σ 89 h.toNat = 0 ∧ (-1) = σ 89 (41 + h).toNat ∧ σ 89 (41 + h).toNat = e ∧ ∀ j : Nat, ¬ j = (41 + h).toNat → σ 89 j = σ 89 j) := Or.inl ⟨rfl, by omega, fun c j => rfl⟩
    exact j_iret (pc := 9) ⟨rfl, rfl⟩ dX12_sling_9 rfl ⟨_, rfl, ⟨by omega, by omega⟩, hI, (tw_F_rf), (by first | exact hq0 | exact mI_one hI hq0 (by omega) _), fin⟩
abbrev q_X12_strip  (σ : tw_M) : Option tw_V → tw_M → Prop := fun z τ => ∃ r : Int, z = some (vI r) ∧ (-2147483648 ≤ r ∧ r ≤ 2147483647) ∧ tw_I τ ∧ tw_F (fun c j => (c = 89 ∧ j < 93)) σ τ ∧ (mI τ) ∧ (∀ rk : Nat → Int, MOB rk 0 σ → r = cnt (gM 0 σ) (σ 91 0).toNat ∧ MOB rk 0 τ ∧ ∀ f : Int, 1 ≤ f → f ≤ τ 91 0 → τ 89 f.toNat = 0)
set_option maxHeartbeats 4000000 in
set_option maxRecDepth 100000 in
theorem l_X12_strip {G : tw_G} (hM : tw_isM G) (σ : tw_M) (hI : tw_I σ) (hq0 : mI σ) : ∀ N_ : Nat, (∀ (m : Int) (hm : 0 ≤ m ∧ m ≤ 40) (h : Int) (hh : 1 ≤ h ∧ h ≤ 41) (τ : tw_M) (hIτ : tw_I τ) (hFτ : tw_F (fun c j => (c = 89 ∧ j < 93)) σ τ) (i0 : mI τ) (i1 : ∀ rk : Nat → Int, MOB rk 0 σ → MOB rk 0 τ ∧ ∀ f : Int, 1 ≤ f → f < h → τ 89 f.toNat = 0) (i2 : m = cnt (gM 0 σ) (σ 91 0).toNat) (hm : (41 - h).toNat < N_), tw_J G (tw_mt RX12 cX12_strip 3 (some .int) 3) (tw_E G (q_X12_strip σ)) 8 [(0, vR 88), (1, vI m), (2, vI h)] [] τ) := by
  intro N_
  induction N_ with
  | zero => exact fun m hm h hh τ hIτ hFτ i0 i1 i2 hm => absurd hm (Nat.not_lt_zero _)
  | succ N_ ih =>
    intro m hm h hh τ hIτ hFτ i0 i1 i2 hm
    have ft : (1 : Int) ≤ σ 91 0 ∧ σ 91 0 ≤ 40 := hI 91 0
    have n0 : τ 91 0 = σ 91 0 := hFτ 91 0 (show ¬ ((91 = 89 ∧ 0 < 93)) from by decide)
    refine j_iload_n (pc := 8) dX12_strip_8 rfl rfl ?_
    refine j_aload_n (pc := 9) dX12_strip_9 rfl rfl ?_
    refine j_getR (pc := 10) (r := 91) fl_X12_17 dX12_strip_10 (a_88 hM) rfl ?_
    refine j_iconst (pc := 13) dX12_strip_13 ?_
    refine j_iald (pc := 14) dX12_strip_14 (a_91 hM) (by omega) (by omega) (by decide) ?_
    refine j_topV (show τ 91 (Int.toNat 0) = τ 91 0 from rfl) ?_
    have f1 : (1 : Int) ≤ τ 91 0 ∧ τ 91 0 ≤ 40 := hIτ 91 0
    refine j_icmpR_gt (pc := 15) (tgt := 39) ⟨by omega, by omega⟩ ⟨by omega, by omega⟩ dX12_strip_15 rfl (fun h2 => ?_) (fun h2 => ?_)
    · refine j_iload_n (pc := 39) dX12_strip_39 rfl rfl ?_
      exact j_iret (pc := 40) ⟨rfl, rfl⟩ dX12_strip_40 rfl ⟨_, rfl, ⟨by omega, by omega⟩, hIτ, hFτ, i0, (fun rk M => ⟨by omega, (i1 rk M).1, fun f f1 f2 => (i1 rk M).2 f f1 (by omega)⟩)⟩
    · refine j_aload_n (pc := 18) dX12_strip_18 rfl rfl ?_
      refine j_getR (pc := 19) (r := 89) fl_X12_7 dX12_strip_19 (a_88 hM) rfl ?_
      refine j_iload_n (pc := 22) dX12_strip_22 rfl rfl ?_
      refine j_iald (pc := 23) dX12_strip_23 (a_89 hM) (by omega) (by omega) (by decide) ?_
      have f3 : (-2147483648 : Int) ≤ τ 89 (h.toNat) ∧ τ 89 (h.toNat) ≤ 2147483647 := st_D hIτ _
      have g4 : (0 : Int) ≤ τ 89 (h.toNat) ∧ τ 89 (h.toNat) ≤ 10 := st_p hIτ (by omega)
      refine j_ifR_le (pc := 24) (tgt := 33) ⟨by omega, by omega⟩ dX12_strip_24 rfl (fun h5 => ?_) (fun h5 => ?_)
      · refine j_iinc (pc := 33) (i := 2) (n := 1) (ls' := [(0, vR 88), (1, vI m), (2, vI (h + 1))]) [1, 2, 0] dX12_strip_33 rfl (Nat.le_of_ble_eq_true rfl) rfl rfl ?_
        refine j_goto (pc := 36) (tgt := 8) dX12_strip_36 rfl ?_
        refine j_ls (ls' := [(0, vR 88), (1, vI m), (2, vI (h + 1))]) [0, 1, 2] rfl ?_
        exact ih m ⟨by omega, by omega⟩ (h + 1) ⟨by omega, by omega⟩ τ hIτ hFτ (show mI τ from (by first | exact __0 | exact i0)) (show ∀ rk : Nat → Int, MOB rk 0 σ → MOB rk 0 τ ∧ ∀ f : Int, 1 ≤ f → f < (h + 1) → τ 89 f.toNat = 0 from (fun rk M => by
                                                              have H := i1 rk M
                                                              first
                                                              | exact ⟨H.1, fun f f1 f2 => by rcases (show f < h ∨ f = h by omega) with z | z; (exact H.2 f f1 z); (rw [z]; omega)⟩
                                                              | (rcases __1 with ⟨z1, z2, z3⟩ | ⟨z1, z2, z3, z4⟩ | ⟨z1, z2, z3, z4, z5, z6, z7, z8⟩; (exfalso; omega); (exfalso; omega); (exact ⟨MOB_take (s := τ 89 h.toNat) H.1 ⟨by omega, by omega⟩ ⟨by omega, by omega⟩ rfl z5 z6 (by (have C := H.1.1 _ (show (1 : Int) ≤ τ 89 h.toNat from by omega) (by omega)); (have C2 : τ 89 (0 + 82 + τ 89 h.toNat).toNat + csz (gM 0 τ) (τ 89 h.toNat) 40 = rk (τ 89 h.toNat).toNat ∧ 0 ≤ τ 89 (0 + 82 + τ 89 h.toNat).toNat ∧ rk (τ 89 h.toNat).toNat ≤ 5 := C); (have n0 := csz_nn (g := gM 0 τ) (s := τ 89 h.toNat) 40); rw [show (0 + 82 + τ 89 h.toNat).toNat = (82 + τ 89 h.toNat).toNat from by omega] at C2; rw [z3] at z7; omega) (by rw [z3] at z8; exact z8) (hG_ 91 0 _), fun f f1 f2 => by rcases (show f < h ∨ f = h by omega) with z | z; (rw [z8 _ (by omega) (by omega) (by omega)]; exact H.2 f f1 z); (rw [z]; exact z5)⟩)))) (show m = cnt (gM 0 σ) (σ 91 0).toNat from by omega) (show (41 - (h + 1)).toNat < N_ from by omega)
      · refine j_aload_n (pc := 27) dX12_strip_27 rfl rfl ?_
        refine j_iload_n (pc := 28) dX12_strip_28 rfl rfl ?_
        refine j_callV (pc := 29) (As := [vI h]) (st := []) (c_X12_take hM h ⟨by omega, by omega⟩ τ hIτ i0) mv_X12_217 rfl rfl rfl (a_88 hM) dX12_strip_29 ⟨Nat.le_of_ble_eq_true rfl, Nat.le_of_ble_eq_true rfl⟩ ⟨Nat.le_refl _, Nat.le_refl _⟩ rfl (Nat.le_of_ble_eq_true rfl) rfl (fun z6 σ7 hz6 => ?_)
        obtain ⟨r9, rfl, hr9, hIσ7, hGσ7, q8_0, q8_1⟩ := hz6
        replace q8_0 : mI σ7 := q8_0
        replace q8_1 : (r9 = -1 ∧ ¬ (1 ≤ h ∧ h ≤ τ 91 0) ∧ ∀ c j, σ7 c j = τ c j) ∨ (r9 = -4 ∧ (1 ≤ h ∧ h ≤ τ 91 0) ∧ τ 89 h.toNat = 0 ∧ ∀ c j, σ7 c j = τ c j) ∨ ((1 ≤ h ∧ h ≤ τ 91 0) ∧ 0 < τ 89 h.toNat ∧ r9 = τ 89 h.toNat ∧ r9 ≤ 10 ∧ σ7 89 h.toNat = 0 ∧ σ7 89 (41 + h).toNat = 0 ∧ (1000 < τ 89 (82 + r9).toNat ∨ τ 89 (82 + r9).toNat < 0 ∨ σ7 89 (82 + r9).toNat = τ 89 (82 + r9).toNat + 1) ∧ ∀ j : Nat, ¬ j = h.toNat → ¬ j = (41 + h).toNat → ¬ j = (82 + r9).toNat → σ7 89 j = τ 89 j) := q8_1
        have hFσ7 : tw_F (fun c j => (c = 89 ∧ j < 93)) σ σ7 := tw_F_tr hFτ hGσ7 (fun c j q => (show (c = 89 ∧ j < 93) from by replace q : (c = 89 ∧ j < 93) := q; exact q))
        refine j_st (st' := [vI r9]) rfl ?_
        refine j_pop (pc := 32) dX12_strip_32 rfl ?_
        refine j_iinc (pc := 33) (i := 2) (n := 1) (ls' := [(0, vR 88), (1, vI m), (2, vI (h + 1))]) [1, 2, 0] dX12_strip_33 rfl (Nat.le_of_ble_eq_true rfl) rfl rfl ?_
        refine j_goto (pc := 36) (tgt := 8) dX12_strip_36 rfl ?_
        refine j_ls (ls' := [(0, vR 88), (1, vI m), (2, vI (h + 1))]) [0, 1, 2] rfl ?_
        exact ih m ⟨by omega, by omega⟩ (h + 1) ⟨by omega, by omega⟩ σ7 hIσ7 hFσ7 (show mI σ7 from (by first | exact q8_0 | exact i0)) (show ∀ rk : Nat → Int, MOB rk 0 σ → MOB rk 0 σ7 ∧ ∀ f : Int, 1 ≤ f → f < (h + 1) → σ7 89 f.toNat = 0 from (fun rk M => by
                                                              have H := i1 rk M
                                                              first
                                                              | exact ⟨H.1, fun f f1 f2 => by rcases (show f < h ∨ f = h by omega) with z | z; (exact H.2 f f1 z); (rw [z]; omega)⟩
                                                              | (rcases q8_1 with ⟨z1, z2, z3⟩ | ⟨z1, z2, z3, z4⟩ | ⟨z1, z2, z3, z4, z5, z6, z7, z8⟩; (exfalso; omega); (exfalso; omega); (exact ⟨MOB_take (s := τ 89 h.toNat) H.1 ⟨by omega, by omega⟩ ⟨by omega, by omega⟩ rfl z5 z6 (by (have C := H.1.1 _ (show (1 : Int) ≤ τ 89 h.toNat from by omega) (by omega)); (have C2 : τ 89 (0 + 82 + τ 89 h.toNat).toNat + csz (gM 0 τ) (τ 89 h.toNat) 40 = rk (τ 89 h.toNat).toNat ∧ 0 ≤ τ 89 (0 + 82 + τ 89 h.toNat).toNat ∧ rk (τ 89 h.toNat).toNat ≤ 5 := C); (have n0 := csz_nn (g := gM 0 τ) (s := τ 89 h.toNat) 40); rw [show (0 + 82 + τ 89 h.toNat).toNat = (82 + τ 89 h.toNat).toNat from by omega] at C2; rw [z3] at z7; omega) (by rw [z3] at z8; exact z8) (hGσ7 91 0 (show ¬ ((91 = 89 ∧ 0 < 93)) from by decide)), fun f f1 f2 => by rcases (show f < h ∨ f = h by omega) with z | z; (rw [z8 _ (by omega) (by omega) (by omega)]; exact H.2 f f1 z); (rw [z]; exact z5)⟩)))) (show m = cnt (gM 0 σ) (σ 91 0).toNat from by omega) (show (41 - (h + 1)).toNat < N_ from by omega)
set_option maxHeartbeats 4000000 in
set_option maxRecDepth 100000 in
theorem c_X12_strip {G : tw_G} (hM : tw_isM G) (σ : tw_M) (hI : tw_I σ) (hq0 : mI σ) : tw_C G yX12_strip cX12_strip 3 (some .int) 3 [vR 88] σ (q_X12_strip σ) := by
  refine tw_met [(0, vR 88)] (by decide +kernel) rfl (Nat.le_of_ble_eq_true rfl) ?_
  refine j_aload_n (pc := 0) dX12_strip_0 rfl rfl ?_
  refine j_iconst (pc := 1) dX12_strip_1 ?_
  refine j_callV (pc := 2) (As := [vI 0]) (st := []) (c_X12_all hM 0 (by (first | decide | exact ⟨by omega, by omega⟩)) σ hI) mv_X12_192 rfl rfl rfl (a_88 hM) dX12_strip_2 ⟨Nat.le_of_ble_eq_true rfl, Nat.le_of_ble_eq_true rfl⟩ ⟨Nat.le_refl _, Nat.le_refl _⟩ rfl (Nat.le_of_ble_eq_true rfl) rfl (fun z10 σ11 hz10 => ?_)
  obtain ⟨r13, rfl, hr13, rfl, q12_0⟩ := hz10
  replace q12_0 : r13 = mc σ (0 : Int) (σ 91 0).toNat := q12_0
  refine j_st (st' := [vI r13]) rfl ?_
  refine j_istore_n (pc := 5) (i := 1) (ls' := [(0, vR 88), (1, vI r13)]) [1, 0] dX12_strip_5 rfl (Nat.le_of_ble_eq_true rfl) rfl rfl ?_
  refine j_iconst (pc := 6) dX12_strip_6 ?_
  refine j_istore_n (pc := 7) (i := 2) (ls' := [(0, vR 88), (1, vI r13), (2, vI 1)]) [1, 2, 0] dX12_strip_7 rfl (Nat.le_of_ble_eq_true rfl) rfl rfl ?_
  refine j_ls (ls' := [(0, vR 88), (1, vI r13), (2, vI 1)]) [0, 1, 2] rfl ?_
  exact (l_X12_strip hM σ hI hq0 (((41 - (1 : Int)).toNat) + 1)) r13 ⟨by omega, by omega⟩ 1 (by (first | decide | exact ⟨by omega, by omega⟩)) σ hI (tw_F_rf) (show mI σ from hq0) (show ∀ rk : Nat → Int, MOB rk 0 σ → MOB rk 0 σ ∧ ∀ f : Int, 1 ≤ f → f < (1 : Int) → σ 89 f.toNat = 0 from (fun rk M => ⟨M, fun f f1 f2 => by exfalso; omega⟩)) (show r13 = cnt (gM 0 σ) (σ 91 0).toNat from (by (have e := q12_0); rw [mc_gM (by have ft : (1 : Int) ≤ σ 91 0 ∧ σ 91 0 ≤ 40 := hI 91 0; omega)] at e; omega)) (Nat.lt_succ_self _)
abbrev q_X12_torn  (σ : tw_M) : Option tw_V → tw_M → Prop := fun z τ => ∃ r : Int, z = some (vI r) ∧ (-2147483648 ≤ r ∧ r ≤ 2147483647) ∧ σ = τ ∧ (r = σ 88 38)
set_option maxHeartbeats 4000000 in
set_option maxRecDepth 100000 in
theorem c_X12_torn {G : tw_G} (hM : tw_isM G) (σ : tw_M) (hI : tw_I σ) : tw_C G yX12_torn cX12_torn 1 (some .int) 0 [vR 88] σ (q_X12_torn σ) := by
  refine tw_met [(0, vR 88)] (by decide +kernel) rfl (Nat.le_of_ble_eq_true rfl) ?_
  refine j_aload_n (pc := 0) dX12_torn_0 rfl rfl ?_
  refine j_getI (pc := 1) fl_X12_383 dX12_torn_1 (a_88 hM) rfl ?_
  have f1 : (-2147483648 : Int) ≤ σ 88 38 ∧ σ 88 38 ≤ 2147483647 := hI 88 38
  exact j_iret (pc := 4) ⟨rfl, rfl⟩ dX12_torn_4 rfl ⟨_, rfl, ⟨by omega, by omega⟩, rfl, rfl⟩
abbrev q_X12_fault  (σ : tw_M) : Option tw_V → tw_M → Prop := fun z τ => ∃ r : Int, z = some (vI r) ∧ (-2147483648 ≤ r ∧ r ≤ 2147483647) ∧ σ = τ ∧ (r = σ 88 17)
set_option maxHeartbeats 4000000 in
set_option maxRecDepth 100000 in
theorem c_X12_fault {G : tw_G} (hM : tw_isM G) (σ : tw_M) (hI : tw_I σ) : tw_C G yX12_fault cX12_fault 1 (some .int) 0 [vR 88] σ (q_X12_fault σ) := by
  refine tw_met [(0, vR 88)] (by decide +kernel) rfl (Nat.le_of_ble_eq_true rfl) ?_
  refine j_aload_n (pc := 0) dX12_fault_0 rfl rfl ?_
  refine j_getI (pc := 1) fl_X12_91 dX12_fault_1 (a_88 hM) rfl ?_
  have f1 : (0 : Int) ≤ σ 88 17 ∧ σ 88 17 ≤ 5 := hI 88 17
  exact j_iret (pc := 4) ⟨rfl, rfl⟩ dX12_fault_4 rfl ⟨_, rfl, ⟨by omega, by omega⟩, rfl, by omega⟩
abbrev q_X12_feetWith (w : Int) (σ : tw_M) : Option tw_V → tw_M → Prop := fun z τ => ∃ r : Int, z = some (vI r) ∧ (-2147483648 ≤ r ∧ r ≤ 2147483647) ∧ σ = τ ∧ True
set_option maxHeartbeats 4000000 in
set_option maxRecDepth 100000 in
theorem l_X12_feetWith {G : tw_G} (hM : tw_isM G) (w : Int) (hw : 0 ≤ w ∧ w ≤ 4) (σ : tw_M) (hI : tw_I σ) : ∀ N_ : Nat, (∀ (n : Int) (hn : 0 ≤ n ∧ n ≤ 40) (h : Int) (hh : 1 ≤ h ∧ h ≤ 41) (i0 : n < h) (hm : (41 - h).toNat < N_), tw_J G (tw_mt RX12 cX12_feetWith 4 (some .int) 1) (tw_E G (q_X12_feetWith w σ)) 4 [(0, vR 88), (1, vI w), (2, vI n), (3, vI h)] [] σ) := by
  intro N_
  induction N_ with
  | zero => exact fun n hn h hh i0 hm => absurd hm (Nat.not_lt_zero _)
  | succ N_ ih =>
    intro n hn h hh i0 hm
    refine j_iload_n (pc := 4) dX12_feetWith_4 rfl rfl ?_
    refine j_aload_n (pc := 5) dX12_feetWith_5 rfl rfl ?_
    refine j_getR (pc := 6) (r := 91) fl_X12_17 dX12_feetWith_6 (a_88 hM) rfl ?_
    refine j_iconst (pc := 9) dX12_feetWith_9 ?_
    refine j_iald (pc := 10) dX12_feetWith_10 (a_91 hM) (by omega) (by omega) (by decide) ?_
    refine j_topV (show σ 91 (Int.toNat 0) = σ 91 0 from rfl) ?_
    have f1 : (1 : Int) ≤ σ 91 0 ∧ σ 91 0 ≤ 40 := hI 91 0
    refine j_icmpR_gt (pc := 11) (tgt := 40) ⟨by omega, by omega⟩ ⟨by omega, by omega⟩ dX12_feetWith_11 rfl (fun h2 => ?_) (fun h2 => ?_)
    · refine j_iload_n (pc := 40) dX12_feetWith_40 rfl rfl ?_
      exact j_iret (pc := 41) ⟨rfl, rfl⟩ dX12_feetWith_41 rfl ⟨_, rfl, ⟨by omega, by omega⟩, rfl, trivial⟩
    · refine j_iload_n (pc := 14) dX12_feetWith_14 rfl rfl ?_
      refine j_aload_n (pc := 15) dX12_feetWith_15 rfl rfl ?_
      refine j_iload_n (pc := 16) dX12_feetWith_16 rfl rfl ?_
      refine j_iload_n (pc := 17) dX12_feetWith_17 rfl rfl ?_
      refine j_callV (pc := 18) (As := [vI h, vI w]) (st := [vI n]) (c_X12_of hM h ⟨by omega, by omega⟩ w ⟨by omega, by omega⟩ σ hI) mv_X12_184 rfl rfl rfl (a_88 hM) dX12_feetWith_18 ⟨Nat.le_of_ble_eq_true rfl, Nat.le_of_ble_eq_true rfl⟩ ⟨Nat.le_refl _, Nat.le_refl _⟩ rfl (Nat.le_of_ble_eq_true rfl) rfl (fun z3 σ4 hz3 => ?_)
      obtain ⟨r6, rfl, hr6, rfl, q5_0⟩ := hz3
      replace q5_0 : r6 = σ 92 (5 * h + w).toNat := q5_0
      refine j_st (st' := [vI r6, vI n]) rfl ?_
      refine j_ifR_le (pc := 21) (tgt := 28) ⟨by omega, by omega⟩ dX12_feetWith_21 rfl (fun h7 => ?_) (fun h7 => ?_)
      · refine j_iconst (pc := 28) dX12_feetWith_28 ?_
        refine j_callS (pc := 29) (As := [vI 0]) (st := [vI n]) (c_X12_flag 0 (by (first | decide | exact ⟨by omega, by omega⟩)) σ hI) ms_X12_168 rfl dX12_feetWith_29 ⟨Nat.le_of_ble_eq_true rfl, Nat.le_of_ble_eq_true rfl⟩ ⟨Nat.le_refl _, Nat.le_refl _⟩ rfl (Nat.le_of_ble_eq_true rfl) rfl (fun z8 σ9 hz8 => ?_)
        obtain ⟨r11, rfl, hr11, rfl, q10_0⟩ := hz8
        replace q10_0 : r11 = (0 : Int) := q10_0
        refine j_st (st' := [vI r11, vI n]) rfl ?_
        refine j_iadd (pc := 32) dX12_feetWith_32 ?_
        refine j_istore_n (pc := 33) (i := 2) (ls' := [(0, vR 88), (1, vI w), (2, vI (n + r11)), (3, vI h)]) [1, 2, 0, 3] dX12_feetWith_33 rfl (Nat.le_of_ble_eq_true rfl) rfl rfl ?_
        refine j_iinc (pc := 34) (i := 3) (n := 1) (ls' := [(0, vR 88), (1, vI w), (2, vI (n + r11)), (3, vI (h + 1))]) [1, 2, 3, 0] dX12_feetWith_34 rfl (Nat.le_of_ble_eq_true rfl) rfl rfl ?_
        refine j_goto (pc := 37) (tgt := 4) dX12_feetWith_37 rfl ?_
        refine j_ls (ls' := [(0, vR 88), (1, vI w), (2, vI (n + r11)), (3, vI (h + 1))]) [0, 1, 2, 3] rfl ?_
        exact ih (n + r11) ⟨by omega, by omega⟩ (h + 1) ⟨by omega, by omega⟩ (show (n + r11) < (h + 1) from by omega) (show (41 - (h + 1)).toNat < N_ from by omega)
      · refine j_iconst (pc := 24) dX12_feetWith_24 ?_
        refine j_goto (pc := 25) (tgt := 29) dX12_feetWith_25 rfl ?_
        refine j_callS (pc := 29) (As := [vI 1]) (st := [vI n]) (c_X12_flag 1 (by (first | decide | exact ⟨by omega, by omega⟩)) σ hI) ms_X12_168 rfl dX12_feetWith_29 ⟨Nat.le_of_ble_eq_true rfl, Nat.le_of_ble_eq_true rfl⟩ ⟨Nat.le_refl _, Nat.le_refl _⟩ rfl (Nat.le_of_ble_eq_true rfl) rfl (fun z12 σ13 hz12 => ?_)
        obtain ⟨r15, rfl, hr15, rfl, q14_0⟩ := hz12
        replace q14_0 : r15 = (1 : Int) := q14_0
        refine j_st (st' := [vI r15, vI n]) rfl ?_
        refine j_iadd (pc := 32) dX12_feetWith_32 ?_
        refine j_istore_n (pc := 33) (i := 2) (ls' := [(0, vR 88), (1, vI w), (2, vI (n + r15)), (3, vI h)]) [1, 2, 0, 3] dX12_feetWith_33 rfl (Nat.le_of_ble_eq_true rfl) rfl rfl ?_
        refine j_iinc (pc := 34) (i := 3) (n := 1) (ls' := [(0, vR 88), (1, vI w), (2, vI (n + r15)), (3, vI (h + 1))]) [1, 2, 3, 0] dX12_feetWith_34 rfl (Nat.le_of_ble_eq_true rfl) rfl rfl ?_
        refine j_goto (pc := 37) (tgt := 4) dX12_feetWith_37 rfl ?_
        refine j_ls (ls' := [(0, vR 88), (1, vI w), (2, vI (n + r15)), (3, vI (h + 1))]) [0, 1, 2, 3] rfl ?_
        exact ih (n + r15) ⟨by omega, by omega⟩ (h + 1) ⟨by omega, by omega⟩ (show (n + r15) < (h + 1) from by omega) (show (41 - (h + 1)).toNat < N_ from by omega)
set_option maxHeartbeats 4000000 in
set_option maxRecDepth 100000 in
theorem c_X12_feetWith {G : tw_G} (hM : tw_isM G) (w : Int) (hw : 0 ≤ w ∧ w ≤ 4) (σ : tw_M) (hI : tw_I σ) : tw_C G yX12_feetWith cX12_feetWith 4 (some .int) 1 [vR 88, vI w] σ (q_X12_feetWith w σ) := by
  refine tw_met [(0, vR 88), (1, vI w)] (by decide +kernel) rfl (Nat.le_of_ble_eq_true rfl) ?_
  refine j_iconst (pc := 0) dX12_feetWith_0 ?_
  refine j_istore_n (pc := 1) (i := 2) (ls' := [(0, vR 88), (1, vI w), (2, vI 0)]) [1, 2, 0] dX12_feetWith_1 rfl (Nat.le_of_ble_eq_true rfl) rfl rfl ?_
  refine j_iconst (pc := 2) dX12_feetWith_2 ?_
  refine j_istore_n (pc := 3) (i := 3) (ls' := [(0, vR 88), (1, vI w), (2, vI 0), (3, vI 1)]) [1, 2, 3, 0] dX12_feetWith_3 rfl (Nat.le_of_ble_eq_true rfl) rfl rfl ?_
  refine j_ls (ls' := [(0, vR 88), (1, vI w), (2, vI 0), (3, vI 1)]) [0, 1, 2, 3] rfl ?_
  exact (l_X12_feetWith hM w hw σ hI (((41 - (1 : Int)).toNat) + 1)) 0 (by (first | decide | exact ⟨by omega, by omega⟩)) 1 (by (first | decide | exact ⟨by omega, by omega⟩)) (show (0 : Int) < (1 : Int) from by omega) (Nat.lt_succ_self _)
abbrev q_X12_racked  (σ : tw_M) : Option tw_V → tw_M → Prop := fun z τ => ∃ r : Int, z = some (vI r) ∧ (-2147483648 ≤ r ∧ r ≤ 2147483647) ∧ σ = τ ∧ True
set_option maxHeartbeats 4000000 in
set_option maxRecDepth 100000 in
theorem l_X12_racked {G : tw_G} (hM : tw_isM G) (σ : tw_M) (hI : tw_I σ) : ∀ N_ : Nat, (∀ (n : Int) (hn : -2147483648 ≤ n ∧ n ≤ 2147483647) (k : Int) (hk : 1 ≤ k ∧ k ≤ 11)  (hm : (11 - k).toNat < N_), tw_J G (tw_mt RX12 cX12_racked 3 (some .int) 0) (tw_E G (q_X12_racked σ)) 4 [(0, vR 88), (1, vI n), (2, vI k)] [] σ) := by
  intro N_
  induction N_ with
  | zero => exact fun n hn k hk hm => absurd hm (Nat.not_lt_zero _)
  | succ N_ ih =>
    intro n hn k hk hm
    refine j_iload_n (pc := 4) dX12_racked_4 rfl rfl ?_
    refine j_bipush (pc := 5) dX12_racked_5 rfl ?_
    refine j_icmpR_gt (pc := 7) (tgt := 28) ⟨by omega, by omega⟩ ⟨by omega, by omega⟩ dX12_racked_7 rfl (fun h1 => ?_) (fun h1 => ?_)
    · refine j_iload_n (pc := 28) dX12_racked_28 rfl rfl ?_
      exact j_iret (pc := 29) ⟨rfl, rfl⟩ dX12_racked_29 rfl ⟨_, rfl, ⟨by omega, by omega⟩, rfl, trivial⟩
    · refine j_iload_n (pc := 10) dX12_racked_10 rfl rfl ?_
      refine j_aload_n (pc := 11) dX12_racked_11 rfl rfl ?_
      refine j_getR (pc := 12) (r := 89) fl_X12_7 dX12_racked_12 (a_88 hM) rfl ?_
      refine j_bipush (pc := 15) dX12_racked_15 rfl ?_
      refine j_iload_n (pc := 17) dX12_racked_17 rfl rfl ?_
      refine j_iadd (pc := 18) dX12_racked_18 ?_
      refine j_iald (pc := 19) dX12_racked_19 (a_89 hM) (by omega) (by omega) (by decide) ?_
      have f2 : (-2147483648 : Int) ≤ σ 89 ((82 + k).toNat) ∧ σ 89 ((82 + k).toNat) ≤ 2147483647 := st_D hI _
      refine j_iadd (pc := 20) dX12_racked_20 ?_
      refine j_top (fun z3 ez3 hz3 => ?_)
      refine j_istore_n (pc := 21) (i := 1) (ls' := [(0, vR 88), (1, vI z3), (2, vI k)]) [1, 0, 2] dX12_racked_21 rfl (Nat.le_of_ble_eq_true rfl) rfl rfl ?_
      refine j_iinc (pc := 22) (i := 2) (n := 1) (ls' := [(0, vR 88), (1, vI z3), (2, vI (k + 1))]) [1, 2, 0] dX12_racked_22 rfl (Nat.le_of_ble_eq_true rfl) rfl rfl ?_
      refine j_goto (pc := 25) (tgt := 4) dX12_racked_25 rfl ?_
      refine j_ls (ls' := [(0, vR 88), (1, vI z3), (2, vI (k + 1))]) [0, 1, 2] rfl ?_
      exact ih z3 ⟨by omega, by omega⟩ (k + 1) ⟨by omega, by omega⟩ (show (11 - (k + 1)).toNat < N_ from by omega)
set_option maxHeartbeats 4000000 in
set_option maxRecDepth 100000 in
theorem c_X12_racked {G : tw_G} (hM : tw_isM G) (σ : tw_M) (hI : tw_I σ) : tw_C G yX12_racked cX12_racked 3 (some .int) 0 [vR 88] σ (q_X12_racked σ) := by
  refine tw_met [(0, vR 88)] (by decide +kernel) rfl (Nat.le_of_ble_eq_true rfl) ?_
  refine j_iconst (pc := 0) dX12_racked_0 ?_
  refine j_istore_n (pc := 1) (i := 1) (ls' := [(0, vR 88), (1, vI 0)]) [1, 0] dX12_racked_1 rfl (Nat.le_of_ble_eq_true rfl) rfl rfl ?_
  refine j_iconst (pc := 2) dX12_racked_2 ?_
  refine j_istore_n (pc := 3) (i := 2) (ls' := [(0, vR 88), (1, vI 0), (2, vI 1)]) [1, 2, 0] dX12_racked_3 rfl (Nat.le_of_ble_eq_true rfl) rfl rfl ?_
  refine j_ls (ls' := [(0, vR 88), (1, vI 0), (2, vI 1)]) [0, 1, 2] rfl ?_
  exact (l_X12_racked hM σ hI (((11 - (1 : Int)).toNat) + 1)) 0 (by (first | decide | exact ⟨by omega, by omega⟩)) 1 (by (first | decide | exact ⟨by omega, by omega⟩)) (Nat.lt_succ_self _)
abbrev q_X12_rule (w : Int) (σ : tw_M) : Option tw_V → tw_M → Prop := fun z τ => ∃ r : Int, z = some (vI r) ∧ (-2147483648 ≤ r ∧ r ≤ 2147483647) ∧ σ = τ ∧ (((0 ≤ w ∧ w < 9) ∧ r = σ 91 w.toNat) ∨ ((11 ≤ w ∧ w ≤ 20) ∧ r = σ 89 (72 + w).toNat) ∨ (r = -1 ∧ ¬ (0 ≤ w ∧ w < 9) ∧ ¬ (11 ≤ w ∧ w ≤ 20)))
set_option maxHeartbeats 4000000 in
set_option maxRecDepth 100000 in
theorem c_X12_rule {G : tw_G} (hM : tw_isM G) (w : Int) (hw : -2147483648 ≤ w ∧ w ≤ 2147483647) (σ : tw_M) (hI : tw_I σ) : tw_C G yX12_rule cX12_rule 2 (some .int) 1 [vR 88, vI w] σ (q_X12_rule w σ) := by
  refine tw_met [(0, vR 88), (1, vI w)] (by decide +kernel) rfl (Nat.le_of_ble_eq_true rfl) ?_
  refine j_iload_n (pc := 0) dX12_rule_0 rfl rfl ?_
  refine j_i2l (pc := 1) dX12_rule_1 ?_
  rw [w32_eq (a := w) (by omega) (by omega)]
  refine j_lconst (pc := 2) (z := 0) dX12_rule_2 rfl ?_
  refine j_ldc2 (pc := 3) (z := 8) dX12_rule_3 (tw_inc tm_6 (i := 172) rfl rfl) ?_
  refine j_callS (pc := 6) (As := [vL w, vL 0, vL 8]) (st := []) (c_X12_in w ⟨by omega, by omega⟩ 0 (by (first | decide | exact ⟨by omega, by omega⟩)) 8 (by (first | decide | exact ⟨by omega, by omega⟩)) σ hI) ms_X12_82 rfl dX12_rule_6 ⟨Nat.le_of_ble_eq_true rfl, Nat.le_of_ble_eq_true rfl⟩ ⟨Nat.le_refl _, Nat.le_refl _⟩ rfl (Nat.le_of_ble_eq_true rfl) rfl (fun z1 σ2 hz1 => ?_)
  obtain ⟨r4, rfl, hr4, rfl, q3_0⟩ := hz1
  replace q3_0 : (r4 = 1 ∧ (0 : Int) ≤ w ∧ w ≤ (8 : Int)) ∨ (r4 = 0 ∧ ¬ ((0 : Int) ≤ w ∧ w ≤ (8 : Int))) := q3_0
  refine j_st (st' := [vI r4]) rfl ?_
  refine j_ifR_eq (pc := 9) (tgt := 21) ⟨by omega, by omega⟩ dX12_rule_9 rfl (fun h5 => ?_) (fun h5 => ?_)
  · refine j_iload_n (pc := 21) dX12_rule_21 rfl rfl ?_
    refine j_i2l (pc := 22) dX12_rule_22 ?_
    rw [w32_eq (a := w) (by omega) (by omega)]
    refine j_ldc2 (pc := 23) (z := 11) dX12_rule_23 (tw_inc tm_6 (i := 205) rfl rfl) ?_
    refine j_ldc2 (pc := 26) (z := 20) dX12_rule_26 (tw_inc tm_6 (i := 206) rfl rfl) ?_
    refine j_callS (pc := 29) (As := [vL w, vL 11, vL 20]) (st := []) (c_X12_in w ⟨by omega, by omega⟩ 11 (by (first | decide | exact ⟨by omega, by omega⟩)) 20 (by (first | decide | exact ⟨by omega, by omega⟩)) σ hI) ms_X12_82 rfl dX12_rule_29 ⟨Nat.le_of_ble_eq_true rfl, Nat.le_of_ble_eq_true rfl⟩ ⟨Nat.le_refl _, Nat.le_refl _⟩ rfl (Nat.le_of_ble_eq_true rfl) rfl (fun z6 σ7 hz6 => ?_)
    obtain ⟨r9, rfl, hr9, rfl, q8_0⟩ := hz6
    replace q8_0 : (r9 = 1 ∧ (11 : Int) ≤ w ∧ w ≤ (20 : Int)) ∨ (r9 = 0 ∧ ¬ ((11 : Int) ≤ w ∧ w ≤ (20 : Int))) := q8_0
    refine j_st (st' := [vI r9]) rfl ?_
    refine j_ifR_eq (pc := 32) (tgt := 50) ⟨by omega, by omega⟩ dX12_rule_32 rfl (fun h10 => ?_) (fun h10 => ?_)
    · refine j_iconst (pc := 50) dX12_rule_50 ?_
      exact j_iret (pc := 51) ⟨rfl, rfl⟩ dX12_rule_51 rfl ⟨_, rfl, ⟨by omega, by omega⟩, rfl, (by first | exact Or.inl ⟨by omega, rfl⟩ | exact Or.inr (Or.inl ⟨by omega, congrArg (fun x => σ 89 (Int.toNat x)) (by omega)⟩) | exact Or.inr (Or.inr ⟨rfl, by omega, by omega⟩))⟩
    · refine j_aload_n (pc := 35) dX12_rule_35 rfl rfl ?_
      refine j_getR (pc := 36) (r := 89) fl_X12_7 dX12_rule_36 (a_88 hM) rfl ?_
      refine j_bipush (pc := 39) dX12_rule_39 rfl ?_
      refine j_iload_n (pc := 41) dX12_rule_41 rfl rfl ?_
      refine j_iadd (pc := 42) dX12_rule_42 ?_
      refine j_bipush (pc := 43) dX12_rule_43 rfl ?_
      refine j_isub (pc := 45) dX12_rule_45 ?_
      refine j_iald (pc := 46) dX12_rule_46 (a_89 hM) (by omega) (by omega) (by decide) ?_
      have f11 : (-2147483648 : Int) ≤ σ 89 (((82 + w) - 10).toNat) ∧ σ 89 (((82 + w) - 10).toNat) ≤ 2147483647 := st_D hI _
      refine j_goto (pc := 47) (tgt := 51) dX12_rule_47 rfl ?_
      exact j_iret (pc := 51) ⟨rfl, rfl⟩ dX12_rule_51 rfl ⟨_, rfl, ⟨by omega, by omega⟩, rfl, (by first | exact Or.inl ⟨by omega, rfl⟩ | exact Or.inr (Or.inl ⟨by omega, congrArg (fun x => σ 89 (Int.toNat x)) (by omega)⟩) | exact Or.inr (Or.inr ⟨rfl, by omega, by omega⟩))⟩
  · refine j_aload_n (pc := 12) dX12_rule_12 rfl rfl ?_
    refine j_getR (pc := 13) (r := 91) fl_X12_17 dX12_rule_13 (a_88 hM) rfl ?_
    refine j_iload_n (pc := 16) dX12_rule_16 rfl rfl ?_
    refine j_iald (pc := 17) dX12_rule_17 (a_91 hM) (by omega) (by omega) (by decide) ?_
    have f12 : (-2147483648 : Int) ≤ σ 91 (w.toNat) ∧ σ 91 (w.toNat) ≤ 2147483647 := rbm_D (hI 91 (w.toNat))
    refine j_goto (pc := 18) (tgt := 51) dX12_rule_18 rfl ?_
    exact j_iret (pc := 51) ⟨rfl, rfl⟩ dX12_rule_51 rfl ⟨_, rfl, ⟨by omega, by omega⟩, rfl, (by first | exact Or.inl ⟨by omega, rfl⟩ | exact Or.inr (Or.inl ⟨by omega, congrArg (fun x => σ 89 (Int.toNat x)) (by omega)⟩) | exact Or.inr (Or.inr ⟨rfl, by omega, by omega⟩))⟩
abbrev q_X12_image (i : Int) (σ : tw_M) : Option tw_V → tw_M → Prop := fun z τ => ∃ r : Int, z = some (vI r) ∧ (-2147483648 ≤ r ∧ r ≤ 2147483647) ∧ tw_I τ ∧ tw_F (fun c j => (c = 90) ∨ (c = 89 ∧ (j = 97 ∨ j = 98 ∨ (100 ≤ j ∧ j < 300)))) σ τ ∧ (mI τ) ∧ ((r = -1 ∧ ¬ (i = 0 ∨ i = 1) ∧ τ 90 0 = σ 90 0 ∧ τ 90 1 = σ 90 1) ∨ (i = 0 ∧ r = σ 90 0 ∧ τ 90 0 = 1 ∧ τ 90 1 = σ 90 1) ∨ (i = 1 ∧ r = σ 90 1 ∧ τ 90 1 = 1 ∧ τ 90 0 = σ 90 0)) ∧ ((i = 0 ∧ τ 89 193 = σ 89 93) ∨ (¬ i = 0 ∧ τ 89 193 = σ 89 193)) ∧ ((i = 0 ∧ τ 89 194 = σ 89 94) ∨ (¬ i = 0 ∧ τ 89 194 = σ 89 194)) ∧ ((i = 0 ∧ τ 89 195 = σ 89 95) ∨ (¬ i = 0 ∧ τ 89 195 = σ 89 195)) ∧ ((i = 0 ∧ τ 89 196 = σ 89 96) ∨ (¬ i = 0 ∧ τ 89 196 = σ 89 196)) ∧ ((i = 1 ∧ τ 89 293 = σ 89 93) ∨ (¬ i = 1 ∧ τ 89 293 = σ 89 293)) ∧ ((i = 1 ∧ τ 89 294 = σ 89 94) ∨ (¬ i = 1 ∧ τ 89 294 = σ 89 294)) ∧ ((i = 1 ∧ τ 89 295 = σ 89 95) ∨ (¬ i = 1 ∧ τ 89 295 = σ 89 295)) ∧ ((i = 1 ∧ τ 89 296 = σ 89 96) ∨ (¬ i = 1 ∧ τ 89 296 = σ 89 296)) ∧ (((¬ (i = 0 ∨ i = 1) ∧ ∀ c j, τ c j = σ c j) ∨ ((i = 0 ∨ i = 1) ∧ (∀ j : Int, 0 ≤ j → j < 97 → τ 89 (100 + 100 * i + j).toNat = σ 89 j.toNat) ∧ τ 89 (197 + 100 * i).toNat = σ 91 5 ∧ τ 89 (198 + 100 * i).toNat = σ 91 6 ∧ (∀ j : Nat, (j < 97 ∨ (100 ≤ j ∧ ((j : Int) < 100 + 100 * i ∨ 200 + 100 * i ≤ (j : Int)))) → τ 89 j = σ 89 j))))
set_option maxHeartbeats 4000000 in
set_option maxRecDepth 100000 in
theorem c_X12_image {G : tw_G} (hM : tw_isM G) (i : Int) (hi : -2147483648 ≤ i ∧ i ≤ 2147483647) (σ : tw_M) (hI : tw_I σ) (hq0 : mI σ) : tw_C G yX12_image cX12_image 3 (some .int) 1 [vR 88, vI i] σ (q_X12_image i σ) := by
  refine tw_met [(0, vR 88), (1, vI i)] (by decide +kernel) rfl (Nat.le_of_ble_eq_true rfl) ?_
  refine j_iload_n (pc := 0) dX12_image_0 rfl rfl ?_
  refine j_i2l (pc := 1) dX12_image_1 ?_
  rw [w32_eq (a := i) (by omega) (by omega)]
  refine j_lconst (pc := 2) (z := 0) dX12_image_2 rfl ?_
  refine j_lconst (pc := 3) (z := 1) dX12_image_3 rfl ?_
  refine j_callS (pc := 4) (As := [vL i, vL 0, vL 1]) (st := []) (c_X12_in i ⟨by omega, by omega⟩ 0 (by (first | decide | exact ⟨by omega, by omega⟩)) 1 (by (first | decide | exact ⟨by omega, by omega⟩)) σ hI) ms_X12_82 rfl dX12_image_4 ⟨Nat.le_of_ble_eq_true rfl, Nat.le_of_ble_eq_true rfl⟩ ⟨Nat.le_refl _, Nat.le_refl _⟩ rfl (Nat.le_of_ble_eq_true rfl) rfl (fun z1 σ2 hz1 => ?_)
  obtain ⟨r4, rfl, hr4, rfl, q3_0⟩ := hz1
  replace q3_0 : (r4 = 1 ∧ (0 : Int) ≤ i ∧ i ≤ (1 : Int)) ∨ (r4 = 0 ∧ ¬ ((0 : Int) ≤ i ∧ i ≤ (1 : Int))) := q3_0
  refine j_st (st' := [vI r4]) rfl ?_
  refine j_ifR_ne (pc := 7) (tgt := 12) ⟨by omega, by omega⟩ dX12_image_7 rfl (fun h5 => ?_) (fun h5 => ?_)
  · refine j_aload_n (pc := 12) dX12_image_12 rfl rfl ?_
    refine j_getR (pc := 13) (r := 90) fl_X12_13 dX12_image_13 (a_88 hM) rfl ?_
    refine j_iload_n (pc := 16) dX12_image_16 rfl rfl ?_
    have k1 : (i = 0 ∧ σ 90 i.toNat = σ 90 0) ∨ (i = 1 ∧ σ 90 i.toNat = σ 90 1) := by
      rcases (show i = 0 ∨ i = 1 by omega) with q | q
      · exact Or.inl ⟨q, by rw [q]; rfl⟩
      · exact Or.inr ⟨q, by rw [q]; rfl⟩
    refine j_zald (pc := 17) dX12_image_17 (a_90 hM) (by omega) (by omega) (by decide) ?_
    have f6 : (0 : Int) ≤ σ 90 (i.toNat) ∧ σ 90 (i.toNat) ≤ 1 := hI 90 (i.toNat)
    refine j_callS (pc := 18) (As := [vI (σ 90 (i.toNat))]) (st := []) (c_X12_flag (σ 90 (i.toNat)) ⟨by omega, by omega⟩ σ hI) ms_X12_168 rfl dX12_image_18 ⟨Nat.le_of_ble_eq_true rfl, Nat.le_of_ble_eq_true rfl⟩ ⟨Nat.le_refl _, Nat.le_refl _⟩ rfl (Nat.le_of_ble_eq_true rfl) rfl (fun z7 σ8 hz7 => ?_)
    obtain ⟨r10, rfl, hr10, rfl, q9_0⟩ := hz7
    replace q9_0 : r10 = (σ 90 (i.toNat)) := q9_0
    refine j_st (st' := [vI r10]) rfl ?_
    refine j_istore_n (pc := 21) (i := 2) (ls' := [(0, vR 88), (1, vI i), (2, vI r10)]) [1, 2, 0] dX12_image_21 rfl (Nat.le_of_ble_eq_true rfl) rfl rfl ?_
    refine j_aload_n (pc := 22) dX12_image_22 rfl rfl ?_
    refine j_getR (pc := 23) (r := 90) fl_X12_13 dX12_image_23 (a_88 hM) rfl ?_
    refine j_iload_n (pc := 26) dX12_image_26 rfl rfl ?_
    refine j_iconst (pc := 27) dX12_image_27 ?_
    refine j_zast (pc := 28) (by omega) dX12_image_28 (a_90 hM) (by omega) (by omega) (by decide) (j_nm (fun σ11 (eσ11 : σ11 = tw_up σ 90 (i.toNat) 1) => ?_))
    have hIσ11 : tw_I σ11 := tw_I_up hI eσ11 (show (0 : Int) ≤ 1 ∧ 1 ≤ 1 from by decide)
    have hFσ11 : tw_F (fun c j => (c = 90) ∨ (c = 89 ∧ (j = 97 ∨ j = 98 ∨ (100 ≤ j ∧ j < 300)))) σ σ11 := tw_F_up (tw_F_rf) eσ11 (show (90 = 90) ∨ (90 = 89 ∧ (i.toNat = 97 ∨ i.toNat = 98 ∨ (100 ≤ i.toNat ∧ i.toNat < 300))) from by omega)
    have k0 : (i = 0 ∧ σ11 90 0 = 1 ∧ σ11 90 1 = σ 90 1) ∨ (i = 1 ∧ σ11 90 1 = 1 ∧ σ11 90 0 = σ 90 0) := by
      rcases (show i = 0 ∨ i = 1 by omega) with q | q
      · exact Or.inl ⟨q, tw_eq2 eσ11 (by omega), tw_ne1 eσ11 (by (first | decide | omega))⟩
      · exact Or.inr ⟨q, tw_eq2 eσ11 (by omega), tw_ne1 eσ11 (by (first | decide | omega))⟩
    refine j_aload_n (pc := 29) dX12_image_29 rfl rfl ?_
    refine j_getR (pc := 30) (r := 89) fl_X12_7 dX12_image_30 (a_88 hM) rfl ?_
    refine j_bipush (pc := 33) dX12_image_33 rfl ?_
    refine j_aload_n (pc := 35) dX12_image_35 rfl rfl ?_
    refine j_getR (pc := 36) (r := 91) fl_X12_17 dX12_image_36 (a_88 hM) rfl ?_
    refine j_iconst (pc := 39) dX12_image_39 ?_
    refine j_iald (pc := 40) dX12_image_40 (a_91 hM) (by omega) (by omega) (by decide) ?_
    refine j_topV (show σ11 91 (Int.toNat 5) = σ11 91 5 from rfl) ?_
    refine j_topV (show σ11 91 5 = σ 91 5 from (tw_ne1 eσ11 (by (first | decide | omega)))) ?_
    have f12 : (-2147483648 : Int) ≤ σ 91 5 ∧ σ 91 5 ≤ 2147483647 := hI 91 5
    refine j_iast (pc := 41) dX12_image_41 (a_89 hM) (by omega) (by omega) (by decide) (j_nm (fun σ13 (eσ13 : σ13 = tw_up σ11 89 97 (σ 91 5)) => ?_))
    have hIσ13 : tw_I σ13 := tw_I_up hIσ11 eσ13  (st_wd (by decide) (by omega))
    have hFσ13 : tw_F (fun c j => (c = 90) ∨ (c = 89 ∧ (j = 97 ∨ j = 98 ∨ (100 ≤ j ∧ j < 300)))) σ σ13 := tw_F_up hFσ11 eσ13 (show (89 = 90) ∨ (89 = 89 ∧ (97 = 97 ∨ 97 = 98 ∨ (100 ≤ 97 ∧ 97 < 300))) from by decide)
    refine j_aload_n (pc := 42) dX12_image_42 rfl rfl ?_
    refine j_getR (pc := 43) (r := 89) fl_X12_7 dX12_image_43 (a_88 hM) rfl ?_
    refine j_bipush (pc := 46) dX12_image_46 rfl ?_
    refine j_aload_n (pc := 48) dX12_image_48 rfl rfl ?_
    refine j_getR (pc := 49) (r := 91) fl_X12_17 dX12_image_49 (a_88 hM) rfl ?_
    refine j_bipush (pc := 52) dX12_image_52 rfl ?_
    refine j_iald (pc := 54) dX12_image_54 (a_91 hM) (by omega) (by omega) (by decide) ?_
    refine j_topV (show σ13 91 (Int.toNat 6) = σ13 91 6 from rfl) ?_
    refine j_topV (show σ13 91 6 = σ 91 6 from ((tw_ne1 eσ13 (by (first | decide | omega)))).trans (tw_ne1 eσ11 (by (first | decide | omega)))) ?_
    have f14 : (-2147483648 : Int) ≤ σ 91 6 ∧ σ 91 6 ≤ 2147483647 := hI 91 6
    refine j_iast (pc := 55) dX12_image_55 (a_89 hM) (by omega) (by omega) (by decide) (j_nm (fun σ15 (eσ15 : σ15 = tw_up σ13 89 98 (σ 91 6)) => ?_))
    have hIσ15 : tw_I σ15 := tw_I_up hIσ13 eσ15  (st_wd (by decide) (by omega))
    have hFσ15 : tw_F (fun c j => (c = 90) ∨ (c = 89 ∧ (j = 97 ∨ j = 98 ∨ (100 ≤ j ∧ j < 300)))) σ σ15 := tw_F_up hFσ13 eσ15 (show (89 = 90) ∨ (89 = 89 ∧ (98 = 97 ∨ 98 = 98 ∨ (100 ≤ 98 ∧ 98 < 300))) from by decide)
    refine j_aload_n (pc := 56) dX12_image_56 rfl rfl ?_
    refine j_bipush (pc := 57) dX12_image_57 rfl ?_
    refine j_bipush (pc := 59) dX12_image_59 rfl ?_
    refine j_iload_n (pc := 61) dX12_image_61 rfl rfl ?_
    refine j_imul (pc := 62) dX12_image_62 ?_
    refine j_iadd (pc := 63) dX12_image_63 ?_
    refine j_iconst (pc := 64) dX12_image_64 ?_
    have b93 : σ15 89 93 = σ 89 93 := (((tw_ne1 eσ15 (by (first | decide | omega)))).trans (tw_ne1 eσ13 (by (first | decide | omega)))).trans (tw_ne1 eσ11 (by (first | decide | omega)))
    have b94 : σ15 89 94 = σ 89 94 := (((tw_ne1 eσ15 (by (first | decide | omega)))).trans (tw_ne1 eσ13 (by (first | decide | omega)))).trans (tw_ne1 eσ11 (by (first | decide | omega)))
    have b95 : σ15 89 95 = σ 89 95 := (((tw_ne1 eσ15 (by (first | decide | omega)))).trans (tw_ne1 eσ13 (by (first | decide | omega)))).trans (tw_ne1 eσ11 (by (first | decide | omega)))
    have b96 : σ15 89 96 = σ 89 96 := (((tw_ne1 eσ15 (by (first | decide | omega)))).trans (tw_ne1 eσ13 (by (first | decide | omega)))).trans (tw_ne1 eσ11 (by (first | decide | omega)))
    have b193 : σ15 89 193 = σ 89 193 := (((tw_ne1 eσ15 (by (first | decide | omega)))).trans (tw_ne1 eσ13 (by (first | decide | omega)))).trans (tw_ne1 eσ11 (by (first | decide | omega)))
    have b194 : σ15 89 194 = σ 89 194 := (((tw_ne1 eσ15 (by (first | decide | omega)))).trans (tw_ne1 eσ13 (by (first | decide | omega)))).trans (tw_ne1 eσ11 (by (first | decide | omega)))
    have b195 : σ15 89 195 = σ 89 195 := (((tw_ne1 eσ15 (by (first | decide | omega)))).trans (tw_ne1 eσ13 (by (first | decide | omega)))).trans (tw_ne1 eσ11 (by (first | decide | omega)))
    have b196 : σ15 89 196 = σ 89 196 := (((tw_ne1 eσ15 (by (first | decide | omega)))).trans (tw_ne1 eσ13 (by (first | decide | omega)))).trans (tw_ne1 eσ11 (by (first | decide | omega)))
    have b293 : σ15 89 293 = σ 89 293 := (((tw_ne1 eσ15 (by (first | decide | omega)))).trans (tw_ne1 eσ13 (by (first | decide | omega)))).trans (tw_ne1 eσ11 (by (first | decide | omega)))
    have b294 : σ15 89 294 = σ 89 294 := (((tw_ne1 eσ15 (by (first | decide | omega)))).trans (tw_ne1 eσ13 (by (first | decide | omega)))).trans (tw_ne1 eσ11 (by (first | decide | omega)))
    have b295 : σ15 89 295 = σ 89 295 := (((tw_ne1 eσ15 (by (first | decide | omega)))).trans (tw_ne1 eσ13 (by (first | decide | omega)))).trans (tw_ne1 eσ11 (by (first | decide | omega)))
    have b296 : σ15 89 296 = σ 89 296 := (((tw_ne1 eσ15 (by (first | decide | omega)))).trans (tw_ne1 eσ13 (by (first | decide | omega)))).trans (tw_ne1 eσ11 (by (first | decide | omega)))
    refine j_callV (pc := 65) (As := [vI (100 + (100 * i)), vI 0]) (st := []) (c_X12_copies hM (100 + (100 * i)) ⟨by omega, by omega⟩ 0 (by (first | decide | exact ⟨by omega, by omega⟩)) σ15 hIσ15 (by omega) (by omega) (by omega)) mv_X12_283 rfl rfl rfl (a_88 hM) dX12_image_65 ⟨Nat.le_of_ble_eq_true rfl, Nat.le_of_ble_eq_true rfl⟩ ⟨Nat.le_refl _, Nat.le_refl _⟩ rfl (Nat.le_of_ble_eq_true rfl) rfl (fun z16 σ17 hz16 => ?_)
    obtain ⟨rfl, hIσ17, hGσ17, q18_0⟩ := hz16
    replace q18_0 : ∀ j : Nat, (j : Int) < 100 → σ17 89 ((100 + (100 * i)) + (j : Int)).toNat = σ15 89 ((0 : Int) + (j : Int)).toNat := q18_0
    have hFσ17 : tw_F (fun c j => (c = 90) ∨ (c = 89 ∧ (j = 97 ∨ j = 98 ∨ (100 ≤ j ∧ j < 300)))) σ σ17 := tw_F_tr hFσ15 hGσ17 (fun c j q => (show (c = 90) ∨ (c = 89 ∧ (j = 97 ∨ j = 98 ∨ (100 ≤ j ∧ j < 300))) from by replace q : (c = 89 ∧ (100 + (100 * i)) ≤ (j : Int) ∧ (j : Int) < (100 + (100 * i)) + 100) := q; omega))
    refine j_st (st' := []) rfl ?_
    have mI9 : mI σ17 := mI_image (i := i) ⟨by omega, by omega⟩ hI hq0 eσ11 eσ13 eσ15 hGσ17 (fun c j q => (show ¬ ((c = 89 ∧ (100 + (100 * i)) ≤ (j : Int) ∧ (j : Int) < (100 + (100 * i)) + 100)) from by omega)) q18_0
    have k93 : (i = 0 ∧ σ17 89 193 = σ15 89 93 ∧ σ17 89 293 = σ15 89 293) ∨ (i = 1 ∧ σ17 89 293 = σ15 89 93 ∧ σ17 89 193 = σ15 89 193) := by
      rcases (show i = 0 ∨ i = 1 by omega) with q | q
      · exact Or.inl ⟨q, cpy q18_0 (j := 93) (by decide) (by omega) (by omega), hGσ17 89 293 (show ¬ ((89 = 89 ∧ (100 + (100 * i)) ≤ (293 : Int) ∧ (293 : Int) < (100 + (100 * i)) + 100)) from by omega)⟩
      · exact Or.inr ⟨q, cpy q18_0 (j := 93) (by decide) (by omega) (by omega), hGσ17 89 193 (show ¬ ((89 = 89 ∧ (100 + (100 * i)) ≤ (193 : Int) ∧ (193 : Int) < (100 + (100 * i)) + 100)) from by omega)⟩
    have k94 : (i = 0 ∧ σ17 89 194 = σ15 89 94 ∧ σ17 89 294 = σ15 89 294) ∨ (i = 1 ∧ σ17 89 294 = σ15 89 94 ∧ σ17 89 194 = σ15 89 194) := by
      rcases (show i = 0 ∨ i = 1 by omega) with q | q
      · exact Or.inl ⟨q, cpy q18_0 (j := 94) (by decide) (by omega) (by omega), hGσ17 89 294 (show ¬ ((89 = 89 ∧ (100 + (100 * i)) ≤ (294 : Int) ∧ (294 : Int) < (100 + (100 * i)) + 100)) from by omega)⟩
      · exact Or.inr ⟨q, cpy q18_0 (j := 94) (by decide) (by omega) (by omega), hGσ17 89 194 (show ¬ ((89 = 89 ∧ (100 + (100 * i)) ≤ (194 : Int) ∧ (194 : Int) < (100 + (100 * i)) + 100)) from by omega)⟩
    have k95 : (i = 0 ∧ σ17 89 195 = σ15 89 95 ∧ σ17 89 295 = σ15 89 295) ∨ (i = 1 ∧ σ17 89 295 = σ15 89 95 ∧ σ17 89 195 = σ15 89 195) := by
      rcases (show i = 0 ∨ i = 1 by omega) with q | q
      · exact Or.inl ⟨q, cpy q18_0 (j := 95) (by decide) (by omega) (by omega), hGσ17 89 295 (show ¬ ((89 = 89 ∧ (100 + (100 * i)) ≤ (295 : Int) ∧ (295 : Int) < (100 + (100 * i)) + 100)) from by omega)⟩
      · exact Or.inr ⟨q, cpy q18_0 (j := 95) (by decide) (by omega) (by omega), hGσ17 89 195 (show ¬ ((89 = 89 ∧ (100 + (100 * i)) ≤ (195 : Int) ∧ (195 : Int) < (100 + (100 * i)) + 100)) from by omega)⟩
    have k96 : (i = 0 ∧ σ17 89 196 = σ15 89 96 ∧ σ17 89 296 = σ15 89 296) ∨ (i = 1 ∧ σ17 89 296 = σ15 89 96 ∧ σ17 89 196 = σ15 89 196) := by
      rcases (show i = 0 ∨ i = 1 by omega) with q | q
      · exact Or.inl ⟨q, cpy q18_0 (j := 96) (by decide) (by omega) (by omega), hGσ17 89 296 (show ¬ ((89 = 89 ∧ (100 + (100 * i)) ≤ (296 : Int) ∧ (296 : Int) < (100 + (100 * i)) + 100)) from by omega)⟩
      · exact Or.inr ⟨q, cpy q18_0 (j := 96) (by decide) (by omega) (by omega), hGσ17 89 196 (show ¬ ((89 = 89 ∧ (100 + (100 * i)) ≤ (196 : Int) ∧ (196 : Int) < (100 + (100 * i)) + 100)) from by omega)⟩
    refine j_iload_n (pc := 68) dX12_image_68 rfl rfl ?_
    have fin : ((¬ (i = 0 ∨ i = 1) ∧ ∀ c j, σ17 c j = σ c j) ∨ ((i = 0 ∨ i = 1) ∧ (∀ j : Int, 0 ≤ j → j < 97 → σ17 89 (100 + 100 * i + j).toNat = σ 89 j.toNat) ∧ σ17 89 (197 + 100 * i).toNat = σ 91 5 ∧ σ17 89 (198 + 100 * i).toNat = σ 91 6 ∧ (∀ j : Nat, (j < 97 ∨ (100 ≤ j ∧ ((j : Int) < 100 + 100 * i ∨ 200 + 100 * i ≤ (j : Int)))) → σ17 89 j = σ 89 j))) := by
      have q9 := q18_0
      have lo : ∀ j : Nat, j < 97 ∨ 99 ≤ j → σ15 89 j = σ 89 j := fun j hj => (tw_ne1 eσ15 (by (first | decide | omega))).trans ((tw_ne1 eσ13 (by (first | decide | omega))).trans (tw_ne1 eσ11 (by (first | decide | omega))))
      refine Or.inr ⟨by omega, fun j j1 j2 => ?_, ?_, ?_, fun j hj => ?_⟩
      · have e := q9 j.toNat (by omega)
        rw [show ((j.toNat : Nat) : Int) = j from by omega, show (0 + j).toNat = j.toNat from by omega] at e
        rw [e]; exact lo _ (by omega)
      · have e := q9 97 (by omega)
        rw [show (0 + ((97 : Nat) : Int)).toNat = 97 from by omega] at e
        rw [show (197 + 100 * i).toNat = (100 + 100 * i + ((97 : Nat) : Int)).toNat from by omega, e]
        exact (tw_ne1 eσ15 (by (first | decide | omega))).trans (tw_eq1 eσ13)
      · have e := q9 98 (by omega)
        rw [show (0 + ((98 : Nat) : Int)).toNat = 98 from by omega] at e
        rw [show (198 + 100 * i).toNat = (100 + 100 * i + ((98 : Nat) : Int)).toNat from by omega, e]
        exact tw_eq1 eσ15
      · exact (hGσ17 89 j (show ¬ ((89 = 89 ∧ (100 + (100 * i)) ≤ (j : Int) ∧ (j : Int) < (100 + (100 * i)) + 100)) from by omega)).trans (lo j (by omega))
    have y20 : σ17 90 0 = σ11 90 0 := (((hGσ17 90 0 (show ¬ ((90 = 89 ∧ (100 + (100 * i)) ≤ (0 : Int) ∧ (0 : Int) < (100 + (100 * i)) + 100)) from fun h => absurd h.1 (by decide)))).trans (tw_ne1 eσ15 (by (first | decide | omega)))).trans (tw_ne1 eσ13 (by (first | decide | omega)))
    have f21 : (0 : Int) ≤ σ11 90 0 ∧ σ11 90 0 ≤ 1 := hIσ11 90 0
    have y22 : σ17 90 1 = σ11 90 1 := (((hGσ17 90 1 (show ¬ ((90 = 89 ∧ (100 + (100 * i)) ≤ (1 : Int) ∧ (1 : Int) < (100 + (100 * i)) + 100)) from fun h => absurd h.1 (by decide)))).trans (tw_ne1 eσ15 (by (first | decide | omega)))).trans (tw_ne1 eσ13 (by (first | decide | omega)))
    have f23 : (0 : Int) ≤ σ11 90 1 ∧ σ11 90 1 ≤ 1 := hIσ11 90 1
    exact j_iret (pc := 69) ⟨rfl, rfl⟩ dX12_image_69 rfl ⟨_, rfl, ⟨by omega, by omega⟩, hIσ17, hFσ17, (by first | exact mI9 | exact hq0), by omega, by omega, by omega, by omega, by omega, by omega, by omega, by omega, by omega, fin⟩
  · refine j_iconst (pc := 10) dX12_image_10 ?_
    have fin : ((¬ (i = 0 ∨ i = 1) ∧ ∀ c j, σ c j = σ c j) ∨ ((i = 0 ∨ i = 1) ∧ (∀ j : Int, 0 ≤ j → j < 97 → σ 89 (100 + 100 * i + j).toNat = σ 89 j.toNat) ∧ σ 89 (197 + 100 * i).toNat = σ 91 5 ∧ σ 89 (198 + 100 * i).toNat = σ 91 6 ∧ (∀ j : Nat, (j < 97 ∨ (100 ≤ j ∧ ((j : Int) < 100 + 100 * i ∨ 200 + 100 * i ≤ (j : Int)))) → σ 89 j = σ 89 j))) := Or.inl ⟨by omega, fun c j => rfl⟩
    exact j_iret (pc := 11) ⟨rfl, rfl⟩ dX12_image_11 rfl ⟨_, rfl, ⟨by omega, by omega⟩, hI, (tw_F_rf), (by first | exact mI9 | exact hq0), by omega, by omega, by omega, by omega, by omega, by omega, by omega, by omega, by omega, fin⟩
abbrev q_X12_back (i : Int) (σ : tw_M) : Option tw_V → tw_M → Prop := fun z τ => ∃ r : Int, z = some (vI r) ∧ (-2147483648 ≤ r ∧ r ≤ 2147483647) ∧ tw_I τ ∧ tw_F (fun c j => (c = 89 ∧ j < 100) ∨ (c = 91 ∧ (j = 5 ∨ j = 6))) σ τ ∧ (mI τ) ∧ ((τ 89 93 = σ 89 93 ∧ (¬ (i = 0 ∨ i = 1) ∨ (i = 0 ∧ σ 90 0 = 0) ∨ (i = 1 ∧ σ 90 1 = 0))) ∨ (i = 0 ∧ ¬ σ 90 0 = 0 ∧ τ 89 93 = σ 89 193) ∨ (i = 1 ∧ ¬ σ 90 1 = 0 ∧ τ 89 93 = σ 89 293)) ∧ ((τ 89 94 = σ 89 94 ∧ (¬ (i = 0 ∨ i = 1) ∨ (i = 0 ∧ σ 90 0 = 0) ∨ (i = 1 ∧ σ 90 1 = 0))) ∨ (i = 0 ∧ ¬ σ 90 0 = 0 ∧ τ 89 94 = σ 89 194) ∨ (i = 1 ∧ ¬ σ 90 1 = 0 ∧ τ 89 94 = σ 89 294)) ∧ ((τ 89 95 = σ 89 95 ∧ (¬ (i = 0 ∨ i = 1) ∨ (i = 0 ∧ σ 90 0 = 0) ∨ (i = 1 ∧ σ 90 1 = 0))) ∨ (i = 0 ∧ ¬ σ 90 0 = 0 ∧ τ 89 95 = σ 89 195) ∨ (i = 1 ∧ ¬ σ 90 1 = 0 ∧ τ 89 95 = σ 89 295)) ∧ ((τ 89 96 = σ 89 96 ∧ (¬ (i = 0 ∨ i = 1) ∨ (i = 0 ∧ σ 90 0 = 0) ∨ (i = 1 ∧ σ 90 1 = 0))) ∨ (i = 0 ∧ ¬ σ 90 0 = 0 ∧ τ 89 96 = σ 89 196) ∨ (i = 1 ∧ ¬ σ 90 1 = 0 ∧ τ 89 96 = σ 89 296)) ∧ (((r = -1 ∧ ¬ (i = 0 ∨ i = 1) ∧ ∀ c j, τ c j = σ c j) ∨ (r = -2 ∧ (i = 0 ∨ i = 1) ∧ σ 90 i.toNat = 0 ∧ ∀ c j, τ c j = σ c j) ∨ ((i = 0 ∨ i = 1) ∧ ¬ σ 90 i.toNat = 0 ∧ (∀ j : Int, 0 ≤ j → j < 97 → τ 89 j.toNat = σ 89 (100 + 100 * i + j).toNat) ∧ τ 91 5 = σ 89 (197 + 100 * i).toNat ∧ τ 91 6 = σ 89 (198 + 100 * i).toNat ∧ r = cnt (gM 0 τ) (σ 91 0).toNat)))
set_option maxHeartbeats 4000000 in
set_option maxRecDepth 100000 in
theorem c_X12_back {G : tw_G} (hM : tw_isM G) (i : Int) (hi : -2147483648 ≤ i ∧ i ≤ 2147483647) (σ : tw_M) (hI : tw_I σ) (hq0 : mI σ) : tw_C G yX12_back cX12_back 2 (some .int) 3 [vR 88, vI i] σ (q_X12_back i σ) := by
  refine tw_met [(0, vR 88), (1, vI i)] (by decide +kernel) rfl (Nat.le_of_ble_eq_true rfl) ?_
  refine j_iload_n (pc := 0) dX12_back_0 rfl rfl ?_
  refine j_i2l (pc := 1) dX12_back_1 ?_
  rw [w32_eq (a := i) (by omega) (by omega)]
  refine j_lconst (pc := 2) (z := 0) dX12_back_2 rfl ?_
  refine j_lconst (pc := 3) (z := 1) dX12_back_3 rfl ?_
  refine j_callS (pc := 4) (As := [vL i, vL 0, vL 1]) (st := []) (c_X12_in i ⟨by omega, by omega⟩ 0 (by (first | decide | exact ⟨by omega, by omega⟩)) 1 (by (first | decide | exact ⟨by omega, by omega⟩)) σ hI) ms_X12_82 rfl dX12_back_4 ⟨Nat.le_of_ble_eq_true rfl, Nat.le_of_ble_eq_true rfl⟩ ⟨Nat.le_refl _, Nat.le_refl _⟩ rfl (Nat.le_of_ble_eq_true rfl) rfl (fun z1 σ2 hz1 => ?_)
  obtain ⟨r4, rfl, hr4, rfl, q3_0⟩ := hz1
  replace q3_0 : (r4 = 1 ∧ (0 : Int) ≤ i ∧ i ≤ (1 : Int)) ∨ (r4 = 0 ∧ ¬ ((0 : Int) ≤ i ∧ i ≤ (1 : Int))) := q3_0
  refine j_st (st' := [vI r4]) rfl ?_
  refine j_ifR_ne (pc := 7) (tgt := 12) ⟨by omega, by omega⟩ dX12_back_7 rfl (fun h5 => ?_) (fun h5 => ?_)
  · refine j_aload_n (pc := 12) dX12_back_12 rfl rfl ?_
    refine j_getR (pc := 13) (r := 90) fl_X12_13 dX12_back_13 (a_88 hM) rfl ?_
    refine j_iload_n (pc := 16) dX12_back_16 rfl rfl ?_
    have k1 : (i = 0 ∧ σ 90 i.toNat = σ 90 0) ∨ (i = 1 ∧ σ 90 i.toNat = σ 90 1) := by
      rcases (show i = 0 ∨ i = 1 by omega) with q | q
      · exact Or.inl ⟨q, by rw [q]; rfl⟩
      · exact Or.inr ⟨q, by rw [q]; rfl⟩
    refine j_zald (pc := 17) dX12_back_17 (a_90 hM) (by omega) (by omega) (by decide) ?_
    have f6 : (0 : Int) ≤ σ 90 (i.toNat) ∧ σ 90 (i.toNat) ≤ 1 := hI 90 (i.toNat)
    refine j_ifR_ne (pc := 18) (tgt := 24) ⟨by omega, by omega⟩ dX12_back_18 rfl (fun h7 => ?_) (fun h7 => ?_)
    · refine j_aload_n (pc := 24) dX12_back_24 rfl rfl ?_
      refine j_iconst (pc := 25) dX12_back_25 ?_
      refine j_bipush (pc := 26) dX12_back_26 rfl ?_
      refine j_bipush (pc := 28) dX12_back_28 rfl ?_
      refine j_iload_n (pc := 30) dX12_back_30 rfl rfl ?_
      refine j_imul (pc := 31) dX12_back_31 ?_
      refine j_iadd (pc := 32) dX12_back_32 ?_
      refine j_callV (pc := 33) (As := [vI 0, vI (100 + (100 * i))]) (st := []) (c_X12_copies hM 0 (by (first | decide | exact ⟨by omega, by omega⟩)) (100 + (100 * i)) ⟨by omega, by omega⟩ σ hI (by omega) (by omega) (by omega)) mv_X12_283 rfl rfl rfl (a_88 hM) dX12_back_33 ⟨Nat.le_of_ble_eq_true rfl, Nat.le_of_ble_eq_true rfl⟩ ⟨Nat.le_refl _, Nat.le_refl _⟩ rfl (Nat.le_of_ble_eq_true rfl) rfl (fun z8 σ9 hz8 => ?_)
      obtain ⟨rfl, hIσ9, hGσ9, q10_0⟩ := hz8
      replace q10_0 : ∀ j : Nat, (j : Int) < 100 → σ9 89 ((0 : Int) + (j : Int)).toNat = σ 89 ((100 + (100 * i)) + (j : Int)).toNat := q10_0
      have hFσ9 : tw_F (fun c j => (c = 89 ∧ j < 100) ∨ (c = 91 ∧ (j = 5 ∨ j = 6))) σ σ9 := tw_F_tr (tw_F_rf) hGσ9 (fun c j q => (show (c = 89 ∧ j < 100) ∨ (c = 91 ∧ (j = 5 ∨ j = 6)) from by replace q : (c = 89 ∧ (0 : Int) ≤ (j : Int) ∧ (j : Int) < (0 : Int) + 100) := q; omega))
      refine j_st (st' := []) rfl ?_
      have k93 : (i = 0 ∧ σ9 89 93 = σ 89 193) ∨ (i = 1 ∧ σ9 89 93 = σ 89 293) := by
        rcases (show i = 0 ∨ i = 1 by omega) with q | q
        · exact Or.inl ⟨q, cpy q10_0 (j := 93) (by decide) (by omega) (by omega)⟩
        · exact Or.inr ⟨q, cpy q10_0 (j := 93) (by decide) (by omega) (by omega)⟩
      have k94 : (i = 0 ∧ σ9 89 94 = σ 89 194) ∨ (i = 1 ∧ σ9 89 94 = σ 89 294) := by
        rcases (show i = 0 ∨ i = 1 by omega) with q | q
        · exact Or.inl ⟨q, cpy q10_0 (j := 94) (by decide) (by omega) (by omega)⟩
        · exact Or.inr ⟨q, cpy q10_0 (j := 94) (by decide) (by omega) (by omega)⟩
      have k95 : (i = 0 ∧ σ9 89 95 = σ 89 195) ∨ (i = 1 ∧ σ9 89 95 = σ 89 295) := by
        rcases (show i = 0 ∨ i = 1 by omega) with q | q
        · exact Or.inl ⟨q, cpy q10_0 (j := 95) (by decide) (by omega) (by omega)⟩
        · exact Or.inr ⟨q, cpy q10_0 (j := 95) (by decide) (by omega) (by omega)⟩
      have k96 : (i = 0 ∧ σ9 89 96 = σ 89 196) ∨ (i = 1 ∧ σ9 89 96 = σ 89 296) := by
        rcases (show i = 0 ∨ i = 1 by omega) with q | q
        · exact Or.inl ⟨q, cpy q10_0 (j := 96) (by decide) (by omega) (by omega)⟩
        · exact Or.inr ⟨q, cpy q10_0 (j := 96) (by decide) (by omega) (by omega)⟩
      have q9 := q10_0
      refine j_aload_n (pc := 36) dX12_back_36 rfl rfl ?_
      refine j_getR (pc := 37) (r := 91) fl_X12_17 dX12_back_37 (a_88 hM) rfl ?_
      refine j_iconst (pc := 40) dX12_back_40 ?_
      refine j_aload_n (pc := 41) dX12_back_41 rfl rfl ?_
      refine j_getR (pc := 42) (r := 89) fl_X12_7 dX12_back_42 (a_88 hM) rfl ?_
      refine j_bipush (pc := 45) dX12_back_45 rfl ?_
      refine j_iald (pc := 47) dX12_back_47 (a_89 hM) (by omega) (by omega) (by decide) ?_
      refine j_topV (show σ9 89 (Int.toNat 97) = σ9 89 97 from rfl) ?_
      have f12 : (-2147483648 : Int) ≤ σ9 89 97 ∧ σ9 89 97 ≤ 2147483647 := hIσ9 89 97
      refine j_iast (pc := 48) dX12_back_48 (a_91 hM) (by omega) (by omega) (by decide) (j_nm (fun σ13 (eσ13 : σ13 = tw_up σ9 91 5 (σ9 89 97)) => ?_))
      have hIσ13 : tw_I σ13 := tw_I_up hIσ9 eσ13 (show (-2147483648 : Int) ≤ σ9 89 97 ∧ σ9 89 97 ≤ 2147483647 from ⟨by omega, by omega⟩)
      have hFσ13 : tw_F (fun c j => (c = 89 ∧ j < 100) ∨ (c = 91 ∧ (j = 5 ∨ j = 6))) σ σ13 := tw_F_up hFσ9 eσ13 (show (91 = 89 ∧ 5 < 100) ∨ (91 = 91 ∧ (5 = 5 ∨ 5 = 6)) from (Or.inr ⟨rfl, (Or.inl rfl)⟩))
      refine j_aload_n (pc := 49) dX12_back_49 rfl rfl ?_
      refine j_getR (pc := 50) (r := 91) fl_X12_17 dX12_back_50 (a_88 hM) rfl ?_
      refine j_bipush (pc := 53) dX12_back_53 rfl ?_
      refine j_aload_n (pc := 55) dX12_back_55 rfl rfl ?_
      refine j_getR (pc := 56) (r := 89) fl_X12_7 dX12_back_56 (a_88 hM) rfl ?_
      refine j_bipush (pc := 59) dX12_back_59 rfl ?_
      refine j_iald (pc := 61) dX12_back_61 (a_89 hM) (by omega) (by omega) (by decide) ?_
      refine j_topV (show σ13 89 (Int.toNat 98) = σ13 89 98 from rfl) ?_
      refine j_topV (show σ13 89 98 = σ9 89 98 from (tw_ne1 eσ13 (by (first | decide | omega)))) ?_
      have f14 : (-2147483648 : Int) ≤ σ9 89 98 ∧ σ9 89 98 ≤ 2147483647 := hIσ9 89 98
      refine j_iast (pc := 62) dX12_back_62 (a_91 hM) (by omega) (by omega) (by decide) (j_nm (fun σ15 (eσ15 : σ15 = tw_up σ13 91 6 (σ9 89 98)) => ?_))
      have hIσ15 : tw_I σ15 := tw_I_up hIσ13 eσ15 (show (-2147483648 : Int) ≤ σ9 89 98 ∧ σ9 89 98 ≤ 2147483647 from ⟨by omega, by omega⟩)
      have hFσ15 : tw_F (fun c j => (c = 89 ∧ j < 100) ∨ (c = 91 ∧ (j = 5 ∨ j = 6))) σ σ15 := tw_F_up hFσ13 eσ15 (show (91 = 89 ∧ 6 < 100) ∨ (91 = 91 ∧ (6 = 5 ∨ 6 = 6)) from (Or.inr ⟨rfl, (Or.inr rfl)⟩))
      have mI9 : mI σ15 := mI_back (i := i) ⟨by omega, by omega⟩ hI hq0 (by omega) hGσ9 (fun c j q => (show ¬ ((c = 89 ∧ (0 : Int) ≤ (j : Int) ∧ (j : Int) < (0 : Int) + 100)) from by omega)) q10_0 (fun c j q => by rw [tw_ne1 eσ15 (by (first | decide | omega)), tw_ne1 eσ13 (by (first | decide | omega))])
      refine j_aload_n (pc := 63) dX12_back_63 rfl rfl ?_
      refine j_iconst (pc := 64) dX12_back_64 ?_
      refine j_callV (pc := 65) (As := [vI 0]) (st := []) (c_X12_all hM 0 (by (first | decide | exact ⟨by omega, by omega⟩)) σ15 hIσ15) mv_X12_192 rfl rfl rfl (a_88 hM) dX12_back_65 ⟨Nat.le_of_ble_eq_true rfl, Nat.le_of_ble_eq_true rfl⟩ ⟨Nat.le_refl _, Nat.le_refl _⟩ rfl (Nat.le_of_ble_eq_true rfl) rfl (fun z16 σ17 hz16 => ?_)
      obtain ⟨r19, rfl, hr19, rfl, q18_0⟩ := hz16
      replace q18_0 : r19 = mc σ15 (0 : Int) (σ15 91 0).toNat := q18_0
      refine j_st (st' := [vI r19]) rfl ?_
      have fin : ((r19 = -1 ∧ ¬ (i = 0 ∨ i = 1) ∧ ∀ c j, σ15 c j = σ c j) ∨ (r19 = -2 ∧ (i = 0 ∨ i = 1) ∧ σ 90 i.toNat = 0 ∧ ∀ c j, σ15 c j = σ c j) ∨ ((i = 0 ∨ i = 1) ∧ ¬ σ 90 i.toNat = 0 ∧ (∀ j : Int, 0 ≤ j → j < 97 → σ15 89 j.toNat = σ 89 (100 + 100 * i + j).toNat) ∧ σ15 91 5 = σ 89 (197 + 100 * i).toNat ∧ σ15 91 6 = σ 89 (198 + 100 * i).toNat ∧ r19 = cnt (gM 0 σ15) (σ 91 0).toNat)) := by
        have ft : (1 : Int) ≤ σ 91 0 ∧ σ 91 0 ≤ 40 := hI 91 0
        have n0 : σ15 91 0 = σ 91 0 := (tw_ne1 eσ15 (by (first | decide | omega))).trans ((tw_ne1 eσ13 (by (first | decide | omega))).trans (hGσ9 91 0 (show ¬ ((91 = 89 ∧ (0 : Int) ≤ (0 : Int) ∧ (0 : Int) < (0 : Int) + 100)) from fun h => absurd h.1 (by decide))))
        have r9 := q18_0
        rw [n0, mc_gM (by omega)] at r9
        have e5 := q9 97 (by omega)
        have e6 := q9 98 (by omega)
        rw [show (0 + ((97 : Nat) : Int)).toNat = 97 from by omega] at e5
        rw [show (0 + ((98 : Nat) : Int)).toNat = 98 from by omega] at e6
        refine Or.inr (Or.inr ⟨by omega, by omega, fun j j1 j2 => ?_, ?_, ?_, r9⟩)
        · have e := q9 j.toNat (by omega)
          rw [show ((j.toNat : Nat) : Int) = j from by omega, show (0 + j).toNat = j.toNat from by omega] at e
          exact (tw_ne1 eσ15 (by (first | decide | omega))).trans ((tw_ne1 eσ13 (by (first | decide | omega))).trans e)
        · rw [show (197 + 100 * i).toNat = (100 + 100 * i + ((97 : Nat) : Int)).toNat from by omega, ← e5]
          exact (tw_ne1 eσ15 (by (first | decide | omega))).trans (tw_eq1 eσ13)
        · rw [show (198 + 100 * i).toNat = (100 + 100 * i + ((98 : Nat) : Int)).toNat from by omega, ← e6]
          first | exact tw_eq1 eσ15 | exact (tw_eq1 eσ15).trans (tw_ne1 eσ13 (by (first | decide | omega)))
      have y20 : σ15 89 93 = σ9 89 93 := ((tw_ne1 eσ15 (by (first | decide | omega)))).trans (tw_ne1 eσ13 (by (first | decide | omega)))
      have f21 : (0 : Int) ≤ σ9 89 93 ∧ σ9 89 93 ≤ 999 := hIσ9 89 93
      have y22 : σ15 89 94 = σ9 89 94 := ((tw_ne1 eσ15 (by (first | decide | omega)))).trans (tw_ne1 eσ13 (by (first | decide | omega)))
      have f23 : (-2147483648 : Int) ≤ σ9 89 94 ∧ σ9 89 94 ≤ 2147483647 := hIσ9 89 94
      have y24 : σ15 89 95 = σ9 89 95 := ((tw_ne1 eσ15 (by (first | decide | omega)))).trans (tw_ne1 eσ13 (by (first | decide | omega)))
      have f25 : (0 : Int) ≤ σ9 89 95 ∧ σ9 89 95 ≤ 999 := hIσ9 89 95
      have y26 : σ15 89 96 = σ9 89 96 := ((tw_ne1 eσ15 (by (first | decide | omega)))).trans (tw_ne1 eσ13 (by (first | decide | omega)))
      have f27 : (-2147483648 : Int) ≤ σ9 89 96 ∧ σ9 89 96 ≤ 2147483647 := hIσ9 89 96
      have y28 : σ15 91 5 = σ9 89 97 := ((tw_ne1 eσ15 (by (first | decide | omega)))).trans (tw_eq1 eσ13)
      have y29 : σ15 91 6 = σ9 89 98 := (tw_eq1 eσ15)
      exact j_iret (pc := 68) ⟨rfl, rfl⟩ dX12_back_68 rfl ⟨_, rfl, ⟨by omega, by omega⟩, hIσ15, hFσ15, (by first | exact mI9 | exact hq0), by omega, by omega, by omega, by omega, fin⟩
    · refine j_bipush (pc := 21) dX12_back_21 rfl ?_
      have fin : (((-2) = -1 ∧ ¬ (i = 0 ∨ i = 1) ∧ ∀ c j, σ c j = σ c j) ∨ ((-2) = -2 ∧ (i = 0 ∨ i = 1) ∧ σ 90 i.toNat = 0 ∧ ∀ c j, σ c j = σ c j) ∨ ((i = 0 ∨ i = 1) ∧ ¬ σ 90 i.toNat = 0 ∧ (∀ j : Int, 0 ≤ j → j < 97 → σ 89 j.toNat = σ 89 (100 + 100 * i + j).toNat) ∧ σ 91 5 = σ 89 (197 + 100 * i).toNat ∧ σ 91 6 = σ 89 (198 + 100 * i).toNat ∧ (-2) = cnt (gM 0 σ) (σ 91 0).toNat)) := Or.inr (Or.inl ⟨rfl, by omega, by omega, fun c j => rfl⟩)
      exact j_iret (pc := 23) ⟨rfl, rfl⟩ dX12_back_23 rfl ⟨_, rfl, ⟨by omega, by omega⟩, hI, (tw_F_rf), (by first | exact mI9 | exact hq0), by omega, by omega, by omega, by omega, fin⟩
  · refine j_iconst (pc := 10) dX12_back_10 ?_
    have fin : (((-1) = -1 ∧ ¬ (i = 0 ∨ i = 1) ∧ ∀ c j, σ c j = σ c j) ∨ ((-1) = -2 ∧ (i = 0 ∨ i = 1) ∧ σ 90 i.toNat = 0 ∧ ∀ c j, σ c j = σ c j) ∨ ((i = 0 ∨ i = 1) ∧ ¬ σ 90 i.toNat = 0 ∧ (∀ j : Int, 0 ≤ j → j < 97 → σ 89 j.toNat = σ 89 (100 + 100 * i + j).toNat) ∧ σ 91 5 = σ 89 (197 + 100 * i).toNat ∧ σ 91 6 = σ 89 (198 + 100 * i).toNat ∧ (-1) = cnt (gM 0 σ) (σ 91 0).toNat)) := Or.inl ⟨rfl, by omega, fun c j => rfl⟩
    exact j_iret (pc := 11) ⟨rfl, rfl⟩ dX12_back_11 rfl ⟨_, rfl, ⟨by omega, by omega⟩, hI, (tw_F_rf), (by first | exact mI9 | exact hq0), by omega, by omega, by omega, by omega, fin⟩
abbrev q_X12_isSheet (k : Int) (l : Int) (σ : tw_M) : Option tw_V → tw_M → Prop := fun z τ => ∃ r : Int, z = some (vI r) ∧ (0 ≤ r ∧ r ≤ 1) ∧ σ = τ ∧ ((r = 1 ∧ 0 ≤ k ∧ k ≤ 3 ∧ 0 ≤ l ∧ l ≤ 2) ∨ (r = 0 ∧ ¬ (0 ≤ k ∧ k ≤ 3 ∧ 0 ≤ l ∧ l ≤ 2)))
set_option maxHeartbeats 4000000 in
set_option maxRecDepth 100000 in
theorem c_X12_isSheet {G : tw_G} (k : Int) (hk : -2147483648 ≤ k ∧ k ≤ 2147483647) (l : Int) (hl : -2147483648 ≤ l ∧ l ≤ 2147483647) (σ : tw_M) (hI : tw_I σ) : tw_C G yX12_isSheet cX12_isSheet 2 (some .boolean) 1 [vI k, vI l] σ (q_X12_isSheet k l σ) := by
  refine tw_met [(0, vI k), (1, vI l)] (by decide +kernel) rfl (Nat.le_of_ble_eq_true rfl) ?_
  refine j_iload_n (pc := 0) dX12_isSheet_0 rfl rfl ?_
  refine j_i2l (pc := 1) dX12_isSheet_1 ?_
  rw [w32_eq (a := k) (by omega) (by omega)]
  refine j_lconst (pc := 2) (z := 0) dX12_isSheet_2 rfl ?_
  refine j_ldc2 (pc := 3) (z := 3) dX12_isSheet_3 (tw_inc tm_8 (i := 40) rfl rfl) ?_
  refine j_callS (pc := 6) (As := [vL k, vL 0, vL 3]) (st := []) (c_X12_in k ⟨by omega, by omega⟩ 0 (by (first | decide | exact ⟨by omega, by omega⟩)) 3 (by (first | decide | exact ⟨by omega, by omega⟩)) σ hI) ms_X12_82 rfl dX12_isSheet_6 ⟨Nat.le_of_ble_eq_true rfl, Nat.le_of_ble_eq_true rfl⟩ ⟨Nat.le_refl _, Nat.le_refl _⟩ rfl (Nat.le_of_ble_eq_true rfl) rfl (fun z1 σ2 hz1 => ?_)
  obtain ⟨r4, rfl, hr4, rfl, q3_0⟩ := hz1
  replace q3_0 : (r4 = 1 ∧ (0 : Int) ≤ k ∧ k ≤ (3 : Int)) ∨ (r4 = 0 ∧ ¬ ((0 : Int) ≤ k ∧ k ≤ (3 : Int))) := q3_0
  refine j_st (st' := [vI r4]) rfl ?_
  refine j_ifR_eq (pc := 9) (tgt := 28) ⟨by omega, by omega⟩ dX12_isSheet_9 rfl (fun h5 => ?_) (fun h5 => ?_)
  · refine j_iconst (pc := 28) dX12_isSheet_28 ?_
    exact j_zret (pc := 29) ⟨rfl, rfl⟩ dX12_isSheet_29 rfl (nar_bool (by omega) (by omega)) ⟨_, rfl, ⟨by omega, by omega⟩, rfl, by omega⟩
  · refine j_iload_n (pc := 12) dX12_isSheet_12 rfl rfl ?_
    refine j_i2l (pc := 13) dX12_isSheet_13 ?_
    rw [w32_eq (a := l) (by omega) (by omega)]
    refine j_lconst (pc := 14) (z := 0) dX12_isSheet_14 rfl ?_
    refine j_ldc2 (pc := 15) (z := 2) dX12_isSheet_15 (tw_inc tm_7 (i := 149) rfl rfl) ?_
    refine j_callS (pc := 18) (As := [vL l, vL 0, vL 2]) (st := []) (c_X12_in l ⟨by omega, by omega⟩ 0 (by (first | decide | exact ⟨by omega, by omega⟩)) 2 (by (first | decide | exact ⟨by omega, by omega⟩)) σ hI) ms_X12_82 rfl dX12_isSheet_18 ⟨Nat.le_of_ble_eq_true rfl, Nat.le_of_ble_eq_true rfl⟩ ⟨Nat.le_refl _, Nat.le_refl _⟩ rfl (Nat.le_of_ble_eq_true rfl) rfl (fun z6 σ7 hz6 => ?_)
    obtain ⟨r9, rfl, hr9, rfl, q8_0⟩ := hz6
    replace q8_0 : (r9 = 1 ∧ (0 : Int) ≤ l ∧ l ≤ (2 : Int)) ∨ (r9 = 0 ∧ ¬ ((0 : Int) ≤ l ∧ l ≤ (2 : Int))) := q8_0
    refine j_st (st' := [vI r9]) rfl ?_
    refine j_ifR_eq (pc := 21) (tgt := 28) ⟨by omega, by omega⟩ dX12_isSheet_21 rfl (fun h10 => ?_) (fun h10 => ?_)
    · refine j_iconst (pc := 28) dX12_isSheet_28 ?_
      exact j_zret (pc := 29) ⟨rfl, rfl⟩ dX12_isSheet_29 rfl (nar_bool (by omega) (by omega)) ⟨_, rfl, ⟨by omega, by omega⟩, rfl, by omega⟩
    · refine j_iconst (pc := 24) dX12_isSheet_24 ?_
      refine j_goto (pc := 25) (tgt := 29) dX12_isSheet_25 rfl ?_
      exact j_zret (pc := 29) ⟨rfl, rfl⟩ dX12_isSheet_29 rfl (nar_bool (by omega) (by omega)) ⟨_, rfl, ⟨by omega, by omega⟩, rfl, by omega⟩
abbrev q_X12_sheet (k : Int) (l : Int) (n : Int) (σ : tw_M) : Option tw_V → tw_M → Prop := fun z τ => ∃ r : Int, z = some (vI r) ∧ (-2147483648 ≤ r ∧ r ≤ 2147483647) ∧ tw_I τ ∧ tw_F (fun c j => (104 ≤ c ∧ c < 107)) σ τ ∧ ((r = -1 ∧ (¬ (0 ≤ k ∧ k ≤ 3 ∧ 0 ≤ l ∧ l ≤ 2) ∨ 40 < n)) ∨ (r = -14 ∧ 0 ≤ k ∧ k ≤ 3 ∧ 0 ≤ l ∧ l ≤ 2 ∧ n < 0) ∨ (r = 1 ∧ 0 ≤ k ∧ k ≤ 3 ∧ 0 ≤ l ∧ l ≤ 2 ∧ 0 ≤ n ∧ n ≤ 40)) ∧ ((k = 0 ∧ r = 1 ∧ τ 104 0 = l ∧ τ 105 0 = n) ∨ (¬ (k = 0 ∧ r = 1) ∧ τ 104 0 = σ 104 0 ∧ τ 105 0 = σ 105 0)) ∧ ((k = 1 ∧ r = 1 ∧ τ 104 1 = l ∧ τ 105 1 = n) ∨ (¬ (k = 1 ∧ r = 1) ∧ τ 104 1 = σ 104 1 ∧ τ 105 1 = σ 105 1)) ∧ ((k = 2 ∧ r = 1 ∧ τ 104 2 = l ∧ τ 105 2 = n) ∨ (¬ (k = 2 ∧ r = 1) ∧ τ 104 2 = σ 104 2 ∧ τ 105 2 = σ 105 2)) ∧ ((k = 3 ∧ r = 1 ∧ τ 104 3 = l ∧ τ 105 3 = n) ∨ (¬ (k = 3 ∧ r = 1) ∧ τ 104 3 = σ 104 3 ∧ τ 105 3 = σ 105 3)) ∧ ((r = 1 ∧ (∀ j : Int, 0 ≤ j → j < 40 → τ 106 (40 * k + j).toNat = 0) ∧ ∀ j : Nat, ((j : Int) < 40 * k ∨ 40 * k + 40 ≤ (j : Int)) → τ 106 j = σ 106 j) ∨ (¬ r = 1 ∧ ∀ j : Nat, τ 106 j = σ 106 j))
set_option maxHeartbeats 4000000 in
set_option maxRecDepth 100000 in
theorem l_X12_sheet {G : tw_G} (hM : tw_isM G) (k : Int) (hk : -2147483648 ≤ k ∧ k ≤ 2147483647) (l : Int) (hl : -2147483648 ≤ l ∧ l ≤ 2147483647) (n : Int) (hn : -2147483648 ≤ n ∧ n ≤ 2147483647) (σ : tw_M) (hI : tw_I σ) : ∀ N_ : Nat, (∀ (i : Int) (hi : 0 ≤ i ∧ i ≤ 40) (τ : tw_M) (hIτ : tw_I τ) (hFτ : tw_F (fun c j => (104 ≤ c ∧ c < 107)) σ τ) (i0 : 0 ≤ k ∧ k ≤ 3 ∧ 0 ≤ l ∧ l ≤ 2 ∧ 0 ≤ n ∧ n ≤ 40) (i1 : (k = 0 ∧ τ 104 0 = l ∧ τ 105 0 = n) ∨ (¬ k = 0 ∧ τ 104 0 = σ 104 0 ∧ τ 105 0 = σ 105 0)) (i2 : (k = 1 ∧ τ 104 1 = l ∧ τ 105 1 = n) ∨ (¬ k = 1 ∧ τ 104 1 = σ 104 1 ∧ τ 105 1 = σ 105 1)) (i3 : (k = 2 ∧ τ 104 2 = l ∧ τ 105 2 = n) ∨ (¬ k = 2 ∧ τ 104 2 = σ 104 2 ∧ τ 105 2 = σ 105 2)) (i4 : (k = 3 ∧ τ 104 3 = l ∧ τ 105 3 = n) ∨ (¬ k = 3 ∧ τ 104 3 = σ 104 3 ∧ τ 105 3 = σ 105 3)) (i5 : (∀ j : Int, 0 ≤ j → j < i → τ 106 (40 * k + j).toNat = 0) ∧ ∀ j : Nat, ((j : Int) < 40 * k ∨ 40 * k + 40 ≤ (j : Int)) → τ 106 j = σ 106 j) (hm : (40 - i).toNat < N_), tw_J G (tw_mt RX12 cX12_sheet 5 (some .int) 2) (tw_E G (q_X12_sheet k l n σ)) 40 [(0, vR 88), (1, vI k), (4, vI i)] [] τ) := by
  intro N_
  induction N_ with
  | zero => exact fun i hi τ hIτ hFτ i0 i1 i2 i3 i4 i5 hm => absurd hm (Nat.not_lt_zero _)
  | succ N_ ih =>
    intro i hi τ hIτ hFτ i0 i1 i2 i3 i4 i5 hm
    refine j_iload (pc := 40) dX12_sheet_40 rfl ?_
    refine j_bipush (pc := 42) dX12_sheet_42 rfl ?_
    refine j_icmpR_ge (pc := 44) (tgt := 66) ⟨by omega, by omega⟩ ⟨by omega, by omega⟩ dX12_sheet_44 rfl (fun h1 => ?_) (fun h1 => ?_)
    · refine j_iconst (pc := 66) dX12_sheet_66 ?_
      exact j_iret (pc := 67) ⟨rfl, rfl⟩ dX12_sheet_67 rfl ⟨_, rfl, ⟨by omega, by omega⟩, hIτ, hFτ, by omega, by omega, by omega, by omega, by omega, (by first | exact Or.inl ⟨rfl, fun j j1 j2 => i5.1 j j1 (by omega), i5.2⟩ | exact Or.inr ⟨by decide, fun j => rfl⟩)⟩
    · refine j_aload_n (pc := 47) dX12_sheet_47 rfl rfl ?_
      refine j_getR (pc := 48) (r := 106) fl_X12_62 dX12_sheet_48 (a_88 hM) rfl ?_
      refine j_bipush (pc := 51) dX12_sheet_51 rfl ?_
      refine j_iload_n (pc := 53) dX12_sheet_53 rfl rfl ?_
      refine j_imul (pc := 54) dX12_sheet_54 ?_
      refine j_iload (pc := 55) dX12_sheet_55 rfl ?_
      refine j_iadd (pc := 57) dX12_sheet_57 ?_
      refine j_iconst (pc := 58) dX12_sheet_58 ?_
      refine j_iast (pc := 59) dX12_sheet_59 (a_106 hM) (by omega) (by omega) (by decide) (j_nm (fun σ2 (eσ2 : σ2 = tw_up τ 106 (((40 * k) + i).toNat) 0) => ?_))
      have hIσ2 : tw_I σ2 := tw_I_up hIτ eσ2 (show (-2147483648 : Int) ≤ 0 ∧ 0 ≤ 2147483647 from by decide)
      have hFσ2 : tw_F (fun c j => (104 ≤ c ∧ c < 107)) σ σ2 := tw_F_up hFτ eσ2 (show (104 ≤ 106 ∧ 106 < 107) from (by decide))
      refine j_iinc (pc := 60) (i := 4) (n := 1) (ls' := [(0, vR 88), (1, vI k), (4, vI (i + 1))]) [1, 2, 0] dX12_sheet_60 rfl (Nat.le_of_ble_eq_true rfl) rfl rfl ?_
      refine j_goto (pc := 63) (tgt := 40) dX12_sheet_63 rfl ?_
      refine j_ls (ls' := [(0, vR 88), (1, vI k), (4, vI (i + 1))]) [0, 1, 2] rfl ?_
      have y3 : σ2 104 0 = τ 104 0 := (tw_ne1 eσ2 (by (first | decide | omega)))
      have f4 : (-4 : Int) ≤ τ 104 0 ∧ τ 104 0 ≤ 2 := hIτ 104 0
      have y5 : σ2 105 0 = τ 105 0 := (tw_ne1 eσ2 (by (first | decide | omega)))
      have f6 : (0 : Int) ≤ τ 105 0 ∧ τ 105 0 ≤ 40 := hIτ 105 0
      have y7 : σ2 104 1 = τ 104 1 := (tw_ne1 eσ2 (by (first | decide | omega)))
      have f8 : (-4 : Int) ≤ τ 104 1 ∧ τ 104 1 ≤ 2 := hIτ 104 1
      have y9 : σ2 105 1 = τ 105 1 := (tw_ne1 eσ2 (by (first | decide | omega)))
      have f10 : (0 : Int) ≤ τ 105 1 ∧ τ 105 1 ≤ 40 := hIτ 105 1
      have y11 : σ2 104 2 = τ 104 2 := (tw_ne1 eσ2 (by (first | decide | omega)))
      have f12 : (-4 : Int) ≤ τ 104 2 ∧ τ 104 2 ≤ 2 := hIτ 104 2
      have y13 : σ2 105 2 = τ 105 2 := (tw_ne1 eσ2 (by (first | decide | omega)))
      have f14 : (0 : Int) ≤ τ 105 2 ∧ τ 105 2 ≤ 40 := hIτ 105 2
      have y15 : σ2 104 3 = τ 104 3 := (tw_ne1 eσ2 (by (first | decide | omega)))
      have f16 : (-4 : Int) ≤ τ 104 3 ∧ τ 104 3 ≤ 2 := hIτ 104 3
      have y17 : σ2 105 3 = τ 105 3 := (tw_ne1 eσ2 (by (first | decide | omega)))
      have f18 : (0 : Int) ≤ τ 105 3 ∧ τ 105 3 ≤ 40 := hIτ 105 3
      exact ih (i + 1) ⟨by omega, by omega⟩ σ2 hIσ2 hFσ2 (show 0 ≤ k ∧ k ≤ 3 ∧ 0 ≤ l ∧ l ≤ 2 ∧ 0 ≤ n ∧ n ≤ 40 from by omega) (show (k = 0 ∧ σ2 104 0 = l ∧ σ2 105 0 = n) ∨ (¬ k = 0 ∧ σ2 104 0 = σ 104 0 ∧ σ2 105 0 = σ 105 0) from (by first | (rw [show σ2 104 0 = τ 104 0 from (tw_ne1 eσ2 (by (first | decide | omega))), show σ2 105 0 = τ 105 0 from (tw_ne1 eσ2 (by (first | decide | omega)))]; exact i1) | (rcases (show k = 0 ∨ ¬ k = 0 by omega) with q | q; (left; exact ⟨q, (tw_ne1 eσ2 (by (first | decide | omega))).trans (tw_eq2 _ (by omega)), tw_eq2 eσ2 (by omega)⟩); (right; exact ⟨q, (tw_ne1 eσ2 (by (first | decide | omega))).trans (tw_ne1 _ (by omega)), (tw_ne1 eσ2 (by (first | decide | omega))).trans (tw_ne1 _ (by omega))⟩)))) (show (k = 1 ∧ σ2 104 1 = l ∧ σ2 105 1 = n) ∨ (¬ k = 1 ∧ σ2 104 1 = σ 104 1 ∧ σ2 105 1 = σ 105 1) from (by first | (rw [show σ2 104 1 = τ 104 1 from (tw_ne1 eσ2 (by (first | decide | omega))), show σ2 105 1 = τ 105 1 from (tw_ne1 eσ2 (by (first | decide | omega)))]; exact i2) | (rcases (show k = 1 ∨ ¬ k = 1 by omega) with q | q; (left; exact ⟨q, (tw_ne1 eσ2 (by (first | decide | omega))).trans (tw_eq2 _ (by omega)), tw_eq2 eσ2 (by omega)⟩); (right; exact ⟨q, (tw_ne1 eσ2 (by (first | decide | omega))).trans (tw_ne1 _ (by omega)), (tw_ne1 eσ2 (by (first | decide | omega))).trans (tw_ne1 _ (by omega))⟩)))) (show (k = 2 ∧ σ2 104 2 = l ∧ σ2 105 2 = n) ∨ (¬ k = 2 ∧ σ2 104 2 = σ 104 2 ∧ σ2 105 2 = σ 105 2) from (by first | (rw [show σ2 104 2 = τ 104 2 from (tw_ne1 eσ2 (by (first | decide | omega))), show σ2 105 2 = τ 105 2 from (tw_ne1 eσ2 (by (first | decide | omega)))]; exact i3) | (rcases (show k = 2 ∨ ¬ k = 2 by omega) with q | q; (left; exact ⟨q, (tw_ne1 eσ2 (by (first | decide | omega))).trans (tw_eq2 _ (by omega)), tw_eq2 eσ2 (by omega)⟩); (right; exact ⟨q, (tw_ne1 eσ2 (by (first | decide | omega))).trans (tw_ne1 _ (by omega)), (tw_ne1 eσ2 (by (first | decide | omega))).trans (tw_ne1 _ (by omega))⟩)))) (show (k = 3 ∧ σ2 104 3 = l ∧ σ2 105 3 = n) ∨ (¬ k = 3 ∧ σ2 104 3 = σ 104 3 ∧ σ2 105 3 = σ 105 3) from (by first | (rw [show σ2 104 3 = τ 104 3 from (tw_ne1 eσ2 (by (first | decide | omega))), show σ2 105 3 = τ 105 3 from (tw_ne1 eσ2 (by (first | decide | omega)))]; exact i4) | (rcases (show k = 3 ∨ ¬ k = 3 by omega) with q | q; (left; exact ⟨q, (tw_ne1 eσ2 (by (first | decide | omega))).trans (tw_eq2 _ (by omega)), tw_eq2 eσ2 (by omega)⟩); (right; exact ⟨q, (tw_ne1 eσ2 (by (first | decide | omega))).trans (tw_ne1 _ (by omega)), (tw_ne1 eσ2 (by (first | decide | omega))).trans (tw_ne1 _ (by omega))⟩)))) (show (∀ j : Int, 0 ≤ j → j < (i + 1) → σ2 106 (40 * k + j).toNat = 0) ∧ ∀ j : Nat, ((j : Int) < 40 * k ∨ 40 * k + 40 ≤ (j : Int)) → σ2 106 j = σ 106 j from ⟨fun j j1 j2 => by rcases (show j < i ∨ j = i by omega) with q | q; (rw [tw_ne1 eσ2 (by (first | decide | omega))]; exact i5.1 j j1 q); (exact tw_eq2 eσ2 (by omega)), fun j hj => (tw_ne1 eσ2 (by (first | decide | omega))).trans (i5.2 j hj)⟩) (show (40 - (i + 1)).toNat < N_ from by omega)
set_option maxHeartbeats 4000000 in
set_option maxRecDepth 100000 in
theorem c_X12_sheet {G : tw_G} (hM : tw_isM G) (k : Int) (hk : -2147483648 ≤ k ∧ k ≤ 2147483647) (l : Int) (hl : -2147483648 ≤ l ∧ l ≤ 2147483647) (n : Int) (hn : -2147483648 ≤ n ∧ n ≤ 2147483647) (σ : tw_M) (hI : tw_I σ) : tw_C G yX12_sheet cX12_sheet 5 (some .int) 2 [vR 88, vI k, vI l, vI n] σ (q_X12_sheet k l n σ) := by
  refine tw_met [(0, vR 88), (1, vI k), (2, vI l), (3, vI n)] (by decide +kernel) rfl (Nat.le_of_ble_eq_true rfl) ?_
  refine j_iload_n (pc := 0) dX12_sheet_0 rfl rfl ?_
  refine j_iload_n (pc := 1) dX12_sheet_1 rfl rfl ?_
  refine j_callS (pc := 2) (As := [vI k, vI l]) (st := []) (c_X12_isSheet k ⟨by omega, by omega⟩ l ⟨by omega, by omega⟩ σ hI) ms_X12_377 rfl dX12_sheet_2 ⟨Nat.le_of_ble_eq_true rfl, Nat.le_of_ble_eq_true rfl⟩ ⟨Nat.le_refl _, Nat.le_refl _⟩ rfl (Nat.le_of_ble_eq_true rfl) rfl (fun z19 σ20 hz19 => ?_)
  obtain ⟨r22, rfl, hr22, rfl, q21_0⟩ := hz19
  replace q21_0 : (r22 = 1 ∧ 0 ≤ k ∧ k ≤ 3 ∧ 0 ≤ l ∧ l ≤ 2) ∨ (r22 = 0 ∧ ¬ (0 ≤ k ∧ k ≤ 3 ∧ 0 ≤ l ∧ l ≤ 2)) := q21_0
  refine j_st (st' := [vI r22]) rfl ?_
  refine j_ifR_eq (pc := 5) (tgt := 14) ⟨by omega, by omega⟩ dX12_sheet_5 rfl (fun h23 => ?_) (fun h23 => ?_)
  · refine j_iconst (pc := 14) dX12_sheet_14 ?_
    exact j_iret (pc := 15) ⟨rfl, rfl⟩ dX12_sheet_15 rfl ⟨_, rfl, ⟨by omega, by omega⟩, hI, (tw_F_rf), by omega, by omega, by omega, by omega, by omega, (by first | exact Or.inl ⟨rfl, fun j j1 j2 => i5.1 j j1 (by omega), i5.2⟩ | exact Or.inr ⟨by decide, fun j => rfl⟩)⟩
  · refine j_iload_n (pc := 8) dX12_sheet_8 rfl rfl ?_
    refine j_bipush (pc := 9) dX12_sheet_9 rfl ?_
    refine j_icmpR_le (pc := 11) (tgt := 16) ⟨by omega, by omega⟩ ⟨by omega, by omega⟩ dX12_sheet_11 rfl (fun h24 => ?_) (fun h24 => ?_)
    · refine j_iload_n (pc := 16) dX12_sheet_16 rfl rfl ?_
      refine j_ifR_ge (pc := 17) (tgt := 23) ⟨by omega, by omega⟩ dX12_sheet_17 rfl (fun h25 => ?_) (fun h25 => ?_)
      · refine j_aload_n (pc := 23) dX12_sheet_23 rfl rfl ?_
        refine j_getR (pc := 24) (r := 104) fl_X12_56 dX12_sheet_24 (a_88 hM) rfl ?_
        refine j_iload_n (pc := 27) dX12_sheet_27 rfl rfl ?_
        refine j_iload_n (pc := 28) dX12_sheet_28 rfl rfl ?_
        refine j_iast (pc := 29) dX12_sheet_29 (a_104 hM) (by omega) (by omega) (by decide) (j_nm (fun σ26 (eσ26 : σ26 = tw_up σ 104 (k.toNat) l) => ?_))
        have hIσ26 : tw_I σ26 := tw_I_up hI eσ26 (show (-4 : Int) ≤ l ∧ l ≤ 2 from ⟨by omega, by omega⟩)
        have hFσ26 : tw_F (fun c j => (104 ≤ c ∧ c < 107)) σ σ26 := tw_F_up (tw_F_rf) eσ26 (show (104 ≤ 104 ∧ 104 < 107) from (by decide))
        refine j_aload_n (pc := 30) dX12_sheet_30 rfl rfl ?_
        refine j_getR (pc := 31) (r := 105) fl_X12_59 dX12_sheet_31 (a_88 hM) rfl ?_
        refine j_iload_n (pc := 34) dX12_sheet_34 rfl rfl ?_
        refine j_iload_n (pc := 35) dX12_sheet_35 rfl rfl ?_
        refine j_iast (pc := 36) dX12_sheet_36 (a_105 hM) (by omega) (by omega) (by decide) (j_nm (fun σ27 (eσ27 : σ27 = tw_up σ26 105 (k.toNat) n) => ?_))
        have hIσ27 : tw_I σ27 := tw_I_up hIσ26 eσ27 (show (0 : Int) ≤ n ∧ n ≤ 40 from ⟨by omega, by omega⟩)
        have hFσ27 : tw_F (fun c j => (104 ≤ c ∧ c < 107)) σ σ27 := tw_F_up hFσ26 eσ27 (show (104 ≤ 105 ∧ 105 < 107) from (by decide))
        refine j_iconst (pc := 37) dX12_sheet_37 ?_
        refine j_istore (pc := 38) (i := 4) (ls' := [(0, vR 88), (1, vI k), (4, vI 0)]) [1, 2, 0] dX12_sheet_38 (Nat.le_of_ble_eq_true rfl) rfl rfl ?_
        refine j_ls (ls' := [(0, vR 88), (1, vI k), (4, vI 0)]) [0, 1, 2] rfl ?_
        have y28 : σ27 104 0 = σ26 104 0 := (tw_ne1 eσ27 (by (first | decide | omega)))
        have f29 : (-4 : Int) ≤ σ26 104 0 ∧ σ26 104 0 ≤ 2 := hIσ26 104 0
        have y30 : σ27 104 1 = σ26 104 1 := (tw_ne1 eσ27 (by (first | decide | omega)))
        have f31 : (-4 : Int) ≤ σ26 104 1 ∧ σ26 104 1 ≤ 2 := hIσ26 104 1
        have y32 : σ27 104 2 = σ26 104 2 := (tw_ne1 eσ27 (by (first | decide | omega)))
        have f33 : (-4 : Int) ≤ σ26 104 2 ∧ σ26 104 2 ≤ 2 := hIσ26 104 2
        have y34 : σ27 104 3 = σ26 104 3 := (tw_ne1 eσ27 (by (first | decide | omega)))
        have f35 : (-4 : Int) ≤ σ26 104 3 ∧ σ26 104 3 ≤ 2 := hIσ26 104 3
        exact (l_X12_sheet hM k hk l hl n hn σ hI (((40 - (0 : Int)).toNat) + 1)) 0 (by (first | decide | exact ⟨by omega, by omega⟩)) σ27 hIσ27 hFσ27 (show 0 ≤ k ∧ k ≤ 3 ∧ 0 ≤ l ∧ l ≤ 2 ∧ 0 ≤ n ∧ n ≤ 40 from by omega) (show (k = 0 ∧ σ27 104 0 = l ∧ σ27 105 0 = n) ∨ (¬ k = 0 ∧ σ27 104 0 = σ 104 0 ∧ σ27 105 0 = σ 105 0) from (by first | (rw [show σ27 104 0 = τ 104 0 from (tw_ne1 eσ27 (by (first | decide | omega))), show σ27 105 0 = τ 105 0 from rfl]; exact i1) | (rcases (show k = 0 ∨ ¬ k = 0 by omega) with q | q; (left; exact ⟨q, (tw_ne1 eσ27 (by (first | decide | omega))).trans (tw_eq2 eσ26 (by omega)), tw_eq2 eσ27 (by omega)⟩); (right; exact ⟨q, (tw_ne1 eσ27 (by (first | decide | omega))).trans (tw_ne1 eσ26 (by (first | decide | omega))), (tw_ne1 eσ27 (by (first | decide | omega))).trans (tw_ne1 eσ26 (by (first | decide | omega)))⟩)))) (show (k = 1 ∧ σ27 104 1 = l ∧ σ27 105 1 = n) ∨ (¬ k = 1 ∧ σ27 104 1 = σ 104 1 ∧ σ27 105 1 = σ 105 1) from (by first | (rw [show σ27 104 1 = τ 104 1 from (tw_ne1 eσ27 (by (first | decide | omega))), show σ27 105 1 = τ 105 1 from rfl]; exact i2) | (rcases (show k = 1 ∨ ¬ k = 1 by omega) with q | q; (left; exact ⟨q, (tw_ne1 eσ27 (by (first | decide | omega))).trans (tw_eq2 eσ26 (by omega)), tw_eq2 eσ27 (by omega)⟩); (right; exact ⟨q, (tw_ne1 eσ27 (by (first | decide | omega))).trans (tw_ne1 eσ26 (by (first | decide | omega))), (tw_ne1 eσ27 (by (first | decide | omega))).trans (tw_ne1 eσ26 (by (first | decide | omega)))⟩)))) (show (k = 2 ∧ σ27 104 2 = l ∧ σ27 105 2 = n) ∨ (¬ k = 2 ∧ σ27 104 2 = σ 104 2 ∧ σ27 105 2 = σ 105 2) from (by first | (rw [show σ27 104 2 = τ 104 2 from (tw_ne1 eσ27 (by (first | decide | omega))), show σ27 105 2 = τ 105 2 from rfl]; exact i3) | (rcases (show k = 2 ∨ ¬ k = 2 by omega) with q | q; (left; exact ⟨q, (tw_ne1 eσ27 (by (first | decide | omega))).trans (tw_eq2 eσ26 (by omega)), tw_eq2 eσ27 (by omega)⟩); (right; exact ⟨q, (tw_ne1 eσ27 (by (first | decide | omega))).trans (tw_ne1 eσ26 (by (first | decide | omega))), (tw_ne1 eσ27 (by (first | decide | omega))).trans (tw_ne1 eσ26 (by (first | decide | omega)))⟩)))) (show (k = 3 ∧ σ27 104 3 = l ∧ σ27 105 3 = n) ∨ (¬ k = 3 ∧ σ27 104 3 = σ 104 3 ∧ σ27 105 3 = σ 105 3) from (by first | (rw [show σ27 104 3 = τ 104 3 from (tw_ne1 eσ27 (by (first | decide | omega))), show σ27 105 3 = τ 105 3 from rfl]; exact i4) | (rcases (show k = 3 ∨ ¬ k = 3 by omega) with q | q; (left; exact ⟨q, (tw_ne1 eσ27 (by (first | decide | omega))).trans (tw_eq2 eσ26 (by omega)), tw_eq2 eσ27 (by omega)⟩); (right; exact ⟨q, (tw_ne1 eσ27 (by (first | decide | omega))).trans (tw_ne1 eσ26 (by (first | decide | omega))), (tw_ne1 eσ27 (by (first | decide | omega))).trans (tw_ne1 eσ26 (by (first | decide | omega)))⟩)))) (show (∀ j : Int, 0 ≤ j → j < (0 : Int) → σ27 106 (40 * k + j).toNat = 0) ∧ ∀ j : Nat, ((j : Int) < 40 * k ∨ 40 * k + 40 ≤ (j : Int)) → σ27 106 j = σ 106 j from ⟨fun j j1 j2 => by exfalso; omega, fun j hj => (tw_ne1 eσ27 (by (first | decide | omega))).trans (tw_ne1 eσ26 (by (first | decide | omega)))⟩) (Nat.lt_succ_self _)
      · refine j_bipush (pc := 20) dX12_sheet_20 rfl ?_
        exact j_iret (pc := 22) ⟨rfl, rfl⟩ dX12_sheet_22 rfl ⟨_, rfl, ⟨by omega, by omega⟩, hI, (tw_F_rf), by omega, by omega, by omega, by omega, by omega, (by first | exact Or.inl ⟨rfl, fun j j1 j2 => i5.1 j j1 (by omega), i5.2⟩ | exact Or.inr ⟨by decide, fun j => rfl⟩)⟩
    · refine j_iconst (pc := 14) dX12_sheet_14 ?_
      exact j_iret (pc := 15) ⟨rfl, rfl⟩ dX12_sheet_15 rfl ⟨_, rfl, ⟨by omega, by omega⟩, hI, (tw_F_rf), by omega, by omega, by omega, by omega, by omega, (by first | exact Or.inl ⟨rfl, fun j j1 j2 => i5.1 j j1 (by omega), i5.2⟩ | exact Or.inr ⟨by decide, fun j => rfl⟩)⟩
abbrev q_X12_lay (k : Int) (i : Int) (v : Int) (σ : tw_M) : Option tw_V → tw_M → Prop := fun z τ => ∃ r : Int, z = some (vI r) ∧ (-2147483648 ≤ r ∧ r ≤ 2147483647) ∧ tw_I τ ∧ tw_F (fun c j => c = 106) σ τ ∧ ((r = -1 ∧ ¬ (0 ≤ k ∧ k ≤ 3)) ∨ (r = -11 ∧ 0 ≤ k ∧ k ≤ 3 ∧ σ 104 k.toNat = -4) ∨ (r = -12 ∧ 0 ≤ k ∧ k ≤ 3 ∧ ¬ σ 104 k.toNat = -4 ∧ ¬ (0 ≤ i ∧ i < σ 105 k.toNat)) ∨ (r = 1 ∧ 0 ≤ k ∧ k ≤ 3 ∧ ¬ σ 104 k.toNat = -4 ∧ 0 ≤ i ∧ i < σ 105 k.toNat)) ∧ ((r = 1 ∧ τ 106 (40 * k + i).toNat = nrw (σ 104 k.toNat) v ∧ ∀ j : Nat, ¬ j = (40 * k + i).toNat → τ 106 j = σ 106 j) ∨ (¬ r = 1 ∧ ∀ j : Nat, τ 106 j = σ 106 j))
set_option maxHeartbeats 4000000 in
set_option maxRecDepth 100000 in
theorem c_X12_lay {G : tw_G} (hM : tw_isM G) (k : Int) (hk : -2147483648 ≤ k ∧ k ≤ 2147483647) (i : Int) (hi : -2147483648 ≤ i ∧ i ≤ 2147483647) (v : Int) (hv : -2147483648 ≤ v ∧ v ≤ 2147483647) (σ : tw_M) (hI : tw_I σ) : tw_C G yX12_lay cX12_lay 4 (some .int) 2 [vR 88, vI k, vI i, vI v] σ (q_X12_lay k i v σ) := by
  refine tw_met [(0, vR 88), (1, vI k), (2, vI i), (3, vI v)] (by decide +kernel) rfl (Nat.le_of_ble_eq_true rfl) ?_
  refine j_iload_n (pc := 0) dX12_lay_0 rfl rfl ?_
  refine j_iconst (pc := 1) dX12_lay_1 ?_
  refine j_callS (pc := 2) (As := [vI k, vI 0]) (st := []) (c_X12_isSheet k ⟨by omega, by omega⟩ 0 (by (first | decide | exact ⟨by omega, by omega⟩)) σ hI) ms_X12_377 rfl dX12_lay_2 ⟨Nat.le_of_ble_eq_true rfl, Nat.le_of_ble_eq_true rfl⟩ ⟨Nat.le_refl _, Nat.le_refl _⟩ rfl (Nat.le_of_ble_eq_true rfl) rfl (fun z1 σ2 hz1 => ?_)
  obtain ⟨r4, rfl, hr4, rfl, q3_0⟩ := hz1
  replace q3_0 : (r4 = 1 ∧ 0 ≤ k ∧ k ≤ 3 ∧ 0 ≤ (0 : Int) ∧ (0 : Int) ≤ 2) ∨ (r4 = 0 ∧ ¬ (0 ≤ k ∧ k ≤ 3 ∧ 0 ≤ (0 : Int) ∧ (0 : Int) ≤ 2)) := q3_0
  refine j_st (st' := [vI r4]) rfl ?_
  refine j_ifR_ne (pc := 5) (tgt := 10) ⟨by omega, by omega⟩ dX12_lay_5 rfl (fun h5 => ?_) (fun h5 => ?_)
  · refine j_aload_n (pc := 10) dX12_lay_10 rfl rfl ?_
    refine j_getR (pc := 11) (r := 104) fl_X12_56 dX12_lay_11 (a_88 hM) rfl ?_
    refine j_iload_n (pc := 14) dX12_lay_14 rfl rfl ?_
    refine j_iald (pc := 15) dX12_lay_15 (a_104 hM) (by omega) (by omega) (by decide) ?_
    have f6 : (-4 : Int) ≤ σ 104 (k.toNat) ∧ σ 104 (k.toNat) ≤ 2 := hI 104 (k.toNat)
    refine j_bipush (pc := 16) dX12_lay_16 rfl ?_
    refine j_icmpR_ne (pc := 18) (tgt := 24) ⟨by omega, by omega⟩ ⟨by omega, by omega⟩ dX12_lay_18 rfl (fun h7 => ?_) (fun h7 => ?_)
    · refine j_iload_n (pc := 24) dX12_lay_24 rfl rfl ?_
      refine j_i2l (pc := 25) dX12_lay_25 ?_
      rw [w32_eq (a := i) (by omega) (by omega)]
      refine j_lconst (pc := 26) (z := 0) dX12_lay_26 rfl ?_
      refine j_aload_n (pc := 27) dX12_lay_27 rfl rfl ?_
      refine j_getR (pc := 28) (r := 105) fl_X12_59 dX12_lay_28 (a_88 hM) rfl ?_
      refine j_iload_n (pc := 31) dX12_lay_31 rfl rfl ?_
      refine j_iald (pc := 32) dX12_lay_32 (a_105 hM) (by omega) (by omega) (by decide) ?_
      have f8 : (0 : Int) ≤ σ 105 (k.toNat) ∧ σ 105 (k.toNat) ≤ 40 := hI 105 (k.toNat)
      refine j_iconst (pc := 33) dX12_lay_33 ?_
      refine j_isub (pc := 34) dX12_lay_34 ?_
      refine j_i2l (pc := 35) dX12_lay_35 ?_
      rw [w32_eq (a := (σ 105 (k.toNat)) - 1) (by omega) (by omega)]
      refine j_callS (pc := 36) (As := [vL i, vL 0, vL ((σ 105 (k.toNat)) - 1)]) (st := []) (c_X12_in i ⟨by omega, by omega⟩ 0 (by (first | decide | exact ⟨by omega, by omega⟩)) ((σ 105 (k.toNat)) - 1) ⟨by omega, by omega⟩ σ hI) ms_X12_82 rfl dX12_lay_36 ⟨Nat.le_of_ble_eq_true rfl, Nat.le_of_ble_eq_true rfl⟩ ⟨Nat.le_refl _, Nat.le_refl _⟩ rfl (Nat.le_of_ble_eq_true rfl) rfl (fun z9 σ10 hz9 => ?_)
      obtain ⟨r12, rfl, hr12, rfl, q11_0⟩ := hz9
      replace q11_0 : (r12 = 1 ∧ (0 : Int) ≤ i ∧ i ≤ ((σ 105 (k.toNat)) - 1)) ∨ (r12 = 0 ∧ ¬ ((0 : Int) ≤ i ∧ i ≤ ((σ 105 (k.toNat)) - 1))) := q11_0
      refine j_st (st' := [vI r12]) rfl ?_
      refine j_ifR_ne (pc := 39) (tgt := 45) ⟨by omega, by omega⟩ dX12_lay_39 rfl (fun h13 => ?_) (fun h13 => ?_)
      · refine j_aload_n (pc := 45) dX12_lay_45 rfl rfl ?_
        refine j_getR (pc := 46) (r := 106) fl_X12_62 dX12_lay_46 (a_88 hM) rfl ?_
        refine j_bipush (pc := 49) dX12_lay_49 rfl ?_
        refine j_iload_n (pc := 51) dX12_lay_51 rfl rfl ?_
        refine j_imul (pc := 52) dX12_lay_52 ?_
        refine j_iload_n (pc := 53) dX12_lay_53 rfl rfl ?_
        refine j_iadd (pc := 54) dX12_lay_54 ?_
        refine j_aload_n (pc := 55) dX12_lay_55 rfl rfl ?_
        refine j_getR (pc := 56) (r := 104) fl_X12_56 dX12_lay_56 (a_88 hM) rfl ?_
        refine j_iload_n (pc := 59) dX12_lay_59 rfl rfl ?_
        refine j_iald (pc := 60) dX12_lay_60 (a_104 hM) (by omega) (by omega) (by decide) ?_
        refine j_ifR_ne (pc := 61) (tgt := 69) ⟨by omega, by omega⟩ dX12_lay_61 rfl (fun h14 => ?_) (fun h14 => ?_)
        · refine j_aload_n (pc := 69) dX12_lay_69 rfl rfl ?_
          refine j_getR (pc := 70) (r := 104) fl_X12_56 dX12_lay_70 (a_88 hM) rfl ?_
          refine j_iload_n (pc := 73) dX12_lay_73 rfl rfl ?_
          refine j_iald (pc := 74) dX12_lay_74 (a_104 hM) (by omega) (by omega) (by decide) ?_
          refine j_iconst (pc := 75) dX12_lay_75 ?_
          refine j_icmpR_ne (pc := 76) (tgt := 84) ⟨by omega, by omega⟩ ⟨by omega, by omega⟩ dX12_lay_76 rfl (fun h15 => ?_) (fun h15 => ?_)
          · refine j_iload_n (pc := 84) dX12_lay_84 rfl rfl ?_
            have nv : v = nrw (σ 104 k.toNat) v := by unfold nrw; rw [if_neg (by omega), if_neg (by omega)]
            refine j_iast (pc := 85) dX12_lay_85 (a_106 hM) (by omega) (by omega) (by decide) (j_nm (fun σ16 (eσ16 : σ16 = tw_up σ 106 (((40 * k) + i).toNat) v) => ?_))
            have hIσ16 : tw_I σ16 := tw_I_up hI eσ16 (show (-2147483648 : Int) ≤ v ∧ v ≤ 2147483647 from ⟨by omega, by omega⟩)
            have hFσ16 : tw_F (fun c j => c = 106) σ σ16 := tw_F_up (tw_F_rf) eσ16 (show 106 = 106 from rfl)
            refine j_iconst (pc := 86) dX12_lay_86 ?_
            exact j_iret (pc := 87) ⟨rfl, rfl⟩ dX12_lay_87 rfl ⟨_, rfl, ⟨by omega, by omega⟩, hIσ16, hFσ16, (by first | exact Or.inl ⟨by omega, by omega⟩ | exact Or.inr (Or.inl ⟨by omega, by omega, by omega, by omega⟩) | exact Or.inr (Or.inr (Or.inl ⟨by omega, by omega, by omega, by omega, by omega⟩)) | exact Or.inr (Or.inr (Or.inr ⟨by omega, by omega, by omega, by omega, by omega, by omega⟩))), (by first | exact Or.inl ⟨rfl, (tw_eq1 eσ16).trans nv, fun j hj => tw_ne1 eσ16 (Or.inr hj)⟩ | exact Or.inr ⟨by decide, fun j => rfl⟩)⟩
          · refine j_iload_n (pc := 79) dX12_lay_79 rfl rfl ?_
            refine j_i2s (pc := 80) dX12_lay_80 (fun z17 ez17 => ?_)
            have hz17 : (-32768 : Int) ≤ z17 ∧ z17 ≤ 32767 := by rw [ez17]; exact i2s_in _
            refine j_goto (pc := 81) (tgt := 85) dX12_lay_81 rfl ?_
            have nv : z17 = nrw (σ 104 k.toNat) v := by unfold nrw; rw [if_neg (by omega), if_pos (by omega)]; exact ez17
            refine j_iast (pc := 85) dX12_lay_85 (a_106 hM) (by omega) (by omega) (by decide) (j_nm (fun σ18 (eσ18 : σ18 = tw_up σ 106 (((40 * k) + i).toNat) z17) => ?_))
            have hIσ18 : tw_I σ18 := tw_I_up hI eσ18 (show (-2147483648 : Int) ≤ z17 ∧ z17 ≤ 2147483647 from ⟨by omega, by omega⟩)
            have hFσ18 : tw_F (fun c j => c = 106) σ σ18 := tw_F_up (tw_F_rf) eσ18 (show 106 = 106 from rfl)
            refine j_iconst (pc := 86) dX12_lay_86 ?_
            exact j_iret (pc := 87) ⟨rfl, rfl⟩ dX12_lay_87 rfl ⟨_, rfl, ⟨by omega, by omega⟩, hIσ18, hFσ18, (by first | exact Or.inl ⟨by omega, by omega⟩ | exact Or.inr (Or.inl ⟨by omega, by omega, by omega, by omega⟩) | exact Or.inr (Or.inr (Or.inl ⟨by omega, by omega, by omega, by omega, by omega⟩)) | exact Or.inr (Or.inr (Or.inr ⟨by omega, by omega, by omega, by omega, by omega, by omega⟩))), (by first | exact Or.inl ⟨rfl, (tw_eq1 eσ18).trans nv, fun j hj => tw_ne1 eσ18 (Or.inr hj)⟩ | exact Or.inr ⟨by decide, fun j => rfl⟩)⟩
        · refine j_iload_n (pc := 64) dX12_lay_64 rfl rfl ?_
          refine j_i2b (pc := 65) dX12_lay_65 (fun z19 ez19 => ?_)
          have hz19 : (-128 : Int) ≤ z19 ∧ z19 ≤ 127 := by rw [ez19]; exact i2b_in _
          refine j_goto (pc := 66) (tgt := 85) dX12_lay_66 rfl ?_
          have nv : z19 = nrw (σ 104 k.toNat) v := by unfold nrw; rw [if_pos (by omega)]; exact ez19
          refine j_iast (pc := 85) dX12_lay_85 (a_106 hM) (by omega) (by omega) (by decide) (j_nm (fun σ20 (eσ20 : σ20 = tw_up σ 106 (((40 * k) + i).toNat) z19) => ?_))
          have hIσ20 : tw_I σ20 := tw_I_up hI eσ20 (show (-2147483648 : Int) ≤ z19 ∧ z19 ≤ 2147483647 from ⟨by omega, by omega⟩)
          have hFσ20 : tw_F (fun c j => c = 106) σ σ20 := tw_F_up (tw_F_rf) eσ20 (show 106 = 106 from rfl)
          refine j_iconst (pc := 86) dX12_lay_86 ?_
          exact j_iret (pc := 87) ⟨rfl, rfl⟩ dX12_lay_87 rfl ⟨_, rfl, ⟨by omega, by omega⟩, hIσ20, hFσ20, (by first | exact Or.inl ⟨by omega, by omega⟩ | exact Or.inr (Or.inl ⟨by omega, by omega, by omega, by omega⟩) | exact Or.inr (Or.inr (Or.inl ⟨by omega, by omega, by omega, by omega, by omega⟩)) | exact Or.inr (Or.inr (Or.inr ⟨by omega, by omega, by omega, by omega, by omega, by omega⟩))), (by first | exact Or.inl ⟨rfl, (tw_eq1 eσ20).trans nv, fun j hj => tw_ne1 eσ20 (Or.inr hj)⟩ | exact Or.inr ⟨by decide, fun j => rfl⟩)⟩
      · refine j_bipush (pc := 42) dX12_lay_42 rfl ?_
        exact j_iret (pc := 44) ⟨rfl, rfl⟩ dX12_lay_44 rfl ⟨_, rfl, ⟨by omega, by omega⟩, hI, (tw_F_rf), (by first | exact Or.inl ⟨by omega, by omega⟩ | exact Or.inr (Or.inl ⟨by omega, by omega, by omega, by omega⟩) | exact Or.inr (Or.inr (Or.inl ⟨by omega, by omega, by omega, by omega, by omega⟩)) | exact Or.inr (Or.inr (Or.inr ⟨by omega, by omega, by omega, by omega, by omega, by omega⟩))), (by first | exact Or.inl ⟨rfl, (tw_eq1 _).trans nv, fun j hj => tw_ne1 _ (Or.inr hj)⟩ | exact Or.inr ⟨by decide, fun j => rfl⟩)⟩
    · refine j_bipush (pc := 21) dX12_lay_21 rfl ?_
      exact j_iret (pc := 23) ⟨rfl, rfl⟩ dX12_lay_23 rfl ⟨_, rfl, ⟨by omega, by omega⟩, hI, (tw_F_rf), (by first | exact Or.inl ⟨by omega, by omega⟩ | exact Or.inr (Or.inl ⟨by omega, by omega, by omega, by omega⟩) | exact Or.inr (Or.inr (Or.inl ⟨by omega, by omega, by omega, by omega, by omega⟩)) | exact Or.inr (Or.inr (Or.inr ⟨by omega, by omega, by omega, by omega, by omega, by omega⟩))), (by first | exact Or.inl ⟨rfl, (tw_eq1 _).trans nv, fun j hj => tw_ne1 _ (Or.inr hj)⟩ | exact Or.inr ⟨by decide, fun j => rfl⟩)⟩
  · refine j_iconst (pc := 8) dX12_lay_8 ?_
    exact j_iret (pc := 9) ⟨rfl, rfl⟩ dX12_lay_9 rfl ⟨_, rfl, ⟨by omega, by omega⟩, hI, (tw_F_rf), (by first | exact Or.inl ⟨by omega, by omega⟩ | exact Or.inr (Or.inl ⟨by omega, by omega, by omega, by omega⟩) | exact Or.inr (Or.inr (Or.inl ⟨by omega, by omega, by omega, by omega, by omega⟩)) | exact Or.inr (Or.inr (Or.inr ⟨by omega, by omega, by omega, by omega, by omega, by omega⟩))), (by first | exact Or.inl ⟨rfl, (tw_eq1 _).trans nv, fun j hj => tw_ne1 _ (Or.inr hj)⟩ | exact Or.inr ⟨by decide, fun j => rfl⟩)⟩
abbrev q_X12_read (k : Int) (l : Int) (f : Int) (n : Int) (σ : tw_M) : Option tw_V → tw_M → Prop := fun z τ => ∃ r : Int, z = some (vI r) ∧ (-2147483648 ≤ r ∧ r ≤ 2147483647) ∧ tw_I τ ∧ tw_F (fun c j => (c = 88 ∧ (j = 38)) ∨ (c = 89 ∧ (j < 100 ∨ 300 ≤ j))) σ τ ∧ (mI τ) ∧ (τ 89 93 = σ 89 93) ∧ (τ 89 94 = σ 89 94) ∧ (τ 89 95 = σ 89 95) ∧ (τ 89 96 = σ 89 96) ∧ (∀ rk : Nat → Int, MOB rk 0 σ → (r = -1 ∧ ¬ (0 ≤ k ∧ k ≤ 3 ∧ 0 ≤ l ∧ l ≤ 2 ∧ 0 ≤ n ∧ n ≤ 10) ∧ ∀ c j, τ c j = σ c j) ∨ ((0 ≤ k ∧ k ≤ 3 ∧ 0 ≤ l ∧ l ≤ 2 ∧ 0 ≤ n ∧ n ≤ 10) ∧ ∃ cz : Int, ((cz = 0 ∧ 0 < n ∧ r = 0 ∧ τ 88 38 = 1 ∧ σ 104 k.toNat = -4) ∨ (cz = 0 ∧ 0 < n ∧ r = 0 ∧ τ 88 38 = 3 ∧ ¬ σ 104 k.toNat = -4 ∧ ¬ σ 104 k.toNat = l) ∨ ((n = 0 ∨ (¬ σ 104 k.toNat = -4 ∧ σ 104 k.toNat = l)) ∧ RDE (rdF (σ 105 k.toNat) f) (fun x => rdO (wM σ) rk (CM k σ) f (gM 0 σ) x = 0) n cz r (τ 88 38))) ∧ ((0 ≤ r ∧ RDM rk (CM k σ) f cz.toNat σ τ) ∨ (r < 0 ∧ RDM rk (CM k σ) f 0 σ τ ∧ τ 88 38 = σ 88 38))))
set_option maxHeartbeats 4000000 in
set_option maxRecDepth 100000 in
theorem l_X12_read {G : tw_G} (hM : tw_isM G) (k : Int) (hk : -2147483648 ≤ k ∧ k ≤ 2147483647) (l : Int) (hl : -2147483648 ≤ l ∧ l ≤ 2147483647) (f : Int) (hf : -2147483648 ≤ f ∧ f ≤ 2147483647) (n : Int) (hn : -2147483648 ≤ n ∧ n ≤ 2147483647) (σ : tw_M) (hI : tw_I σ) (hq0 : mI σ) : ∀ N_ : Nat, (∀ (e : Int) (he : 0 ≤ e ∧ e ≤ 3) (m : Int) (hm : 0 ≤ m ∧ m ≤ 10) (i : Int) (hi : 0 ≤ i ∧ i ≤ 10) (τ : tw_M) (hIτ : tw_I τ) (hFτ : tw_F (fun c j => (c = 88 ∧ (j = 38)) ∨ (c = 89 ∧ (j < 100 ∨ 300 ≤ j))) σ τ) (i0 : mI τ) (i1 : 0 ≤ k ∧ k ≤ 3 ∧ 0 ≤ l ∧ l ≤ 2) (i2 : 0 ≤ n ∧ n ≤ 10) (i3 : ∀ j : Nat, (j : Int) < 100 → τ 89 (300 + (j : Int)).toNat = σ 89 (0 + (j : Int)).toNat) (i4 : m ≤ i) (i5 : τ 89 93 = σ 89 93) (i6 : τ 89 94 = σ 89 94) (i7 : τ 89 95 = σ 89 95) (i8 : τ 89 96 = σ 89 96) (i9 : (e = 0 ∧ m = i) ∨ (e = 2 ∧ m + 1 = i ∧ ¬ (0 ≤ f + 2 * m ∧ f + 2 * m + 1 < σ 105 k.toNat) ∧ (¬ σ 104 k.toNat = -4 ∧ σ 104 k.toNat = l)) ∨ (e = 1 ∧ m = 0 ∧ 0 < n ∧ σ 104 k.toNat = -4) ∨ (e = 3 ∧ m = 0 ∧ 0 < n ∧ ¬ σ 104 k.toNat = -4 ∧ ¬ σ 104 k.toNat = l)) (i10 : ¬ e = 0 ∨ i = 0 ∨ (¬ σ 104 k.toNat = -4 ∧ σ 104 k.toNat = l)) (i11 : i ≤ n) (i12 : τ 88 38 = σ 88 38) (i13 : ∀ rk : Nat → Int, MOB rk 0 σ → RDM rk (CM k σ) f m.toNat σ τ ∧ ∀ x : Nat, (x : Int) < m → rdF (σ 105 k.toNat) f x ∧ rdO (wM σ) rk (CM k σ) f (gM 0 σ) x = 0) (hm : (100 * (11 - i)).toNat < N_), tw_J G (tw_mt RX12 cX12_read 11 (some .int) 5) (tw_E G (q_X12_read k l f n σ)) 40 [(0, vR 88), (1, vI k), (2, vI l), (3, vI f), (4, vI n), (5, vI e), (6, vI m), (7, vI i)] [] τ) ∧ (∀ (e : Int) (he : 0 ≤ e ∧ e ≤ 3) (m : Int) (hm : 0 ≤ m ∧ m ≤ 10) (i : Int) (hi : 0 ≤ i ∧ i ≤ 9) (c : Int) (hc : 0 ≤ c ∧ c ≤ 2) (τ : tw_M) (hIτ : tw_I τ) (hFτ : tw_F (fun c j => (c = 88 ∧ (j = 38)) ∨ (c = 89 ∧ (j < 100 ∨ 300 ≤ j))) σ τ) (i0 : mI τ) (i1 : 0 ≤ k ∧ k ≤ 3 ∧ 0 ≤ l ∧ l ≤ 2) (i2 : 0 ≤ n ∧ n ≤ 10) (i3 : ∀ j : Nat, (j : Int) < 100 → τ 89 (300 + (j : Int)).toNat = σ 89 (0 + (j : Int)).toNat) (i4 : m ≤ i) (i5 : i < n) (i6 : ¬ e = 0 ∨ ((c = 0 ∨ (0 ≤ f + 2 * i ∧ f + 2 * i < τ 105 k.toNat)) ∧ (c ≤ 1 ∨ f + 2 * i + 1 < τ 105 k.toNat))) (i7 : τ 89 93 = σ 89 93) (i8 : τ 89 94 = σ 89 94) (i9 : τ 89 95 = σ 89 95) (i10 : τ 89 96 = σ 89 96) (i11 : m = i) (i12 : (e = 0 ∧ (c = 0 ∨ (¬ σ 104 k.toNat = -4 ∧ σ 104 k.toNat = l))) ∨ (e = 1 ∧ σ 104 k.toNat = -4) ∨ (e = 3 ∧ ¬ σ 104 k.toNat = -4 ∧ ¬ σ 104 k.toNat = l) ∨ (e = 2 ∧ (¬ σ 104 k.toNat = -4 ∧ σ 104 k.toNat = l) ∧ ¬ (0 ≤ f + 2 * i ∧ f + 2 * i + 1 < σ 105 k.toNat))) (i13 : i = 0 ∨ (¬ σ 104 k.toNat = -4 ∧ σ 104 k.toNat = l)) (i14 : τ 88 38 = σ 88 38) (i15 : ∀ rk : Nat → Int, MOB rk 0 σ → RDM rk (CM k σ) f m.toNat σ τ ∧ ∀ x : Nat, (x : Int) < m → rdF (σ 105 k.toNat) f x ∧ rdO (wM σ) rk (CM k σ) f (gM 0 σ) x = 0) (hm : (100 * (11 - i) - 1 - c).toNat < N_), tw_J G (tw_mt RX12 cX12_read 11 (some .int) 5) (tw_E G (q_X12_read k l f n σ)) 55 [(0, vR 88), (1, vI k), (2, vI l), (3, vI f), (4, vI n), (5, vI e), (6, vI m), (7, vI i), (8, vI c)] [] τ) := by
  intro N_
  induction N_ with
  | zero => exact ⟨fun e he m hm i hi τ hIτ hFτ i0 i1 i2 i3 i4 i5 i6 i7 i8 i9 i10 i11 i12 i13 hm => absurd hm (Nat.not_lt_zero _), fun e he m hm i hi c hc τ hIτ hFτ i0 i1 i2 i3 i4 i5 i6 i7 i8 i9 i10 i11 i12 i13 i14 i15 hm => absurd hm (Nat.not_lt_zero _)⟩
  | succ N_ ih =>
    refine ⟨?_, ?_⟩
    · intro e he m hm i hi τ hIτ hFτ i0 i1 i2 i3 i4 i5 i6 i7 i8 i9 i10 i11 i12 i13 hm
      have s104 : τ 104 k.toNat = σ 104 k.toNat := hFτ 104 _ (show ¬ ((104 = 88 ∧ (k.toNat = 38)) ∨ (104 = 89 ∧ (k.toNat < 100 ∨ 300 ≤ k.toNat))) from fun h => h.elim (fun h => absurd h.1 (by decide)) (fun h => absurd h.1 (by decide)))
      have s105 : τ 105 k.toNat = σ 105 k.toNat := hFτ 105 _ (show ¬ ((105 = 88 ∧ (k.toNat = 38)) ∨ (105 = 89 ∧ (k.toNat < 100 ∨ 300 ≤ k.toNat))) from fun h => h.elim (fun h => absurd h.1 (by decide)) (fun h => absurd h.1 (by decide)))
      have MT : wM τ = wM σ := wM_F (fun j a b => hFτ 91 j (show ¬ ((91 = 88 ∧ (j = 38)) ∨ (91 = 89 ∧ (j < 100 ∨ 300 ≤ j))) from fun h => h.elim (fun h => absurd h.1 (by decide)) (fun h => absurd h.1 (by decide)))) (fun j => hFτ 92 j (show ¬ ((92 = 88 ∧ (j = 38)) ∨ (92 = 89 ∧ (j < 100 ∨ 300 ≤ j))) from fun h => h.elim (fun h => absurd h.1 (by decide)) (fun h => absurd h.1 (by decide))))
      have ft : (1 : Int) ≤ τ 91 0 ∧ τ 91 0 ≤ 40 := hIτ 91 0
      refine j_iload (pc := 40) dX12_read_40 rfl ?_
      refine j_iload (pc := 42) dX12_read_42 rfl ?_
      refine j_icmpR_ge (pc := 44) (tgt := 206) ⟨by omega, by omega⟩ ⟨by omega, by omega⟩ dX12_read_44 rfl (fun h1 => ?_) (fun h1 => ?_)
      · refine j_aload_n (pc := 206) dX12_read_206 rfl rfl ?_
        refine j_iload (pc := 207) dX12_read_207 rfl ?_
        refine j_putI (pc := 209) fl_X12_383 fp_X12_38 dX12_read_209 (a_88 hM) rfl (j_nm (fun σ2 (eσ2 : σ2 = tw_up τ 88 38 e) => ?_))
        have hIσ2 : tw_I σ2 := tw_I_up hIτ eσ2 (show (-2147483648 : Int) ≤ e ∧ e ≤ 2147483647 from ⟨by omega, by omega⟩)
        have hFσ2 : tw_F (fun c j => (c = 88 ∧ (j = 38)) ∨ (c = 89 ∧ (j < 100 ∨ 300 ≤ j))) σ σ2 := tw_F_up hFτ eσ2 (show (88 = 88 ∧ (38 = 38)) ∨ (88 = 89 ∧ (38 < 100 ∨ 300 ≤ 38)) from (Or.inl ⟨rfl, rfl⟩))
        have mI9 : mI σ2 := mI_kept i0 (fun j hj => tw_ne1 eσ2 (by (first | decide | omega))) (fun j => tw_ne1 eσ2 (by (first | decide | omega))) (tw_ne1 eσ2 (by (first | decide | omega))) hIτ
        refine j_iload (pc := 212) dX12_read_212 rfl ?_
        have t9 : σ2 88 38 = e := tw_eq1 eσ2
        have fin : ∀ rk : Nat → Int, MOB rk 0 σ → (m = -1 ∧ ¬ (0 ≤ k ∧ k ≤ 3 ∧ 0 ≤ l ∧ l ≤ 2 ∧ 0 ≤ n ∧ n ≤ 10) ∧ ∀ c j, σ2 c j = σ c j) ∨ ((0 ≤ k ∧ k ≤ 3 ∧ 0 ≤ l ∧ l ≤ 2 ∧ 0 ≤ n ∧ n ≤ 10) ∧ ∃ cz : Int, ((cz = 0 ∧ 0 < n ∧ m = 0 ∧ σ2 88 38 = 1 ∧ σ 104 k.toNat = -4) ∨ (cz = 0 ∧ 0 < n ∧ m = 0 ∧ σ2 88 38 = 3 ∧ ¬ σ 104 k.toNat = -4 ∧ ¬ σ 104 k.toNat = l) ∨ ((n = 0 ∨ (¬ σ 104 k.toNat = -4 ∧ σ 104 k.toNat = l)) ∧ RDE (rdF (σ 105 k.toNat) f) (fun x => rdO (wM σ) rk (CM k σ) f (gM 0 σ) x = 0) n cz m (σ2 88 38))) ∧ ((0 ≤ m ∧ RDM rk (CM k σ) f cz.toNat σ σ2) ∨ (m < 0 ∧ RDM rk (CM k σ) f 0 σ σ2 ∧ σ2 88 38 = σ 88 38))) := fun rk M => by
          obtain ⟨a, b⟩ := i13 rk M
          have a2 := RDM_F a (m := σ2) (fun j hj => ((tw_ne1 eσ2 (by (first | decide | omega))))) ((tw_ne1 eσ2 (by (first | decide | omega))))
          refine Or.inr ⟨by omega, m, ?_, Or.inl ⟨by omega, a2⟩⟩
          rcases i9 with ⟨e1, e2⟩ | ⟨e1, e2, e3, e4⟩ | ⟨e1, e2, e3, e4⟩ | ⟨e1, e2, e3, e4, e5⟩
          · exact Or.inr (Or.inr ⟨by omega, ⟨by omega, by omega⟩, b, Or.inl ⟨by omega, by omega, by omega⟩⟩)
          · exact Or.inr (Or.inr ⟨Or.inr e4, ⟨by omega, by omega⟩, b, Or.inr (Or.inl ⟨by omega, fun z => e3 (by unfold rdF at z; omega), by omega, by omega⟩)⟩)
          · exact Or.inl ⟨by omega, by omega, by omega, by omega, e4⟩
          · exact Or.inr (Or.inl ⟨by omega, by omega, by omega, by omega, e4, e5⟩)
        have y3 : σ2 89 93 = τ 89 93 := (tw_ne1 eσ2 (by (first | decide | omega)))
        have f4 : (0 : Int) ≤ τ 89 93 ∧ τ 89 93 ≤ 999 := hIτ 89 93
        have y5 : σ2 89 94 = τ 89 94 := (tw_ne1 eσ2 (by (first | decide | omega)))
        have f6 : (-2147483648 : Int) ≤ τ 89 94 ∧ τ 89 94 ≤ 2147483647 := hIτ 89 94
        have y7 : σ2 89 95 = τ 89 95 := (tw_ne1 eσ2 (by (first | decide | omega)))
        have f8 : (0 : Int) ≤ τ 89 95 ∧ τ 89 95 ≤ 999 := hIτ 89 95
        have y9 : σ2 89 96 = τ 89 96 := (tw_ne1 eσ2 (by (first | decide | omega)))
        have f10 : (-2147483648 : Int) ≤ τ 89 96 ∧ τ 89 96 ≤ 2147483647 := hIτ 89 96
        have y11 : σ2 88 38 = e := (tw_eq1 eσ2)
        exact j_iret (pc := 214) ⟨rfl, rfl⟩ dX12_read_214 rfl ⟨_, rfl, ⟨by omega, by omega⟩, hIσ2, hFσ2, (by first | exact mI9 | exact hq0), (by first | rfl | exact r93 | exact ((tw_ne1 eσ2 (by (first | decide | omega)))).trans i5 | omega), (by first | rfl | exact r94 | exact ((tw_ne1 eσ2 (by (first | decide | omega)))).trans i6 | omega), (by first | rfl | exact r95 | exact ((tw_ne1 eσ2 (by (first | decide | omega)))).trans i7 | omega), (by first | rfl | exact r96 | exact ((tw_ne1 eσ2 (by (first | decide | omega)))).trans i8 | omega), fin⟩
      · refine j_iload (pc := 47) dX12_read_47 rfl ?_
        refine j_ifR_ne (pc := 49) (tgt := 206) ⟨by omega, by omega⟩ dX12_read_49 rfl (fun h12 => ?_) (fun h12 => ?_)
        · refine j_aload_n (pc := 206) dX12_read_206 rfl rfl ?_
          refine j_iload (pc := 207) dX12_read_207 rfl ?_
          refine j_putI (pc := 209) fl_X12_383 fp_X12_38 dX12_read_209 (a_88 hM) rfl (j_nm (fun σ13 (eσ13 : σ13 = tw_up τ 88 38 e) => ?_))
          have hIσ13 : tw_I σ13 := tw_I_up hIτ eσ13 (show (-2147483648 : Int) ≤ e ∧ e ≤ 2147483647 from ⟨by omega, by omega⟩)
          have hFσ13 : tw_F (fun c j => (c = 88 ∧ (j = 38)) ∨ (c = 89 ∧ (j < 100 ∨ 300 ≤ j))) σ σ13 := tw_F_up hFτ eσ13 (show (88 = 88 ∧ (38 = 38)) ∨ (88 = 89 ∧ (38 < 100 ∨ 300 ≤ 38)) from (Or.inl ⟨rfl, rfl⟩))
          have mI9 : mI σ13 := mI_kept i0 (fun j hj => tw_ne1 eσ13 (by (first | decide | omega))) (fun j => tw_ne1 eσ13 (by (first | decide | omega))) (tw_ne1 eσ13 (by (first | decide | omega))) hIτ
          refine j_iload (pc := 212) dX12_read_212 rfl ?_
          have t9 : σ13 88 38 = e := tw_eq1 eσ13
          have fin : ∀ rk : Nat → Int, MOB rk 0 σ → (m = -1 ∧ ¬ (0 ≤ k ∧ k ≤ 3 ∧ 0 ≤ l ∧ l ≤ 2 ∧ 0 ≤ n ∧ n ≤ 10) ∧ ∀ c j, σ13 c j = σ c j) ∨ ((0 ≤ k ∧ k ≤ 3 ∧ 0 ≤ l ∧ l ≤ 2 ∧ 0 ≤ n ∧ n ≤ 10) ∧ ∃ cz : Int, ((cz = 0 ∧ 0 < n ∧ m = 0 ∧ σ13 88 38 = 1 ∧ σ 104 k.toNat = -4) ∨ (cz = 0 ∧ 0 < n ∧ m = 0 ∧ σ13 88 38 = 3 ∧ ¬ σ 104 k.toNat = -4 ∧ ¬ σ 104 k.toNat = l) ∨ ((n = 0 ∨ (¬ σ 104 k.toNat = -4 ∧ σ 104 k.toNat = l)) ∧ RDE (rdF (σ 105 k.toNat) f) (fun x => rdO (wM σ) rk (CM k σ) f (gM 0 σ) x = 0) n cz m (σ13 88 38))) ∧ ((0 ≤ m ∧ RDM rk (CM k σ) f cz.toNat σ σ13) ∨ (m < 0 ∧ RDM rk (CM k σ) f 0 σ σ13 ∧ σ13 88 38 = σ 88 38))) := fun rk M => by
            obtain ⟨a, b⟩ := i13 rk M
            have a2 := RDM_F a (m := σ13) (fun j hj => ((tw_ne1 eσ13 (by (first | decide | omega))))) ((tw_ne1 eσ13 (by (first | decide | omega))))
            refine Or.inr ⟨by omega, m, ?_, Or.inl ⟨by omega, a2⟩⟩
            rcases i9 with ⟨e1, e2⟩ | ⟨e1, e2, e3, e4⟩ | ⟨e1, e2, e3, e4⟩ | ⟨e1, e2, e3, e4, e5⟩
            · exact Or.inr (Or.inr ⟨by omega, ⟨by omega, by omega⟩, b, Or.inl ⟨by omega, by omega, by omega⟩⟩)
            · exact Or.inr (Or.inr ⟨Or.inr e4, ⟨by omega, by omega⟩, b, Or.inr (Or.inl ⟨by omega, fun z => e3 (by unfold rdF at z; omega), by omega, by omega⟩)⟩)
            · exact Or.inl ⟨by omega, by omega, by omega, by omega, e4⟩
            · exact Or.inr (Or.inl ⟨by omega, by omega, by omega, by omega, e4, e5⟩)
          have y14 : σ13 89 93 = τ 89 93 := (tw_ne1 eσ13 (by (first | decide | omega)))
          have f15 : (0 : Int) ≤ τ 89 93 ∧ τ 89 93 ≤ 999 := hIτ 89 93
          have y16 : σ13 89 94 = τ 89 94 := (tw_ne1 eσ13 (by (first | decide | omega)))
          have f17 : (-2147483648 : Int) ≤ τ 89 94 ∧ τ 89 94 ≤ 2147483647 := hIτ 89 94
          have y18 : σ13 89 95 = τ 89 95 := (tw_ne1 eσ13 (by (first | decide | omega)))
          have f19 : (0 : Int) ≤ τ 89 95 ∧ τ 89 95 ≤ 999 := hIτ 89 95
          have y20 : σ13 89 96 = τ 89 96 := (tw_ne1 eσ13 (by (first | decide | omega)))
          have f21 : (-2147483648 : Int) ≤ τ 89 96 ∧ τ 89 96 ≤ 2147483647 := hIτ 89 96
          have y22 : σ13 88 38 = e := (tw_eq1 eσ13)
          exact j_iret (pc := 214) ⟨rfl, rfl⟩ dX12_read_214 rfl ⟨_, rfl, ⟨by omega, by omega⟩, hIσ13, hFσ13, (by first | exact mI9 | exact hq0), (by first | rfl | exact r93 | exact ((tw_ne1 eσ13 (by (first | decide | omega)))).trans i5 | omega), (by first | rfl | exact r94 | exact ((tw_ne1 eσ13 (by (first | decide | omega)))).trans i6 | omega), (by first | rfl | exact r95 | exact ((tw_ne1 eσ13 (by (first | decide | omega)))).trans i7 | omega), (by first | rfl | exact r96 | exact ((tw_ne1 eσ13 (by (first | decide | omega)))).trans i8 | omega), fin⟩
        · refine j_iconst (pc := 52) dX12_read_52 ?_
          refine j_istore (pc := 53) (i := 8) (ls' := [(0, vR 88), (1, vI k), (2, vI l), (3, vI f), (4, vI n), (5, vI e), (6, vI m), (7, vI i), (8, vI 0)]) [1, 2, 3, 4, 5, 6, 7, 8, 0] dX12_read_53 (Nat.le_of_ble_eq_true rfl) rfl rfl ?_
          refine j_ls (ls' := [(0, vR 88), (1, vI k), (2, vI l), (3, vI f), (4, vI n), (5, vI e), (6, vI m), (7, vI i), (8, vI 0)]) [0, 1, 2, 3, 4, 5, 6, 7, 8] rfl ?_
          exact ih.2 e ⟨by omega, by omega⟩ m ⟨by omega, by omega⟩ i ⟨by omega, by omega⟩ 0 (by (first | decide | exact ⟨by omega, by omega⟩)) τ hIτ hFτ (show mI τ from i0) (show 0 ≤ k ∧ k ≤ 3 ∧ 0 ≤ l ∧ l ≤ 2 from by omega) (show 0 ≤ n ∧ n ≤ 10 from by omega) (show ∀ j : Nat, (j : Int) < 100 → τ 89 (300 + (j : Int)).toNat = σ 89 (0 + (j : Int)).toNat from i3) (show m ≤ i from by omega) (show i < n from by omega) (show ¬ e = 0 ∨ (((0 : Int) = 0 ∨ (0 ≤ f + 2 * i ∧ f + 2 * i < τ 105 k.toNat)) ∧ ((0 : Int) ≤ 1 ∨ f + 2 * i + 1 < τ 105 k.toNat)) from by omega) (show τ 89 93 = σ 89 93 from (by first | exact i7 | exact i5 | omega)) (show τ 89 94 = σ 89 94 from (by first | exact i8 | exact i6 | omega)) (show τ 89 95 = σ 89 95 from (by first | exact i9 | exact i7 | omega)) (show τ 89 96 = σ 89 96 from (by first | exact i10 | exact i8 | omega)) (show m = i from by omega) (show (e = 0 ∧ ((0 : Int) = 0 ∨ (¬ σ 104 k.toNat = -4 ∧ σ 104 k.toNat = l))) ∨ (e = 1 ∧ σ 104 k.toNat = -4) ∨ (e = 3 ∧ ¬ σ 104 k.toNat = -4 ∧ ¬ σ 104 k.toNat = l) ∨ (e = 2 ∧ (¬ σ 104 k.toNat = -4 ∧ σ 104 k.toNat = l) ∧ ¬ (0 ≤ f + 2 * i ∧ f + 2 * i + 1 < σ 105 k.toNat)) from by omega) (show i = 0 ∨ (¬ σ 104 k.toNat = -4 ∧ σ 104 k.toNat = l) from by omega) (show τ 88 38 = σ 88 38 from by omega) (show ∀ rk : Nat → Int, MOB rk 0 σ → RDM rk (CM k σ) f m.toNat σ τ ∧ ∀ x : Nat, (x : Int) < m → rdF (σ 105 k.toNat) f x ∧ rdO (wM σ) rk (CM k σ) f (gM 0 σ) x = 0 from (by first | exact i15 | exact i13)) (show (100 * (11 - i) - 1 - (0 : Int)).toNat < N_ from by omega)
    · intro e he m hm i hi c hc τ hIτ hFτ i0 i1 i2 i3 i4 i5 i6 i7 i8 i9 i10 i11 i12 i13 i14 i15 hm
      have f105 : (0 : Int) ≤ τ 105 k.toNat ∧ τ 105 k.toNat ≤ 40 := hIτ 105 _
      have s104 : τ 104 k.toNat = σ 104 k.toNat := hFτ 104 _ (show ¬ ((104 = 88 ∧ (k.toNat = 38)) ∨ (104 = 89 ∧ (k.toNat < 100 ∨ 300 ≤ k.toNat))) from fun h => h.elim (fun h => absurd h.1 (by decide)) (fun h => absurd h.1 (by decide)))
      have s105 : τ 105 k.toNat = σ 105 k.toNat := hFτ 105 _ (show ¬ ((105 = 88 ∧ (k.toNat = 38)) ∨ (105 = 89 ∧ (k.toNat < 100 ∨ 300 ≤ k.toNat))) from fun h => h.elim (fun h => absurd h.1 (by decide)) (fun h => absurd h.1 (by decide)))
      have MT : wM τ = wM σ := wM_F (fun j a b => hFτ 91 j (show ¬ ((91 = 88 ∧ (j = 38)) ∨ (91 = 89 ∧ (j < 100 ∨ 300 ≤ j))) from fun h => h.elim (fun h => absurd h.1 (by decide)) (fun h => absurd h.1 (by decide)))) (fun j => hFτ 92 j (show ¬ ((92 = 88 ∧ (j = 38)) ∨ (92 = 89 ∧ (j < 100 ∨ 300 ≤ j))) from fun h => h.elim (fun h => absurd h.1 (by decide)) (fun h => absurd h.1 (by decide))))
      have ft : (1 : Int) ≤ τ 91 0 ∧ τ 91 0 ≤ 40 := hIτ 91 0
      refine j_iload (pc := 55) dX12_read_55 rfl ?_
      refine j_iconst (pc := 57) dX12_read_57 ?_
      refine j_icmpR_ge (pc := 58) (tgt := 142) ⟨by omega, by omega⟩ ⟨by omega, by omega⟩ dX12_read_58 rfl (fun h23 => ?_) (fun h23 => ?_)
      · refine j_iload (pc := 142) dX12_read_142 rfl ?_
        refine j_ifR_ne (pc := 144) (tgt := 200) ⟨by omega, by omega⟩ dX12_read_144 rfl (fun h24 => ?_) (fun h24 => ?_)
        · refine j_iinc (pc := 200) (i := 7) (n := 1) (ls' := [(0, vR 88), (1, vI k), (2, vI l), (3, vI f), (4, vI n), (5, vI e), (6, vI m), (7, vI (i + 1))]) [1, 2, 3, 4, 5, 6, 7, 0] dX12_read_200 rfl (Nat.le_of_ble_eq_true rfl) rfl rfl ?_
          refine j_goto (pc := 203) (tgt := 40) dX12_read_203 rfl ?_
          refine j_ls (ls' := [(0, vR 88), (1, vI k), (2, vI l), (3, vI f), (4, vI n), (5, vI e), (6, vI m), (7, vI (i + 1))]) [0, 1, 2, 3, 4, 5, 6, 7] rfl ?_
          exact ih.1 e ⟨by omega, by omega⟩ m ⟨by omega, by omega⟩ (i + 1) ⟨by omega, by omega⟩ τ hIτ hFτ (show mI τ from (by first | exact __0 | exact i0 | exact mI9)) (show 0 ≤ k ∧ k ≤ 3 ∧ 0 ≤ l ∧ l ≤ 2 from by omega) (show 0 ≤ n ∧ n ≤ 10 from by omega) (show ∀ j : Nat, (j : Int) < 100 → τ 89 (300 + (j : Int)).toNat = σ 89 (0 + (j : Int)).toNat from (by first | exact fun j hj => (hG_ 89 _ _).trans (i3 j hj) | exact i3 | exact __0)) (show m ≤ (i + 1) from by omega) (show τ 89 93 = σ 89 93 from (by first | exact (hG_ 89 93 _).trans i7 | exact i7 | omega)) (show τ 89 94 = σ 89 94 from (by first | exact (hG_ 89 94 _).trans i8 | exact i8 | omega)) (show τ 89 95 = σ 89 95 from (by first | exact (hG_ 89 95 _).trans i9 | exact i9 | omega)) (show τ 89 96 = σ 89 96 from (by first | exact (hG_ 89 96 _).trans i10 | exact i10 | omega)) (show (e = 0 ∧ m = (i + 1)) ∨ (e = 2 ∧ m + 1 = (i + 1) ∧ ¬ (0 ≤ f + 2 * m ∧ f + 2 * m + 1 < σ 105 k.toNat) ∧ (¬ σ 104 k.toNat = -4 ∧ σ 104 k.toNat = l)) ∨ (e = 1 ∧ m = 0 ∧ 0 < n ∧ σ 104 k.toNat = -4) ∨ (e = 3 ∧ m = 0 ∧ 0 < n ∧ ¬ σ 104 k.toNat = -4 ∧ ¬ σ 104 k.toNat = l) from by omega) (show ¬ e = 0 ∨ (i + 1) = 0 ∨ (¬ σ 104 k.toNat = -4 ∧ σ 104 k.toNat = l) from by omega) (show (i + 1) ≤ n from by omega) (show τ 88 38 = σ 88 38 from by omega) (show ∀ rk : Nat → Int, MOB rk 0 σ → RDM rk (CM k σ) f m.toNat σ τ ∧ ∀ x : Nat, (x : Int) < m → rdF (σ 105 k.toNat) f x ∧ rdO (wM σ) rk (CM k σ) f (gM 0 σ) x = 0 from (fun rk M => by
                                                              obtain ⟨a, b⟩ := i15 rk M
                                                              first
                                                              | exact ⟨a, b⟩
                                                              | (have y := __1; rcases RDM_s a eh9 es9 MT ft (hG_ 91 0 _) y with ⟨z1, z2⟩ | ⟨z1, z2, z3⟩; (exfalso; omega); exact ⟨by rw [show (m + 1).toNat = m.toNat + 1 from by omega]; exact z3, fun x hx => by by_cases q : (x : Int) = m; (rw [show x = m.toNat from by omega]; exact ⟨⟨by omega, by omega⟩, z2⟩); exact b x (by omega)⟩))) (show (100 * (11 - (i + 1))).toNat < N_ from by omega)
        · refine j_bipush (pc := 147) dX12_read_147 rfl ?_
          refine j_iload_n (pc := 149) dX12_read_149 rfl rfl ?_
          refine j_imul (pc := 150) dX12_read_150 ?_
          refine j_iload_n (pc := 151) dX12_read_151 rfl rfl ?_
          refine j_iadd (pc := 152) dX12_read_152 ?_
          refine j_iconst (pc := 153) dX12_read_153 ?_
          refine j_iload (pc := 154) dX12_read_154 rfl ?_
          refine j_imul (pc := 156) dX12_read_156 ?_
          refine j_iadd (pc := 157) dX12_read_157 ?_
          refine j_istore (pc := 158) (i := 8) (ls' := [(0, vR 88), (1, vI k), (2, vI l), (3, vI f), (4, vI n), (5, vI e), (6, vI m), (7, vI i), (8, vI (((40 * k) + f) + (2 * i)))]) [1, 2, 3, 4, 5, 6, 7, 8, 0] dX12_read_158 (Nat.le_of_ble_eq_true rfl) rfl rfl ?_
          refine j_aload_n (pc := 160) dX12_read_160 rfl rfl ?_
          refine j_aload_n (pc := 161) dX12_read_161 rfl rfl ?_
          refine j_getR (pc := 162) (r := 106) fl_X12_62 dX12_read_162 (a_88 hM) rfl ?_
          refine j_iload (pc := 165) dX12_read_165 rfl ?_
          have eh9 : τ 106 ((((40 * k) + f) + (2 * i))).toNat = CM k σ (f + 2 * ((m.toNat : Nat) : Int)) := by rw [CM_at ⟨by omega, by omega⟩, show (40 * k + (f + 2 * ((m.toNat : Nat) : Int))).toNat = ((((40 * k) + f) + (2 * i))).toNat from by omega]; exact hFτ 106 _ (show ¬ ((106 = 88 ∧ (((((40 * k) + f) + (2 * i))).toNat = 38)) ∨ (106 = 89 ∧ (((((40 * k) + f) + (2 * i))).toNat < 100 ∨ 300 ≤ ((((40 * k) + f) + (2 * i))).toNat))) from fun h => h.elim (fun h => absurd h.1 (by decide)) (fun h => absurd h.1 (by decide)))
          refine j_iald (pc := 167) dX12_read_167 (a_106 hM) (by omega) (by omega) (by decide) ?_
          have f25 : (-2147483648 : Int) ≤ τ 106 ((((40 * k) + f) + (2 * i)).toNat) ∧ τ 106 ((((40 * k) + f) + (2 * i)).toNat) ≤ 2147483647 := hIτ 106 ((((40 * k) + f) + (2 * i)).toNat)
          refine j_aload_n (pc := 168) dX12_read_168 rfl rfl ?_
          refine j_getR (pc := 169) (r := 106) fl_X12_62 dX12_read_169 (a_88 hM) rfl ?_
          refine j_iload (pc := 172) dX12_read_172 rfl ?_
          refine j_iconst (pc := 174) dX12_read_174 ?_
          refine j_iadd (pc := 175) dX12_read_175 ?_
          have es9 : τ 106 (((((40 * k) + f) + (2 * i)) + 1)).toNat = CM k σ (f + 2 * ((m.toNat : Nat) : Int) + 1) := by rw [CM_at ⟨by omega, by omega⟩, show (40 * k + (f + 2 * ((m.toNat : Nat) : Int) + 1)).toNat = (((((40 * k) + f) + (2 * i)) + 1)).toNat from by omega]; exact hFτ 106 _ (show ¬ ((106 = 88 ∧ ((((((40 * k) + f) + (2 * i)) + 1)).toNat = 38)) ∨ (106 = 89 ∧ ((((((40 * k) + f) + (2 * i)) + 1)).toNat < 100 ∨ 300 ≤ (((((40 * k) + f) + (2 * i)) + 1)).toNat))) from fun h => h.elim (fun h => absurd h.1 (by decide)) (fun h => absurd h.1 (by decide)))
          refine j_iald (pc := 176) dX12_read_176 (a_106 hM) (by omega) (by omega) (by decide) ?_
          have f26 : (-2147483648 : Int) ≤ τ 106 (((((40 * k) + f) + (2 * i)) + 1).toNat) ∧ τ 106 (((((40 * k) + f) + (2 * i)) + 1).toNat) ≤ 2147483647 := hIτ 106 (((((40 * k) + f) + (2 * i)) + 1).toNat)
          refine j_callV (pc := 177) (As := [vI (τ 106 ((((40 * k) + f) + (2 * i)).toNat)), vI (τ 106 (((((40 * k) + f) + (2 * i)) + 1).toNat))]) (st := []) (c_X12_put hM (τ 106 ((((40 * k) + f) + (2 * i)).toNat)) ⟨by omega, by omega⟩ (τ 106 (((((40 * k) + f) + (2 * i)) + 1).toNat)) ⟨by omega, by omega⟩ τ hIτ i0) mv_X12_380 rfl rfl rfl (a_88 hM) dX12_read_177 ⟨Nat.le_of_ble_eq_true rfl, Nat.le_of_ble_eq_true rfl⟩ ⟨Nat.le_refl _, Nat.le_refl _⟩ rfl (Nat.le_of_ble_eq_true rfl) rfl (fun z27 σ28 hz27 => ?_)
          obtain ⟨r30, rfl, hr30, hIσ28, hGσ28, q29_0, q29_1⟩ := hz27
          replace q29_0 : mI σ28 := q29_0
          replace q29_1 : (¬ whyS (wM τ) (gM 0 τ (τ 106 ((((40 * k) + f) + (2 * i)).toNat)).toNat) (cnt (gM 0 τ) (τ 91 0).toNat) (τ 89 (82 + (τ 106 (((((40 * k) + f) + (2 * i)) + 1).toNat))).toNat) (τ 106 ((((40 * k) + f) + (2 * i)).toNat)) (τ 106 (((((40 * k) + f) + (2 * i)) + 1).toNat)) = 0 ∧ r30 = whyS (wM τ) (gM 0 τ (τ 106 ((((40 * k) + f) + (2 * i)).toNat)).toNat) (cnt (gM 0 τ) (τ 91 0).toNat) (τ 89 (82 + (τ 106 (((((40 * k) + f) + (2 * i)) + 1).toNat))).toNat) (τ 106 ((((40 * k) + f) + (2 * i)).toNat)) (τ 106 (((((40 * k) + f) + (2 * i)) + 1).toNat)) ∧ ∀ c j, σ28 c j = τ c j) ∨ (whyS (wM τ) (gM 0 τ (τ 106 ((((40 * k) + f) + (2 * i)).toNat)).toNat) (cnt (gM 0 τ) (τ 91 0).toNat) (τ 89 (82 + (τ 106 (((((40 * k) + f) + (2 * i)) + 1).toNat))).toNat) (τ 106 ((((40 * k) + f) + (2 * i)).toNat)) (τ 106 (((((40 * k) + f) + (2 * i)) + 1).toNat)) = 0 ∧ r30 = cnt (gM 0 τ) (τ 106 ((((40 * k) + f) + (2 * i)).toNat)).toNat ∧ σ28 89 (τ 106 ((((40 * k) + f) + (2 * i)).toNat)).toNat = (τ 106 (((((40 * k) + f) + (2 * i)) + 1).toNat)) ∧ σ28 89 (41 + (τ 106 ((((40 * k) + f) + (2 * i)).toNat))).toNat = 0 ∧ (τ 89 (82 + (τ 106 (((((40 * k) + f) + (2 * i)) + 1).toNat))).toNat < 0 ∨ σ28 89 (82 + (τ 106 (((((40 * k) + f) + (2 * i)) + 1).toNat))).toNat = τ 89 (82 + (τ 106 (((((40 * k) + f) + (2 * i)) + 1).toNat))).toNat - 1) ∧ ∀ j : Nat, ¬ j = (τ 106 ((((40 * k) + f) + (2 * i)).toNat)).toNat → ¬ j = (41 + (τ 106 ((((40 * k) + f) + (2 * i)).toNat))).toNat → ¬ j = (82 + (τ 106 (((((40 * k) + f) + (2 * i)) + 1).toNat))).toNat → σ28 89 j = τ 89 j) := q29_1
          have hFσ28 : tw_F (fun c j => (c = 88 ∧ (j = 38)) ∨ (c = 89 ∧ (j < 100 ∨ 300 ≤ j))) σ σ28 := tw_F_tr hFτ hGσ28 (fun c j q => (show (c = 88 ∧ (j = 38)) ∨ (c = 89 ∧ (j < 100 ∨ 300 ≤ j)) from by replace q : (c = 89 ∧ j < 93) := q; omega))
          refine j_st (st' := [vI r30]) rfl ?_
          refine j_ifR_ge (pc := 180) (tgt := 197) ⟨by omega, by omega⟩ dX12_read_180 rfl (fun h31 => ?_) (fun h31 => ?_)
          · refine j_iinc (pc := 197) (i := 6) (n := 1) (ls' := [(0, vR 88), (1, vI k), (2, vI l), (3, vI f), (4, vI n), (5, vI e), (6, vI (m + 1)), (7, vI i)]) [1, 2, 3, 4, 5, 6, 0, 7] dX12_read_197 rfl (Nat.le_of_ble_eq_true rfl) rfl rfl ?_
            refine j_iinc (pc := 200) (i := 7) (n := 1) (ls' := [(0, vR 88), (1, vI k), (2, vI l), (3, vI f), (4, vI n), (5, vI e), (6, vI (m + 1)), (7, vI (i + 1))]) [1, 2, 3, 4, 5, 6, 7, 0] dX12_read_200 rfl (Nat.le_of_ble_eq_true rfl) rfl rfl ?_
            refine j_goto (pc := 203) (tgt := 40) dX12_read_203 rfl ?_
            refine j_ls (ls' := [(0, vR 88), (1, vI k), (2, vI l), (3, vI f), (4, vI n), (5, vI e), (6, vI (m + 1)), (7, vI (i + 1))]) [0, 1, 2, 3, 4, 5, 6, 7] rfl ?_
            have y32 : σ28 88 38 = τ 88 38 := (hGσ28 88 38 (show ¬ ((88 = 89 ∧ 38 < 93)) from by decide))
            have f33 : (-2147483648 : Int) ≤ τ 88 38 ∧ τ 88 38 ≤ 2147483647 := hIτ 88 38
            exact ih.1 e ⟨by omega, by omega⟩ (m + 1) ⟨by omega, by omega⟩ (i + 1) ⟨by omega, by omega⟩ σ28 hIσ28 hFσ28 (show mI σ28 from (by first | exact q29_0 | exact i0 | exact mI9)) (show 0 ≤ k ∧ k ≤ 3 ∧ 0 ≤ l ∧ l ≤ 2 from by omega) (show 0 ≤ n ∧ n ≤ 10 from by omega) (show ∀ j : Nat, (j : Int) < 100 → σ28 89 (300 + (j : Int)).toNat = σ 89 (0 + (j : Int)).toNat from (by first | exact fun j hj => (hGσ28 89 _ (show ¬ ((89 = 89 ∧ (300 + (j : Int)).toNat < 93)) from by omega)).trans (i3 j hj) | exact i3 | exact q29_0)) (show (m + 1) ≤ (i + 1) from by omega) (show σ28 89 93 = σ 89 93 from (by first | exact (hGσ28 89 93 (show ¬ ((89 = 89 ∧ 93 < 93)) from by decide)).trans i7 | exact i7 | omega)) (show σ28 89 94 = σ 89 94 from (by first | exact (hGσ28 89 94 (show ¬ ((89 = 89 ∧ 94 < 93)) from by decide)).trans i8 | exact i8 | omega)) (show σ28 89 95 = σ 89 95 from (by first | exact (hGσ28 89 95 (show ¬ ((89 = 89 ∧ 95 < 93)) from by decide)).trans i9 | exact i9 | omega)) (show σ28 89 96 = σ 89 96 from (by first | exact (hGσ28 89 96 (show ¬ ((89 = 89 ∧ 96 < 93)) from by decide)).trans i10 | exact i10 | omega)) (show (e = 0 ∧ (m + 1) = (i + 1)) ∨ (e = 2 ∧ (m + 1) + 1 = (i + 1) ∧ ¬ (0 ≤ f + 2 * (m + 1) ∧ f + 2 * (m + 1) + 1 < σ 105 k.toNat) ∧ (¬ σ 104 k.toNat = -4 ∧ σ 104 k.toNat = l)) ∨ (e = 1 ∧ (m + 1) = 0 ∧ 0 < n ∧ σ 104 k.toNat = -4) ∨ (e = 3 ∧ (m + 1) = 0 ∧ 0 < n ∧ ¬ σ 104 k.toNat = -4 ∧ ¬ σ 104 k.toNat = l) from by omega) (show ¬ e = 0 ∨ (i + 1) = 0 ∨ (¬ σ 104 k.toNat = -4 ∧ σ 104 k.toNat = l) from by omega) (show (i + 1) ≤ n from by omega) (show σ28 88 38 = σ 88 38 from by omega) (show ∀ rk : Nat → Int, MOB rk 0 σ → RDM rk (CM k σ) f (m + 1).toNat σ σ28 ∧ ∀ x : Nat, (x : Int) < (m + 1) → rdF (σ 105 k.toNat) f x ∧ rdO (wM σ) rk (CM k σ) f (gM 0 σ) x = 0 from (fun rk M => by
                                                              obtain ⟨a, b⟩ := i15 rk M
                                                              first
                                                              | exact ⟨a, b⟩
                                                              | (have y := q29_1; rcases RDM_s a eh9 es9 MT ft (hGσ28 91 0 (show ¬ ((91 = 89 ∧ 0 < 93)) from by decide)) y with ⟨z1, z2⟩ | ⟨z1, z2, z3⟩; (exfalso; omega); exact ⟨by rw [show (m + 1).toNat = m.toNat + 1 from by omega]; exact z3, fun x hx => by by_cases q : (x : Int) = m; (rw [show x = m.toNat from by omega]; exact ⟨⟨by omega, by omega⟩, z2⟩); exact b x (by omega)⟩))) (show (100 * (11 - (i + 1))).toNat < N_ from by omega)
          · refine j_aload_n (pc := 183) dX12_read_183 rfl rfl ?_
            refine j_iconst (pc := 184) dX12_read_184 ?_
            refine j_sipush (pc := 185) dX12_read_185 rfl ?_
            refine j_callV (pc := 188) (As := [vI 0, vI 300]) (st := []) (c_X12_copies hM 0 (by (first | decide | exact ⟨by omega, by omega⟩)) 300 (by (first | decide | exact ⟨by omega, by omega⟩)) σ28 hIσ28 (by omega) (by omega) (by omega)) mv_X12_283 rfl rfl rfl (a_88 hM) dX12_read_188 ⟨Nat.le_of_ble_eq_true rfl, Nat.le_of_ble_eq_true rfl⟩ ⟨Nat.le_refl _, Nat.le_refl _⟩ rfl (Nat.le_of_ble_eq_true rfl) rfl (fun z34 σ35 hz34 => ?_)
            obtain ⟨rfl, hIσ35, hGσ35, q36_0⟩ := hz34
            replace q36_0 : ∀ j : Nat, (j : Int) < 100 → σ35 89 ((0 : Int) + (j : Int)).toNat = σ28 89 ((300 : Int) + (j : Int)).toNat := q36_0
            have hFσ35 : tw_F (fun c j => (c = 88 ∧ (j = 38)) ∨ (c = 89 ∧ (j < 100 ∨ 300 ≤ j))) σ σ35 := tw_F_tr hFσ28 hGσ35 (fun c j q => (show (c = 88 ∧ (j = 38)) ∨ (c = 89 ∧ (j < 100 ∨ 300 ≤ j)) from by replace q : (c = 89 ∧ (0 : Int) ≤ (j : Int) ∧ (j : Int) < (0 : Int) + 100) := q; omega))
            refine j_st (st' := []) rfl ?_
            have mI9 : mI σ35 := mI_restore hI hq0 q36_0 (fun j hj => (hGσ28 89 _ (show ¬ ((89 = 89 ∧ (300 + (j : Int)).toNat < 93)) from by omega)).trans (i3 j hj)) (fun j h1 h2 => hFσ35 89 j (show ¬ ((89 = 88 ∧ (j = 38)) ∨ (89 = 89 ∧ (j < 100 ∨ 300 ≤ j))) from by omega)) (fun j => hFσ35 90 j (show ¬ ((90 = 88 ∧ (j = 38)) ∨ (90 = 89 ∧ (j < 100 ∨ 300 ≤ j))) from fun h => h.elim (fun h => absurd h.1 (by decide)) (fun h => absurd h.1 (by decide)))) (hFσ35 91 0 (show ¬ ((91 = 88 ∧ (0 = 38)) ∨ (91 = 89 ∧ (0 < 100 ∨ 300 ≤ 0))) from by decide))
            have fp : ∀ j : Nat, (j : Int) < 100 → σ28 89 (300 + (j : Int)).toNat = σ 89 (0 + (j : Int)).toNat := fun j hj => (hGσ28 89 _ (show ¬ ((89 = 89 ∧ (300 + (j : Int)).toNat < 93)) from by omega)).trans (i3 j hj)
            have r93 : σ35 89 93 = σ 89 93 := (cpy q36_0 (j := 93) (a := 93) (b := 393) (by decide) (by omega) (by omega)).trans (cpy fp (j := 93) (a := 393) (b := 93) (by decide) (by omega) (by omega))
            have r94 : σ35 89 94 = σ 89 94 := (cpy q36_0 (j := 94) (a := 94) (b := 394) (by decide) (by omega) (by omega)).trans (cpy fp (j := 94) (a := 394) (b := 94) (by decide) (by omega) (by omega))
            have r95 : σ35 89 95 = σ 89 95 := (cpy q36_0 (j := 95) (a := 95) (b := 395) (by decide) (by omega) (by omega)).trans (cpy fp (j := 95) (a := 395) (b := 95) (by decide) (by omega) (by omega))
            have r96 : σ35 89 96 = σ 89 96 := (cpy q36_0 (j := 96) (a := 96) (b := 396) (by decide) (by omega) (by omega)).trans (cpy fp (j := 96) (a := 396) (b := 96) (by decide) (by omega) (by omega))
            refine j_bipush (pc := 191) dX12_read_191 rfl ?_
            refine j_iload (pc := 193) dX12_read_193 rfl ?_
            refine j_isub (pc := 195) dX12_read_195 ?_
            have rb9 : ∀ j : Nat, j < 93 → σ35 89 j = σ 89 j := fun j hj => (cpy q36_0 (j := j) (a := j) (b := 300 + j) (by omega) (by omega) (by omega)).trans (cpy fp (j := j) (a := 300 + j) (b := j) (by omega) (by omega) (by omega))
            have fin : ∀ rk : Nat → Int, MOB rk 0 σ → (((-20) - i) = -1 ∧ ¬ (0 ≤ k ∧ k ≤ 3 ∧ 0 ≤ l ∧ l ≤ 2 ∧ 0 ≤ n ∧ n ≤ 10) ∧ ∀ c j, σ35 c j = σ c j) ∨ ((0 ≤ k ∧ k ≤ 3 ∧ 0 ≤ l ∧ l ≤ 2 ∧ 0 ≤ n ∧ n ≤ 10) ∧ ∃ cz : Int, ((cz = 0 ∧ 0 < n ∧ ((-20) - i) = 0 ∧ σ35 88 38 = 1 ∧ σ 104 k.toNat = -4) ∨ (cz = 0 ∧ 0 < n ∧ ((-20) - i) = 0 ∧ σ35 88 38 = 3 ∧ ¬ σ 104 k.toNat = -4 ∧ ¬ σ 104 k.toNat = l) ∨ ((n = 0 ∨ (¬ σ 104 k.toNat = -4 ∧ σ 104 k.toNat = l)) ∧ RDE (rdF (σ 105 k.toNat) f) (fun x => rdO (wM σ) rk (CM k σ) f (gM 0 σ) x = 0) n cz ((-20) - i) (σ35 88 38))) ∧ ((0 ≤ ((-20) - i) ∧ RDM rk (CM k σ) f cz.toNat σ σ35) ∨ (((-20) - i) < 0 ∧ RDM rk (CM k σ) f 0 σ σ35 ∧ σ35 88 38 = σ 88 38))) := fun rk M => by
              obtain ⟨a, b⟩ := i15 rk M
              have y := q29_1
              rcases RDM_s a eh9 es9 MT ft (hGσ28 91 0 (show ¬ ((91 = 89 ∧ 0 < 93)) from by decide)) y with ⟨z1, z2⟩ | ⟨z1, z2, z3⟩
              · exact Or.inr ⟨by omega, m, Or.inr (Or.inr ⟨by omega, ⟨by omega, by omega⟩, b, Or.inr (Or.inr ⟨by omega, ⟨by omega, by omega⟩, z2, by omega⟩)⟩), Or.inr ⟨by omega, RDM_0 M rb9 (hFσ35 91 0 (show ¬ ((91 = 88 ∧ (0 = 38)) ∨ (91 = 89 ∧ (0 < 100 ∨ 300 ≤ 0))) from by decide)), ((((hGσ35 88 38 (show ¬ ((88 = 89 ∧ (0 : Int) ≤ (38 : Int) ∧ (38 : Int) < (0 : Int) + 100)) from fun h => absurd h.1 (by decide)))).trans (hGσ28 88 38 (show ¬ ((88 = 89 ∧ 38 < 93)) from by decide)))).trans i14⟩⟩
              · exfalso; omega
            have y38 : σ35 88 38 = τ 88 38 := ((hGσ35 88 38 (show ¬ ((88 = 89 ∧ (0 : Int) ≤ (38 : Int) ∧ (38 : Int) < (0 : Int) + 100)) from fun h => absurd h.1 (by decide)))).trans (hGσ28 88 38 (show ¬ ((88 = 89 ∧ 38 < 93)) from by decide))
            have f39 : (-2147483648 : Int) ≤ τ 88 38 ∧ τ 88 38 ≤ 2147483647 := hIτ 88 38
            exact j_iret (pc := 196) ⟨rfl, rfl⟩ dX12_read_196 rfl ⟨_, rfl, ⟨by omega, by omega⟩, hIσ35, hFσ35, (by first | exact mI9 | exact hq0), (by first | rfl | exact r93 | exact (rfl).trans i5 | omega), (by first | rfl | exact r94 | exact (rfl).trans i6 | omega), (by first | rfl | exact r95 | exact (rfl).trans i7 | omega), (by first | rfl | exact r96 | exact (rfl).trans i8 | omega), fin⟩
      · refine j_iload (pc := 61) dX12_read_61 rfl ?_
        refine j_ifR_ne (pc := 63) (tgt := 142) ⟨by omega, by omega⟩ dX12_read_63 rfl (fun h40 => ?_) (fun h40 => ?_)
        · refine j_iload (pc := 142) dX12_read_142 rfl ?_
          refine j_ifR_ne (pc := 144) (tgt := 200) ⟨by omega, by omega⟩ dX12_read_144 rfl (fun h41 => ?_) (fun h41 => by exfalso; omega)
          refine j_iinc (pc := 200) (i := 7) (n := 1) (ls' := [(0, vR 88), (1, vI k), (2, vI l), (3, vI f), (4, vI n), (5, vI e), (6, vI m), (7, vI (i + 1))]) [1, 2, 3, 4, 5, 6, 7, 0] dX12_read_200 rfl (Nat.le_of_ble_eq_true rfl) rfl rfl ?_
          refine j_goto (pc := 203) (tgt := 40) dX12_read_203 rfl ?_
          refine j_ls (ls' := [(0, vR 88), (1, vI k), (2, vI l), (3, vI f), (4, vI n), (5, vI e), (6, vI m), (7, vI (i + 1))]) [0, 1, 2, 3, 4, 5, 6, 7] rfl ?_
          exact ih.1 e ⟨by omega, by omega⟩ m ⟨by omega, by omega⟩ (i + 1) ⟨by omega, by omega⟩ τ hIτ hFτ (show mI τ from (by first | exact __0 | exact i0 | exact mI9)) (show 0 ≤ k ∧ k ≤ 3 ∧ 0 ≤ l ∧ l ≤ 2 from by omega) (show 0 ≤ n ∧ n ≤ 10 from by omega) (show ∀ j : Nat, (j : Int) < 100 → τ 89 (300 + (j : Int)).toNat = σ 89 (0 + (j : Int)).toNat from (by first | exact fun j hj => (hG_ 89 _ _).trans (i3 j hj) | exact i3 | exact __0)) (show m ≤ (i + 1) from by omega) (show τ 89 93 = σ 89 93 from (by first | exact (hG_ 89 93 _).trans i7 | exact i7 | omega)) (show τ 89 94 = σ 89 94 from (by first | exact (hG_ 89 94 _).trans i8 | exact i8 | omega)) (show τ 89 95 = σ 89 95 from (by first | exact (hG_ 89 95 _).trans i9 | exact i9 | omega)) (show τ 89 96 = σ 89 96 from (by first | exact (hG_ 89 96 _).trans i10 | exact i10 | omega)) (show (e = 0 ∧ m = (i + 1)) ∨ (e = 2 ∧ m + 1 = (i + 1) ∧ ¬ (0 ≤ f + 2 * m ∧ f + 2 * m + 1 < σ 105 k.toNat) ∧ (¬ σ 104 k.toNat = -4 ∧ σ 104 k.toNat = l)) ∨ (e = 1 ∧ m = 0 ∧ 0 < n ∧ σ 104 k.toNat = -4) ∨ (e = 3 ∧ m = 0 ∧ 0 < n ∧ ¬ σ 104 k.toNat = -4 ∧ ¬ σ 104 k.toNat = l) from by omega) (show ¬ e = 0 ∨ (i + 1) = 0 ∨ (¬ σ 104 k.toNat = -4 ∧ σ 104 k.toNat = l) from by omega) (show (i + 1) ≤ n from by omega) (show τ 88 38 = σ 88 38 from by omega) (show ∀ rk : Nat → Int, MOB rk 0 σ → RDM rk (CM k σ) f m.toNat σ τ ∧ ∀ x : Nat, (x : Int) < m → rdF (σ 105 k.toNat) f x ∧ rdO (wM σ) rk (CM k σ) f (gM 0 σ) x = 0 from (fun rk M => by
                                                              obtain ⟨a, b⟩ := i15 rk M
                                                              first
                                                              | exact ⟨a, b⟩
                                                              | (have y := __1; rcases RDM_s a eh9 es9 MT ft (hG_ 91 0 _) y with ⟨z1, z2⟩ | ⟨z1, z2, z3⟩; (exfalso; omega); exact ⟨by rw [show (m + 1).toNat = m.toNat + 1 from by omega]; exact z3, fun x hx => by by_cases q : (x : Int) = m; (rw [show x = m.toNat from by omega]; exact ⟨⟨by omega, by omega⟩, z2⟩); exact b x (by omega)⟩))) (show (100 * (11 - (i + 1))).toNat < N_ from by omega)
        · refine j_iload_n (pc := 66) dX12_read_66 rfl rfl ?_
          refine j_i2l (pc := 67) dX12_read_67 ?_
          rw [w32_eq (a := f) (by omega) (by omega)]
          refine j_iconst (pc := 68) dX12_read_68 ?_
          refine j_iload (pc := 69) dX12_read_69 rfl ?_
          refine j_imul (pc := 71) dX12_read_71 ?_
          refine j_i2l (pc := 72) dX12_read_72 ?_
          rw [w32_eq (a := 2 * i) (by omega) (by omega)]
          refine j_ladd (pc := 73) dX12_read_73 ?_
          refine j_iload (pc := 74) dX12_read_74 rfl ?_
          refine j_i2l (pc := 76) dX12_read_76 ?_
          rw [w32_eq (a := c) (by omega) (by omega)]
          refine j_ladd (pc := 77) dX12_read_77 ?_
          refine j_lstore (pc := 78) (i := 9) (ls' := [(0, vR 88), (1, vI k), (2, vI l), (3, vI f), (4, vI n), (6, vI m), (7, vI i), (8, vI c), (9, vL ((f + (2 * i)) + c))]) [1, 2, 3, 4, 5, 7, 8, 9, 0] dX12_read_78 (Nat.le_of_ble_eq_true rfl) rfl rfl ?_
          refine j_aload_n (pc := 80) dX12_read_80 rfl rfl ?_
          refine j_getR (pc := 81) (r := 104) fl_X12_56 dX12_read_81 (a_88 hM) rfl ?_
          refine j_iload_n (pc := 84) dX12_read_84 rfl rfl ?_
          refine j_iald (pc := 85) dX12_read_85 (a_104 hM) (by omega) (by omega) (by decide) ?_
          have f42 : (-4 : Int) ≤ τ 104 (k.toNat) ∧ τ 104 (k.toNat) ≤ 2 := hIτ 104 (k.toNat)
          refine j_bipush (pc := 86) dX12_read_86 rfl ?_
          refine j_icmpR_ne (pc := 88) (tgt := 95) ⟨by omega, by omega⟩ ⟨by omega, by omega⟩ dX12_read_88 rfl (fun h43 => ?_) (fun h43 => ?_)
          · refine j_aload_n (pc := 95) dX12_read_95 rfl rfl ?_
            refine j_getR (pc := 96) (r := 104) fl_X12_56 dX12_read_96 (a_88 hM) rfl ?_
            refine j_iload_n (pc := 99) dX12_read_99 rfl rfl ?_
            refine j_iald (pc := 100) dX12_read_100 (a_104 hM) (by omega) (by omega) (by decide) ?_
            refine j_iload_n (pc := 101) dX12_read_101 rfl rfl ?_
            refine j_icmpR_eq (pc := 102) (tgt := 109) ⟨by omega, by omega⟩ ⟨by omega, by omega⟩ dX12_read_102 rfl (fun h44 => ?_) (fun h44 => ?_)
            · refine j_lload (pc := 109) dX12_read_109 rfl ?_
              refine j_lconst (pc := 111) (z := 0) dX12_read_111 rfl ?_
              refine j_lcmp (pc := 112) dX12_read_112 (fun z45 ez45 => ?_)
              have hz45 : (z45 = 1 ∧ 0 < (f + (2 * i)) + c) ∨ (z45 = 0 ∧ (f + (2 * i)) + c = 0) ∨ (z45 = -1 ∧ (f + (2 * i)) + c < 0) := by rw [ez45]; exact tw_cmp_eq ⟨by omega, by omega⟩ ⟨by omega, by omega⟩
              refine j_ifR_lt (pc := 113) (tgt := 129) ⟨by omega, by omega⟩ dX12_read_113 rfl (fun h46 => ?_) (fun h46 => ?_)
              · refine j_iconst (pc := 129) dX12_read_129 ?_
                refine j_goto (pc := 130) (tgt := 134) dX12_read_130 rfl ?_
                refine j_istore (pc := 134) (i := 5) (ls' := [(0, vR 88), (1, vI k), (2, vI l), (3, vI f), (4, vI n), (5, vI 2), (6, vI m), (7, vI i), (8, vI c)]) [1, 2, 3, 4, 5, 0, 6, 7, 8] dX12_read_134 (Nat.le_of_ble_eq_true rfl) rfl rfl ?_
                refine j_iinc (pc := 136) (i := 8) (n := 1) (ls' := [(0, vR 88), (1, vI k), (2, vI l), (3, vI f), (4, vI n), (5, vI 2), (6, vI m), (7, vI i), (8, vI (c + 1))]) [1, 2, 3, 4, 5, 6, 7, 8, 0] dX12_read_136 rfl (Nat.le_of_ble_eq_true rfl) rfl rfl ?_
                refine j_goto (pc := 139) (tgt := 55) dX12_read_139 rfl ?_
                refine j_ls (ls' := [(0, vR 88), (1, vI k), (2, vI l), (3, vI f), (4, vI n), (5, vI 2), (6, vI m), (7, vI i), (8, vI (c + 1))]) [0, 1, 2, 3, 4, 5, 6, 7, 8] rfl ?_
                exact ih.2 2 (by (first | decide | exact ⟨by omega, by omega⟩)) m ⟨by omega, by omega⟩ i ⟨by omega, by omega⟩ (c + 1) ⟨by omega, by omega⟩ τ hIτ hFτ (show mI τ from i0) (show 0 ≤ k ∧ k ≤ 3 ∧ 0 ≤ l ∧ l ≤ 2 from by omega) (show 0 ≤ n ∧ n ≤ 10 from by omega) (show ∀ j : Nat, (j : Int) < 100 → τ 89 (300 + (j : Int)).toNat = σ 89 (0 + (j : Int)).toNat from i3) (show m ≤ i from by omega) (show i < n from by omega) (show ¬ (2 : Int) = 0 ∨ (((c + 1) = 0 ∨ (0 ≤ f + 2 * i ∧ f + 2 * i < τ 105 k.toNat)) ∧ ((c + 1) ≤ 1 ∨ f + 2 * i + 1 < τ 105 k.toNat)) from by omega) (show τ 89 93 = σ 89 93 from (by first | exact i7 | exact i5 | omega)) (show τ 89 94 = σ 89 94 from (by first | exact i8 | exact i6 | omega)) (show τ 89 95 = σ 89 95 from (by first | exact i9 | exact i7 | omega)) (show τ 89 96 = σ 89 96 from (by first | exact i10 | exact i8 | omega)) (show m = i from by omega) (show ((2 : Int) = 0 ∧ ((c + 1) = 0 ∨ (¬ σ 104 k.toNat = -4 ∧ σ 104 k.toNat = l))) ∨ ((2 : Int) = 1 ∧ σ 104 k.toNat = -4) ∨ ((2 : Int) = 3 ∧ ¬ σ 104 k.toNat = -4 ∧ ¬ σ 104 k.toNat = l) ∨ ((2 : Int) = 2 ∧ (¬ σ 104 k.toNat = -4 ∧ σ 104 k.toNat = l) ∧ ¬ (0 ≤ f + 2 * i ∧ f + 2 * i + 1 < σ 105 k.toNat)) from by omega) (show i = 0 ∨ (¬ σ 104 k.toNat = -4 ∧ σ 104 k.toNat = l) from by omega) (show τ 88 38 = σ 88 38 from by omega) (show ∀ rk : Nat → Int, MOB rk 0 σ → RDM rk (CM k σ) f m.toNat σ τ ∧ ∀ x : Nat, (x : Int) < m → rdF (σ 105 k.toNat) f x ∧ rdO (wM σ) rk (CM k σ) f (gM 0 σ) x = 0 from (by first | exact i15 | exact i13)) (show (100 * (11 - i) - 1 - (c + 1)).toNat < N_ from by omega)
              · refine j_lload (pc := 116) dX12_read_116 rfl ?_
                refine j_aload_n (pc := 118) dX12_read_118 rfl rfl ?_
                refine j_getR (pc := 119) (r := 105) fl_X12_59 dX12_read_119 (a_88 hM) rfl ?_
                refine j_iload_n (pc := 122) dX12_read_122 rfl rfl ?_
                refine j_iald (pc := 123) dX12_read_123 (a_105 hM) (by omega) (by omega) (by decide) ?_
                have f47 : (0 : Int) ≤ τ 105 (k.toNat) ∧ τ 105 (k.toNat) ≤ 40 := hIτ 105 (k.toNat)
                refine j_i2l (pc := 124) dX12_read_124 ?_
                rw [w32_eq (a := τ 105 (k.toNat)) (by omega) (by omega)]
                refine j_lcmp (pc := 125) dX12_read_125 (fun z48 ez48 => ?_)
                have hz48 : (z48 = 1 ∧ τ 105 (k.toNat) < (f + (2 * i)) + c) ∨ (z48 = 0 ∧ (f + (2 * i)) + c = τ 105 (k.toNat)) ∨ (z48 = -1 ∧ (f + (2 * i)) + c < τ 105 (k.toNat)) := by rw [ez48]; exact tw_cmp_eq ⟨by omega, by omega⟩ ⟨by omega, by omega⟩
                refine j_ifR_lt (pc := 126) (tgt := 133) ⟨by omega, by omega⟩ dX12_read_126 rfl (fun h49 => ?_) (fun h49 => ?_)
                · refine j_iconst (pc := 133) dX12_read_133 ?_
                  refine j_istore (pc := 134) (i := 5) (ls' := [(0, vR 88), (1, vI k), (2, vI l), (3, vI f), (4, vI n), (5, vI 0), (6, vI m), (7, vI i), (8, vI c)]) [1, 2, 3, 4, 5, 0, 6, 7, 8] dX12_read_134 (Nat.le_of_ble_eq_true rfl) rfl rfl ?_
                  refine j_iinc (pc := 136) (i := 8) (n := 1) (ls' := [(0, vR 88), (1, vI k), (2, vI l), (3, vI f), (4, vI n), (5, vI 0), (6, vI m), (7, vI i), (8, vI (c + 1))]) [1, 2, 3, 4, 5, 6, 7, 8, 0] dX12_read_136 rfl (Nat.le_of_ble_eq_true rfl) rfl rfl ?_
                  refine j_goto (pc := 139) (tgt := 55) dX12_read_139 rfl ?_
                  refine j_ls (ls' := [(0, vR 88), (1, vI k), (2, vI l), (3, vI f), (4, vI n), (5, vI 0), (6, vI m), (7, vI i), (8, vI (c + 1))]) [0, 1, 2, 3, 4, 5, 6, 7, 8] rfl ?_
                  exact ih.2 0 (by (first | decide | exact ⟨by omega, by omega⟩)) m ⟨by omega, by omega⟩ i ⟨by omega, by omega⟩ (c + 1) ⟨by omega, by omega⟩ τ hIτ hFτ (show mI τ from i0) (show 0 ≤ k ∧ k ≤ 3 ∧ 0 ≤ l ∧ l ≤ 2 from by omega) (show 0 ≤ n ∧ n ≤ 10 from by omega) (show ∀ j : Nat, (j : Int) < 100 → τ 89 (300 + (j : Int)).toNat = σ 89 (0 + (j : Int)).toNat from i3) (show m ≤ i from by omega) (show i < n from by omega) (show ¬ (0 : Int) = 0 ∨ (((c + 1) = 0 ∨ (0 ≤ f + 2 * i ∧ f + 2 * i < τ 105 k.toNat)) ∧ ((c + 1) ≤ 1 ∨ f + 2 * i + 1 < τ 105 k.toNat)) from by omega) (show τ 89 93 = σ 89 93 from (by first | exact i7 | exact i5 | omega)) (show τ 89 94 = σ 89 94 from (by first | exact i8 | exact i6 | omega)) (show τ 89 95 = σ 89 95 from (by first | exact i9 | exact i7 | omega)) (show τ 89 96 = σ 89 96 from (by first | exact i10 | exact i8 | omega)) (show m = i from by omega) (show ((0 : Int) = 0 ∧ ((c + 1) = 0 ∨ (¬ σ 104 k.toNat = -4 ∧ σ 104 k.toNat = l))) ∨ ((0 : Int) = 1 ∧ σ 104 k.toNat = -4) ∨ ((0 : Int) = 3 ∧ ¬ σ 104 k.toNat = -4 ∧ ¬ σ 104 k.toNat = l) ∨ ((0 : Int) = 2 ∧ (¬ σ 104 k.toNat = -4 ∧ σ 104 k.toNat = l) ∧ ¬ (0 ≤ f + 2 * i ∧ f + 2 * i + 1 < σ 105 k.toNat)) from by omega) (show i = 0 ∨ (¬ σ 104 k.toNat = -4 ∧ σ 104 k.toNat = l) from by omega) (show τ 88 38 = σ 88 38 from by omega) (show ∀ rk : Nat → Int, MOB rk 0 σ → RDM rk (CM k σ) f m.toNat σ τ ∧ ∀ x : Nat, (x : Int) < m → rdF (σ 105 k.toNat) f x ∧ rdO (wM σ) rk (CM k σ) f (gM 0 σ) x = 0 from (by first | exact i15 | exact i13)) (show (100 * (11 - i) - 1 - (c + 1)).toNat < N_ from by omega)
                · refine j_iconst (pc := 129) dX12_read_129 ?_
                  refine j_goto (pc := 130) (tgt := 134) dX12_read_130 rfl ?_
                  refine j_istore (pc := 134) (i := 5) (ls' := [(0, vR 88), (1, vI k), (2, vI l), (3, vI f), (4, vI n), (5, vI 2), (6, vI m), (7, vI i), (8, vI c)]) [1, 2, 3, 4, 5, 0, 6, 7, 8] dX12_read_134 (Nat.le_of_ble_eq_true rfl) rfl rfl ?_
                  refine j_iinc (pc := 136) (i := 8) (n := 1) (ls' := [(0, vR 88), (1, vI k), (2, vI l), (3, vI f), (4, vI n), (5, vI 2), (6, vI m), (7, vI i), (8, vI (c + 1))]) [1, 2, 3, 4, 5, 6, 7, 8, 0] dX12_read_136 rfl (Nat.le_of_ble_eq_true rfl) rfl rfl ?_
                  refine j_goto (pc := 139) (tgt := 55) dX12_read_139 rfl ?_
                  refine j_ls (ls' := [(0, vR 88), (1, vI k), (2, vI l), (3, vI f), (4, vI n), (5, vI 2), (6, vI m), (7, vI i), (8, vI (c + 1))]) [0, 1, 2, 3, 4, 5, 6, 7, 8] rfl ?_
                  exact ih.2 2 (by (first | decide | exact ⟨by omega, by omega⟩)) m ⟨by omega, by omega⟩ i ⟨by omega, by omega⟩ (c + 1) ⟨by omega, by omega⟩ τ hIτ hFτ (show mI τ from i0) (show 0 ≤ k ∧ k ≤ 3 ∧ 0 ≤ l ∧ l ≤ 2 from by omega) (show 0 ≤ n ∧ n ≤ 10 from by omega) (show ∀ j : Nat, (j : Int) < 100 → τ 89 (300 + (j : Int)).toNat = σ 89 (0 + (j : Int)).toNat from i3) (show m ≤ i from by omega) (show i < n from by omega) (show ¬ (2 : Int) = 0 ∨ (((c + 1) = 0 ∨ (0 ≤ f + 2 * i ∧ f + 2 * i < τ 105 k.toNat)) ∧ ((c + 1) ≤ 1 ∨ f + 2 * i + 1 < τ 105 k.toNat)) from by omega) (show τ 89 93 = σ 89 93 from (by first | exact i7 | exact i5 | omega)) (show τ 89 94 = σ 89 94 from (by first | exact i8 | exact i6 | omega)) (show τ 89 95 = σ 89 95 from (by first | exact i9 | exact i7 | omega)) (show τ 89 96 = σ 89 96 from (by first | exact i10 | exact i8 | omega)) (show m = i from by omega) (show ((2 : Int) = 0 ∧ ((c + 1) = 0 ∨ (¬ σ 104 k.toNat = -4 ∧ σ 104 k.toNat = l))) ∨ ((2 : Int) = 1 ∧ σ 104 k.toNat = -4) ∨ ((2 : Int) = 3 ∧ ¬ σ 104 k.toNat = -4 ∧ ¬ σ 104 k.toNat = l) ∨ ((2 : Int) = 2 ∧ (¬ σ 104 k.toNat = -4 ∧ σ 104 k.toNat = l) ∧ ¬ (0 ≤ f + 2 * i ∧ f + 2 * i + 1 < σ 105 k.toNat)) from by omega) (show i = 0 ∨ (¬ σ 104 k.toNat = -4 ∧ σ 104 k.toNat = l) from by omega) (show τ 88 38 = σ 88 38 from by omega) (show ∀ rk : Nat → Int, MOB rk 0 σ → RDM rk (CM k σ) f m.toNat σ τ ∧ ∀ x : Nat, (x : Int) < m → rdF (σ 105 k.toNat) f x ∧ rdO (wM σ) rk (CM k σ) f (gM 0 σ) x = 0 from (by first | exact i15 | exact i13)) (show (100 * (11 - i) - 1 - (c + 1)).toNat < N_ from by omega)
            · refine j_iconst (pc := 105) dX12_read_105 ?_
              refine j_goto (pc := 106) (tgt := 134) dX12_read_106 rfl ?_
              refine j_istore (pc := 134) (i := 5) (ls' := [(0, vR 88), (1, vI k), (2, vI l), (3, vI f), (4, vI n), (5, vI 3), (6, vI m), (7, vI i), (8, vI c)]) [1, 2, 3, 4, 5, 0, 6, 7, 8] dX12_read_134 (Nat.le_of_ble_eq_true rfl) rfl rfl ?_
              refine j_iinc (pc := 136) (i := 8) (n := 1) (ls' := [(0, vR 88), (1, vI k), (2, vI l), (3, vI f), (4, vI n), (5, vI 3), (6, vI m), (7, vI i), (8, vI (c + 1))]) [1, 2, 3, 4, 5, 6, 7, 8, 0] dX12_read_136 rfl (Nat.le_of_ble_eq_true rfl) rfl rfl ?_
              refine j_goto (pc := 139) (tgt := 55) dX12_read_139 rfl ?_
              refine j_ls (ls' := [(0, vR 88), (1, vI k), (2, vI l), (3, vI f), (4, vI n), (5, vI 3), (6, vI m), (7, vI i), (8, vI (c + 1))]) [0, 1, 2, 3, 4, 5, 6, 7, 8] rfl ?_
              exact ih.2 3 (by (first | decide | exact ⟨by omega, by omega⟩)) m ⟨by omega, by omega⟩ i ⟨by omega, by omega⟩ (c + 1) ⟨by omega, by omega⟩ τ hIτ hFτ (show mI τ from i0) (show 0 ≤ k ∧ k ≤ 3 ∧ 0 ≤ l ∧ l ≤ 2 from by omega) (show 0 ≤ n ∧ n ≤ 10 from by omega) (show ∀ j : Nat, (j : Int) < 100 → τ 89 (300 + (j : Int)).toNat = σ 89 (0 + (j : Int)).toNat from i3) (show m ≤ i from by omega) (show i < n from by omega) (show ¬ (3 : Int) = 0 ∨ (((c + 1) = 0 ∨ (0 ≤ f + 2 * i ∧ f + 2 * i < τ 105 k.toNat)) ∧ ((c + 1) ≤ 1 ∨ f + 2 * i + 1 < τ 105 k.toNat)) from by omega) (show τ 89 93 = σ 89 93 from (by first | exact i7 | exact i5 | omega)) (show τ 89 94 = σ 89 94 from (by first | exact i8 | exact i6 | omega)) (show τ 89 95 = σ 89 95 from (by first | exact i9 | exact i7 | omega)) (show τ 89 96 = σ 89 96 from (by first | exact i10 | exact i8 | omega)) (show m = i from by omega) (show ((3 : Int) = 0 ∧ ((c + 1) = 0 ∨ (¬ σ 104 k.toNat = -4 ∧ σ 104 k.toNat = l))) ∨ ((3 : Int) = 1 ∧ σ 104 k.toNat = -4) ∨ ((3 : Int) = 3 ∧ ¬ σ 104 k.toNat = -4 ∧ ¬ σ 104 k.toNat = l) ∨ ((3 : Int) = 2 ∧ (¬ σ 104 k.toNat = -4 ∧ σ 104 k.toNat = l) ∧ ¬ (0 ≤ f + 2 * i ∧ f + 2 * i + 1 < σ 105 k.toNat)) from by omega) (show i = 0 ∨ (¬ σ 104 k.toNat = -4 ∧ σ 104 k.toNat = l) from by omega) (show τ 88 38 = σ 88 38 from by omega) (show ∀ rk : Nat → Int, MOB rk 0 σ → RDM rk (CM k σ) f m.toNat σ τ ∧ ∀ x : Nat, (x : Int) < m → rdF (σ 105 k.toNat) f x ∧ rdO (wM σ) rk (CM k σ) f (gM 0 σ) x = 0 from (by first | exact i15 | exact i13)) (show (100 * (11 - i) - 1 - (c + 1)).toNat < N_ from by omega)
          · refine j_iconst (pc := 91) dX12_read_91 ?_
            refine j_goto (pc := 92) (tgt := 134) dX12_read_92 rfl ?_
            refine j_istore (pc := 134) (i := 5) (ls' := [(0, vR 88), (1, vI k), (2, vI l), (3, vI f), (4, vI n), (5, vI 1), (6, vI m), (7, vI i), (8, vI c)]) [1, 2, 3, 4, 5, 0, 6, 7, 8] dX12_read_134 (Nat.le_of_ble_eq_true rfl) rfl rfl ?_
            refine j_iinc (pc := 136) (i := 8) (n := 1) (ls' := [(0, vR 88), (1, vI k), (2, vI l), (3, vI f), (4, vI n), (5, vI 1), (6, vI m), (7, vI i), (8, vI (c + 1))]) [1, 2, 3, 4, 5, 6, 7, 8, 0] dX12_read_136 rfl (Nat.le_of_ble_eq_true rfl) rfl rfl ?_
            refine j_goto (pc := 139) (tgt := 55) dX12_read_139 rfl ?_
            refine j_ls (ls' := [(0, vR 88), (1, vI k), (2, vI l), (3, vI f), (4, vI n), (5, vI 1), (6, vI m), (7, vI i), (8, vI (c + 1))]) [0, 1, 2, 3, 4, 5, 6, 7, 8] rfl ?_
            exact ih.2 1 (by (first | decide | exact ⟨by omega, by omega⟩)) m ⟨by omega, by omega⟩ i ⟨by omega, by omega⟩ (c + 1) ⟨by omega, by omega⟩ τ hIτ hFτ (show mI τ from i0) (show 0 ≤ k ∧ k ≤ 3 ∧ 0 ≤ l ∧ l ≤ 2 from by omega) (show 0 ≤ n ∧ n ≤ 10 from by omega) (show ∀ j : Nat, (j : Int) < 100 → τ 89 (300 + (j : Int)).toNat = σ 89 (0 + (j : Int)).toNat from i3) (show m ≤ i from by omega) (show i < n from by omega) (show ¬ (1 : Int) = 0 ∨ (((c + 1) = 0 ∨ (0 ≤ f + 2 * i ∧ f + 2 * i < τ 105 k.toNat)) ∧ ((c + 1) ≤ 1 ∨ f + 2 * i + 1 < τ 105 k.toNat)) from by omega) (show τ 89 93 = σ 89 93 from (by first | exact i7 | exact i5 | omega)) (show τ 89 94 = σ 89 94 from (by first | exact i8 | exact i6 | omega)) (show τ 89 95 = σ 89 95 from (by first | exact i9 | exact i7 | omega)) (show τ 89 96 = σ 89 96 from (by first | exact i10 | exact i8 | omega)) (show m = i from by omega) (show ((1 : Int) = 0 ∧ ((c + 1) = 0 ∨ (¬ σ 104 k.toNat = -4 ∧ σ 104 k.toNat = l))) ∨ ((1 : Int) = 1 ∧ σ 104 k.toNat = -4) ∨ ((1 : Int) = 3 ∧ ¬ σ 104 k.toNat = -4 ∧ ¬ σ 104 k.toNat = l) ∨ ((1 : Int) = 2 ∧ (¬ σ 104 k.toNat = -4 ∧ σ 104 k.toNat = l) ∧ ¬ (0 ≤ f + 2 * i ∧ f + 2 * i + 1 < σ 105 k.toNat)) from by omega) (show i = 0 ∨ (¬ σ 104 k.toNat = -4 ∧ σ 104 k.toNat = l) from by omega) (show τ 88 38 = σ 88 38 from by omega) (show ∀ rk : Nat → Int, MOB rk 0 σ → RDM rk (CM k σ) f m.toNat σ τ ∧ ∀ x : Nat, (x : Int) < m → rdF (σ 105 k.toNat) f x ∧ rdO (wM σ) rk (CM k σ) f (gM 0 σ) x = 0 from (by first | exact i15 | exact i13)) (show (100 * (11 - i) - 1 - (c + 1)).toNat < N_ from by omega)
set_option maxHeartbeats 4000000 in
set_option maxRecDepth 100000 in
theorem c_X12_read {G : tw_G} (hM : tw_isM G) (k : Int) (hk : -2147483648 ≤ k ∧ k ≤ 2147483647) (l : Int) (hl : -2147483648 ≤ l ∧ l ≤ 2147483647) (f : Int) (hf : -2147483648 ≤ f ∧ f ≤ 2147483647) (n : Int) (hn : -2147483648 ≤ n ∧ n ≤ 2147483647) (σ : tw_M) (hI : tw_I σ) (hq0 : mI σ) : tw_C G yX12_read cX12_read 11 (some .int) 5 [vR 88, vI k, vI l, vI f, vI n] σ (q_X12_read k l f n σ) := by
  refine tw_met [(0, vR 88), (1, vI k), (2, vI l), (3, vI f), (4, vI n)] (by decide +kernel) rfl (Nat.le_of_ble_eq_true rfl) ?_
  refine j_iload_n (pc := 0) dX12_read_0 rfl rfl ?_
  refine j_iload_n (pc := 1) dX12_read_1 rfl rfl ?_
  refine j_callS (pc := 2) (As := [vI k, vI l]) (st := []) (c_X12_isSheet k ⟨by omega, by omega⟩ l ⟨by omega, by omega⟩ σ hI) ms_X12_377 rfl dX12_read_2 ⟨Nat.le_of_ble_eq_true rfl, Nat.le_of_ble_eq_true rfl⟩ ⟨Nat.le_refl _, Nat.le_refl _⟩ rfl (Nat.le_of_ble_eq_true rfl) rfl (fun z50 σ51 hz50 => ?_)
  obtain ⟨r53, rfl, hr53, rfl, q52_0⟩ := hz50
  replace q52_0 : (r53 = 1 ∧ 0 ≤ k ∧ k ≤ 3 ∧ 0 ≤ l ∧ l ≤ 2) ∨ (r53 = 0 ∧ ¬ (0 ≤ k ∧ k ≤ 3 ∧ 0 ≤ l ∧ l ≤ 2)) := q52_0
  refine j_st (st' := [vI r53]) rfl ?_
  refine j_ifR_eq (pc := 5) (tgt := 21) ⟨by omega, by omega⟩ dX12_read_5 rfl (fun h54 => ?_) (fun h54 => ?_)
  · refine j_iconst (pc := 21) dX12_read_21 ?_
    have fin : ∀ rk : Nat → Int, MOB rk 0 σ → ((-1) = -1 ∧ ¬ (0 ≤ k ∧ k ≤ 3 ∧ 0 ≤ l ∧ l ≤ 2 ∧ 0 ≤ n ∧ n ≤ 10) ∧ ∀ c j, σ c j = σ c j) ∨ ((0 ≤ k ∧ k ≤ 3 ∧ 0 ≤ l ∧ l ≤ 2 ∧ 0 ≤ n ∧ n ≤ 10) ∧ ∃ cz : Int, ((cz = 0 ∧ 0 < n ∧ (-1) = 0 ∧ σ 88 38 = 1 ∧ σ 104 k.toNat = -4) ∨ (cz = 0 ∧ 0 < n ∧ (-1) = 0 ∧ σ 88 38 = 3 ∧ ¬ σ 104 k.toNat = -4 ∧ ¬ σ 104 k.toNat = l) ∨ ((n = 0 ∨ (¬ σ 104 k.toNat = -4 ∧ σ 104 k.toNat = l)) ∧ RDE (rdF (σ 105 k.toNat) f) (fun x => rdO (wM σ) rk (CM k σ) f (gM 0 σ) x = 0) n cz (-1) (σ 88 38))) ∧ ((0 ≤ (-1) ∧ RDM rk (CM k σ) f cz.toNat σ σ) ∨ ((-1) < 0 ∧ RDM rk (CM k σ) f 0 σ σ ∧ σ 88 38 = σ 88 38))) := fun rk M => Or.inl ⟨rfl, by omega, fun c j => rfl⟩
    exact j_iret (pc := 22) ⟨rfl, rfl⟩ dX12_read_22 rfl ⟨_, rfl, ⟨by omega, by omega⟩, hI, (tw_F_rf), (by first | exact mI9 | exact hq0), (by first | rfl | exact r93 | exact (rfl).trans i5 | omega), (by first | rfl | exact r94 | exact (rfl).trans i6 | omega), (by first | rfl | exact r95 | exact (rfl).trans i7 | omega), (by first | rfl | exact r96 | exact (rfl).trans i8 | omega), fin⟩
  · refine j_iload (pc := 8) dX12_read_8 rfl ?_
    refine j_i2l (pc := 10) dX12_read_10 ?_
    rw [w32_eq (a := n) (by omega) (by omega)]
    refine j_lconst (pc := 11) (z := 0) dX12_read_11 rfl ?_
    refine j_ldc2 (pc := 12) (z := 10) dX12_read_12 (tw_inc tm_6 (i := 239) rfl rfl) ?_
    refine j_callS (pc := 15) (As := [vL n, vL 0, vL 10]) (st := []) (c_X12_in n ⟨by omega, by omega⟩ 0 (by (first | decide | exact ⟨by omega, by omega⟩)) 10 (by (first | decide | exact ⟨by omega, by omega⟩)) σ hI) ms_X12_82 rfl dX12_read_15 ⟨Nat.le_of_ble_eq_true rfl, Nat.le_of_ble_eq_true rfl⟩ ⟨Nat.le_refl _, Nat.le_refl _⟩ rfl (Nat.le_of_ble_eq_true rfl) rfl (fun z55 σ56 hz55 => ?_)
    obtain ⟨r58, rfl, hr58, rfl, q57_0⟩ := hz55
    replace q57_0 : (r58 = 1 ∧ (0 : Int) ≤ n ∧ n ≤ (10 : Int)) ∨ (r58 = 0 ∧ ¬ ((0 : Int) ≤ n ∧ n ≤ (10 : Int))) := q57_0
    refine j_st (st' := [vI r58]) rfl ?_
    refine j_ifR_ne (pc := 18) (tgt := 23) ⟨by omega, by omega⟩ dX12_read_18 rfl (fun h59 => ?_) (fun h59 => ?_)
    · refine j_aload_n (pc := 23) dX12_read_23 rfl rfl ?_
      refine j_sipush (pc := 24) dX12_read_24 rfl ?_
      refine j_iconst (pc := 27) dX12_read_27 ?_
      refine j_callV (pc := 28) (As := [vI 300, vI 0]) (st := []) (c_X12_copies hM 300 (by (first | decide | exact ⟨by omega, by omega⟩)) 0 (by (first | decide | exact ⟨by omega, by omega⟩)) σ hI (by omega) (by omega) (by omega)) mv_X12_283 rfl rfl rfl (a_88 hM) dX12_read_28 ⟨Nat.le_of_ble_eq_true rfl, Nat.le_of_ble_eq_true rfl⟩ ⟨Nat.le_refl _, Nat.le_refl _⟩ rfl (Nat.le_of_ble_eq_true rfl) rfl (fun z60 σ61 hz60 => ?_)
      obtain ⟨rfl, hIσ61, hGσ61, q62_0⟩ := hz60
      replace q62_0 : ∀ j : Nat, (j : Int) < 100 → σ61 89 ((300 : Int) + (j : Int)).toNat = σ 89 ((0 : Int) + (j : Int)).toNat := q62_0
      have hFσ61 : tw_F (fun c j => (c = 88 ∧ (j = 38)) ∨ (c = 89 ∧ (j < 100 ∨ 300 ≤ j))) σ σ61 := tw_F_tr (tw_F_rf) hGσ61 (fun c j q => (show (c = 88 ∧ (j = 38)) ∨ (c = 89 ∧ (j < 100 ∨ 300 ≤ j)) from by replace q : (c = 89 ∧ (300 : Int) ≤ (j : Int) ∧ (j : Int) < (300 : Int) + 100) := q; omega))
      refine j_st (st' := []) rfl ?_
      have mI9 : mI σ61 := mI_kept hq0 (fun j hj => hGσ61 89 j (show ¬ ((89 = 89 ∧ (300 : Int) ≤ (j : Int) ∧ (j : Int) < (300 : Int) + 100)) from by omega)) (fun j => hGσ61 90 j (show ¬ ((90 = 89 ∧ (300 : Int) ≤ (j : Int) ∧ (j : Int) < (300 : Int) + 100)) from fun h => absurd h.1 (by decide))) (hGσ61 91 0 (show ¬ ((91 = 89 ∧ (300 : Int) ≤ (0 : Int) ∧ (0 : Int) < (300 : Int) + 100)) from fun h => absurd h.1 (by decide))) hI
      refine j_iconst (pc := 31) dX12_read_31 ?_
      refine j_istore (pc := 32) (i := 5) (ls' := [(0, vR 88), (1, vI k), (2, vI l), (3, vI f), (4, vI n), (5, vI 0)]) [1, 2, 3, 4, 5, 0] dX12_read_32 (Nat.le_of_ble_eq_true rfl) rfl rfl ?_
      refine j_iconst (pc := 34) dX12_read_34 ?_
      refine j_istore (pc := 35) (i := 6) (ls' := [(0, vR 88), (1, vI k), (2, vI l), (3, vI f), (4, vI n), (5, vI 0), (6, vI 0)]) [1, 2, 3, 4, 5, 6, 0] dX12_read_35 (Nat.le_of_ble_eq_true rfl) rfl rfl ?_
      refine j_iconst (pc := 37) dX12_read_37 ?_
      refine j_istore (pc := 38) (i := 7) (ls' := [(0, vR 88), (1, vI k), (2, vI l), (3, vI f), (4, vI n), (5, vI 0), (6, vI 0), (7, vI 0)]) [1, 2, 3, 4, 5, 6, 7, 0] dX12_read_38 (Nat.le_of_ble_eq_true rfl) rfl rfl ?_
      refine j_ls (ls' := [(0, vR 88), (1, vI k), (2, vI l), (3, vI f), (4, vI n), (5, vI 0), (6, vI 0), (7, vI 0)]) [0, 1, 2, 3, 4, 5, 6, 7] rfl ?_
      have y64 : σ61 88 38 = σ 88 38 := (hGσ61 88 38 (show ¬ ((88 = 89 ∧ (300 : Int) ≤ (38 : Int) ∧ (38 : Int) < (300 : Int) + 100)) from fun h => absurd h.1 (by decide)))
      have f65 : (-2147483648 : Int) ≤ σ 88 38 ∧ σ 88 38 ≤ 2147483647 := hI 88 38
      exact (l_X12_read hM k hk l hl f hf n hn σ hI hq0 (((100 * (11 - (0 : Int))).toNat) + 1)).1 0 (by (first | decide | exact ⟨by omega, by omega⟩)) 0 (by (first | decide | exact ⟨by omega, by omega⟩)) 0 (by (first | decide | exact ⟨by omega, by omega⟩)) σ61 hIσ61 hFσ61 (show mI σ61 from (by first | exact q62_0 | exact i0 | exact mI9)) (show 0 ≤ k ∧ k ≤ 3 ∧ 0 ≤ l ∧ l ≤ 2 from by omega) (show 0 ≤ n ∧ n ≤ 10 from by omega) (show ∀ j : Nat, (j : Int) < 100 → σ61 89 (300 + (j : Int)).toNat = σ 89 (0 + (j : Int)).toNat from (by first | exact fun j hj => (hGσ61 89 _ (show ¬ ((89 = 89 ∧ (300 : Int) ≤ ((300 + (j : Int)).toNat : Int) ∧ ((300 + (j : Int)).toNat : Int) < (300 : Int) + 100)) from by omega)).trans (i3 j hj) | exact i3 | exact q62_0)) (show (0 : Int) ≤ (0 : Int) from by omega) (show σ61 89 93 = σ 89 93 from (hGσ61 89 93 (show ¬ ((89 = 89 ∧ (300 : Int) ≤ (93 : Int) ∧ (93 : Int) < (300 : Int) + 100)) from by omega))) (show σ61 89 94 = σ 89 94 from (hGσ61 89 94 (show ¬ ((89 = 89 ∧ (300 : Int) ≤ (94 : Int) ∧ (94 : Int) < (300 : Int) + 100)) from by omega))) (show σ61 89 95 = σ 89 95 from (hGσ61 89 95 (show ¬ ((89 = 89 ∧ (300 : Int) ≤ (95 : Int) ∧ (95 : Int) < (300 : Int) + 100)) from by omega))) (show σ61 89 96 = σ 89 96 from (hGσ61 89 96 (show ¬ ((89 = 89 ∧ (300 : Int) ≤ (96 : Int) ∧ (96 : Int) < (300 : Int) + 100)) from by omega))) (show ((0 : Int) = 0 ∧ (0 : Int) = (0 : Int)) ∨ ((0 : Int) = 2 ∧ (0 : Int) + 1 = (0 : Int) ∧ ¬ (0 ≤ f + 2 * (0 : Int) ∧ f + 2 * (0 : Int) + 1 < σ 105 k.toNat) ∧ (¬ σ 104 k.toNat = -4 ∧ σ 104 k.toNat = l)) ∨ ((0 : Int) = 1 ∧ (0 : Int) = 0 ∧ 0 < n ∧ σ 104 k.toNat = -4) ∨ ((0 : Int) = 3 ∧ (0 : Int) = 0 ∧ 0 < n ∧ ¬ σ 104 k.toNat = -4 ∧ ¬ σ 104 k.toNat = l) from by omega) (show ¬ (0 : Int) = 0 ∨ (0 : Int) = 0 ∨ (¬ σ 104 k.toNat = -4 ∧ σ 104 k.toNat = l) from by omega) (show (0 : Int) ≤ n from by omega) (show σ61 88 38 = σ 88 38 from by omega) (show ∀ rk : Nat → Int, MOB rk 0 σ → RDM rk (CM k σ) f (0 : Int).toNat σ σ61 ∧ ∀ x : Nat, (x : Int) < (0 : Int) → rdF (σ 105 k.toNat) f x ∧ rdO (wM σ) rk (CM k σ) f (gM 0 σ) x = 0 from (fun rk M => ⟨RDM_0 M (fun j hj => ((hGσ61 89 j (show ¬ ((89 = 89 ∧ (300 : Int) ≤ (j : Int) ∧ (j : Int) < (300 : Int) + 100)) from by omega)))) ((hGσ61 91 0 (show ¬ ((91 = 89 ∧ (300 : Int) ≤ (0 : Int) ∧ (0 : Int) < (300 : Int) + 100)) from fun h => absurd h.1 (by decide)))), fun x hx => by exfalso; omega⟩)) (Nat.lt_succ_self _)
    · refine j_iconst (pc := 21) dX12_read_21 ?_
      have fin : ∀ rk : Nat → Int, MOB rk 0 σ → ((-1) = -1 ∧ ¬ (0 ≤ k ∧ k ≤ 3 ∧ 0 ≤ l ∧ l ≤ 2 ∧ 0 ≤ n ∧ n ≤ 10) ∧ ∀ c j, σ c j = σ c j) ∨ ((0 ≤ k ∧ k ≤ 3 ∧ 0 ≤ l ∧ l ≤ 2 ∧ 0 ≤ n ∧ n ≤ 10) ∧ ∃ cz : Int, ((cz = 0 ∧ 0 < n ∧ (-1) = 0 ∧ σ 88 38 = 1 ∧ σ 104 k.toNat = -4) ∨ (cz = 0 ∧ 0 < n ∧ (-1) = 0 ∧ σ 88 38 = 3 ∧ ¬ σ 104 k.toNat = -4 ∧ ¬ σ 104 k.toNat = l) ∨ ((n = 0 ∨ (¬ σ 104 k.toNat = -4 ∧ σ 104 k.toNat = l)) ∧ RDE (rdF (σ 105 k.toNat) f) (fun x => rdO (wM σ) rk (CM k σ) f (gM 0 σ) x = 0) n cz (-1) (σ 88 38))) ∧ ((0 ≤ (-1) ∧ RDM rk (CM k σ) f cz.toNat σ σ) ∨ ((-1) < 0 ∧ RDM rk (CM k σ) f 0 σ σ ∧ σ 88 38 = σ 88 38))) := fun rk M => Or.inl ⟨rfl, by omega, fun c j => rfl⟩
      exact j_iret (pc := 22) ⟨rfl, rfl⟩ dX12_read_22 rfl ⟨_, rfl, ⟨by omega, by omega⟩, hI, (tw_F_rf), (by first | exact mI9 | exact hq0), (by first | rfl | exact r93 | exact (rfl).trans i5 | omega), (by first | rfl | exact r94 | exact (rfl).trans i6 | omega), (by first | rfl | exact r95 | exact (rfl).trans i7 | omega), (by first | rfl | exact r96 | exact (rfl).trans i8 | omega), fin⟩
abbrev q_X12_count (w : Int) (σ : tw_M) : Option tw_V → tw_M → Prop := fun z τ => ∃ r : Int, z = some (vI r) ∧ (-2147483648 ≤ r ∧ r ≤ 2147483647) ∧ σ = τ ∧ True
set_option maxHeartbeats 4000000 in
set_option maxRecDepth 100000 in
theorem c_X12_count {G : tw_G} (hM : tw_isM G) (w : Int) (hw : -2147483648 ≤ w ∧ w ≤ 2147483647) (σ : tw_M) (hI : tw_I σ) : tw_C G yX12_count cX12_count 2 (some .int) 3 [vR 88, vI w] σ (q_X12_count w σ) := by
  refine tw_met [(0, vR 88), (1, vI w)] (by decide +kernel) rfl (Nat.le_of_ble_eq_true rfl) ?_
  refine j_iload_n (pc := 0) dX12_count_0 rfl rfl ?_
  rcases (show w < 0 ∨ w = 0 ∨ w = 1 ∨ w = 2 ∨ w = 3 ∨ w = 4 ∨ w = 5 ∨ w = 6 ∨ w = 7 ∨ w = 8 ∨ 8 < w from by omega) with h1 | h1 | h1 | h1 | h1 | h1 | h1 | h1 | h1 | h1 | h1
  · refine j_tsOut (pc := 1) (tgt := 133) dX12_count_1 ⟨by omega, by omega⟩ (Or.inl h1) rfl ?_
    refine j_iconst (pc := 133) dX12_count_133 ?_
    exact j_iret (pc := 134) ⟨rfl, rfl⟩ dX12_count_134 rfl ⟨_, rfl, ⟨by omega, by omega⟩, rfl, trivial⟩
  · refine j_tsIn (pc := 1) (tgt := 52) 0 dX12_count_1 h1 (by decide) ⟨by decide, by decide⟩ rfl rfl ?_
    refine j_aload_n (pc := 52) dX12_count_52 rfl rfl ?_
    refine j_iconst (pc := 53) dX12_count_53 ?_
    refine j_callV (pc := 54) (As := [vI 0]) (st := []) (c_X12_all hM 0 (by (first | decide | exact ⟨by omega, by omega⟩)) σ hI) mv_X12_192 rfl rfl rfl (a_88 hM) dX12_count_54 ⟨Nat.le_of_ble_eq_true rfl, Nat.le_of_ble_eq_true rfl⟩ ⟨Nat.le_refl _, Nat.le_refl _⟩ rfl (Nat.le_of_ble_eq_true rfl) rfl (fun z2 σ3 hz2 => ?_)
    obtain ⟨r5, rfl, hr5, rfl, q4_0⟩ := hz2
    replace q4_0 : r5 = mc σ (0 : Int) (σ 91 0).toNat := q4_0
    refine j_st (st' := [vI r5]) rfl ?_
    exact j_iret (pc := 57) ⟨rfl, rfl⟩ dX12_count_57 rfl ⟨_, rfl, ⟨by omega, by omega⟩, rfl, trivial⟩
  · refine j_tsIn (pc := 1) (tgt := 58) 1 dX12_count_1 h1 (by decide) ⟨by decide, by decide⟩ rfl rfl ?_
    refine j_aload_n (pc := 58) dX12_count_58 rfl rfl ?_
    refine j_callV (pc := 59) (As := []) (st := []) (c_X12_cracks hM σ hI) mv_X12_298 rfl rfl rfl (a_88 hM) dX12_count_59 ⟨Nat.le_of_ble_eq_true rfl, Nat.le_of_ble_eq_true rfl⟩ ⟨Nat.le_refl _, Nat.le_refl _⟩ rfl (Nat.le_of_ble_eq_true rfl) rfl (fun z6 σ7 hz6 => ?_)
    obtain ⟨r9, rfl, hr9, rfl, q8_0⟩ := hz6
    replace q8_0 : r9 = nc σ (σ 91 0).toNat := q8_0
    refine j_st (st' := [vI r9]) rfl ?_
    exact j_iret (pc := 62) ⟨rfl, rfl⟩ dX12_count_62 rfl ⟨_, rfl, ⟨by omega, by omega⟩, rfl, trivial⟩
  · refine j_tsIn (pc := 1) (tgt := 63) 2 dX12_count_1 h1 (by decide) ⟨by decide, by decide⟩ rfl rfl ?_
    refine j_aload_n (pc := 63) dX12_count_63 rfl rfl ?_
    refine j_iconst (pc := 64) dX12_count_64 ?_
    refine j_callV (pc := 65) (As := [vI 2]) (st := []) (c_X12_feetWith hM 2 (by (first | decide | exact ⟨by omega, by omega⟩)) σ hI) mv_X12_386 rfl rfl rfl (a_88 hM) dX12_count_65 ⟨Nat.le_of_ble_eq_true rfl, Nat.le_of_ble_eq_true rfl⟩ ⟨Nat.le_refl _, Nat.le_refl _⟩ rfl (Nat.le_of_ble_eq_true rfl) rfl (fun z10 σ11 hz10 => ?_)
    obtain ⟨r13, rfl, hr13, rfl, -⟩ := hz10
    refine j_st (st' := [vI r13]) rfl ?_
    exact j_iret (pc := 68) ⟨rfl, rfl⟩ dX12_count_68 rfl ⟨_, rfl, ⟨by omega, by omega⟩, rfl, trivial⟩
  · refine j_tsIn (pc := 1) (tgt := 69) 3 dX12_count_1 h1 (by decide) ⟨by decide, by decide⟩ rfl rfl ?_
    refine j_aload_n (pc := 69) dX12_count_69 rfl rfl ?_
    refine j_iconst (pc := 70) dX12_count_70 ?_
    refine j_callV (pc := 71) (As := [vI 3]) (st := []) (c_X12_feetWith hM 3 (by (first | decide | exact ⟨by omega, by omega⟩)) σ hI) mv_X12_386 rfl rfl rfl (a_88 hM) dX12_count_71 ⟨Nat.le_of_ble_eq_true rfl, Nat.le_of_ble_eq_true rfl⟩ ⟨Nat.le_refl _, Nat.le_refl _⟩ rfl (Nat.le_of_ble_eq_true rfl) rfl (fun z14 σ15 hz14 => ?_)
    obtain ⟨r17, rfl, hr17, rfl, -⟩ := hz14
    refine j_st (st' := [vI r17]) rfl ?_
    exact j_iret (pc := 74) ⟨rfl, rfl⟩ dX12_count_74 rfl ⟨_, rfl, ⟨by omega, by omega⟩, rfl, trivial⟩
  · refine j_tsIn (pc := 1) (tgt := 75) 4 dX12_count_1 h1 (by decide) ⟨by decide, by decide⟩ rfl rfl ?_
    refine j_aload_n (pc := 75) dX12_count_75 rfl rfl ?_
    refine j_callV (pc := 76) (As := []) (st := []) (c_X12_racked hM σ hI) mv_X12_389 rfl rfl rfl (a_88 hM) dX12_count_76 ⟨Nat.le_of_ble_eq_true rfl, Nat.le_of_ble_eq_true rfl⟩ ⟨Nat.le_refl _, Nat.le_refl _⟩ rfl (Nat.le_of_ble_eq_true rfl) rfl (fun z18 σ19 hz18 => ?_)
    obtain ⟨r21, rfl, hr21, rfl, -⟩ := hz18
    refine j_st (st' := [vI r21]) rfl ?_
    exact j_iret (pc := 79) ⟨rfl, rfl⟩ dX12_count_79 rfl ⟨_, rfl, ⟨by omega, by omega⟩, rfl, trivial⟩
  · refine j_tsIn (pc := 1) (tgt := 80) 5 dX12_count_1 h1 (by decide) ⟨by decide, by decide⟩ rfl rfl ?_
    refine j_aload_n (pc := 80) dX12_count_80 rfl rfl ?_
    refine j_callV (pc := 81) (As := []) (st := []) (c_X12_triesAll hM σ hI) mv_X12_343 rfl rfl rfl (a_88 hM) dX12_count_81 ⟨Nat.le_of_ble_eq_true rfl, Nat.le_of_ble_eq_true rfl⟩ ⟨Nat.le_refl _, Nat.le_refl _⟩ rfl (Nat.le_of_ble_eq_true rfl) rfl (fun z22 σ23 hz22 => ?_)
    obtain ⟨r25, rfl, hr25, rfl, q24_0⟩ := hz22
    replace q24_0 : r25 = σ 89 93 + σ 89 95 := q24_0
    refine j_st (st' := [vI r25]) rfl ?_
    exact j_iret (pc := 84) ⟨rfl, rfl⟩ dX12_count_84 rfl ⟨_, rfl, ⟨by omega, by omega⟩, rfl, trivial⟩
  · refine j_tsIn (pc := 1) (tgt := 85) 6 dX12_count_1 h1 (by decide) ⟨by decide, by decide⟩ rfl rfl ?_
    refine j_aload_n (pc := 85) dX12_count_85 rfl rfl ?_
    refine j_getR (pc := 86) (r := 90) fl_X12_13 dX12_count_86 (a_88 hM) rfl ?_
    refine j_iconst (pc := 89) dX12_count_89 ?_
    refine j_zald (pc := 90) dX12_count_90 (a_90 hM) (by omega) (by omega) (by decide) ?_
    refine j_topV (show σ 90 (Int.toNat 0) = σ 90 0 from rfl) ?_
    have f26 : (0 : Int) ≤ σ 90 0 ∧ σ 90 0 ≤ 1 := hI 90 0
    refine j_callS (pc := 91) (As := [vI (σ 90 0)]) (st := []) (c_X12_flag (σ 90 0) ⟨by omega, by omega⟩ σ hI) ms_X12_168 rfl dX12_count_91 ⟨Nat.le_of_ble_eq_true rfl, Nat.le_of_ble_eq_true rfl⟩ ⟨Nat.le_refl _, Nat.le_refl _⟩ rfl (Nat.le_of_ble_eq_true rfl) rfl (fun z27 σ28 hz27 => ?_)
    obtain ⟨r30, rfl, hr30, rfl, q29_0⟩ := hz27
    replace q29_0 : r30 = (σ 90 0) := q29_0
    refine j_st (st' := [vI r30]) rfl ?_
    refine j_aload_n (pc := 94) dX12_count_94 rfl rfl ?_
    refine j_getR (pc := 95) (r := 90) fl_X12_13 dX12_count_95 (a_88 hM) rfl ?_
    refine j_iconst (pc := 98) dX12_count_98 ?_
    refine j_zald (pc := 99) dX12_count_99 (a_90 hM) (by omega) (by omega) (by decide) ?_
    refine j_topV (show σ 90 (Int.toNat 1) = σ 90 1 from rfl) ?_
    have f31 : (0 : Int) ≤ σ 90 1 ∧ σ 90 1 ≤ 1 := hI 90 1
    refine j_callS (pc := 100) (As := [vI (σ 90 1)]) (st := [vI r30]) (c_X12_flag (σ 90 1) ⟨by omega, by omega⟩ σ hI) ms_X12_168 rfl dX12_count_100 ⟨Nat.le_of_ble_eq_true rfl, Nat.le_of_ble_eq_true rfl⟩ ⟨Nat.le_refl _, Nat.le_refl _⟩ rfl (Nat.le_of_ble_eq_true rfl) rfl (fun z32 σ33 hz32 => ?_)
    obtain ⟨r35, rfl, hr35, rfl, q34_0⟩ := hz32
    replace q34_0 : r35 = (σ 90 1) := q34_0
    refine j_st (st' := [vI r35, vI r30]) rfl ?_
    refine j_iadd (pc := 103) dX12_count_103 ?_
    exact j_iret (pc := 104) ⟨rfl, rfl⟩ dX12_count_104 rfl ⟨_, rfl, ⟨by omega, by omega⟩, rfl, trivial⟩
  · refine j_tsIn (pc := 1) (tgt := 105) 7 dX12_count_1 h1 (by decide) ⟨by decide, by decide⟩ rfl rfl ?_
    refine j_aload_n (pc := 105) dX12_count_105 rfl rfl ?_
    refine j_getI (pc := 106) fl_X12_86 dX12_count_106 (a_88 hM) rfl ?_
    have f36 : (0 : Int) ≤ σ 88 12 ∧ σ 88 12 ≤ 400 := hI 88 12
    exact j_iret (pc := 109) ⟨rfl, rfl⟩ dX12_count_109 rfl ⟨_, rfl, ⟨by omega, by omega⟩, rfl, trivial⟩
  · refine j_tsIn (pc := 1) (tgt := 110) 8 dX12_count_1 h1 (by decide) ⟨by decide, by decide⟩ rfl rfl ?_
    refine j_aload_n (pc := 110) dX12_count_110 rfl rfl ?_
    refine j_getR (pc := 111) (r := 104) fl_X12_56 dX12_count_111 (a_88 hM) rfl ?_
    refine j_iconst (pc := 114) dX12_count_114 ?_
    refine j_iald (pc := 115) dX12_count_115 (a_104 hM) (by omega) (by omega) (by decide) ?_
    refine j_topV (show σ 104 (Int.toNat 0) = σ 104 0 from rfl) ?_
    have f37 : (-4 : Int) ≤ σ 104 0 ∧ σ 104 0 ≤ 2 := hI 104 0
    refine j_bipush (pc := 116) dX12_count_116 rfl ?_
    refine j_icmpR_ne (pc := 118) (tgt := 126) ⟨by omega, by omega⟩ ⟨by omega, by omega⟩ dX12_count_118 rfl (fun h38 => ?_) (fun h38 => ?_)
    · refine j_aload_n (pc := 126) dX12_count_126 rfl rfl ?_
      refine j_getR (pc := 127) (r := 105) fl_X12_59 dX12_count_127 (a_88 hM) rfl ?_
      refine j_iconst (pc := 130) dX12_count_130 ?_
      refine j_iald (pc := 131) dX12_count_131 (a_105 hM) (by omega) (by omega) (by decide) ?_
      refine j_topV (show σ 105 (Int.toNat 0) = σ 105 0 from rfl) ?_
      have f39 : (0 : Int) ≤ σ 105 0 ∧ σ 105 0 ≤ 40 := hI 105 0
      exact j_iret (pc := 132) ⟨rfl, rfl⟩ dX12_count_132 rfl ⟨_, rfl, ⟨by omega, by omega⟩, rfl, trivial⟩
    · refine j_bipush (pc := 121) dX12_count_121 rfl ?_
      refine j_goto (pc := 123) (tgt := 132) dX12_count_123 rfl ?_
      exact j_iret (pc := 132) ⟨rfl, rfl⟩ dX12_count_132 rfl ⟨_, rfl, ⟨by omega, by omega⟩, rfl, trivial⟩
  · refine j_tsOut (pc := 1) (tgt := 133) dX12_count_1 ⟨by omega, by omega⟩ (Or.inr h1) rfl ?_
    refine j_iconst (pc := 133) dX12_count_133 ?_
    exact j_iret (pc := 134) ⟨rfl, rfl⟩ dX12_count_134 rfl ⟨_, rfl, ⟨by omega, by omega⟩, rfl, trivial⟩
abbrev q_X12_feed (v : Int) (σ : tw_M) : Option tw_V → tw_M → Prop := fun z τ => ∃ r : Int, z = some (vI r) ∧ (-2147483648 ≤ r ∧ r ≤ 2147483647) ∧ tw_I τ ∧ tw_F (fun c j => (c = 88 ∧ (j = 12)) ∨ c = 98) σ τ ∧ ((r = -3 ∧ 392 < σ 88 12 ∧ τ 88 12 = σ 88 12) ∨ (r = σ 88 12 + 8 ∧ σ 88 12 ≤ 392 ∧ τ 88 12 = σ 88 12 + 8)) ∧ (∀ j : Nat, (j : Int) < σ 88 12 → τ 98 j = σ 98 j) ∧ (r = -3 ∨ ∀ k : Nat, (k : Int) < 8 → τ 98 ((σ 88 12).toNat + k) = byt v k)
set_option maxHeartbeats 4000000 in
set_option maxRecDepth 100000 in
theorem l_X12_feed {G : tw_G} (hM : tw_isM G) (v : Int) (hv : -9223372036854775808 ≤ v ∧ v ≤ 9223372036854775807) (σ : tw_M) (hI : tw_I σ) : ∀ N_ : Nat, (∀ (i : Int) (hi : -8 ≤ i ∧ i ≤ 56) (τ : tw_M) (hIτ : tw_I τ) (hFτ : tw_F (fun c j => (c = 88 ∧ (j = 12)) ∨ c = 98) σ τ) (i0 : 8 * τ 88 12 = 8 * σ 88 12 + 56 - i) (i1 : σ 88 12 ≤ 392) (i2 : ∀ j : Nat, (j : Int) < σ 88 12 → τ 98 j = σ 98 j) (i3 : ∀ k : Nat, (k : Int) < τ 88 12 - σ 88 12 → τ 98 ((σ 88 12).toNat + k) = byt v k) (hm : (i + 8).toNat < N_), tw_J G (tw_mt RX12 cX12_feed 4 (some .int) 0) (tw_E G (q_X12_feed v σ)) 19 [(0, vR 88), (1, vL v), (3, vI i)] [] τ) := by
  intro N_
  induction N_ with
  | zero => exact fun i hi τ hIτ hFτ i0 i1 i2 i3 hm => absurd hm (Nat.not_lt_zero _)
  | succ N_ ih =>
    intro i hi τ hIτ hFτ i0 i1 i2 i3 hm
    have f12s : (0 : Int) ≤ σ 88 12 ∧ σ 88 12 ≤ 400 := hI 88 12
    refine j_iload_n (pc := 19) dX12_feed_19 rfl rfl ?_
    refine j_ifR_lt (pc := 20) (tgt := 56) ⟨by omega, by omega⟩ dX12_feed_20 rfl (fun h1 => ?_) (fun h1 => ?_)
    · refine j_aload_n (pc := 56) dX12_feed_56 rfl rfl ?_
      refine j_getI (pc := 57) fl_X12_86 dX12_feed_57 (a_88 hM) rfl ?_
      have f2 : (0 : Int) ≤ τ 88 12 ∧ τ 88 12 ≤ 400 := hIτ 88 12
      exact j_iret (pc := 60) ⟨rfl, rfl⟩ dX12_feed_60 rfl ⟨_, rfl, ⟨by omega, by omega⟩, hIτ, hFτ, by omega, (by first | exact i2 | exact (fun j hj => rfl)), (by first | exact Or.inl rfl | exact Or.inr (fun k hk => i3 k (by omega)))⟩
    · refine j_aload_n (pc := 23) dX12_feed_23 rfl rfl ?_
      refine j_getR (pc := 24) (r := 98) fl_X12_38 dX12_feed_24 (a_88 hM) rfl ?_
      refine j_aload_n (pc := 27) dX12_feed_27 rfl rfl ?_
      refine j_getI (pc := 28) fl_X12_86 dX12_feed_28 (a_88 hM) rfl ?_
      have f3 : (0 : Int) ≤ τ 88 12 ∧ τ 88 12 ≤ 400 := hIτ 88 12
      refine j_lload_n (pc := 31) dX12_feed_31 rfl rfl ?_
      refine j_iload_n (pc := 32) dX12_feed_32 rfl rfl ?_
      refine j_lshr (pc := 33) dX12_feed_33 (fun z4 ez4 => ?_)
      have hz4 : (-9223372036854775808 : Int) ≤ z4 ∧ z4 ≤ 9223372036854775807 := by rw [ez4]; exact lshrL_in _ _
      have x1 := ez4
      refine j_ldc2 (pc := 34) (z := 255) dX12_feed_34 (tw_inc tm_6 (i := 131) rfl rfl) ?_
      refine j_land (pc := 37) dX12_feed_37 (fun z5 ez5 => ?_)
      have hz5 : (-9223372036854775808 : Int) ≤ z5 ∧ z5 ≤ 9223372036854775807 := by rw [ez5]; exact landL_in _ _
      have x2 := ez5; rw [x1] at x2
      refine j_l2i (pc := 38) dX12_feed_38 (fun z6 ez6 => ?_)
      have hz6 : (-2147483648 : Int) ≤ z6 ∧ z6 ≤ 2147483647 := by rw [ez6]; exact l2i_in _
      have x3 := ez6; rw [x2] at x3
      refine j_iast (pc := 39) dX12_feed_39 (a_98 hM) (by omega) (by omega) (by decide) (j_nm (fun σ7 (eσ7 : σ7 = tw_up τ 98 ((τ 88 12).toNat) z6) => ?_))
      have hIσ7 : tw_I σ7 := tw_I_up hIτ eσ7 (show (-2147483648 : Int) ≤ z6 ∧ z6 ≤ 2147483647 from ⟨by omega, by omega⟩)
      have hFσ7 : tw_F (fun c j => (c = 88 ∧ (j = 12)) ∨ c = 98) σ σ7 := tw_F_up hFτ eσ7 (show (98 = 88 ∧ ((τ 88 12).toNat = 12)) ∨ 98 = 98 from (Or.inr rfl))
      refine j_aload_n (pc := 40) dX12_feed_40 rfl rfl ?_
      refine j_dup (pc := 41) dX12_feed_41 rfl ?_
      refine j_getI (pc := 42) fl_X12_86 dX12_feed_42 (a_88 hM) rfl ?_
      refine j_topV (show σ7 88 12 = τ 88 12 from (tw_ne1 eσ7 (by (first | decide | omega)))) ?_
      refine j_iconst (pc := 45) dX12_feed_45 ?_
      refine j_iadd (pc := 46) dX12_feed_46 ?_
      refine j_putI (pc := 47) fl_X12_86 fp_X12_12 dX12_feed_47 (a_88 hM) rfl (j_nm (fun σ8 (eσ8 : σ8 = tw_up σ7 88 12 ((τ 88 12) + 1)) => ?_))
      have hIσ8 : tw_I σ8 := tw_I_up hIσ7 eσ8 (show (0 : Int) ≤ (τ 88 12) + 1 ∧ (τ 88 12) + 1 ≤ 400 from ⟨by omega, by omega⟩)
      have hFσ8 : tw_F (fun c j => (c = 88 ∧ (j = 12)) ∨ c = 98) σ σ8 := tw_F_up hFσ7 eσ8 (show (88 = 88 ∧ (12 = 12)) ∨ 88 = 98 from (Or.inl ⟨rfl, rfl⟩))
      refine j_iinc (pc := 50) (i := 3) (n := -8) (ls' := [(0, vR 88), (1, vL v), (3, vI (i + (-8)))]) [1, 2, 0] dX12_feed_50 rfl (Nat.le_of_ble_eq_true rfl) rfl rfl ?_
      refine j_goto (pc := 53) (tgt := 19) dX12_feed_53 rfl ?_
      refine j_ls (ls' := [(0, vR 88), (1, vL v), (3, vI (i + (-8)))]) [0, 1, 2] rfl ?_
      have y9 : σ8 88 12 = (τ 88 12) + 1 := (tw_eq1 eσ8)
      have y10 : σ8 88 12 = (τ 88 12) + 1 := (tw_eq1 eσ8)
      exact ih (i + (-8)) ⟨by omega, by omega⟩ σ8 hIσ8 hFσ8 (show 8 * σ8 88 12 = 8 * σ 88 12 + 56 - (i + (-8)) from by omega) (show σ 88 12 ≤ 392 from by omega) (show ∀ j : Nat, (j : Int) < σ 88 12 → σ8 98 j = σ 98 j from (fun j hj => by first | rfl | (rw [tw_ne1 eσ8 (by (first | decide | omega)), tw_ne1 eσ7 (by (first | decide | omega))]; exact i2 j hj))) (show ∀ k : Nat, (k : Int) < σ8 88 12 - σ 88 12 → σ8 98 ((σ 88 12).toNat + k) = byt v k from (fun k hk => by first | (exfalso; omega) | (rcases (show (k : Int) < τ 88 12 - σ 88 12 ∨ (k : Int) = τ 88 12 - σ 88 12 by omega) with q | q; (rw [tw_ne1 eσ8 (by (first | decide | omega)), tw_ne1 eσ7 (by (first | decide | omega))]; exact i3 k q); (rw [tw_ne1 eσ8 (by (first | decide | omega)), tw_eq2 eσ7 (by omega), x3]; unfold byt; rw [show (i : Int) = 56 - 8 * (k : Int) from by omega])))) (show ((i + (-8)) + 8).toNat < N_ from by omega)
set_option maxHeartbeats 4000000 in
set_option maxRecDepth 100000 in
theorem c_X12_feed {G : tw_G} (hM : tw_isM G) (v : Int) (hv : -9223372036854775808 ≤ v ∧ v ≤ 9223372036854775807) (σ : tw_M) (hI : tw_I σ) : tw_C G yX12_feed cX12_feed 4 (some .int) 0 [vR 88, vL v] σ (q_X12_feed v σ) := by
  refine tw_met [(0, vR 88), (1, vL v)] (by decide +kernel) rfl (Nat.le_of_ble_eq_true rfl) ?_
  refine j_aload_n (pc := 0) dX12_feed_0 rfl rfl ?_
  refine j_getI (pc := 1) fl_X12_86 dX12_feed_1 (a_88 hM) rfl ?_
  have f11 : (0 : Int) ≤ σ 88 12 ∧ σ 88 12 ≤ 400 := hI 88 12
  refine j_bipush (pc := 4) dX12_feed_4 rfl ?_
  refine j_iadd (pc := 6) dX12_feed_6 ?_
  refine j_sipush (pc := 7) dX12_feed_7 rfl ?_
  refine j_icmpR_le (pc := 10) (tgt := 16) ⟨by omega, by omega⟩ ⟨by omega, by omega⟩ dX12_feed_10 rfl (fun h12 => ?_) (fun h12 => ?_)
  · refine j_bipush (pc := 16) dX12_feed_16 rfl ?_
    refine j_istore_n (pc := 18) (i := 3) (ls' := [(0, vR 88), (1, vL v), (3, vI 56)]) [1, 2, 0] dX12_feed_18 rfl (Nat.le_of_ble_eq_true rfl) rfl rfl ?_
    refine j_ls (ls' := [(0, vR 88), (1, vL v), (3, vI 56)]) [0, 1, 2] rfl ?_
    exact (l_X12_feed hM v hv σ hI ((((56 : Int) + 8).toNat) + 1)) 56 (by (first | decide | exact ⟨by omega, by omega⟩)) σ hI (tw_F_rf) (show 8 * σ 88 12 = 8 * σ 88 12 + 56 - (56 : Int) from by omega) (show σ 88 12 ≤ 392 from by omega) (show ∀ j : Nat, (j : Int) < σ 88 12 → σ 98 j = σ 98 j from (fun j hj => by first | rfl | (rw [tw_ne1 _ (by omega), tw_ne1 _ (by omega)]; exact i2 j hj))) (show ∀ k : Nat, (k : Int) < σ 88 12 - σ 88 12 → σ 98 ((σ 88 12).toNat + k) = byt v k from (fun k hk => by first | (exfalso; omega) | (rcases (show (k : Int) < τ 88 12 - σ 88 12 ∨ (k : Int) = τ 88 12 - σ 88 12 by omega) with q | q; (rw [tw_ne1 _ (by omega), tw_ne1 _ (by omega)]; exact i3 k q); (rw [tw_ne1 _ (by omega), tw_eq2 _ (by omega), x3]; unfold byt; rw [show (i : Int) = 56 - 8 * (k : Int) from by omega])))) (Nat.lt_succ_self _)
  · refine j_bipush (pc := 13) dX12_feed_13 rfl ?_
    exact j_iret (pc := 15) ⟨rfl, rfl⟩ dX12_feed_15 rfl ⟨_, rfl, ⟨by omega, by omega⟩, hI, (tw_F_rf), by omega, (by first | exact i2 | exact (fun j hj => rfl)), (by first | exact Or.inl rfl | exact Or.inr (fun k hk => i3 k (by omega)))⟩
abbrev q_X12_end (n : Int) (σ : tw_M) : Option tw_V → tw_M → Prop := fun z τ => ∃ r : Int, z = some (vI r) ∧ (-2147483648 ≤ r ∧ r ≤ 2147483647) ∧ tw_I τ ∧ tw_F (fun c j => (c = 88 ∧ (j = 12))) σ τ ∧ ((r = -1 ∧ ¬ (0 ≤ n ∧ n ≤ σ 88 12) ∧ τ 88 12 = σ 88 12) ∨ (r = σ 88 12 ∧ 0 ≤ n ∧ n ≤ σ 88 12 ∧ τ 88 12 = n))
set_option maxHeartbeats 4000000 in
set_option maxRecDepth 100000 in
theorem c_X12_end {G : tw_G} (hM : tw_isM G) (n : Int) (hn : -2147483648 ≤ n ∧ n ≤ 2147483647) (σ : tw_M) (hI : tw_I σ) : tw_C G yX12_end cX12_end 3 (some .int) 1 [vR 88, vI n] σ (q_X12_end n σ) := by
  refine tw_met [(0, vR 88), (1, vI n)] (by decide +kernel) rfl (Nat.le_of_ble_eq_true rfl) ?_
  refine j_iload_n (pc := 0) dX12_end_0 rfl rfl ?_
  refine j_i2l (pc := 1) dX12_end_1 ?_
  rw [w32_eq (a := n) (by omega) (by omega)]
  refine j_lconst (pc := 2) (z := 0) dX12_end_2 rfl ?_
  refine j_aload_n (pc := 3) dX12_end_3 rfl rfl ?_
  refine j_getI (pc := 4) fl_X12_86 dX12_end_4 (a_88 hM) rfl ?_
  have f1 : (0 : Int) ≤ σ 88 12 ∧ σ 88 12 ≤ 400 := hI 88 12
  refine j_i2l (pc := 7) dX12_end_7 ?_
  rw [w32_eq (a := σ 88 12) (by omega) (by omega)]
  refine j_callS (pc := 8) (As := [vL n, vL 0, vL (σ 88 12)]) (st := []) (c_X12_in n ⟨by omega, by omega⟩ 0 (by (first | decide | exact ⟨by omega, by omega⟩)) (σ 88 12) ⟨by omega, by omega⟩ σ hI) ms_X12_82 rfl dX12_end_8 ⟨Nat.le_of_ble_eq_true rfl, Nat.le_of_ble_eq_true rfl⟩ ⟨Nat.le_refl _, Nat.le_refl _⟩ rfl (Nat.le_of_ble_eq_true rfl) rfl (fun z2 σ3 hz2 => ?_)
  obtain ⟨r5, rfl, hr5, rfl, q4_0⟩ := hz2
  replace q4_0 : (r5 = 1 ∧ (0 : Int) ≤ n ∧ n ≤ (σ 88 12)) ∨ (r5 = 0 ∧ ¬ ((0 : Int) ≤ n ∧ n ≤ (σ 88 12))) := q4_0
  refine j_st (st' := [vI r5]) rfl ?_
  refine j_ifR_ne (pc := 11) (tgt := 16) ⟨by omega, by omega⟩ dX12_end_11 rfl (fun h6 => ?_) (fun h6 => ?_)
  · refine j_aload_n (pc := 16) dX12_end_16 rfl rfl ?_
    refine j_getI (pc := 17) fl_X12_86 dX12_end_17 (a_88 hM) rfl ?_
    refine j_istore_n (pc := 20) (i := 2) (ls' := [(0, vR 88), (1, vI n), (2, vI (σ 88 12))]) [1, 2, 0] dX12_end_20 rfl (Nat.le_of_ble_eq_true rfl) rfl rfl ?_
    refine j_aload_n (pc := 21) dX12_end_21 rfl rfl ?_
    refine j_iload_n (pc := 22) dX12_end_22 rfl rfl ?_
    refine j_putI (pc := 23) fl_X12_86 fp_X12_12 dX12_end_23 (a_88 hM) rfl (j_nm (fun σ7 (eσ7 : σ7 = tw_up σ 88 12 n) => ?_))
    have hIσ7 : tw_I σ7 := tw_I_up hI eσ7 (show (0 : Int) ≤ n ∧ n ≤ 400 from ⟨by omega, by omega⟩)
    have hFσ7 : tw_F (fun c j => (c = 88 ∧ (j = 12))) σ σ7 := tw_F_up (tw_F_rf) eσ7 (show (88 = 88 ∧ (12 = 12)) from ⟨rfl, rfl⟩)
    refine j_iload_n (pc := 26) dX12_end_26 rfl rfl ?_
    have y8 : σ7 88 12 = n := (tw_eq1 eσ7)
    exact j_iret (pc := 27) ⟨rfl, rfl⟩ dX12_end_27 rfl ⟨_, rfl, ⟨by omega, by omega⟩, hIσ7, hFσ7, by omega⟩
  · refine j_iconst (pc := 14) dX12_end_14 ?_
    exact j_iret (pc := 15) ⟨rfl, rfl⟩ dX12_end_15 rfl ⟨_, rfl, ⟨by omega, by omega⟩, hI, (tw_F_rf), by omega⟩
