/-! 16.bolts -/
theorem dX0_forget_0 : decode cX0_forget 0 = .ok (.aload_n 0, 1) := by decide +kernel
theorem dX0_forget_1 : decode cX0_forget 1 = .ok (.iconst 0, 1) := by decide +kernel
theorem dX0_forget_2 : decode cX0_forget 2 = .ok (.putfield 9, 3) := by decide +kernel
theorem dX0_forget_5 : decode cX0_forget 5 = .ok (.return_, 1) := by decide +kernel
theorem dX0_isSafe_0 : decode cX0_isSafe 0 = .ok (.aload_n 0, 1) := by decide +kernel
theorem dX0_isSafe_1 : decode cX0_isSafe 1 = .ok (.getfield 29, 3) := by decide +kernel
theorem dX0_isSafe_4 : decode cX0_isSafe 4 = .ok (.iload_n 2, 1) := by decide +kernel
theorem dX0_isSafe_5 : decode cX0_isSafe 5 = .ok (.iload_n 2, 1) := by decide +kernel
theorem dX0_isSafe_6 : decode cX0_isSafe 6 = .ok (.aload_n 0, 1) := by decide +kernel
theorem dX0_isSafe_7 : decode cX0_isSafe 7 = .ok (.getfield 29, 3) := by decide +kernel
theorem dX0_isSafe_10 : decode cX0_isSafe 10 = .ok (.iload_n 2, 1) := by decide +kernel
theorem dX0_isSafe_11 : decode cX0_isSafe 11 = .ok (.iload_n 1, 1) := by decide +kernel
theorem dX0_isSafe_12 : decode cX0_isSafe 12 = .ok (.invokevirtual 60, 3) := by decide +kernel
theorem dX0_isSafe_15 : decode cX0_isSafe 15 = .ok (.isub, 1) := by decide +kernel
theorem dX0_isSafe_16 : decode cX0_isSafe 16 = .ok (.invokevirtual 63, 3) := by decide +kernel
theorem dX0_isSafe_19 : decode cX0_isSafe 19 = .ok (.bipush (-4), 2) := by decide +kernel
theorem dX0_isSafe_21 : decode cX0_isSafe 21 = .ok (.if_icmp .ne 7, 3) := by decide +kernel
theorem dX0_isSafe_24 : decode cX0_isSafe 24 = .ok (.iconst 1, 1) := by decide +kernel
theorem dX0_isSafe_25 : decode cX0_isSafe 25 = .ok (.goto 4, 3) := by decide +kernel
theorem dX0_isSafe_28 : decode cX0_isSafe 28 = .ok (.iconst 0, 1) := by decide +kernel
theorem dX0_isSafe_29 : decode cX0_isSafe 29 = .ok (.ireturn, 1) := by decide +kernel
theorem dX0_isLowest_0 : decode cX0_isLowest 0 = .ok (.iload_n 1, 1) := by decide +kernel
theorem dX0_isLowest_1 : decode cX0_isLowest 1 = .ok (.aload_n 0, 1) := by decide +kernel
theorem dX0_isLowest_2 : decode cX0_isLowest 2 = .ok (.getfield 29, 3) := by decide +kernel
theorem dX0_isLowest_5 : decode cX0_isLowest 5 = .ok (.getfield 39, 3) := by decide +kernel
theorem dX0_isLowest_8 : decode cX0_isLowest 8 = .ok (.bipush 8, 2) := by decide +kernel
theorem dX0_isLowest_10 : decode cX0_isLowest 10 = .ok (.iaload, 1) := by decide +kernel
theorem dX0_isLowest_11 : decode cX0_isLowest 11 = .ok (.if_icmp .le 12, 3) := by decide +kernel
theorem dX0_isLowest_14 : decode cX0_isLowest 14 = .ok (.aload_n 0, 1) := by decide +kernel
theorem dX0_isLowest_15 : decode cX0_isLowest 15 = .ok (.iload_n 1, 1) := by decide +kernel
theorem dX0_isLowest_16 : decode cX0_isLowest 16 = .ok (.iload_n 1, 1) := by decide +kernel
theorem dX0_isLowest_17 : decode cX0_isLowest 17 = .ok (.invokevirtual 66, 3) := by decide +kernel
theorem dX0_isLowest_20 : decode cX0_isLowest 20 = .ok (.ifCond .eq 7, 3) := by decide +kernel
theorem dX0_isLowest_23 : decode cX0_isLowest 23 = .ok (.iconst 1, 1) := by decide +kernel
theorem dX0_isLowest_24 : decode cX0_isLowest 24 = .ok (.goto 4, 3) := by decide +kernel
theorem dX0_isLowest_27 : decode cX0_isLowest 27 = .ok (.iconst 0, 1) := by decide +kernel
theorem dX0_isLowest_28 : decode cX0_isLowest 28 = .ok (.ireturn, 1) := by decide +kernel
theorem dX0_reach_0 : decode cX0_reach 0 = .ok (.iload_n 1, 1) := by decide +kernel
theorem dX0_reach_1 : decode cX0_reach 1 = .ok (.istore_n 2, 1) := by decide +kernel
theorem dX0_reach_2 : decode cX0_reach 2 = .ok (.iload_n 1, 1) := by decide +kernel
theorem dX0_reach_3 : decode cX0_reach 3 = .ok (.iconst 1, 1) := by decide +kernel
theorem dX0_reach_4 : decode cX0_reach 4 = .ok (.iadd, 1) := by decide +kernel
theorem dX0_reach_5 : decode cX0_reach 5 = .ok (.istore_n 3, 1) := by decide +kernel
theorem dX0_reach_6 : decode cX0_reach 6 = .ok (.iload_n 3, 1) := by decide +kernel
theorem dX0_reach_7 : decode cX0_reach 7 = .ok (.aload_n 0, 1) := by decide +kernel
theorem dX0_reach_8 : decode cX0_reach 8 = .ok (.getfield 29, 3) := by decide +kernel
theorem dX0_reach_11 : decode cX0_reach 11 = .ok (.invokevirtual 33, 3) := by decide +kernel
theorem dX0_reach_14 : decode cX0_reach 14 = .ok (.if_icmp .gt 20, 3) := by decide +kernel
theorem dX0_reach_17 : decode cX0_reach 17 = .ok (.aload_n 0, 1) := by decide +kernel
theorem dX0_reach_18 : decode cX0_reach 18 = .ok (.iload_n 1, 1) := by decide +kernel
theorem dX0_reach_19 : decode cX0_reach 19 = .ok (.iload_n 3, 1) := by decide +kernel
theorem dX0_reach_20 : decode cX0_reach 20 = .ok (.invokevirtual 66, 3) := by decide +kernel
theorem dX0_reach_23 : decode cX0_reach 23 = .ok (.ifCond .eq 11, 3) := by decide +kernel
theorem dX0_reach_26 : decode cX0_reach 26 = .ok (.iload_n 3, 1) := by decide +kernel
theorem dX0_reach_27 : decode cX0_reach 27 = .ok (.istore_n 2, 1) := by decide +kernel
theorem dX0_reach_28 : decode cX0_reach 28 = .ok (.iinc 3 1, 3) := by decide +kernel
theorem dX0_reach_31 : decode cX0_reach 31 = .ok (.goto (-25), 3) := by decide +kernel
theorem dX0_reach_34 : decode cX0_reach 34 = .ok (.iload_n 2, 1) := by decide +kernel
theorem dX0_reach_35 : decode cX0_reach 35 = .ok (.ireturn, 1) := by decide +kernel
theorem dX0_fewestFrom_0 : decode cX0_fewestFrom 0 = .ok (.aload_n 0, 1) := by decide +kernel
theorem dX0_fewestFrom_1 : decode cX0_fewestFrom 1 = .ok (.iload_n 1, 1) := by decide +kernel
theorem dX0_fewestFrom_2 : decode cX0_fewestFrom 2 = .ok (.invokevirtual 70, 3) := by decide +kernel
theorem dX0_fewestFrom_5 : decode cX0_fewestFrom 5 = .ok (.istore_n 2, 1) := by decide +kernel
theorem dX0_fewestFrom_6 : decode cX0_fewestFrom 6 = .ok (.iload_n 2, 1) := by decide +kernel
theorem dX0_fewestFrom_7 : decode cX0_fewestFrom 7 = .ok (.aload_n 0, 1) := by decide +kernel
theorem dX0_fewestFrom_8 : decode cX0_fewestFrom 8 = .ok (.getfield 29, 3) := by decide +kernel
theorem dX0_fewestFrom_11 : decode cX0_fewestFrom 11 = .ok (.invokevirtual 33, 3) := by decide +kernel
theorem dX0_fewestFrom_14 : decode cX0_fewestFrom 14 = .ok (.if_icmp .lt 5, 3) := by decide +kernel
theorem dX0_fewestFrom_17 : decode cX0_fewestFrom 17 = .ok (.iconst 1, 1) := by decide +kernel
theorem dX0_fewestFrom_18 : decode cX0_fewestFrom 18 = .ok (.ireturn, 1) := by decide +kernel
theorem dX0_fewestFrom_19 : decode cX0_fewestFrom 19 = .ok (.bipush 99, 2) := by decide +kernel
theorem dX0_fewestFrom_21 : decode cX0_fewestFrom 21 = .ok (.istore_n 3, 1) := by decide +kernel
theorem dX0_fewestFrom_22 : decode cX0_fewestFrom 22 = .ok (.iload_n 1, 1) := by decide +kernel
theorem dX0_fewestFrom_23 : decode cX0_fewestFrom 23 = .ok (.iconst 1, 1) := by decide +kernel
theorem dX0_fewestFrom_24 : decode cX0_fewestFrom 24 = .ok (.iadd, 1) := by decide +kernel
theorem dX0_fewestFrom_25 : decode cX0_fewestFrom 25 = .ok (.istore 4, 2) := by decide +kernel
theorem dX0_fewestFrom_27 : decode cX0_fewestFrom 27 = .ok (.iload 4, 2) := by decide +kernel
theorem dX0_fewestFrom_29 : decode cX0_fewestFrom 29 = .ok (.iload_n 2, 1) := by decide +kernel
theorem dX0_fewestFrom_30 : decode cX0_fewestFrom 30 = .ok (.iconst 1, 1) := by decide +kernel
theorem dX0_fewestFrom_31 : decode cX0_fewestFrom 31 = .ok (.iadd, 1) := by decide +kernel
theorem dX0_fewestFrom_32 : decode cX0_fewestFrom 32 = .ok (.if_icmp .gt 34, 3) := by decide +kernel
theorem dX0_fewestFrom_35 : decode cX0_fewestFrom 35 = .ok (.aload_n 0, 1) := by decide +kernel
theorem dX0_fewestFrom_36 : decode cX0_fewestFrom 36 = .ok (.iload 4, 2) := by decide +kernel
theorem dX0_fewestFrom_38 : decode cX0_fewestFrom 38 = .ok (.iload 4, 2) := by decide +kernel
theorem dX0_fewestFrom_40 : decode cX0_fewestFrom 40 = .ok (.invokevirtual 66, 3) := by decide +kernel
theorem dX0_fewestFrom_43 : decode cX0_fewestFrom 43 = .ok (.ifCond .eq 17, 3) := by decide +kernel
theorem dX0_fewestFrom_46 : decode cX0_fewestFrom 46 = .ok (.iload_n 3, 1) := by decide +kernel
theorem dX0_fewestFrom_47 : decode cX0_fewestFrom 47 = .ok (.aload_n 0, 1) := by decide +kernel
theorem dX0_fewestFrom_48 : decode cX0_fewestFrom 48 = .ok (.getfield 15, 3) := by decide +kernel
theorem dX0_fewestFrom_51 : decode cX0_fewestFrom 51 = .ok (.iload 4, 2) := by decide +kernel
theorem dX0_fewestFrom_53 : decode cX0_fewestFrom 53 = .ok (.iaload, 1) := by decide +kernel
theorem dX0_fewestFrom_54 : decode cX0_fewestFrom 54 = .ok (.iconst 1, 1) := by decide +kernel
theorem dX0_fewestFrom_55 : decode cX0_fewestFrom 55 = .ok (.iadd, 1) := by decide +kernel
theorem dX0_fewestFrom_56 : decode cX0_fewestFrom 56 = .ok (.invokestatic 46, 3) := by decide +kernel
theorem dX0_fewestFrom_59 : decode cX0_fewestFrom 59 = .ok (.istore_n 3, 1) := by decide +kernel
theorem dX0_fewestFrom_60 : decode cX0_fewestFrom 60 = .ok (.iinc 4 1, 3) := by decide +kernel
theorem dX0_fewestFrom_63 : decode cX0_fewestFrom 63 = .ok (.goto (-36), 3) := by decide +kernel
theorem dX0_fewestFrom_66 : decode cX0_fewestFrom 66 = .ok (.iload_n 3, 1) := by decide +kernel
theorem dX0_fewestFrom_67 : decode cX0_fewestFrom 67 = .ok (.bipush 99, 2) := by decide +kernel
theorem dX0_fewestFrom_69 : decode cX0_fewestFrom 69 = .ok (.invokestatic 46, 3) := by decide +kernel
theorem dX0_fewestFrom_72 : decode cX0_fewestFrom 72 = .ok (.ireturn, 1) := by decide +kernel
theorem dX0_firstWith_0 : decode cX0_firstWith 0 = .ok (.iload_n 2, 1) := by decide +kernel
theorem dX0_firstWith_1 : decode cX0_firstWith 1 = .ok (.istore 4, 2) := by decide +kernel
theorem dX0_firstWith_3 : decode cX0_firstWith 3 = .ok (.iload 4, 2) := by decide +kernel
theorem dX0_firstWith_5 : decode cX0_firstWith 5 = .ok (.iload_n 3, 1) := by decide +kernel
theorem dX0_firstWith_6 : decode cX0_firstWith 6 = .ok (.if_icmp .gt 54, 3) := by decide +kernel
theorem dX0_firstWith_9 : decode cX0_firstWith 9 = .ok (.aload_n 0, 1) := by decide +kernel
theorem dX0_firstWith_10 : decode cX0_firstWith 10 = .ok (.getfield 22, 3) := by decide +kernel
theorem dX0_firstWith_13 : decode cX0_firstWith 13 = .ok (.ifCond .ne 12, 3) := by decide +kernel
theorem dX0_firstWith_16 : decode cX0_firstWith 16 = .ok (.aload_n 0, 1) := by decide +kernel
theorem dX0_firstWith_17 : decode cX0_firstWith 17 = .ok (.iload 4, 2) := by decide +kernel
theorem dX0_firstWith_19 : decode cX0_firstWith 19 = .ok (.invokevirtual 52, 3) := by decide +kernel
theorem dX0_firstWith_22 : decode cX0_firstWith 22 = .ok (.goto 11, 3) := by decide +kernel
theorem dX0_firstWith_25 : decode cX0_firstWith 25 = .ok (.aload_n 0, 1) := by decide +kernel
theorem dX0_firstWith_26 : decode cX0_firstWith 26 = .ok (.iload 4, 2) := by decide +kernel
theorem dX0_firstWith_28 : decode cX0_firstWith 28 = .ok (.iload 4, 2) := by decide +kernel
theorem dX0_firstWith_30 : decode cX0_firstWith 30 = .ok (.invokevirtual 66, 3) := by decide +kernel
theorem dX0_firstWith_33 : decode cX0_firstWith 33 = .ok (.istore 5, 2) := by decide +kernel
theorem dX0_firstWith_35 : decode cX0_firstWith 35 = .ok (.iload 5, 2) := by decide +kernel
theorem dX0_firstWith_37 : decode cX0_firstWith 37 = .ok (.ifCond .eq 17, 3) := by decide +kernel
theorem dX0_firstWith_40 : decode cX0_firstWith 40 = .ok (.aload_n 0, 1) := by decide +kernel
theorem dX0_firstWith_41 : decode cX0_firstWith 41 = .ok (.getfield 15, 3) := by decide +kernel
theorem dX0_firstWith_44 : decode cX0_firstWith 44 = .ok (.iload 4, 2) := by decide +kernel
theorem dX0_firstWith_46 : decode cX0_firstWith 46 = .ok (.iaload, 1) := by decide +kernel
theorem dX0_firstWith_47 : decode cX0_firstWith 47 = .ok (.iload_n 1, 1) := by decide +kernel
theorem dX0_firstWith_48 : decode cX0_firstWith 48 = .ok (.if_icmp .ne 6, 3) := by decide +kernel
theorem dX0_firstWith_51 : decode cX0_firstWith 51 = .ok (.iload 4, 2) := by decide +kernel
theorem dX0_firstWith_53 : decode cX0_firstWith 53 = .ok (.ireturn, 1) := by decide +kernel
theorem dX0_firstWith_54 : decode cX0_firstWith 54 = .ok (.iinc 4 1, 3) := by decide +kernel
theorem dX0_firstWith_57 : decode cX0_firstWith 57 = .ok (.goto (-54), 3) := by decide +kernel
theorem dX0_firstWith_60 : decode cX0_firstWith 60 = .ok (.iconst 0, 1) := by decide +kernel
theorem dX0_firstWith_61 : decode cX0_firstWith 61 = .ok (.ireturn, 1) := by decide +kernel
theorem dX0_collect_0 : decode cX0_collect 0 = .ok (.iconst 1, 1) := by decide +kernel
theorem dX0_collect_1 : decode cX0_collect 1 = .ok (.istore_n 2, 1) := by decide +kernel
theorem dX0_collect_2 : decode cX0_collect 2 = .ok (.aload_n 0, 1) := by decide +kernel
theorem dX0_collect_3 : decode cX0_collect 3 = .ok (.getfield 29, 3) := by decide +kernel
theorem dX0_collect_6 : decode cX0_collect 6 = .ok (.getfield 39, 3) := by decide +kernel
theorem dX0_collect_9 : decode cX0_collect 9 = .ok (.bipush 8, 2) := by decide +kernel
theorem dX0_collect_11 : decode cX0_collect 11 = .ok (.iaload, 1) := by decide +kernel
theorem dX0_collect_12 : decode cX0_collect 12 = .ok (.iconst 1, 1) := by decide +kernel
theorem dX0_collect_13 : decode cX0_collect 13 = .ok (.iadd, 1) := by decide +kernel
theorem dX0_collect_14 : decode cX0_collect 14 = .ok (.aload_n 0, 1) := by decide +kernel
theorem dX0_collect_15 : decode cX0_collect 15 = .ok (.getfield 29, 3) := by decide +kernel
theorem dX0_collect_18 : decode cX0_collect 18 = .ok (.invokevirtual 33, 3) := by decide +kernel
theorem dX0_collect_21 : decode cX0_collect 21 = .ok (.invokestatic 46, 3) := by decide +kernel
theorem dX0_collect_24 : decode cX0_collect 24 = .ok (.istore_n 3, 1) := by decide +kernel
theorem dX0_collect_25 : decode cX0_collect 25 = .ok (.iload_n 1, 1) := by decide +kernel
theorem dX0_collect_26 : decode cX0_collect 26 = .ok (.istore 4, 2) := by decide +kernel
theorem dX0_collect_28 : decode cX0_collect 28 = .ok (.iload 4, 2) := by decide +kernel
theorem dX0_collect_30 : decode cX0_collect 30 = .ok (.iconst 1, 1) := by decide +kernel
theorem dX0_collect_31 : decode cX0_collect 31 = .ok (.if_icmp .lt 79, 3) := by decide +kernel
theorem dX0_collect_34 : decode cX0_collect 34 = .ok (.aload_n 0, 1) := by decide +kernel
theorem dX0_collect_35 : decode cX0_collect 35 = .ok (.iload 4, 2) := by decide +kernel
theorem dX0_collect_37 : decode cX0_collect 37 = .ok (.iload_n 2, 1) := by decide +kernel
theorem dX0_collect_38 : decode cX0_collect 38 = .ok (.iload_n 3, 1) := by decide +kernel
theorem dX0_collect_39 : decode cX0_collect 39 = .ok (.invokevirtual 73, 3) := by decide +kernel
theorem dX0_collect_42 : decode cX0_collect 42 = .ok (.istore 5, 2) := by decide +kernel
theorem dX0_collect_44 : decode cX0_collect 44 = .ok (.iload 5, 2) := by decide +kernel
theorem dX0_collect_46 : decode cX0_collect 46 = .ok (.ifCond .eq 15, 3) := by decide +kernel
theorem dX0_collect_49 : decode cX0_collect 49 = .ok (.aload_n 0, 1) := by decide +kernel
theorem dX0_collect_50 : decode cX0_collect 50 = .ok (.getfield 22, 3) := by decide +kernel
theorem dX0_collect_53 : decode cX0_collect 53 = .ok (.aload_n 0, 1) := by decide +kernel
theorem dX0_collect_54 : decode cX0_collect 54 = .ok (.getfield 19, 3) := by decide +kernel
theorem dX0_collect_57 : decode cX0_collect 57 = .ok (.arraylength, 1) := by decide +kernel
theorem dX0_collect_58 : decode cX0_collect 58 = .ok (.if_icmp .lt 4, 3) := by decide +kernel
theorem dX0_collect_61 : decode cX0_collect 61 = .ok (.return_, 1) := by decide +kernel
theorem dX0_collect_62 : decode cX0_collect 62 = .ok (.aload_n 0, 1) := by decide +kernel
theorem dX0_collect_63 : decode cX0_collect 63 = .ok (.getfield 19, 3) := by decide +kernel
theorem dX0_collect_66 : decode cX0_collect 66 = .ok (.aload_n 0, 1) := by decide +kernel
theorem dX0_collect_67 : decode cX0_collect 67 = .ok (.dup, 1) := by decide +kernel
theorem dX0_collect_68 : decode cX0_collect 68 = .ok (.getfield 22, 3) := by decide +kernel
theorem dX0_collect_71 : decode cX0_collect 71 = .ok (.dup_x1, 1) := by decide +kernel
theorem dX0_collect_72 : decode cX0_collect 72 = .ok (.iconst 1, 1) := by decide +kernel
theorem dX0_collect_73 : decode cX0_collect 73 = .ok (.iadd, 1) := by decide +kernel
theorem dX0_collect_74 : decode cX0_collect 74 = .ok (.putfield 22, 3) := by decide +kernel
theorem dX0_collect_77 : decode cX0_collect 77 = .ok (.iload 5, 2) := by decide +kernel
theorem dX0_collect_79 : decode cX0_collect 79 = .ok (.iastore, 1) := by decide +kernel
theorem dX0_collect_80 : decode cX0_collect 80 = .ok (.iload 5, 2) := by decide +kernel
theorem dX0_collect_82 : decode cX0_collect 82 = .ok (.iconst 1, 1) := by decide +kernel
theorem dX0_collect_83 : decode cX0_collect 83 = .ok (.iadd, 1) := by decide +kernel
theorem dX0_collect_84 : decode cX0_collect 84 = .ok (.istore_n 2, 1) := by decide +kernel
theorem dX0_collect_85 : decode cX0_collect 85 = .ok (.aload_n 0, 1) := by decide +kernel
theorem dX0_collect_86 : decode cX0_collect 86 = .ok (.iload 5, 2) := by decide +kernel
theorem dX0_collect_88 : decode cX0_collect 88 = .ok (.invokevirtual 70, 3) := by decide +kernel
theorem dX0_collect_91 : decode cX0_collect 91 = .ok (.iconst 1, 1) := by decide +kernel
theorem dX0_collect_92 : decode cX0_collect 92 = .ok (.iadd, 1) := by decide +kernel
theorem dX0_collect_93 : decode cX0_collect 93 = .ok (.aload_n 0, 1) := by decide +kernel
theorem dX0_collect_94 : decode cX0_collect 94 = .ok (.getfield 29, 3) := by decide +kernel
theorem dX0_collect_97 : decode cX0_collect 97 = .ok (.invokevirtual 33, 3) := by decide +kernel
theorem dX0_collect_100 : decode cX0_collect 100 = .ok (.invokestatic 46, 3) := by decide +kernel
theorem dX0_collect_103 : decode cX0_collect 103 = .ok (.istore_n 3, 1) := by decide +kernel
theorem dX0_collect_104 : decode cX0_collect 104 = .ok (.iinc 4 (-1), 3) := by decide +kernel
theorem dX0_collect_107 : decode cX0_collect 107 = .ok (.goto (-79), 3) := by decide +kernel
theorem dX0_collect_110 : decode cX0_collect 110 = .ok (.return_, 1) := by decide +kernel
theorem dX0_find_0 : decode cX0_find 0 = .ok (.aload_n 0, 1) := by decide +kernel
theorem dX0_find_1 : decode cX0_find 1 = .ok (.getfield 9, 3) := by decide +kernel
theorem dX0_find_4 : decode cX0_find 4 = .ok (.ifCond .eq 4, 3) := by decide +kernel
theorem dX0_find_7 : decode cX0_find 7 = .ok (.return_, 1) := by decide +kernel
theorem dX0_find_8 : decode cX0_find 8 = .ok (.aload_n 0, 1) := by decide +kernel
theorem dX0_find_9 : decode cX0_find 9 = .ok (.iconst 1, 1) := by decide +kernel
theorem dX0_find_10 : decode cX0_find 10 = .ok (.putfield 9, 3) := by decide +kernel
theorem dX0_find_13 : decode cX0_find 13 = .ok (.aload_n 0, 1) := by decide +kernel
theorem dX0_find_14 : decode cX0_find 14 = .ok (.iconst 0, 1) := by decide +kernel
theorem dX0_find_15 : decode cX0_find 15 = .ok (.putfield 22, 3) := by decide +kernel
theorem dX0_find_18 : decode cX0_find 18 = .ok (.aload_n 0, 1) := by decide +kernel
theorem dX0_find_19 : decode cX0_find 19 = .ok (.iconst 1, 1) := by decide +kernel
theorem dX0_find_20 : decode cX0_find 20 = .ok (.putfield 26, 3) := by decide +kernel
theorem dX0_find_23 : decode cX0_find 23 = .ok (.aload_n 0, 1) := by decide +kernel
theorem dX0_find_24 : decode cX0_find 24 = .ok (.getfield 29, 3) := by decide +kernel
theorem dX0_find_27 : decode cX0_find 27 = .ok (.invokevirtual 33, 3) := by decide +kernel
theorem dX0_find_30 : decode cX0_find 30 = .ok (.istore_n 1, 1) := by decide +kernel
theorem dX0_find_31 : decode cX0_find 31 = .ok (.aload_n 0, 1) := by decide +kernel
theorem dX0_find_32 : decode cX0_find 32 = .ok (.getfield 29, 3) := by decide +kernel
theorem dX0_find_35 : decode cX0_find 35 = .ok (.getfield 39, 3) := by decide +kernel
theorem dX0_find_38 : decode cX0_find 38 = .ok (.bipush 8, 2) := by decide +kernel
theorem dX0_find_40 : decode cX0_find 40 = .ok (.iaload, 1) := by decide +kernel
theorem dX0_find_41 : decode cX0_find 41 = .ok (.istore_n 2, 1) := by decide +kernel
theorem dX0_find_42 : decode cX0_find 42 = .ok (.iload_n 1, 1) := by decide +kernel
theorem dX0_find_43 : decode cX0_find 43 = .ok (.iload_n 2, 1) := by decide +kernel
theorem dX0_find_44 : decode cX0_find 44 = .ok (.if_icmp .gt 4, 3) := by decide +kernel
theorem dX0_find_47 : decode cX0_find 47 = .ok (.return_, 1) := by decide +kernel
theorem dX0_find_48 : decode cX0_find 48 = .ok (.iload_n 1, 1) := by decide +kernel
theorem dX0_find_49 : decode cX0_find 49 = .ok (.istore_n 3, 1) := by decide +kernel
theorem dX0_find_50 : decode cX0_find 50 = .ok (.iload_n 3, 1) := by decide +kernel
theorem dX0_find_51 : decode cX0_find 51 = .ok (.iconst 1, 1) := by decide +kernel
theorem dX0_find_52 : decode cX0_find 52 = .ok (.if_icmp .lt 20, 3) := by decide +kernel
theorem dX0_find_55 : decode cX0_find 55 = .ok (.aload_n 0, 1) := by decide +kernel
theorem dX0_find_56 : decode cX0_find 56 = .ok (.getfield 15, 3) := by decide +kernel
theorem dX0_find_59 : decode cX0_find 59 = .ok (.iload_n 3, 1) := by decide +kernel
theorem dX0_find_60 : decode cX0_find 60 = .ok (.aload_n 0, 1) := by decide +kernel
theorem dX0_find_61 : decode cX0_find 61 = .ok (.iload_n 3, 1) := by decide +kernel
theorem dX0_find_62 : decode cX0_find 62 = .ok (.invokevirtual 42, 3) := by decide +kernel
theorem dX0_find_65 : decode cX0_find 65 = .ok (.iastore, 1) := by decide +kernel
theorem dX0_find_66 : decode cX0_find 66 = .ok (.iinc 3 (-1), 3) := by decide +kernel
theorem dX0_find_69 : decode cX0_find 69 = .ok (.goto (-19), 3) := by decide +kernel
theorem dX0_find_72 : decode cX0_find 72 = .ok (.bipush 99, 2) := by decide +kernel
theorem dX0_find_74 : decode cX0_find 74 = .ok (.istore_n 3, 1) := by decide +kernel
theorem dX0_find_75 : decode cX0_find 75 = .ok (.iconst 1, 1) := by decide +kernel
theorem dX0_find_76 : decode cX0_find 76 = .ok (.istore 4, 2) := by decide +kernel
theorem dX0_find_78 : decode cX0_find 78 = .ok (.iload 4, 2) := by decide +kernel
theorem dX0_find_80 : decode cX0_find 80 = .ok (.iload_n 2, 1) := by decide +kernel
theorem dX0_find_81 : decode cX0_find 81 = .ok (.iconst 1, 1) := by decide +kernel
theorem dX0_find_82 : decode cX0_find 82 = .ok (.iadd, 1) := by decide +kernel
theorem dX0_find_83 : decode cX0_find 83 = .ok (.iload_n 1, 1) := by decide +kernel
theorem dX0_find_84 : decode cX0_find 84 = .ok (.invokestatic 46, 3) := by decide +kernel
theorem dX0_find_87 : decode cX0_find 87 = .ok (.if_icmp .gt 30, 3) := by decide +kernel
theorem dX0_find_90 : decode cX0_find 90 = .ok (.aload_n 0, 1) := by decide +kernel
theorem dX0_find_91 : decode cX0_find 91 = .ok (.iload 4, 2) := by decide +kernel
theorem dX0_find_93 : decode cX0_find 93 = .ok (.invokevirtual 52, 3) := by decide +kernel
theorem dX0_find_96 : decode cX0_find 96 = .ok (.ifCond .eq 15, 3) := by decide +kernel
theorem dX0_find_99 : decode cX0_find 99 = .ok (.iload_n 3, 1) := by decide +kernel
theorem dX0_find_100 : decode cX0_find 100 = .ok (.aload_n 0, 1) := by decide +kernel
theorem dX0_find_101 : decode cX0_find 101 = .ok (.getfield 15, 3) := by decide +kernel
theorem dX0_find_104 : decode cX0_find 104 = .ok (.iload 4, 2) := by decide +kernel
theorem dX0_find_106 : decode cX0_find 106 = .ok (.iaload, 1) := by decide +kernel
theorem dX0_find_107 : decode cX0_find 107 = .ok (.invokestatic 46, 3) := by decide +kernel
theorem dX0_find_110 : decode cX0_find 110 = .ok (.istore_n 3, 1) := by decide +kernel
theorem dX0_find_111 : decode cX0_find 111 = .ok (.iinc 4 1, 3) := by decide +kernel
theorem dX0_find_114 : decode cX0_find 114 = .ok (.goto (-36), 3) := by decide +kernel
theorem dX0_find_117 : decode cX0_find 117 = .ok (.aload_n 0, 1) := by decide +kernel
theorem dX0_find_118 : decode cX0_find 118 = .ok (.iload_n 3, 1) := by decide +kernel
theorem dX0_find_119 : decode cX0_find 119 = .ok (.bipush 99, 2) := by decide +kernel
theorem dX0_find_121 : decode cX0_find 121 = .ok (.if_icmp .ge 7, 3) := by decide +kernel
theorem dX0_find_124 : decode cX0_find 124 = .ok (.iconst 1, 1) := by decide +kernel
theorem dX0_find_125 : decode cX0_find 125 = .ok (.goto 4, 3) := by decide +kernel
theorem dX0_find_128 : decode cX0_find 128 = .ok (.iconst 0, 1) := by decide +kernel
theorem dX0_find_129 : decode cX0_find 129 = .ok (.putfield 26, 3) := by decide +kernel
theorem dX0_find_132 : decode cX0_find 132 = .ok (.aload_n 0, 1) := by decide +kernel
theorem dX0_find_133 : decode cX0_find 133 = .ok (.getfield 26, 3) := by decide +kernel
theorem dX0_find_136 : decode cX0_find 136 = .ok (.ifCond .eq 8, 3) := by decide +kernel
theorem dX0_find_139 : decode cX0_find 139 = .ok (.aload_n 0, 1) := by decide +kernel
theorem dX0_find_140 : decode cX0_find 140 = .ok (.iload_n 3, 1) := by decide +kernel
theorem dX0_find_141 : decode cX0_find 141 = .ok (.invokevirtual 56, 3) := by decide +kernel
theorem dX0_find_144 : decode cX0_find 144 = .ok (.return_, 1) := by decide +kernel
abbrev q_X0_forget  (σ : tw_M) : Option tw_V → tw_M → Prop := fun z τ => z = none ∧ tw_I τ ∧ tw_F (fun c j => (c = 76 ∧ (j = 1))) σ τ ∧ True
set_option maxHeartbeats 4000000 in
set_option maxRecDepth 100000 in
theorem c_X0_forget {G : tw_G} (hX : tw_isX G) (σ : tw_M) (hI : tw_I σ) : tw_C G yX0_forget cX0_forget 1 none 0 [vR 76] σ (q_X0_forget σ) := by
  refine tw_met [(0, vR 76)] (by decide +kernel) rfl (Nat.le_of_ble_eq_true rfl) ?_
  refine j_aload_n (pc := 0) dX0_forget_0 rfl rfl ?_
  refine j_iconst (pc := 1) dX0_forget_1 ?_
  refine j_putZ (pc := 2) (by omega) fl_X0_9 fp_X0_1 dX0_forget_2 (a_76 hX) rfl (j_nm (fun σ1 (eσ1 : σ1 = tw_up σ 76 1 0) => ?_))
  have hIσ1 : tw_I σ1 := tw_I_up hI eσ1 (show (0 : Int) ≤ 0 ∧ 0 ≤ 1 from by decide)
  have hFσ1 : tw_F (fun c j => (c = 76 ∧ (j = 1))) σ σ1 := tw_F_up (tw_F_rf) eσ1 (show (76 = 76 ∧ (1 = 1)) from ⟨rfl, rfl⟩)
  exact j_vret (pc := 5) ⟨rfl, rfl⟩ dX0_forget_5 rfl ⟨rfl, hIσ1, hFσ1, trivial⟩
abbrev q_X0_isSafe (b : Int) (h : Int) (σ : tw_M) : Option tw_V → tw_M → Prop := fun z τ => ∃ r : Int, z = some (vI r) ∧ (0 ≤ r ∧ r ≤ 1) ∧ σ = τ ∧ True
set_option maxHeartbeats 4000000 in
set_option maxRecDepth 100000 in
theorem c_X0_isSafe {G : tw_G} (hX : tw_isX G) (b : Int) (hb : 0 ≤ b ∧ b ≤ 40) (h : Int) (hh : 1 ≤ h ∧ h ≤ 40) (σ : tw_M) (hI : tw_I σ) : tw_C G yX0_isSafe cX0_isSafe 3 (some .boolean) 1 [vR 76, vI b, vI h] σ (q_X0_isSafe b h σ) := by
  refine tw_met [(0, vR 76), (1, vI b), (2, vI h)] (by decide +kernel) rfl (Nat.le_of_ble_eq_true rfl) ?_
  refine j_aload_n (pc := 0) dX0_isSafe_0 rfl rfl ?_
  refine j_getR (pc := 1) (r := 1) fl_X0_29 dX0_isSafe_1 (a_76 hX) rfl ?_
  refine j_iload_n (pc := 4) dX0_isSafe_4 rfl rfl ?_
  refine j_iload_n (pc := 5) dX0_isSafe_5 rfl rfl ?_
  refine j_aload_n (pc := 6) dX0_isSafe_6 rfl rfl ?_
  refine j_getR (pc := 7) (r := 1) fl_X0_29 dX0_isSafe_7 (a_76 hX) rfl ?_
  refine j_iload_n (pc := 10) dX0_isSafe_10 rfl rfl ?_
  refine j_iload_n (pc := 11) dX0_isSafe_11 rfl rfl ?_
  refine j_callV (pc := 12) (As := [vI h, vI b]) (st := [vI h, vI h, vR 1]) (c_X10_dropOf 1 (s_Wall_1 hX) h ⟨by omega, by omega⟩ b ⟨by omega, by omega⟩ σ hI) mv_X0_60 rfl rfl rfl (a_1 hX) dX0_isSafe_12 ⟨Nat.le_of_ble_eq_true rfl, Nat.le_of_ble_eq_true rfl⟩ ⟨Nat.le_refl _, Nat.le_refl _⟩ rfl (Nat.le_of_ble_eq_true rfl) rfl (fun z1 σ2 hz1 => ?_)
  obtain ⟨r4, rfl, hr4, rfl, q3_0⟩ := hz1
  replace q3_0 : r4 = dropS (wW 1 σ) h b := q3_0
  refine j_st (st' := [vI r4, vI h, vI h, vR 1]) rfl ?_
  refine j_isub (pc := 15) dX0_isSafe_15 ?_
  refine j_top (fun z5 ez5 hz5 => ?_)
  refine j_callV (pc := 16) (As := [vI h, vI z5]) (st := []) (c_X10_struckOf 1 (s_Wall_1 hX) h ⟨by omega, by omega⟩ z5 ⟨by omega, by omega⟩ σ hI) mv_X0_63 rfl rfl rfl (a_1 hX) dX0_isSafe_16 ⟨Nat.le_of_ble_eq_true rfl, Nat.le_of_ble_eq_true rfl⟩ ⟨Nat.le_refl _, Nat.le_refl _⟩ rfl (Nat.le_of_ble_eq_true rfl) rfl (fun z6 σ7 hz6 => ?_)
  obtain ⟨r9, rfl, hr9, rfl, q8_0⟩ := hz6
  replace q8_0 : r9 = strS (wW 1 σ) h z5 := q8_0
  refine j_st (st' := [vI r9]) rfl ?_
  refine j_bipush (pc := 19) dX0_isSafe_19 rfl ?_
  refine j_icmpR_ne (pc := 21) (tgt := 28) ⟨by omega, by omega⟩ ⟨by omega, by omega⟩ dX0_isSafe_21 rfl (fun h10 => ?_) (fun h10 => ?_)
  · refine j_iconst (pc := 28) dX0_isSafe_28 ?_
    exact j_zret (pc := 29) ⟨rfl, rfl⟩ dX0_isSafe_29 rfl (nar_bool (by omega) (by omega)) ⟨_, rfl, ⟨by omega, by omega⟩, rfl, trivial⟩
  · refine j_iconst (pc := 24) dX0_isSafe_24 ?_
    refine j_goto (pc := 25) (tgt := 29) dX0_isSafe_25 rfl ?_
    exact j_zret (pc := 29) ⟨rfl, rfl⟩ dX0_isSafe_29 rfl (nar_bool (by omega) (by omega)) ⟨_, rfl, ⟨by omega, by omega⟩, rfl, trivial⟩
abbrev q_X0_isLowest (b : Int) (σ : tw_M) : Option tw_V → tw_M → Prop := fun z τ => ∃ r : Int, z = some (vI r) ∧ (0 ≤ r ∧ r ≤ 1) ∧ σ = τ ∧ True
set_option maxHeartbeats 4000000 in
set_option maxRecDepth 100000 in
theorem c_X0_isLowest {G : tw_G} (hX : tw_isX G) (b : Int) (hb : 1 ≤ b ∧ b ≤ 40) (σ : tw_M) (hI : tw_I σ) : tw_C G yX0_isLowest cX0_isLowest 2 (some .boolean) 2 [vR 76, vI b] σ (q_X0_isLowest b σ) := by
  refine tw_met [(0, vR 76), (1, vI b)] (by decide +kernel) rfl (Nat.le_of_ble_eq_true rfl) ?_
  refine j_iload_n (pc := 0) dX0_isLowest_0 rfl rfl ?_
  refine j_aload_n (pc := 1) dX0_isLowest_1 rfl rfl ?_
  refine j_getR (pc := 2) (r := 1) fl_X0_29 dX0_isLowest_2 (a_76 hX) rfl ?_
  refine j_getR (pc := 5) (r := 2) fl_X0_39 dX0_isLowest_5 (a_1 hX) rfl ?_
  refine j_bipush (pc := 8) dX0_isLowest_8 rfl ?_
  refine j_iald (pc := 10) dX0_isLowest_10 (a_2 hX) (by omega) (by omega) (by decide) ?_
  refine j_topV (show σ 2 (Int.toNat 8) = σ 2 8 from rfl) ?_
  have f1 : (0 : Int) ≤ σ 2 8 ∧ σ 2 8 ≤ 9 := hI 2 8
  refine j_icmpR_le (pc := 11) (tgt := 23) ⟨by omega, by omega⟩ ⟨by omega, by omega⟩ dX0_isLowest_11 rfl (fun h2 => ?_) (fun h2 => ?_)
  · refine j_iconst (pc := 23) dX0_isLowest_23 ?_
    refine j_goto (pc := 24) (tgt := 28) dX0_isLowest_24 rfl ?_
    exact j_zret (pc := 28) ⟨rfl, rfl⟩ dX0_isLowest_28 rfl (nar_bool (by omega) (by omega)) ⟨_, rfl, ⟨by omega, by omega⟩, rfl, trivial⟩
  · refine j_aload_n (pc := 14) dX0_isLowest_14 rfl rfl ?_
    refine j_iload_n (pc := 15) dX0_isLowest_15 rfl rfl ?_
    refine j_iload_n (pc := 16) dX0_isLowest_16 rfl rfl ?_
    refine j_callV (pc := 17) (As := [vI b, vI b]) (st := []) (c_X0_isSafe hX b ⟨by omega, by omega⟩ b ⟨by omega, by omega⟩ σ hI) mv_X0_66 rfl rfl rfl (a_76 hX) dX0_isLowest_17 ⟨Nat.le_of_ble_eq_true rfl, Nat.le_of_ble_eq_true rfl⟩ ⟨Nat.le_refl _, Nat.le_refl _⟩ rfl (Nat.le_of_ble_eq_true rfl) rfl (fun z3 σ4 hz3 => ?_)
    obtain ⟨r6, rfl, hr6, rfl, -⟩ := hz3
    refine j_st (st' := [vI r6]) rfl ?_
    refine j_ifR_eq (pc := 20) (tgt := 27) ⟨by omega, by omega⟩ dX0_isLowest_20 rfl (fun h7 => ?_) (fun h7 => ?_)
    · refine j_iconst (pc := 27) dX0_isLowest_27 ?_
      exact j_zret (pc := 28) ⟨rfl, rfl⟩ dX0_isLowest_28 rfl (nar_bool (by omega) (by omega)) ⟨_, rfl, ⟨by omega, by omega⟩, rfl, trivial⟩
    · refine j_iconst (pc := 23) dX0_isLowest_23 ?_
      refine j_goto (pc := 24) (tgt := 28) dX0_isLowest_24 rfl ?_
      exact j_zret (pc := 28) ⟨rfl, rfl⟩ dX0_isLowest_28 rfl (nar_bool (by omega) (by omega)) ⟨_, rfl, ⟨by omega, by omega⟩, rfl, trivial⟩
abbrev q_X0_reach (b : Int) (σ : tw_M) : Option tw_V → tw_M → Prop := fun z τ => ∃ r : Int, z = some (vI r) ∧ (1 ≤ r ∧ r ≤ 40) ∧ σ = τ ∧ True
set_option maxHeartbeats 4000000 in
set_option maxRecDepth 100000 in
theorem l_X0_reach {G : tw_G} (hX : tw_isX G) (b : Int) (hb : 1 ≤ b ∧ b ≤ 40) (σ : tw_M) (hI : tw_I σ) : ∀ N_ : Nat, (∀ (h : Int) (hh : 1 ≤ h ∧ h ≤ 40) (u : Int) (hu : 2 ≤ u ∧ u ≤ 41)  (hm : (41 - u).toNat < N_), tw_J G (tw_mt RX0 cX0_reach 4 (some .int) 2) (tw_E G (q_X0_reach b σ)) 6 [(0, vR 76), (1, vI b), (2, vI h), (3, vI u)] [] σ) := by
  intro N_
  induction N_ with
  | zero => exact fun h hh u hu hm => absurd hm (Nat.not_lt_zero _)
  | succ N_ ih =>
    intro h hh u hu hm
    refine j_iload_n (pc := 6) dX0_reach_6 rfl rfl ?_
    refine j_aload_n (pc := 7) dX0_reach_7 rfl rfl ?_
    refine j_getR (pc := 8) (r := 1) fl_X0_29 dX0_reach_8 (a_76 hX) rfl ?_
    refine j_callV (pc := 11) (As := []) (st := [vI u]) (c_X10_top 1 (s_Wall_1 hX) σ hI) mv_X0_33 rfl rfl rfl (a_1 hX) dX0_reach_11 ⟨Nat.le_of_ble_eq_true rfl, Nat.le_of_ble_eq_true rfl⟩ ⟨Nat.le_refl _, Nat.le_refl _⟩ rfl (Nat.le_of_ble_eq_true rfl) rfl (fun z1 σ2 hz1 => ?_)
    obtain ⟨r4, rfl, hr4, rfl, q3_0⟩ := hz1
    replace q3_0 : r4 = σ 2 0 := q3_0
    refine j_st (st' := [vI r4, vI u]) rfl ?_
    refine j_icmpR_gt (pc := 14) (tgt := 34) ⟨by omega, by omega⟩ ⟨by omega, by omega⟩ dX0_reach_14 rfl (fun h5 => ?_) (fun h5 => ?_)
    · refine j_iload_n (pc := 34) dX0_reach_34 rfl rfl ?_
      exact j_iret (pc := 35) ⟨rfl, rfl⟩ dX0_reach_35 rfl ⟨_, rfl, ⟨by omega, by omega⟩, rfl, trivial⟩
    · refine j_aload_n (pc := 17) dX0_reach_17 rfl rfl ?_
      refine j_iload_n (pc := 18) dX0_reach_18 rfl rfl ?_
      refine j_iload_n (pc := 19) dX0_reach_19 rfl rfl ?_
      refine j_callV (pc := 20) (As := [vI b, vI u]) (st := []) (c_X0_isSafe hX b ⟨by omega, by omega⟩ u ⟨by omega, by omega⟩ σ hI) mv_X0_66 rfl rfl rfl (a_76 hX) dX0_reach_20 ⟨Nat.le_of_ble_eq_true rfl, Nat.le_of_ble_eq_true rfl⟩ ⟨Nat.le_refl _, Nat.le_refl _⟩ rfl (Nat.le_of_ble_eq_true rfl) rfl (fun z6 σ7 hz6 => ?_)
      obtain ⟨r9, rfl, hr9, rfl, -⟩ := hz6
      refine j_st (st' := [vI r9]) rfl ?_
      refine j_ifR_eq (pc := 23) (tgt := 34) ⟨by omega, by omega⟩ dX0_reach_23 rfl (fun h10 => ?_) (fun h10 => ?_)
      · refine j_iload_n (pc := 34) dX0_reach_34 rfl rfl ?_
        exact j_iret (pc := 35) ⟨rfl, rfl⟩ dX0_reach_35 rfl ⟨_, rfl, ⟨by omega, by omega⟩, rfl, trivial⟩
      · refine j_iload_n (pc := 26) dX0_reach_26 rfl rfl ?_
        refine j_istore_n (pc := 27) (i := 2) (ls' := [(0, vR 76), (1, vI b), (2, vI u), (3, vI u)]) [1, 2, 0, 3] dX0_reach_27 rfl (Nat.le_of_ble_eq_true rfl) rfl rfl ?_
        refine j_iinc (pc := 28) (i := 3) (n := 1) (ls' := [(0, vR 76), (1, vI b), (2, vI u), (3, vI (u + 1))]) [1, 2, 3, 0] dX0_reach_28 rfl (Nat.le_of_ble_eq_true rfl) rfl rfl ?_
        refine j_goto (pc := 31) (tgt := 6) dX0_reach_31 rfl ?_
        refine j_ls (ls' := [(0, vR 76), (1, vI b), (2, vI u), (3, vI (u + 1))]) [0, 1, 2, 3] rfl ?_
        exact ih u ⟨by omega, by omega⟩ (u + 1) ⟨by omega, by omega⟩ (show (41 - (u + 1)).toNat < N_ from by omega)
set_option maxHeartbeats 4000000 in
set_option maxRecDepth 100000 in
theorem c_X0_reach {G : tw_G} (hX : tw_isX G) (b : Int) (hb : 1 ≤ b ∧ b ≤ 40) (σ : tw_M) (hI : tw_I σ) : tw_C G yX0_reach cX0_reach 4 (some .int) 2 [vR 76, vI b] σ (q_X0_reach b σ) := by
  refine tw_met [(0, vR 76), (1, vI b)] (by decide +kernel) rfl (Nat.le_of_ble_eq_true rfl) ?_
  refine j_iload_n (pc := 0) dX0_reach_0 rfl rfl ?_
  refine j_istore_n (pc := 1) (i := 2) (ls' := [(0, vR 76), (1, vI b), (2, vI b)]) [1, 2, 0] dX0_reach_1 rfl (Nat.le_of_ble_eq_true rfl) rfl rfl ?_
  refine j_iload_n (pc := 2) dX0_reach_2 rfl rfl ?_
  refine j_iconst (pc := 3) dX0_reach_3 ?_
  refine j_iadd (pc := 4) dX0_reach_4 ?_
  refine j_istore_n (pc := 5) (i := 3) (ls' := [(0, vR 76), (1, vI b), (2, vI b), (3, vI (b + 1))]) [1, 2, 3, 0] dX0_reach_5 rfl (Nat.le_of_ble_eq_true rfl) rfl rfl ?_
  refine j_ls (ls' := [(0, vR 76), (1, vI b), (2, vI b), (3, vI (b + 1))]) [0, 1, 2, 3] rfl ?_
  exact (l_X0_reach hX b hb σ hI (((41 - (b + 1)).toNat) + 1)) b ⟨by omega, by omega⟩ (b + 1) ⟨by omega, by omega⟩ (Nat.lt_succ_self _)
abbrev q_X0_fewestFrom (b : Int) (σ : tw_M) : Option tw_V → tw_M → Prop := fun z τ => ∃ r : Int, z = some (vI r) ∧ (0 ≤ r ∧ r ≤ 99) ∧ σ = τ ∧ True
set_option maxHeartbeats 4000000 in
set_option maxRecDepth 100000 in
theorem l_X0_fewestFrom {G : tw_G} (hX : tw_isX G) (b : Int) (hb : 1 ≤ b ∧ b ≤ 40) (σ : tw_M) (hI : tw_I σ) : ∀ N_ : Nat, (∀ (e : Int) (he : 1 ≤ e ∧ e ≤ 39) (l : Int) (hl : 0 ≤ l ∧ l ≤ 99) (c : Int) (hc : 2 ≤ c ∧ c ≤ 41)  (hm : (41 - c).toNat < N_), tw_J G (tw_mt RX0 cX0_fewestFrom 5 (some .int) 3) (tw_E G (q_X0_fewestFrom b σ)) 27 [(0, vR 76), (2, vI e), (3, vI l), (4, vI c)] [] σ) := by
  intro N_
  induction N_ with
  | zero => exact fun e he l hl c hc hm => absurd hm (Nat.not_lt_zero _)
  | succ N_ ih =>
    intro e he l hl c hc hm
    refine j_iload (pc := 27) dX0_fewestFrom_27 rfl ?_
    refine j_iload_n (pc := 29) dX0_fewestFrom_29 rfl rfl ?_
    refine j_iconst (pc := 30) dX0_fewestFrom_30 ?_
    refine j_iadd (pc := 31) dX0_fewestFrom_31 ?_
    refine j_icmpR_gt (pc := 32) (tgt := 66) ⟨by omega, by omega⟩ ⟨by omega, by omega⟩ dX0_fewestFrom_32 rfl (fun h1 => ?_) (fun h1 => ?_)
    · refine j_iload_n (pc := 66) dX0_fewestFrom_66 rfl rfl ?_
      refine j_bipush (pc := 67) dX0_fewestFrom_67 rfl ?_
      refine j_mmin (pc := 69) mm_X0_46 dX0_fewestFrom_69 ⟨Nat.le_of_ble_eq_true rfl, Nat.le_of_ble_eq_true rfl⟩ ⟨Nat.le_refl _, Nat.le_refl _⟩ rfl (fun z2 ez2 => ?_)
      have hz2 := tw_min_eq (a := l) (b := 99) ⟨by omega, by omega⟩ ⟨by omega, by omega⟩ ez2
      exact j_iret (pc := 72) ⟨rfl, rfl⟩ dX0_fewestFrom_72 rfl ⟨_, rfl, ⟨by omega, by omega⟩, rfl, trivial⟩
    · refine j_aload_n (pc := 35) dX0_fewestFrom_35 rfl rfl ?_
      refine j_iload (pc := 36) dX0_fewestFrom_36 rfl ?_
      refine j_iload (pc := 38) dX0_fewestFrom_38 rfl ?_
      refine j_callV (pc := 40) (As := [vI c, vI c]) (st := []) (c_X0_isSafe hX c ⟨by omega, by omega⟩ c ⟨by omega, by omega⟩ σ hI) mv_X0_66 rfl rfl rfl (a_76 hX) dX0_fewestFrom_40 ⟨Nat.le_of_ble_eq_true rfl, Nat.le_of_ble_eq_true rfl⟩ ⟨Nat.le_refl _, Nat.le_refl _⟩ rfl (Nat.le_of_ble_eq_true rfl) rfl (fun z3 σ4 hz3 => ?_)
      obtain ⟨r6, rfl, hr6, rfl, -⟩ := hz3
      refine j_st (st' := [vI r6]) rfl ?_
      refine j_ifR_eq (pc := 43) (tgt := 60) ⟨by omega, by omega⟩ dX0_fewestFrom_43 rfl (fun h7 => ?_) (fun h7 => ?_)
      · refine j_iinc (pc := 60) (i := 4) (n := 1) (ls' := [(0, vR 76), (2, vI e), (3, vI l), (4, vI (c + 1))]) [1, 2, 3, 0] dX0_fewestFrom_60 rfl (Nat.le_of_ble_eq_true rfl) rfl rfl ?_
        refine j_goto (pc := 63) (tgt := 27) dX0_fewestFrom_63 rfl ?_
        refine j_ls (ls' := [(0, vR 76), (2, vI e), (3, vI l), (4, vI (c + 1))]) [0, 1, 2, 3] rfl ?_
        exact ih e ⟨by omega, by omega⟩ l ⟨by omega, by omega⟩ (c + 1) ⟨by omega, by omega⟩ (show (41 - (c + 1)).toNat < N_ from by omega)
      · refine j_iload_n (pc := 46) dX0_fewestFrom_46 rfl rfl ?_
        refine j_aload_n (pc := 47) dX0_fewestFrom_47 rfl rfl ?_
        refine j_getR (pc := 48) (r := 77) fl_X0_15 dX0_fewestFrom_48 (a_76 hX) rfl ?_
        refine j_iload (pc := 51) dX0_fewestFrom_51 rfl ?_
        refine j_iald (pc := 53) dX0_fewestFrom_53 (a_77 hX) (by omega) (by omega) (by decide) ?_
        have f8 : (0 : Int) ≤ σ 77 (c.toNat) ∧ σ 77 (c.toNat) ≤ 99 := hI 77 (c.toNat)
        refine j_iconst (pc := 54) dX0_fewestFrom_54 ?_
        refine j_iadd (pc := 55) dX0_fewestFrom_55 ?_
        refine j_mmin (pc := 56) mm_X0_46 dX0_fewestFrom_56 ⟨Nat.le_of_ble_eq_true rfl, Nat.le_of_ble_eq_true rfl⟩ ⟨Nat.le_refl _, Nat.le_refl _⟩ rfl (fun z9 ez9 => ?_)
        have hz9 := tw_min_eq (a := l) (b := (σ 77 (c.toNat)) + 1) ⟨by omega, by omega⟩ ⟨by omega, by omega⟩ ez9
        refine j_istore_n (pc := 59) (i := 3) (ls' := [(0, vR 76), (2, vI e), (3, vI z9), (4, vI c)]) [1, 2, 0, 3] dX0_fewestFrom_59 rfl (Nat.le_of_ble_eq_true rfl) rfl rfl ?_
        refine j_iinc (pc := 60) (i := 4) (n := 1) (ls' := [(0, vR 76), (2, vI e), (3, vI z9), (4, vI (c + 1))]) [1, 2, 3, 0] dX0_fewestFrom_60 rfl (Nat.le_of_ble_eq_true rfl) rfl rfl ?_
        refine j_goto (pc := 63) (tgt := 27) dX0_fewestFrom_63 rfl ?_
        refine j_ls (ls' := [(0, vR 76), (2, vI e), (3, vI z9), (4, vI (c + 1))]) [0, 1, 2, 3] rfl ?_
        exact ih e ⟨by omega, by omega⟩ z9 ⟨by omega, by omega⟩ (c + 1) ⟨by omega, by omega⟩ (show (41 - (c + 1)).toNat < N_ from by omega)
set_option maxHeartbeats 4000000 in
set_option maxRecDepth 100000 in
theorem c_X0_fewestFrom {G : tw_G} (hX : tw_isX G) (b : Int) (hb : 1 ≤ b ∧ b ≤ 40) (σ : tw_M) (hI : tw_I σ) : tw_C G yX0_fewestFrom cX0_fewestFrom 5 (some .int) 3 [vR 76, vI b] σ (q_X0_fewestFrom b σ) := by
  refine tw_met [(0, vR 76), (1, vI b)] (by decide +kernel) rfl (Nat.le_of_ble_eq_true rfl) ?_
  refine j_aload_n (pc := 0) dX0_fewestFrom_0 rfl rfl ?_
  refine j_iload_n (pc := 1) dX0_fewestFrom_1 rfl rfl ?_
  refine j_callV (pc := 2) (As := [vI b]) (st := []) (c_X0_reach hX b ⟨by omega, by omega⟩ σ hI) mv_X0_70 rfl rfl rfl (a_76 hX) dX0_fewestFrom_2 ⟨Nat.le_of_ble_eq_true rfl, Nat.le_of_ble_eq_true rfl⟩ ⟨Nat.le_refl _, Nat.le_refl _⟩ rfl (Nat.le_of_ble_eq_true rfl) rfl (fun z10 σ11 hz10 => ?_)
  obtain ⟨r13, rfl, hr13, rfl, -⟩ := hz10
  refine j_st (st' := [vI r13]) rfl ?_
  refine j_istore_n (pc := 5) (i := 2) (ls' := [(0, vR 76), (1, vI b), (2, vI r13)]) [1, 2, 0] dX0_fewestFrom_5 rfl (Nat.le_of_ble_eq_true rfl) rfl rfl ?_
  refine j_iload_n (pc := 6) dX0_fewestFrom_6 rfl rfl ?_
  refine j_aload_n (pc := 7) dX0_fewestFrom_7 rfl rfl ?_
  refine j_getR (pc := 8) (r := 1) fl_X0_29 dX0_fewestFrom_8 (a_76 hX) rfl ?_
  refine j_callV (pc := 11) (As := []) (st := [vI r13]) (c_X10_top 1 (s_Wall_1 hX) σ hI) mv_X0_33 rfl rfl rfl (a_1 hX) dX0_fewestFrom_11 ⟨Nat.le_of_ble_eq_true rfl, Nat.le_of_ble_eq_true rfl⟩ ⟨Nat.le_refl _, Nat.le_refl _⟩ rfl (Nat.le_of_ble_eq_true rfl) rfl (fun z14 σ15 hz14 => ?_)
  obtain ⟨r17, rfl, hr17, rfl, q16_0⟩ := hz14
  replace q16_0 : r17 = σ 2 0 := q16_0
  refine j_st (st' := [vI r17, vI r13]) rfl ?_
  refine j_icmpR_lt (pc := 14) (tgt := 19) ⟨by omega, by omega⟩ ⟨by omega, by omega⟩ dX0_fewestFrom_14 rfl (fun h18 => ?_) (fun h18 => ?_)
  · refine j_bipush (pc := 19) dX0_fewestFrom_19 rfl ?_
    refine j_istore_n (pc := 21) (i := 3) (ls' := [(0, vR 76), (1, vI b), (2, vI r13), (3, vI 99)]) [1, 2, 3, 0] dX0_fewestFrom_21 rfl (Nat.le_of_ble_eq_true rfl) rfl rfl ?_
    refine j_iload_n (pc := 22) dX0_fewestFrom_22 rfl rfl ?_
    refine j_iconst (pc := 23) dX0_fewestFrom_23 ?_
    refine j_iadd (pc := 24) dX0_fewestFrom_24 ?_
    refine j_istore (pc := 25) (i := 4) (ls' := [(0, vR 76), (2, vI r13), (3, vI 99), (4, vI (b + 1))]) [1, 3, 4, 0] dX0_fewestFrom_25 (Nat.le_of_ble_eq_true rfl) rfl rfl ?_
    refine j_ls (ls' := [(0, vR 76), (2, vI r13), (3, vI 99), (4, vI (b + 1))]) [0, 1, 2, 3] rfl ?_
    exact (l_X0_fewestFrom hX b hb σ hI (((41 - (b + 1)).toNat) + 1)) r13 ⟨by omega, by omega⟩ 99 (by (first | decide | exact ⟨by omega, by omega⟩)) (b + 1) ⟨by omega, by omega⟩ (Nat.lt_succ_self _)
  · refine j_iconst (pc := 17) dX0_fewestFrom_17 ?_
    exact j_iret (pc := 18) ⟨rfl, rfl⟩ dX0_fewestFrom_18 rfl ⟨_, rfl, ⟨by omega, by omega⟩, rfl, trivial⟩
abbrev q_X0_firstWith (l : Int) (f : Int) (t : Int) (σ : tw_M) : Option tw_V → tw_M → Prop := fun z τ => ∃ r : Int, z = some (vI r) ∧ (0 ≤ r ∧ r ≤ 40) ∧ σ = τ ∧ True
set_option maxHeartbeats 4000000 in
set_option maxRecDepth 100000 in
theorem l_X0_firstWith {G : tw_G} (hX : tw_isX G) (l : Int) (hl : -2147483648 ≤ l ∧ l ≤ 2147483647) (f : Int) (hf : 1 ≤ f ∧ f ≤ 41) (t : Int) (ht : -1 ≤ t ∧ t ≤ 40) (σ : tw_M) (hI : tw_I σ) : ∀ N_ : Nat, (∀ (b : Int) (hb : 1 ≤ b ∧ b ≤ 41)  (hm : (41 - b).toNat < N_), tw_J G (tw_mt RX0 cX0_firstWith 6 (some .int) 3) (tw_E G (q_X0_firstWith l f t σ)) 3 [(0, vR 76), (1, vI l), (3, vI t), (4, vI b)] [] σ) := by
  intro N_
  induction N_ with
  | zero => exact fun b hb hm => absurd hm (Nat.not_lt_zero _)
  | succ N_ ih =>
    intro b hb hm
    refine j_iload (pc := 3) dX0_firstWith_3 rfl ?_
    refine j_iload_n (pc := 5) dX0_firstWith_5 rfl rfl ?_
    refine j_icmpR_gt (pc := 6) (tgt := 60) ⟨by omega, by omega⟩ ⟨by omega, by omega⟩ dX0_firstWith_6 rfl (fun h1 => ?_) (fun h1 => ?_)
    · refine j_iconst (pc := 60) dX0_firstWith_60 ?_
      exact j_iret (pc := 61) ⟨rfl, rfl⟩ dX0_firstWith_61 rfl ⟨_, rfl, ⟨by omega, by omega⟩, rfl, trivial⟩
    · refine j_aload_n (pc := 9) dX0_firstWith_9 rfl rfl ?_
      refine j_getI (pc := 10) fl_X0_22 dX0_firstWith_10 (a_76 hX) rfl ?_
      have f2 : (0 : Int) ≤ σ 76 4 ∧ σ 76 4 ≤ 40 := hI 76 4
      refine j_ifR_ne (pc := 13) (tgt := 25) ⟨by omega, by omega⟩ dX0_firstWith_13 rfl (fun h3 => ?_) (fun h3 => ?_)
      · refine j_aload_n (pc := 25) dX0_firstWith_25 rfl rfl ?_
        refine j_iload (pc := 26) dX0_firstWith_26 rfl ?_
        refine j_iload (pc := 28) dX0_firstWith_28 rfl ?_
        refine j_callV (pc := 30) (As := [vI b, vI b]) (st := []) (c_X0_isSafe hX b ⟨by omega, by omega⟩ b ⟨by omega, by omega⟩ σ hI) mv_X0_66 rfl rfl rfl (a_76 hX) dX0_firstWith_30 ⟨Nat.le_of_ble_eq_true rfl, Nat.le_of_ble_eq_true rfl⟩ ⟨Nat.le_refl _, Nat.le_refl _⟩ rfl (Nat.le_of_ble_eq_true rfl) rfl (fun z4 σ5 hz4 => ?_)
        obtain ⟨r7, rfl, hr7, rfl, -⟩ := hz4
        refine j_st (st' := [vI r7]) rfl ?_
        refine j_istore (pc := 33) (i := 5) (ls' := [(0, vR 76), (1, vI l), (3, vI t), (4, vI b), (5, vI r7)]) [1, 2, 3, 4, 0] dX0_firstWith_33 (Nat.le_of_ble_eq_true rfl) rfl rfl ?_
        refine j_iload (pc := 35) dX0_firstWith_35 rfl ?_
        refine j_ifR_eq (pc := 37) (tgt := 54) ⟨by omega, by omega⟩ dX0_firstWith_37 rfl (fun h8 => ?_) (fun h8 => ?_)
        · refine j_iinc (pc := 54) (i := 4) (n := 1) (ls' := [(0, vR 76), (1, vI l), (3, vI t), (4, vI (b + 1))]) [1, 2, 3, 0] dX0_firstWith_54 rfl (Nat.le_of_ble_eq_true rfl) rfl rfl ?_
          refine j_goto (pc := 57) (tgt := 3) dX0_firstWith_57 rfl ?_
          refine j_ls (ls' := [(0, vR 76), (1, vI l), (3, vI t), (4, vI (b + 1))]) [0, 1, 2, 3] rfl ?_
          exact ih (b + 1) ⟨by omega, by omega⟩ (show (41 - (b + 1)).toNat < N_ from by omega)
        · refine j_aload_n (pc := 40) dX0_firstWith_40 rfl rfl ?_
          refine j_getR (pc := 41) (r := 77) fl_X0_15 dX0_firstWith_41 (a_76 hX) rfl ?_
          refine j_iload (pc := 44) dX0_firstWith_44 rfl ?_
          refine j_iald (pc := 46) dX0_firstWith_46 (a_77 hX) (by omega) (by omega) (by decide) ?_
          have f9 : (0 : Int) ≤ σ 77 (b.toNat) ∧ σ 77 (b.toNat) ≤ 99 := hI 77 (b.toNat)
          refine j_iload_n (pc := 47) dX0_firstWith_47 rfl rfl ?_
          refine j_icmpR_ne (pc := 48) (tgt := 54) ⟨by omega, by omega⟩ ⟨by omega, by omega⟩ dX0_firstWith_48 rfl (fun h10 => ?_) (fun h10 => ?_)
          · refine j_iinc (pc := 54) (i := 4) (n := 1) (ls' := [(0, vR 76), (1, vI l), (3, vI t), (4, vI (b + 1))]) [1, 2, 3, 0] dX0_firstWith_54 rfl (Nat.le_of_ble_eq_true rfl) rfl rfl ?_
            refine j_goto (pc := 57) (tgt := 3) dX0_firstWith_57 rfl ?_
            refine j_ls (ls' := [(0, vR 76), (1, vI l), (3, vI t), (4, vI (b + 1))]) [0, 1, 2, 3] rfl ?_
            exact ih (b + 1) ⟨by omega, by omega⟩ (show (41 - (b + 1)).toNat < N_ from by omega)
          · refine j_iload (pc := 51) dX0_firstWith_51 rfl ?_
            exact j_iret (pc := 53) ⟨rfl, rfl⟩ dX0_firstWith_53 rfl ⟨_, rfl, ⟨by omega, by omega⟩, rfl, trivial⟩
      · refine j_aload_n (pc := 16) dX0_firstWith_16 rfl rfl ?_
        refine j_iload (pc := 17) dX0_firstWith_17 rfl ?_
        refine j_callV (pc := 19) (As := [vI b]) (st := []) (c_X0_isLowest hX b ⟨by omega, by omega⟩ σ hI) mv_X0_52 rfl rfl rfl (a_76 hX) dX0_firstWith_19 ⟨Nat.le_of_ble_eq_true rfl, Nat.le_of_ble_eq_true rfl⟩ ⟨Nat.le_refl _, Nat.le_refl _⟩ rfl (Nat.le_of_ble_eq_true rfl) rfl (fun z11 σ12 hz11 => ?_)
        obtain ⟨r14, rfl, hr14, rfl, -⟩ := hz11
        refine j_st (st' := [vI r14]) rfl ?_
        refine j_goto (pc := 22) (tgt := 33) dX0_firstWith_22 rfl ?_
        refine j_istore (pc := 33) (i := 5) (ls' := [(0, vR 76), (1, vI l), (3, vI t), (4, vI b), (5, vI r14)]) [1, 2, 3, 4, 0] dX0_firstWith_33 (Nat.le_of_ble_eq_true rfl) rfl rfl ?_
        refine j_iload (pc := 35) dX0_firstWith_35 rfl ?_
        refine j_ifR_eq (pc := 37) (tgt := 54) ⟨by omega, by omega⟩ dX0_firstWith_37 rfl (fun h15 => ?_) (fun h15 => ?_)
        · refine j_iinc (pc := 54) (i := 4) (n := 1) (ls' := [(0, vR 76), (1, vI l), (3, vI t), (4, vI (b + 1))]) [1, 2, 3, 0] dX0_firstWith_54 rfl (Nat.le_of_ble_eq_true rfl) rfl rfl ?_
          refine j_goto (pc := 57) (tgt := 3) dX0_firstWith_57 rfl ?_
          refine j_ls (ls' := [(0, vR 76), (1, vI l), (3, vI t), (4, vI (b + 1))]) [0, 1, 2, 3] rfl ?_
          exact ih (b + 1) ⟨by omega, by omega⟩ (show (41 - (b + 1)).toNat < N_ from by omega)
        · refine j_aload_n (pc := 40) dX0_firstWith_40 rfl rfl ?_
          refine j_getR (pc := 41) (r := 77) fl_X0_15 dX0_firstWith_41 (a_76 hX) rfl ?_
          refine j_iload (pc := 44) dX0_firstWith_44 rfl ?_
          refine j_iald (pc := 46) dX0_firstWith_46 (a_77 hX) (by omega) (by omega) (by decide) ?_
          have f16 : (0 : Int) ≤ σ 77 (b.toNat) ∧ σ 77 (b.toNat) ≤ 99 := hI 77 (b.toNat)
          refine j_iload_n (pc := 47) dX0_firstWith_47 rfl rfl ?_
          refine j_icmpR_ne (pc := 48) (tgt := 54) ⟨by omega, by omega⟩ ⟨by omega, by omega⟩ dX0_firstWith_48 rfl (fun h17 => ?_) (fun h17 => ?_)
          · refine j_iinc (pc := 54) (i := 4) (n := 1) (ls' := [(0, vR 76), (1, vI l), (3, vI t), (4, vI (b + 1))]) [1, 2, 3, 0] dX0_firstWith_54 rfl (Nat.le_of_ble_eq_true rfl) rfl rfl ?_
            refine j_goto (pc := 57) (tgt := 3) dX0_firstWith_57 rfl ?_
            refine j_ls (ls' := [(0, vR 76), (1, vI l), (3, vI t), (4, vI (b + 1))]) [0, 1, 2, 3] rfl ?_
            exact ih (b + 1) ⟨by omega, by omega⟩ (show (41 - (b + 1)).toNat < N_ from by omega)
          · refine j_iload (pc := 51) dX0_firstWith_51 rfl ?_
            exact j_iret (pc := 53) ⟨rfl, rfl⟩ dX0_firstWith_53 rfl ⟨_, rfl, ⟨by omega, by omega⟩, rfl, trivial⟩
set_option maxHeartbeats 4000000 in
set_option maxRecDepth 100000 in
theorem c_X0_firstWith {G : tw_G} (hX : tw_isX G) (l : Int) (hl : -2147483648 ≤ l ∧ l ≤ 2147483647) (f : Int) (hf : 1 ≤ f ∧ f ≤ 41) (t : Int) (ht : -1 ≤ t ∧ t ≤ 40) (σ : tw_M) (hI : tw_I σ) : tw_C G yX0_firstWith cX0_firstWith 6 (some .int) 3 [vR 76, vI l, vI f, vI t] σ (q_X0_firstWith l f t σ) := by
  refine tw_met [(0, vR 76), (1, vI l), (2, vI f), (3, vI t)] (by decide +kernel) rfl (Nat.le_of_ble_eq_true rfl) ?_
  refine j_iload_n (pc := 0) dX0_firstWith_0 rfl rfl ?_
  refine j_istore (pc := 1) (i := 4) (ls' := [(0, vR 76), (1, vI l), (3, vI t), (4, vI f)]) [1, 2, 4, 0] dX0_firstWith_1 (Nat.le_of_ble_eq_true rfl) rfl rfl ?_
  refine j_ls (ls' := [(0, vR 76), (1, vI l), (3, vI t), (4, vI f)]) [0, 1, 2, 3] rfl ?_
  exact (l_X0_firstWith hX l hl f hf t ht σ hI (((41 - f).toNat) + 1)) f ⟨by omega, by omega⟩ (Nat.lt_succ_self _)
abbrev q_X0_collect (l : Int) (σ : tw_M) : Option tw_V → tw_M → Prop := fun z τ => z = none ∧ tw_I τ ∧ tw_F (fun c j => (c = 76 ∧ (j = 4)) ∨ c = 78) σ τ ∧ True
set_option maxHeartbeats 4000000 in
set_option maxRecDepth 100000 in
theorem l_X0_collect {G : tw_G} (hX : tw_isX G) (l : Int) (hl : 0 ≤ l ∧ l ≤ 99) (σ : tw_M) (hI : tw_I σ) : ∀ N_ : Nat, (∀ (f : Int) (hf : 1 ≤ f ∧ f ≤ 41) (t : Int) (ht : -1 ≤ t ∧ t ≤ 40) (i : Int) (hi : 0 ≤ i ∧ i ≤ 99) (τ : tw_M) (hIτ : tw_I τ) (hFτ : tw_F (fun c j => (c = 76 ∧ (j = 4)) ∨ c = 78) σ τ)  (hm : i.toNat < N_), tw_J G (tw_mt RX0 cX0_collect 6 none 4) (tw_E G (q_X0_collect l σ)) 28 [(0, vR 76), (2, vI f), (3, vI t), (4, vI i)] [] τ) := by
  intro N_
  induction N_ with
  | zero => exact fun f hf t ht i hi τ hIτ hFτ hm => absurd hm (Nat.not_lt_zero _)
  | succ N_ ih =>
    intro f hf t ht i hi τ hIτ hFτ hm
    refine j_iload (pc := 28) dX0_collect_28 rfl ?_
    refine j_iconst (pc := 30) dX0_collect_30 ?_
    refine j_icmpR_lt (pc := 31) (tgt := 110) ⟨by omega, by omega⟩ ⟨by omega, by omega⟩ dX0_collect_31 rfl (fun h1 => ?_) (fun h1 => ?_)
    · exact j_vret (pc := 110) ⟨rfl, rfl⟩ dX0_collect_110 rfl ⟨rfl, hIτ, hFτ, trivial⟩
    · refine j_aload_n (pc := 34) dX0_collect_34 rfl rfl ?_
      refine j_iload (pc := 35) dX0_collect_35 rfl ?_
      refine j_iload_n (pc := 37) dX0_collect_37 rfl rfl ?_
      refine j_iload_n (pc := 38) dX0_collect_38 rfl rfl ?_
      refine j_callV (pc := 39) (As := [vI i, vI f, vI t]) (st := []) (c_X0_firstWith hX i ⟨by omega, by omega⟩ f ⟨by omega, by omega⟩ t ⟨by omega, by omega⟩ τ hIτ) mv_X0_73 rfl rfl rfl (a_76 hX) dX0_collect_39 ⟨Nat.le_of_ble_eq_true rfl, Nat.le_of_ble_eq_true rfl⟩ ⟨Nat.le_refl _, Nat.le_refl _⟩ rfl (Nat.le_of_ble_eq_true rfl) rfl (fun z2 σ3 hz2 => ?_)
      obtain ⟨r5, rfl, hr5, rfl, -⟩ := hz2
      refine j_st (st' := [vI r5]) rfl ?_
      refine j_istore (pc := 42) (i := 5) (ls' := [(0, vR 76), (4, vI i), (5, vI r5)]) [1, 4, 0] dX0_collect_42 (Nat.le_of_ble_eq_true rfl) rfl rfl ?_
      refine j_iload (pc := 44) dX0_collect_44 rfl ?_
      refine j_ifR_eq (pc := 46) (tgt := 61) ⟨by omega, by omega⟩ dX0_collect_46 rfl (fun h6 => ?_) (fun h6 => ?_)
      · exact j_vret (pc := 61) ⟨rfl, rfl⟩ dX0_collect_61 rfl ⟨rfl, hIτ, hFτ, trivial⟩
      · refine j_aload_n (pc := 49) dX0_collect_49 rfl rfl ?_
        refine j_getI (pc := 50) fl_X0_22 dX0_collect_50 (a_76 hX) rfl ?_
        have f7 : (0 : Int) ≤ τ 76 4 ∧ τ 76 4 ≤ 40 := hIτ 76 4
        refine j_aload_n (pc := 53) dX0_collect_53 rfl rfl ?_
        refine j_getR (pc := 54) (r := 78) fl_X0_19 dX0_collect_54 (a_76 hX) rfl ?_
        refine j_alen (pc := 57) dX0_collect_57 (a_78 hX) ?_
        refine j_topV (show _ = (40 : Int) from rfl) ?_
        refine j_icmpR_lt (pc := 58) (tgt := 62) ⟨by omega, by omega⟩ ⟨by omega, by omega⟩ dX0_collect_58 rfl (fun h8 => ?_) (fun h8 => ?_)
        · refine j_aload_n (pc := 62) dX0_collect_62 rfl rfl ?_
          refine j_getR (pc := 63) (r := 78) fl_X0_19 dX0_collect_63 (a_76 hX) rfl ?_
          refine j_aload_n (pc := 66) dX0_collect_66 rfl rfl ?_
          refine j_dup (pc := 67) dX0_collect_67 rfl ?_
          refine j_getI (pc := 68) fl_X0_22 dX0_collect_68 (a_76 hX) rfl ?_
          refine j_dup_x1 (pc := 71) dX0_collect_71 rfl rfl ?_
          refine j_iconst (pc := 72) dX0_collect_72 ?_
          refine j_iadd (pc := 73) dX0_collect_73 ?_
          refine j_putI (pc := 74) fl_X0_22 fp_X0_4 dX0_collect_74 (a_76 hX) rfl (j_nm (fun σ9 (eσ9 : σ9 = tw_up τ 76 4 ((τ 76 4) + 1)) => ?_))
          have hIσ9 : tw_I σ9 := tw_I_up hIτ eσ9 (show (0 : Int) ≤ (τ 76 4) + 1 ∧ (τ 76 4) + 1 ≤ 40 from ⟨by omega, by omega⟩)
          have hFσ9 : tw_F (fun c j => (c = 76 ∧ (j = 4)) ∨ c = 78) σ σ9 := tw_F_up hFτ eσ9 (show (76 = 76 ∧ (4 = 4)) ∨ 76 = 78 from (Or.inl ⟨rfl, rfl⟩))
          refine j_iload (pc := 77) dX0_collect_77 rfl ?_
          refine j_iast (pc := 79) dX0_collect_79 (a_78 hX) (by omega) (by omega) (by decide) (j_nm (fun σ10 (eσ10 : σ10 = tw_up σ9 78 ((τ 76 4).toNat) r5) => ?_))
          have hIσ10 : tw_I σ10 := tw_I_up hIσ9 eσ10 (show (0 : Int) ≤ r5 ∧ r5 ≤ 40 from ⟨by omega, by omega⟩)
          have hFσ10 : tw_F (fun c j => (c = 76 ∧ (j = 4)) ∨ c = 78) σ σ10 := tw_F_up hFσ9 eσ10 (show (78 = 76 ∧ ((τ 76 4).toNat = 4)) ∨ 78 = 78 from (Or.inr rfl))
          refine j_iload (pc := 80) dX0_collect_80 rfl ?_
          refine j_iconst (pc := 82) dX0_collect_82 ?_
          refine j_iadd (pc := 83) dX0_collect_83 ?_
          refine j_istore_n (pc := 84) (i := 2) (ls' := [(0, vR 76), (2, vI (r5 + 1)), (4, vI i), (5, vI r5)]) [1, 0, 2, 3] dX0_collect_84 rfl (Nat.le_of_ble_eq_true rfl) rfl rfl ?_
          refine j_aload_n (pc := 85) dX0_collect_85 rfl rfl ?_
          refine j_iload (pc := 86) dX0_collect_86 rfl ?_
          refine j_callV (pc := 88) (As := [vI r5]) (st := []) (c_X0_reach hX r5 ⟨by omega, by omega⟩ σ10 hIσ10) mv_X0_70 rfl rfl rfl (a_76 hX) dX0_collect_88 ⟨Nat.le_of_ble_eq_true rfl, Nat.le_of_ble_eq_true rfl⟩ ⟨Nat.le_refl _, Nat.le_refl _⟩ rfl (Nat.le_of_ble_eq_true rfl) rfl (fun z11 σ12 hz11 => ?_)
          obtain ⟨r14, rfl, hr14, rfl, -⟩ := hz11
          refine j_st (st' := [vI r14]) rfl ?_
          refine j_iconst (pc := 91) dX0_collect_91 ?_
          refine j_iadd (pc := 92) dX0_collect_92 ?_
          refine j_aload_n (pc := 93) dX0_collect_93 rfl rfl ?_
          refine j_getR (pc := 94) (r := 1) fl_X0_29 dX0_collect_94 (a_76 hX) rfl ?_
          refine j_callV (pc := 97) (As := []) (st := [vI (r14 + 1)]) (c_X10_top 1 (s_Wall_1 hX) σ10 hIσ10) mv_X0_33 rfl rfl rfl (a_1 hX) dX0_collect_97 ⟨Nat.le_of_ble_eq_true rfl, Nat.le_of_ble_eq_true rfl⟩ ⟨Nat.le_refl _, Nat.le_refl _⟩ rfl (Nat.le_of_ble_eq_true rfl) rfl (fun z15 σ16 hz15 => ?_)
          obtain ⟨r18, rfl, hr18, rfl, q17_0⟩ := hz15
          replace q17_0 : r18 = σ10 2 0 := q17_0
          have y19 : σ10 2 0 = τ 2 0 := ((tw_ne1 eσ10 (by (first | decide | omega)))).trans (tw_ne1 eσ9 (by (first | decide | omega)))
          have f20 : (1 : Int) ≤ τ 2 0 ∧ τ 2 0 ≤ 40 := hIτ 2 0
          refine j_st (st' := [vI r18, vI (r14 + 1)]) rfl ?_
          refine j_mmin (pc := 100) mm_X0_46 dX0_collect_100 ⟨Nat.le_of_ble_eq_true rfl, Nat.le_of_ble_eq_true rfl⟩ ⟨Nat.le_refl _, Nat.le_refl _⟩ rfl (fun z21 ez21 => ?_)
          have hz21 := tw_min_eq (a := r14 + 1) (b := r18) ⟨by omega, by omega⟩ ⟨by omega, by omega⟩ ez21
          refine j_istore_n (pc := 103) (i := 3) (ls' := [(0, vR 76), (2, vI (r5 + 1)), (3, vI z21), (4, vI i)]) [1, 2, 0, 3] dX0_collect_103 rfl (Nat.le_of_ble_eq_true rfl) rfl rfl ?_
          refine j_iinc (pc := 104) (i := 4) (n := -1) (ls' := [(0, vR 76), (2, vI (r5 + 1)), (3, vI z21), (4, vI (i + (-1)))]) [1, 2, 3, 0] dX0_collect_104 rfl (Nat.le_of_ble_eq_true rfl) rfl rfl ?_
          refine j_goto (pc := 107) (tgt := 28) dX0_collect_107 rfl ?_
          refine j_ls (ls' := [(0, vR 76), (2, vI (r5 + 1)), (3, vI z21), (4, vI (i + (-1)))]) [0, 1, 2, 3] rfl ?_
          exact ih (r5 + 1) ⟨by omega, by omega⟩ z21 ⟨by omega, by omega⟩ (i + (-1)) ⟨by omega, by omega⟩ σ10 hIσ10 hFσ10 (show (i + (-1)).toNat < N_ from by omega)
        · exact j_vret (pc := 61) ⟨rfl, rfl⟩ dX0_collect_61 rfl ⟨rfl, hIτ, hFτ, trivial⟩
set_option maxHeartbeats 4000000 in
set_option maxRecDepth 100000 in
theorem c_X0_collect {G : tw_G} (hX : tw_isX G) (l : Int) (hl : 0 ≤ l ∧ l ≤ 99) (σ : tw_M) (hI : tw_I σ) : tw_C G yX0_collect cX0_collect 6 none 4 [vR 76, vI l] σ (q_X0_collect l σ) := by
  refine tw_met [(0, vR 76), (1, vI l)] (by decide +kernel) rfl (Nat.le_of_ble_eq_true rfl) ?_
  refine j_iconst (pc := 0) dX0_collect_0 ?_
  refine j_istore_n (pc := 1) (i := 2) (ls' := [(0, vR 76), (1, vI l), (2, vI 1)]) [1, 2, 0] dX0_collect_1 rfl (Nat.le_of_ble_eq_true rfl) rfl rfl ?_
  refine j_aload_n (pc := 2) dX0_collect_2 rfl rfl ?_
  refine j_getR (pc := 3) (r := 1) fl_X0_29 dX0_collect_3 (a_76 hX) rfl ?_
  refine j_getR (pc := 6) (r := 2) fl_X0_39 dX0_collect_6 (a_1 hX) rfl ?_
  refine j_bipush (pc := 9) dX0_collect_9 rfl ?_
  refine j_iald (pc := 11) dX0_collect_11 (a_2 hX) (by omega) (by omega) (by decide) ?_
  refine j_topV (show σ 2 (Int.toNat 8) = σ 2 8 from rfl) ?_
  have f22 : (0 : Int) ≤ σ 2 8 ∧ σ 2 8 ≤ 9 := hI 2 8
  refine j_iconst (pc := 12) dX0_collect_12 ?_
  refine j_iadd (pc := 13) dX0_collect_13 ?_
  refine j_aload_n (pc := 14) dX0_collect_14 rfl rfl ?_
  refine j_getR (pc := 15) (r := 1) fl_X0_29 dX0_collect_15 (a_76 hX) rfl ?_
  refine j_callV (pc := 18) (As := []) (st := [vI ((σ 2 8) + 1)]) (c_X10_top 1 (s_Wall_1 hX) σ hI) mv_X0_33 rfl rfl rfl (a_1 hX) dX0_collect_18 ⟨Nat.le_of_ble_eq_true rfl, Nat.le_of_ble_eq_true rfl⟩ ⟨Nat.le_refl _, Nat.le_refl _⟩ rfl (Nat.le_of_ble_eq_true rfl) rfl (fun z23 σ24 hz23 => ?_)
  obtain ⟨r26, rfl, hr26, rfl, q25_0⟩ := hz23
  replace q25_0 : r26 = σ 2 0 := q25_0
  refine j_st (st' := [vI r26, vI ((σ 2 8) + 1)]) rfl ?_
  refine j_mmin (pc := 21) mm_X0_46 dX0_collect_21 ⟨Nat.le_of_ble_eq_true rfl, Nat.le_of_ble_eq_true rfl⟩ ⟨Nat.le_refl _, Nat.le_refl _⟩ rfl (fun z27 ez27 => ?_)
  have hz27 := tw_min_eq (a := (σ 2 8) + 1) (b := r26) ⟨by omega, by omega⟩ ⟨by omega, by omega⟩ ez27
  refine j_istore_n (pc := 24) (i := 3) (ls' := [(0, vR 76), (1, vI l), (2, vI 1), (3, vI z27)]) [1, 2, 3, 0] dX0_collect_24 rfl (Nat.le_of_ble_eq_true rfl) rfl rfl ?_
  refine j_iload_n (pc := 25) dX0_collect_25 rfl rfl ?_
  refine j_istore (pc := 26) (i := 4) (ls' := [(0, vR 76), (2, vI 1), (3, vI z27), (4, vI l)]) [1, 3, 4, 0] dX0_collect_26 (Nat.le_of_ble_eq_true rfl) rfl rfl ?_
  refine j_ls (ls' := [(0, vR 76), (2, vI 1), (3, vI z27), (4, vI l)]) [0, 1, 2, 3] rfl ?_
  exact (l_X0_collect hX l hl σ hI ((l.toNat) + 1)) 1 (by (first | decide | exact ⟨by omega, by omega⟩)) z27 ⟨by omega, by omega⟩ l ⟨by omega, by omega⟩ σ hI (tw_F_rf) (Nat.lt_succ_self _)
abbrev q_X0_find  (σ : tw_M) : Option tw_V → tw_M → Prop := fun z τ => z = none ∧ tw_I τ ∧ tw_F (fun c j => (c = 76 ∧ (j = 1 ∨ j = 4 ∨ j = 5)) ∨ (77 ≤ c ∧ c < 79)) σ τ ∧ True
set_option maxHeartbeats 4000000 in
set_option maxRecDepth 100000 in
theorem l_X0_find {G : tw_G} (hX : tw_isX G) (σ : tw_M) (hI : tw_I σ) : ∀ N_ : Nat, (∀ (p : Int) (hp : 1 ≤ p ∧ p ≤ 40) (l : Int) (hl : 0 ≤ l ∧ l ≤ 9) (b : Int) (hb : 0 ≤ b ∧ b ≤ 40) (τ : tw_M) (hIτ : tw_I τ) (hFτ : tw_F (fun c j => (c = 76 ∧ (j = 1 ∨ j = 4 ∨ j = 5)) ∨ (77 ≤ c ∧ c < 79)) σ τ)  (hm : (1000 + b).toNat < N_), tw_J G (tw_mt RX0 cX0_find 5 none 5) (tw_E G (q_X0_find σ)) 50 [(0, vR 76), (1, vI p), (2, vI l), (3, vI b)] [] τ) ∧ (∀ (p : Int) (hp : 1 ≤ p ∧ p ≤ 40) (l : Int) (hl : 0 ≤ l ∧ l ≤ 9) (m : Int) (hm : 0 ≤ m ∧ m ≤ 99) (b : Int) (hb : 1 ≤ b ∧ b ≤ 41) (τ : tw_M) (hIτ : tw_I τ) (hFτ : tw_F (fun c j => (c = 76 ∧ (j = 1 ∨ j = 4 ∨ j = 5)) ∨ (77 ≤ c ∧ c < 79)) σ τ)  (hm : (100 - b).toNat < N_), tw_J G (tw_mt RX0 cX0_find 5 none 5) (tw_E G (q_X0_find σ)) 78 [(0, vR 76), (1, vI p), (2, vI l), (3, vI m), (4, vI b)] [] τ) := by
  intro N_
  induction N_ with
  | zero => exact ⟨fun p hp l hl b hb τ hIτ hFτ hm => absurd hm (Nat.not_lt_zero _), fun p hp l hl m hm b hb τ hIτ hFτ hm => absurd hm (Nat.not_lt_zero _)⟩
  | succ N_ ih =>
    refine ⟨?_, ?_⟩
    · intro p hp l hl b hb τ hIτ hFτ hm
      refine j_iload_n (pc := 50) dX0_find_50 rfl rfl ?_
      refine j_iconst (pc := 51) dX0_find_51 ?_
      refine j_icmpR_lt (pc := 52) (tgt := 72) ⟨by omega, by omega⟩ ⟨by omega, by omega⟩ dX0_find_52 rfl (fun h1 => ?_) (fun h1 => ?_)
      · refine j_bipush (pc := 72) dX0_find_72 rfl ?_
        refine j_istore_n (pc := 74) (i := 3) (ls' := [(0, vR 76), (1, vI p), (2, vI l), (3, vI 99)]) [1, 2, 3, 0] dX0_find_74 rfl (Nat.le_of_ble_eq_true rfl) rfl rfl ?_
        refine j_iconst (pc := 75) dX0_find_75 ?_
        refine j_istore (pc := 76) (i := 4) (ls' := [(0, vR 76), (1, vI p), (2, vI l), (3, vI 99), (4, vI 1)]) [1, 2, 3, 4, 0] dX0_find_76 (Nat.le_of_ble_eq_true rfl) rfl rfl ?_
        refine j_ls (ls' := [(0, vR 76), (1, vI p), (2, vI l), (3, vI 99), (4, vI 1)]) [0, 1, 2, 3, 4] rfl ?_
        exact ih.2 p ⟨by omega, by omega⟩ l ⟨by omega, by omega⟩ 99 (by (first | decide | exact ⟨by omega, by omega⟩)) 1 (by (first | decide | exact ⟨by omega, by omega⟩)) τ hIτ hFτ (show (100 - (1 : Int)).toNat < N_ from by omega)
      · refine j_aload_n (pc := 55) dX0_find_55 rfl rfl ?_
        refine j_getR (pc := 56) (r := 77) fl_X0_15 dX0_find_56 (a_76 hX) rfl ?_
        refine j_iload_n (pc := 59) dX0_find_59 rfl rfl ?_
        refine j_aload_n (pc := 60) dX0_find_60 rfl rfl ?_
        refine j_iload_n (pc := 61) dX0_find_61 rfl rfl ?_
        refine j_callV (pc := 62) (As := [vI b]) (st := [vI b, vR 77]) (c_X0_fewestFrom hX b ⟨by omega, by omega⟩ τ hIτ) mv_X0_42 rfl rfl rfl (a_76 hX) dX0_find_62 ⟨Nat.le_of_ble_eq_true rfl, Nat.le_of_ble_eq_true rfl⟩ ⟨Nat.le_refl _, Nat.le_refl _⟩ rfl (Nat.le_of_ble_eq_true rfl) rfl (fun z2 σ3 hz2 => ?_)
        obtain ⟨r5, rfl, hr5, rfl, -⟩ := hz2
        refine j_st (st' := [vI r5, vI b, vR 77]) rfl ?_
        refine j_iast (pc := 65) dX0_find_65 (a_77 hX) (by omega) (by omega) (by decide) (j_nm (fun σ6 (eσ6 : σ6 = tw_up τ 77 (b.toNat) r5) => ?_))
        have hIσ6 : tw_I σ6 := tw_I_up hIτ eσ6 (show (0 : Int) ≤ r5 ∧ r5 ≤ 99 from ⟨by omega, by omega⟩)
        have hFσ6 : tw_F (fun c j => (c = 76 ∧ (j = 1 ∨ j = 4 ∨ j = 5)) ∨ (77 ≤ c ∧ c < 79)) σ σ6 := tw_F_up hFτ eσ6 (show (77 = 76 ∧ (b.toNat = 1 ∨ b.toNat = 4 ∨ b.toNat = 5)) ∨ (77 ≤ 77 ∧ 77 < 79) from (Or.inr (by decide)))
        refine j_iinc (pc := 66) (i := 3) (n := -1) (ls' := [(0, vR 76), (1, vI p), (2, vI l), (3, vI (b + (-1)))]) [1, 2, 3, 0] dX0_find_66 rfl (Nat.le_of_ble_eq_true rfl) rfl rfl ?_
        refine j_goto (pc := 69) (tgt := 50) dX0_find_69 rfl ?_
        refine j_ls (ls' := [(0, vR 76), (1, vI p), (2, vI l), (3, vI (b + (-1)))]) [0, 1, 2, 3] rfl ?_
        exact ih.1 p ⟨by omega, by omega⟩ l ⟨by omega, by omega⟩ (b + (-1)) ⟨by omega, by omega⟩ σ6 hIσ6 hFσ6 (show (1000 + (b + (-1))).toNat < N_ from by omega)
    · intro p hp l hl m hm b hb τ hIτ hFτ hm
      refine j_iload (pc := 78) dX0_find_78 rfl ?_
      refine j_iload_n (pc := 80) dX0_find_80 rfl rfl ?_
      refine j_iconst (pc := 81) dX0_find_81 ?_
      refine j_iadd (pc := 82) dX0_find_82 ?_
      refine j_iload_n (pc := 83) dX0_find_83 rfl rfl ?_
      refine j_mmin (pc := 84) mm_X0_46 dX0_find_84 ⟨Nat.le_of_ble_eq_true rfl, Nat.le_of_ble_eq_true rfl⟩ ⟨Nat.le_refl _, Nat.le_refl _⟩ rfl (fun z7 ez7 => ?_)
      have hz7 := tw_min_eq (a := l + 1) (b := p) ⟨by omega, by omega⟩ ⟨by omega, by omega⟩ ez7
      refine j_icmpR_gt (pc := 87) (tgt := 117) ⟨by omega, by omega⟩ ⟨by omega, by omega⟩ dX0_find_87 rfl (fun h8 => ?_) (fun h8 => ?_)
      · refine j_aload_n (pc := 117) dX0_find_117 rfl rfl ?_
        refine j_iload_n (pc := 118) dX0_find_118 rfl rfl ?_
        refine j_bipush (pc := 119) dX0_find_119 rfl ?_
        refine j_icmpR_ge (pc := 121) (tgt := 128) ⟨by omega, by omega⟩ ⟨by omega, by omega⟩ dX0_find_121 rfl (fun h9 => ?_) (fun h9 => ?_)
        · refine j_iconst (pc := 128) dX0_find_128 ?_
          refine j_putZ (pc := 129) (by omega) fl_X0_26 fp_X0_5 dX0_find_129 (a_76 hX) rfl (j_nm (fun σ10 (eσ10 : σ10 = tw_up τ 76 5 0) => ?_))
          have hIσ10 : tw_I σ10 := tw_I_up hIτ eσ10 (show (0 : Int) ≤ 0 ∧ 0 ≤ 1 from by decide)
          have hFσ10 : tw_F (fun c j => (c = 76 ∧ (j = 1 ∨ j = 4 ∨ j = 5)) ∨ (77 ≤ c ∧ c < 79)) σ σ10 := tw_F_up hFτ eσ10 (show (76 = 76 ∧ (5 = 1 ∨ 5 = 4 ∨ 5 = 5)) ∨ (77 ≤ 76 ∧ 76 < 79) from (Or.inl ⟨rfl, (Or.inr (Or.inr rfl))⟩))
          refine j_aload_n (pc := 132) dX0_find_132 rfl rfl ?_
          refine j_getI (pc := 133) fl_X0_26 dX0_find_133 (a_76 hX) rfl ?_
          refine j_topV (show σ10 76 5 = 0 from (tw_eq1 eσ10)) ?_
          refine j_ifR_eq (pc := 136) (tgt := 144) ⟨by omega, by omega⟩ dX0_find_136 rfl (fun h11 => ?_) (fun h11 => by exfalso; omega)
          exact j_vret (pc := 144) ⟨rfl, rfl⟩ dX0_find_144 rfl ⟨rfl, hIσ10, hFσ10, trivial⟩
        · refine j_iconst (pc := 124) dX0_find_124 ?_
          refine j_goto (pc := 125) (tgt := 129) dX0_find_125 rfl ?_
          refine j_putZ (pc := 129) (by omega) fl_X0_26 fp_X0_5 dX0_find_129 (a_76 hX) rfl (j_nm (fun σ12 (eσ12 : σ12 = tw_up τ 76 5 1) => ?_))
          have hIσ12 : tw_I σ12 := tw_I_up hIτ eσ12 (show (0 : Int) ≤ 1 ∧ 1 ≤ 1 from by decide)
          have hFσ12 : tw_F (fun c j => (c = 76 ∧ (j = 1 ∨ j = 4 ∨ j = 5)) ∨ (77 ≤ c ∧ c < 79)) σ σ12 := tw_F_up hFτ eσ12 (show (76 = 76 ∧ (5 = 1 ∨ 5 = 4 ∨ 5 = 5)) ∨ (77 ≤ 76 ∧ 76 < 79) from (Or.inl ⟨rfl, (Or.inr (Or.inr rfl))⟩))
          refine j_aload_n (pc := 132) dX0_find_132 rfl rfl ?_
          refine j_getI (pc := 133) fl_X0_26 dX0_find_133 (a_76 hX) rfl ?_
          refine j_topV (show σ12 76 5 = 1 from (tw_eq1 eσ12)) ?_
          refine j_ifR_eq (pc := 136) (tgt := 144) ⟨by omega, by omega⟩ dX0_find_136 rfl (fun h13 => by exfalso; omega) (fun h13 => ?_)
          refine j_aload_n (pc := 139) dX0_find_139 rfl rfl ?_
          refine j_iload_n (pc := 140) dX0_find_140 rfl rfl ?_
          refine j_callV (pc := 141) (As := [vI m]) (st := []) (c_X0_collect hX m ⟨by omega, by omega⟩ σ12 hIσ12) mv_X0_56 rfl rfl rfl (a_76 hX) dX0_find_141 ⟨Nat.le_of_ble_eq_true rfl, Nat.le_of_ble_eq_true rfl⟩ ⟨Nat.le_refl _, Nat.le_refl _⟩ rfl (Nat.le_of_ble_eq_true rfl) rfl (fun z14 σ15 hz14 => ?_)
          obtain ⟨rfl, hIσ15, hGσ15, -⟩ := hz14
          have hFσ15 : tw_F (fun c j => (c = 76 ∧ (j = 1 ∨ j = 4 ∨ j = 5)) ∨ (77 ≤ c ∧ c < 79)) σ σ15 := tw_F_tr hFσ12 hGσ15 (fun c j q => (show (c = 76 ∧ (j = 1 ∨ j = 4 ∨ j = 5)) ∨ (77 ≤ c ∧ c < 79) from by replace q : (c = 76 ∧ (j = 4)) ∨ c = 78 := q; exact (q.elim (fun q => (Or.inl ⟨q.1, (Or.inr (Or.inl q.2))⟩)) (fun q => (Or.inr (by rw [show c = 78 from q]; decide))))))
          refine j_st (st' := []) rfl ?_
          exact j_vret (pc := 144) ⟨rfl, rfl⟩ dX0_find_144 rfl ⟨rfl, hIσ15, hFσ15, trivial⟩
      · refine j_aload_n (pc := 90) dX0_find_90 rfl rfl ?_
        refine j_iload (pc := 91) dX0_find_91 rfl ?_
        refine j_callV (pc := 93) (As := [vI b]) (st := []) (c_X0_isLowest hX b ⟨by omega, by omega⟩ τ hIτ) mv_X0_52 rfl rfl rfl (a_76 hX) dX0_find_93 ⟨Nat.le_of_ble_eq_true rfl, Nat.le_of_ble_eq_true rfl⟩ ⟨Nat.le_refl _, Nat.le_refl _⟩ rfl (Nat.le_of_ble_eq_true rfl) rfl (fun z18 σ19 hz18 => ?_)
        obtain ⟨r21, rfl, hr21, rfl, -⟩ := hz18
        refine j_st (st' := [vI r21]) rfl ?_
        refine j_ifR_eq (pc := 96) (tgt := 111) ⟨by omega, by omega⟩ dX0_find_96 rfl (fun h22 => ?_) (fun h22 => ?_)
        · refine j_iinc (pc := 111) (i := 4) (n := 1) (ls' := [(0, vR 76), (1, vI p), (2, vI l), (3, vI m), (4, vI (b + 1))]) [1, 2, 3, 4, 0] dX0_find_111 rfl (Nat.le_of_ble_eq_true rfl) rfl rfl ?_
          refine j_goto (pc := 114) (tgt := 78) dX0_find_114 rfl ?_
          refine j_ls (ls' := [(0, vR 76), (1, vI p), (2, vI l), (3, vI m), (4, vI (b + 1))]) [0, 1, 2, 3, 4] rfl ?_
          exact ih.2 p ⟨by omega, by omega⟩ l ⟨by omega, by omega⟩ m ⟨by omega, by omega⟩ (b + 1) ⟨by omega, by omega⟩ τ hIτ hFτ (show (100 - (b + 1)).toNat < N_ from by omega)
        · refine j_iload_n (pc := 99) dX0_find_99 rfl rfl ?_
          refine j_aload_n (pc := 100) dX0_find_100 rfl rfl ?_
          refine j_getR (pc := 101) (r := 77) fl_X0_15 dX0_find_101 (a_76 hX) rfl ?_
          refine j_iload (pc := 104) dX0_find_104 rfl ?_
          refine j_iald (pc := 106) dX0_find_106 (a_77 hX) (by omega) (by omega) (by decide) ?_
          have f23 : (0 : Int) ≤ τ 77 (b.toNat) ∧ τ 77 (b.toNat) ≤ 99 := hIτ 77 (b.toNat)
          refine j_mmin (pc := 107) mm_X0_46 dX0_find_107 ⟨Nat.le_of_ble_eq_true rfl, Nat.le_of_ble_eq_true rfl⟩ ⟨Nat.le_refl _, Nat.le_refl _⟩ rfl (fun z24 ez24 => ?_)
          have hz24 := tw_min_eq (a := m) (b := τ 77 (b.toNat)) ⟨by omega, by omega⟩ ⟨by omega, by omega⟩ ez24
          refine j_istore_n (pc := 110) (i := 3) (ls' := [(0, vR 76), (1, vI p), (2, vI l), (3, vI z24), (4, vI b)]) [1, 2, 3, 0, 4] dX0_find_110 rfl (Nat.le_of_ble_eq_true rfl) rfl rfl ?_
          refine j_iinc (pc := 111) (i := 4) (n := 1) (ls' := [(0, vR 76), (1, vI p), (2, vI l), (3, vI z24), (4, vI (b + 1))]) [1, 2, 3, 4, 0] dX0_find_111 rfl (Nat.le_of_ble_eq_true rfl) rfl rfl ?_
          refine j_goto (pc := 114) (tgt := 78) dX0_find_114 rfl ?_
          refine j_ls (ls' := [(0, vR 76), (1, vI p), (2, vI l), (3, vI z24), (4, vI (b + 1))]) [0, 1, 2, 3, 4] rfl ?_
          exact ih.2 p ⟨by omega, by omega⟩ l ⟨by omega, by omega⟩ z24 ⟨by omega, by omega⟩ (b + 1) ⟨by omega, by omega⟩ τ hIτ hFτ (show (100 - (b + 1)).toNat < N_ from by omega)
set_option maxHeartbeats 4000000 in
set_option maxRecDepth 100000 in
theorem c_X0_find {G : tw_G} (hX : tw_isX G) (σ : tw_M) (hI : tw_I σ) : tw_C G yX0_find cX0_find 5 none 5 [vR 76] σ (q_X0_find σ) := by
  refine tw_met [(0, vR 76)] (by decide +kernel) rfl (Nat.le_of_ble_eq_true rfl) ?_
  refine j_aload_n (pc := 0) dX0_find_0 rfl rfl ?_
  refine j_getI (pc := 1) fl_X0_9 dX0_find_1 (a_76 hX) rfl ?_
  have f25 : (0 : Int) ≤ σ 76 1 ∧ σ 76 1 ≤ 1 := hI 76 1
  refine j_ifR_eq (pc := 4) (tgt := 8) ⟨by omega, by omega⟩ dX0_find_4 rfl (fun h26 => ?_) (fun h26 => ?_)
  · refine j_aload_n (pc := 8) dX0_find_8 rfl rfl ?_
    refine j_iconst (pc := 9) dX0_find_9 ?_
    refine j_putZ (pc := 10) (by omega) fl_X0_9 fp_X0_1 dX0_find_10 (a_76 hX) rfl (j_nm (fun σ27 (eσ27 : σ27 = tw_up σ 76 1 1) => ?_))
    have hIσ27 : tw_I σ27 := tw_I_up hI eσ27 (show (0 : Int) ≤ 1 ∧ 1 ≤ 1 from by decide)
    have hFσ27 : tw_F (fun c j => (c = 76 ∧ (j = 1 ∨ j = 4 ∨ j = 5)) ∨ (77 ≤ c ∧ c < 79)) σ σ27 := tw_F_up (tw_F_rf) eσ27 (show (76 = 76 ∧ (1 = 1 ∨ 1 = 4 ∨ 1 = 5)) ∨ (77 ≤ 76 ∧ 76 < 79) from (Or.inl ⟨rfl, (Or.inl rfl)⟩))
    refine j_aload_n (pc := 13) dX0_find_13 rfl rfl ?_
    refine j_iconst (pc := 14) dX0_find_14 ?_
    refine j_putI (pc := 15) fl_X0_22 fp_X0_4 dX0_find_15 (a_76 hX) rfl (j_nm (fun σ28 (eσ28 : σ28 = tw_up σ27 76 4 0) => ?_))
    have hIσ28 : tw_I σ28 := tw_I_up hIσ27 eσ28 (show (0 : Int) ≤ 0 ∧ 0 ≤ 40 from by decide)
    have hFσ28 : tw_F (fun c j => (c = 76 ∧ (j = 1 ∨ j = 4 ∨ j = 5)) ∨ (77 ≤ c ∧ c < 79)) σ σ28 := tw_F_up hFσ27 eσ28 (show (76 = 76 ∧ (4 = 1 ∨ 4 = 4 ∨ 4 = 5)) ∨ (77 ≤ 76 ∧ 76 < 79) from (Or.inl ⟨rfl, (Or.inr (Or.inl rfl))⟩))
    refine j_aload_n (pc := 18) dX0_find_18 rfl rfl ?_
    refine j_iconst (pc := 19) dX0_find_19 ?_
    refine j_putZ (pc := 20) (by omega) fl_X0_26 fp_X0_5 dX0_find_20 (a_76 hX) rfl (j_nm (fun σ29 (eσ29 : σ29 = tw_up σ28 76 5 1) => ?_))
    have hIσ29 : tw_I σ29 := tw_I_up hIσ28 eσ29 (show (0 : Int) ≤ 1 ∧ 1 ≤ 1 from by decide)
    have hFσ29 : tw_F (fun c j => (c = 76 ∧ (j = 1 ∨ j = 4 ∨ j = 5)) ∨ (77 ≤ c ∧ c < 79)) σ σ29 := tw_F_up hFσ28 eσ29 (show (76 = 76 ∧ (5 = 1 ∨ 5 = 4 ∨ 5 = 5)) ∨ (77 ≤ 76 ∧ 76 < 79) from (Or.inl ⟨rfl, (Or.inr (Or.inr rfl))⟩))
    refine j_aload_n (pc := 23) dX0_find_23 rfl rfl ?_
    refine j_getR (pc := 24) (r := 1) fl_X0_29 dX0_find_24 (a_76 hX) rfl ?_
    refine j_callV (pc := 27) (As := []) (st := []) (c_X10_top 1 (s_Wall_1 hX) σ29 hIσ29) mv_X0_33 rfl rfl rfl (a_1 hX) dX0_find_27 ⟨Nat.le_of_ble_eq_true rfl, Nat.le_of_ble_eq_true rfl⟩ ⟨Nat.le_refl _, Nat.le_refl _⟩ rfl (Nat.le_of_ble_eq_true rfl) rfl (fun z30 σ31 hz30 => ?_)
    obtain ⟨r33, rfl, hr33, rfl, q32_0⟩ := hz30
    replace q32_0 : r33 = σ29 2 0 := q32_0
    have y34 : σ29 2 0 = σ 2 0 := (((tw_ne1 eσ29 (by (first | decide | omega)))).trans (tw_ne1 eσ28 (by (first | decide | omega)))).trans (tw_ne1 eσ27 (by (first | decide | omega)))
    have f35 : (1 : Int) ≤ σ 2 0 ∧ σ 2 0 ≤ 40 := hI 2 0
    refine j_st (st' := [vI r33]) rfl ?_
    refine j_istore_n (pc := 30) (i := 1) (ls' := [(0, vR 76), (1, vI r33)]) [1, 0] dX0_find_30 rfl (Nat.le_of_ble_eq_true rfl) rfl rfl ?_
    refine j_aload_n (pc := 31) dX0_find_31 rfl rfl ?_
    refine j_getR (pc := 32) (r := 1) fl_X0_29 dX0_find_32 (a_76 hX) rfl ?_
    refine j_getR (pc := 35) (r := 2) fl_X0_39 dX0_find_35 (a_1 hX) rfl ?_
    refine j_bipush (pc := 38) dX0_find_38 rfl ?_
    refine j_iald (pc := 40) dX0_find_40 (a_2 hX) (by omega) (by omega) (by decide) ?_
    refine j_topV (show σ29 2 (Int.toNat 8) = σ29 2 8 from rfl) ?_
    refine j_topV (show σ29 2 8 = σ 2 8 from (((tw_ne1 eσ29 (by (first | decide | omega)))).trans (tw_ne1 eσ28 (by (first | decide | omega)))).trans (tw_ne1 eσ27 (by (first | decide | omega)))) ?_
    have f36 : (0 : Int) ≤ σ 2 8 ∧ σ 2 8 ≤ 9 := hI 2 8
    refine j_istore_n (pc := 41) (i := 2) (ls' := [(0, vR 76), (1, vI r33), (2, vI (σ 2 8))]) [1, 2, 0] dX0_find_41 rfl (Nat.le_of_ble_eq_true rfl) rfl rfl ?_
    refine j_iload_n (pc := 42) dX0_find_42 rfl rfl ?_
    refine j_iload_n (pc := 43) dX0_find_43 rfl rfl ?_
    refine j_icmpR_gt (pc := 44) (tgt := 48) ⟨by omega, by omega⟩ ⟨by omega, by omega⟩ dX0_find_44 rfl (fun h37 => ?_) (fun h37 => ?_)
    · refine j_iload_n (pc := 48) dX0_find_48 rfl rfl ?_
      refine j_istore_n (pc := 49) (i := 3) (ls' := [(0, vR 76), (1, vI r33), (2, vI (σ 2 8)), (3, vI r33)]) [1, 2, 3, 0] dX0_find_49 rfl (Nat.le_of_ble_eq_true rfl) rfl rfl ?_
      refine j_ls (ls' := [(0, vR 76), (1, vI r33), (2, vI (σ 2 8)), (3, vI r33)]) [0, 1, 2, 3] rfl ?_
      exact (l_X0_find hX σ hI (((1000 + r33).toNat) + 1)).1 r33 ⟨by omega, by omega⟩ (σ 2 8) ⟨by omega, by omega⟩ r33 ⟨by omega, by omega⟩ σ29 hIσ29 hFσ29 (Nat.lt_succ_self _)
    · exact j_vret (pc := 47) ⟨rfl, rfl⟩ dX0_find_47 rfl ⟨rfl, hIσ29, hFσ29, trivial⟩
  · exact j_vret (pc := 7) ⟨rfl, rfl⟩ dX0_find_7 rfl ⟨rfl, hI, (tw_F_rf), trivial⟩
