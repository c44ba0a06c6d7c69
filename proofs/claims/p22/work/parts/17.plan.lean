/-! 17.plan -/
theorem dX5_forget_0 : decode cX5_forget 0 = .ok (.aload_n 0, 1) := by decide +kernel
theorem dX5_forget_1 : decode cX5_forget 1 = .ok (.iconst 0, 1) := by decide +kernel
theorem dX5_forget_2 : decode cX5_forget 2 = .ok (.putfield 29, 3) := by decide +kernel
theorem dX5_forget_5 : decode cX5_forget 5 = .ok (.aload_n 0, 1) := by decide +kernel
theorem dX5_forget_6 : decode cX5_forget 6 = .ok (.iconst 0, 1) := by decide +kernel
theorem dX5_forget_7 : decode cX5_forget 7 = .ok (.putfield 33, 3) := by decide +kernel
theorem dX5_forget_10 : decode cX5_forget 10 = .ok (.return_, 1) := by decide +kernel
theorem dX5_begin_0 : decode cX5_begin 0 = .ok (.aload_n 0, 1) := by decide +kernel
theorem dX5_begin_1 : decode cX5_begin 1 = .ok (.getfield 12, 3) := by decide +kernel
theorem dX5_begin_4 : decode cX5_begin 4 = .ok (.iconst 0, 1) := by decide +kernel
theorem dX5_begin_5 : decode cX5_begin 5 = .ok (.putfield 69, 3) := by decide +kernel
theorem dX5_begin_8 : decode cX5_begin 8 = .ok (.aload_n 0, 1) := by decide +kernel
theorem dX5_begin_9 : decode cX5_begin 9 = .ok (.iconst 0, 1) := by decide +kernel
theorem dX5_begin_10 : decode cX5_begin 10 = .ok (.putfield 25, 3) := by decide +kernel
theorem dX5_begin_13 : decode cX5_begin 13 = .ok (.iconst 0, 1) := by decide +kernel
theorem dX5_begin_14 : decode cX5_begin 14 = .ok (.istore_n 1, 1) := by decide +kernel
theorem dX5_begin_15 : decode cX5_begin 15 = .ok (.iload_n 1, 1) := by decide +kernel
theorem dX5_begin_16 : decode cX5_begin 16 = .ok (.bipush 10, 2) := by decide +kernel
theorem dX5_begin_18 : decode cX5_begin 18 = .ok (.if_icmp .gt 24, 3) := by decide +kernel
theorem dX5_begin_21 : decode cX5_begin 21 = .ok (.aload_n 0, 1) := by decide +kernel
theorem dX5_begin_22 : decode cX5_begin 22 = .ok (.getfield 18, 3) := by decide +kernel
theorem dX5_begin_25 : decode cX5_begin 25 = .ok (.iload_n 1, 1) := by decide +kernel
theorem dX5_begin_26 : decode cX5_begin 26 = .ok (.aload_n 0, 1) := by decide +kernel
theorem dX5_begin_27 : decode cX5_begin 27 = .ok (.getfield 54, 3) := by decide +kernel
theorem dX5_begin_30 : decode cX5_begin 30 = .ok (.getfield 72, 3) := by decide +kernel
theorem dX5_begin_33 : decode cX5_begin 33 = .ok (.iload_n 1, 1) := by decide +kernel
theorem dX5_begin_34 : decode cX5_begin 34 = .ok (.iaload, 1) := by decide +kernel
theorem dX5_begin_35 : decode cX5_begin 35 = .ok (.iastore, 1) := by decide +kernel
theorem dX5_begin_36 : decode cX5_begin 36 = .ok (.iinc 1 1, 3) := by decide +kernel
theorem dX5_begin_39 : decode cX5_begin 39 = .ok (.goto (-24), 3) := by decide +kernel
theorem dX5_begin_42 : decode cX5_begin 42 = .ok (.iconst 1, 1) := by decide +kernel
theorem dX5_begin_43 : decode cX5_begin 43 = .ok (.istore_n 1, 1) := by decide +kernel
theorem dX5_begin_44 : decode cX5_begin 44 = .ok (.iload_n 1, 1) := by decide +kernel
theorem dX5_begin_45 : decode cX5_begin 45 = .ok (.aload_n 0, 1) := by decide +kernel
theorem dX5_begin_46 : decode cX5_begin 46 = .ok (.getfield 54, 3) := by decide +kernel
theorem dX5_begin_49 : decode cX5_begin 49 = .ok (.invokevirtual 77, 3) := by decide +kernel
theorem dX5_begin_52 : decode cX5_begin 52 = .ok (.if_icmp .gt 47, 3) := by decide +kernel
theorem dX5_begin_55 : decode cX5_begin 55 = .ok (.aload_n 0, 1) := by decide +kernel
theorem dX5_begin_56 : decode cX5_begin 56 = .ok (.getfield 25, 3) := by decide +kernel
theorem dX5_begin_59 : decode cX5_begin 59 = .ok (.bipush 10, 2) := by decide +kernel
theorem dX5_begin_61 : decode cX5_begin 61 = .ok (.if_icmp .ge 38, 3) := by decide +kernel
theorem dX5_begin_64 : decode cX5_begin 64 = .ok (.aload_n 0, 1) := by decide +kernel
theorem dX5_begin_65 : decode cX5_begin 65 = .ok (.getfield 54, 3) := by decide +kernel
theorem dX5_begin_68 : decode cX5_begin 68 = .ok (.getfield 81, 3) := by decide +kernel
theorem dX5_begin_71 : decode cX5_begin 71 = .ok (.iload_n 1, 1) := by decide +kernel
theorem dX5_begin_72 : decode cX5_begin 72 = .ok (.iaload, 1) := by decide +kernel
theorem dX5_begin_73 : decode cX5_begin 73 = .ok (.ifCond .eq 20, 3) := by decide +kernel
theorem dX5_begin_76 : decode cX5_begin 76 = .ok (.aload_n 0, 1) := by decide +kernel
theorem dX5_begin_77 : decode cX5_begin 77 = .ok (.getfield 22, 3) := by decide +kernel
theorem dX5_begin_80 : decode cX5_begin 80 = .ok (.aload_n 0, 1) := by decide +kernel
theorem dX5_begin_81 : decode cX5_begin 81 = .ok (.dup, 1) := by decide +kernel
theorem dX5_begin_82 : decode cX5_begin 82 = .ok (.getfield 25, 3) := by decide +kernel
theorem dX5_begin_85 : decode cX5_begin 85 = .ok (.dup_x1, 1) := by decide +kernel
theorem dX5_begin_86 : decode cX5_begin 86 = .ok (.iconst 1, 1) := by decide +kernel
theorem dX5_begin_87 : decode cX5_begin 87 = .ok (.iadd, 1) := by decide +kernel
theorem dX5_begin_88 : decode cX5_begin 88 = .ok (.putfield 25, 3) := by decide +kernel
theorem dX5_begin_91 : decode cX5_begin 91 = .ok (.iload_n 1, 1) := by decide +kernel
theorem dX5_begin_92 : decode cX5_begin 92 = .ok (.iastore, 1) := by decide +kernel
theorem dX5_begin_93 : decode cX5_begin 93 = .ok (.iinc 1 1, 3) := by decide +kernel
theorem dX5_begin_96 : decode cX5_begin 96 = .ok (.goto (-52), 3) := by decide +kernel
theorem dX5_begin_99 : decode cX5_begin 99 = .ok (.return_, 1) := by decide +kernel
theorem dX5_keepIfBetter_0 : decode cX5_keepIfBetter 0 = .ok (.aload_n 0, 1) := by decide +kernel
theorem dX5_keepIfBetter_1 : decode cX5_keepIfBetter 1 = .ok (.getfield 42, 3) := by decide +kernel
theorem dX5_keepIfBetter_4 : decode cX5_keepIfBetter 4 = .ok (.ifCond .eq 11, 3) := by decide +kernel
theorem dX5_keepIfBetter_7 : decode cX5_keepIfBetter 7 = .ok (.iload_n 2, 1) := by decide +kernel
theorem dX5_keepIfBetter_8 : decode cX5_keepIfBetter 8 = .ok (.aload_n 0, 1) := by decide +kernel
theorem dX5_keepIfBetter_9 : decode cX5_keepIfBetter 9 = .ok (.getfield 45, 3) := by decide +kernel
theorem dX5_keepIfBetter_12 : decode cX5_keepIfBetter 12 = .ok (.if_icmp .ge 7, 3) := by decide +kernel
theorem dX5_keepIfBetter_15 : decode cX5_keepIfBetter 15 = .ok (.iconst 1, 1) := by decide +kernel
theorem dX5_keepIfBetter_16 : decode cX5_keepIfBetter 16 = .ok (.goto 4, 3) := by decide +kernel
theorem dX5_keepIfBetter_19 : decode cX5_keepIfBetter 19 = .ok (.iconst 0, 1) := by decide +kernel
theorem dX5_keepIfBetter_20 : decode cX5_keepIfBetter 20 = .ok (.istore_n 3, 1) := by decide +kernel
theorem dX5_keepIfBetter_21 : decode cX5_keepIfBetter 21 = .ok (.iload_n 3, 1) := by decide +kernel
theorem dX5_keepIfBetter_22 : decode cX5_keepIfBetter 22 = .ok (.ifCond .ne 59, 3) := by decide +kernel
theorem dX5_keepIfBetter_25 : decode cX5_keepIfBetter 25 = .ok (.iload_n 2, 1) := by decide +kernel
theorem dX5_keepIfBetter_26 : decode cX5_keepIfBetter 26 = .ok (.aload_n 0, 1) := by decide +kernel
theorem dX5_keepIfBetter_27 : decode cX5_keepIfBetter 27 = .ok (.getfield 45, 3) := by decide +kernel
theorem dX5_keepIfBetter_30 : decode cX5_keepIfBetter 30 = .ok (.if_icmp .ne 51, 3) := by decide +kernel
theorem dX5_keepIfBetter_33 : decode cX5_keepIfBetter 33 = .ok (.aload_n 0, 1) := by decide +kernel
theorem dX5_keepIfBetter_34 : decode cX5_keepIfBetter 34 = .ok (.getfield 12, 3) := by decide +kernel
theorem dX5_keepIfBetter_37 : decode cX5_keepIfBetter 37 = .ok (.getfield 69, 3) := by decide +kernel
theorem dX5_keepIfBetter_40 : decode cX5_keepIfBetter 40 = .ok (.aload_n 0, 1) := by decide +kernel
theorem dX5_keepIfBetter_41 : decode cX5_keepIfBetter 41 = .ok (.getfield 39, 3) := by decide +kernel
theorem dX5_keepIfBetter_44 : decode cX5_keepIfBetter 44 = .ok (.getfield 69, 3) := by decide +kernel
theorem dX5_keepIfBetter_47 : decode cX5_keepIfBetter 47 = .ok (.if_icmp .lt 28, 3) := by decide +kernel
theorem dX5_keepIfBetter_50 : decode cX5_keepIfBetter 50 = .ok (.aload_n 0, 1) := by decide +kernel
theorem dX5_keepIfBetter_51 : decode cX5_keepIfBetter 51 = .ok (.getfield 12, 3) := by decide +kernel
theorem dX5_keepIfBetter_54 : decode cX5_keepIfBetter 54 = .ok (.getfield 69, 3) := by decide +kernel
theorem dX5_keepIfBetter_57 : decode cX5_keepIfBetter 57 = .ok (.aload_n 0, 1) := by decide +kernel
theorem dX5_keepIfBetter_58 : decode cX5_keepIfBetter 58 = .ok (.getfield 39, 3) := by decide +kernel
theorem dX5_keepIfBetter_61 : decode cX5_keepIfBetter 61 = .ok (.getfield 69, 3) := by decide +kernel
theorem dX5_keepIfBetter_64 : decode cX5_keepIfBetter 64 = .ok (.if_icmp .ne 15, 3) := by decide +kernel
theorem dX5_keepIfBetter_67 : decode cX5_keepIfBetter 67 = .ok (.iload_n 1, 1) := by decide +kernel
theorem dX5_keepIfBetter_68 : decode cX5_keepIfBetter 68 = .ok (.aload_n 0, 1) := by decide +kernel
theorem dX5_keepIfBetter_69 : decode cX5_keepIfBetter 69 = .ok (.getfield 36, 3) := by decide +kernel
theorem dX5_keepIfBetter_72 : decode cX5_keepIfBetter 72 = .ok (.if_icmp .ge 7, 3) := by decide +kernel
theorem dX5_keepIfBetter_75 : decode cX5_keepIfBetter 75 = .ok (.iconst 1, 1) := by decide +kernel
theorem dX5_keepIfBetter_76 : decode cX5_keepIfBetter 76 = .ok (.goto 4, 3) := by decide +kernel
theorem dX5_keepIfBetter_79 : decode cX5_keepIfBetter 79 = .ok (.iconst 0, 1) := by decide +kernel
theorem dX5_keepIfBetter_80 : decode cX5_keepIfBetter 80 = .ok (.istore_n 3, 1) := by decide +kernel
theorem dX5_keepIfBetter_81 : decode cX5_keepIfBetter 81 = .ok (.iload_n 3, 1) := by decide +kernel
theorem dX5_keepIfBetter_82 : decode cX5_keepIfBetter 82 = .ok (.ifCond .ne 4, 3) := by decide +kernel
theorem dX5_keepIfBetter_85 : decode cX5_keepIfBetter 85 = .ok (.return_, 1) := by decide +kernel
theorem dX5_keepIfBetter_86 : decode cX5_keepIfBetter 86 = .ok (.aload_n 0, 1) := by decide +kernel
theorem dX5_keepIfBetter_87 : decode cX5_keepIfBetter 87 = .ok (.iconst 1, 1) := by decide +kernel
theorem dX5_keepIfBetter_88 : decode cX5_keepIfBetter 88 = .ok (.putfield 42, 3) := by decide +kernel
theorem dX5_keepIfBetter_91 : decode cX5_keepIfBetter 91 = .ok (.aload_n 0, 1) := by decide +kernel
theorem dX5_keepIfBetter_92 : decode cX5_keepIfBetter 92 = .ok (.iload_n 2, 1) := by decide +kernel
theorem dX5_keepIfBetter_93 : decode cX5_keepIfBetter 93 = .ok (.putfield 45, 3) := by decide +kernel
theorem dX5_keepIfBetter_96 : decode cX5_keepIfBetter 96 = .ok (.aload_n 0, 1) := by decide +kernel
theorem dX5_keepIfBetter_97 : decode cX5_keepIfBetter 97 = .ok (.iload_n 1, 1) := by decide +kernel
theorem dX5_keepIfBetter_98 : decode cX5_keepIfBetter 98 = .ok (.putfield 36, 3) := by decide +kernel
theorem dX5_keepIfBetter_101 : decode cX5_keepIfBetter 101 = .ok (.aload_n 0, 1) := by decide +kernel
theorem dX5_keepIfBetter_102 : decode cX5_keepIfBetter 102 = .ok (.getfield 39, 3) := by decide +kernel
theorem dX5_keepIfBetter_105 : decode cX5_keepIfBetter 105 = .ok (.aload_n 0, 1) := by decide +kernel
theorem dX5_keepIfBetter_106 : decode cX5_keepIfBetter 106 = .ok (.getfield 12, 3) := by decide +kernel
theorem dX5_keepIfBetter_109 : decode cX5_keepIfBetter 109 = .ok (.invokevirtual 120, 3) := by decide +kernel
theorem dX5_keepIfBetter_112 : decode cX5_keepIfBetter 112 = .ok (.return_, 1) := by decide +kernel
theorem dX5_goOn_0 : decode cX5_goOn 0 = .ok (.aload_n 0, 1) := by decide +kernel
theorem dX5_goOn_1 : decode cX5_goOn 1 = .ok (.getfield 54, 3) := by decide +kernel
theorem dX5_goOn_4 : decode cX5_goOn 4 = .ok (.getfield 81, 3) := by decide +kernel
theorem dX5_goOn_7 : decode cX5_goOn 7 = .ok (.aload_n 0, 1) := by decide +kernel
theorem dX5_goOn_8 : decode cX5_goOn 8 = .ok (.getfield 22, 3) := by decide +kernel
theorem dX5_goOn_11 : decode cX5_goOn 11 = .ok (.iload_n 1, 1) := by decide +kernel
theorem dX5_goOn_12 : decode cX5_goOn 12 = .ok (.iaload, 1) := by decide +kernel
theorem dX5_goOn_13 : decode cX5_goOn 13 = .ok (.iaload, 1) := by decide +kernel
theorem dX5_goOn_14 : decode cX5_goOn 14 = .ok (.istore 5, 2) := by decide +kernel
theorem dX5_goOn_16 : decode cX5_goOn 16 = .ok (.aload_n 0, 1) := by decide +kernel
theorem dX5_goOn_17 : decode cX5_goOn 17 = .ok (.getfield 18, 3) := by decide +kernel
theorem dX5_goOn_20 : decode cX5_goOn 20 = .ok (.iload 5, 2) := by decide +kernel
theorem dX5_goOn_22 : decode cX5_goOn 22 = .ok (.iaload, 1) := by decide +kernel
theorem dX5_goOn_23 : decode cX5_goOn 23 = .ok (.ifCond .le 66, 3) := by decide +kernel
theorem dX5_goOn_26 : decode cX5_goOn 26 = .ok (.aload_n 0, 1) := by decide +kernel
theorem dX5_goOn_27 : decode cX5_goOn 27 = .ok (.getfield 18, 3) := by decide +kernel
theorem dX5_goOn_30 : decode cX5_goOn 30 = .ok (.iload 5, 2) := by decide +kernel
theorem dX5_goOn_32 : decode cX5_goOn 32 = .ok (.dup2, 1) := by decide +kernel
theorem dX5_goOn_33 : decode cX5_goOn 33 = .ok (.iaload, 1) := by decide +kernel
theorem dX5_goOn_34 : decode cX5_goOn 34 = .ok (.iconst 1, 1) := by decide +kernel
theorem dX5_goOn_35 : decode cX5_goOn 35 = .ok (.isub, 1) := by decide +kernel
theorem dX5_goOn_36 : decode cX5_goOn 36 = .ok (.iastore, 1) := by decide +kernel
theorem dX5_goOn_37 : decode cX5_goOn 37 = .ok (.aload_n 0, 1) := by decide +kernel
theorem dX5_goOn_38 : decode cX5_goOn 38 = .ok (.getfield 12, 3) := by decide +kernel
theorem dX5_goOn_41 : decode cX5_goOn 41 = .ok (.aload_n 0, 1) := by decide +kernel
theorem dX5_goOn_42 : decode cX5_goOn 42 = .ok (.getfield 22, 3) := by decide +kernel
theorem dX5_goOn_45 : decode cX5_goOn 45 = .ok (.iload_n 1, 1) := by decide +kernel
theorem dX5_goOn_46 : decode cX5_goOn 46 = .ok (.iaload, 1) := by decide +kernel
theorem dX5_goOn_47 : decode cX5_goOn 47 = .ok (.iload 5, 2) := by decide +kernel
theorem dX5_goOn_49 : decode cX5_goOn 49 = .ok (.invokevirtual 113, 3) := by decide +kernel
theorem dX5_goOn_52 : decode cX5_goOn 52 = .ok (.istore 6, 2) := by decide +kernel
theorem dX5_goOn_54 : decode cX5_goOn 54 = .ok (.aload_n 0, 1) := by decide +kernel
theorem dX5_goOn_55 : decode cX5_goOn 55 = .ok (.iload_n 1, 1) := by decide +kernel
theorem dX5_goOn_56 : decode cX5_goOn 56 = .ok (.iconst 1, 1) := by decide +kernel
theorem dX5_goOn_57 : decode cX5_goOn 57 = .ok (.iadd, 1) := by decide +kernel
theorem dX5_goOn_58 : decode cX5_goOn 58 = .ok (.iload_n 2, 1) := by decide +kernel
theorem dX5_goOn_59 : decode cX5_goOn 59 = .ok (.iconst 1, 1) := by decide +kernel
theorem dX5_goOn_60 : decode cX5_goOn 60 = .ok (.iload_n 1, 1) := by decide +kernel
theorem dX5_goOn_61 : decode cX5_goOn 61 = .ok (.ishl, 1) := by decide +kernel
theorem dX5_goOn_62 : decode cX5_goOn 62 = .ok (.ior, 1) := by decide +kernel
theorem dX5_goOn_63 : decode cX5_goOn 63 = .ok (.iload_n 3, 1) := by decide +kernel
theorem dX5_goOn_64 : decode cX5_goOn 64 = .ok (.iload 4, 2) := by decide +kernel
theorem dX5_goOn_66 : decode cX5_goOn 66 = .ok (.invokevirtual 65, 3) := by decide +kernel
theorem dX5_goOn_69 : decode cX5_goOn 69 = .ok (.aload_n 0, 1) := by decide +kernel
theorem dX5_goOn_70 : decode cX5_goOn 70 = .ok (.getfield 12, 3) := by decide +kernel
theorem dX5_goOn_73 : decode cX5_goOn 73 = .ok (.iload 6, 2) := by decide +kernel
theorem dX5_goOn_75 : decode cX5_goOn 75 = .ok (.invokevirtual 117, 3) := by decide +kernel
theorem dX5_goOn_78 : decode cX5_goOn 78 = .ok (.aload_n 0, 1) := by decide +kernel
theorem dX5_goOn_79 : decode cX5_goOn 79 = .ok (.getfield 18, 3) := by decide +kernel
theorem dX5_goOn_82 : decode cX5_goOn 82 = .ok (.iload 5, 2) := by decide +kernel
theorem dX5_goOn_84 : decode cX5_goOn 84 = .ok (.dup2, 1) := by decide +kernel
theorem dX5_goOn_85 : decode cX5_goOn 85 = .ok (.iaload, 1) := by decide +kernel
theorem dX5_goOn_86 : decode cX5_goOn 86 = .ok (.iconst 1, 1) := by decide +kernel
theorem dX5_goOn_87 : decode cX5_goOn 87 = .ok (.iadd, 1) := by decide +kernel
theorem dX5_goOn_88 : decode cX5_goOn 88 = .ok (.iastore, 1) := by decide +kernel
theorem dX5_goOn_89 : decode cX5_goOn 89 = .ok (.aload_n 0, 1) := by decide +kernel
theorem dX5_goOn_90 : decode cX5_goOn 90 = .ok (.iload_n 1, 1) := by decide +kernel
theorem dX5_goOn_91 : decode cX5_goOn 91 = .ok (.iconst 1, 1) := by decide +kernel
theorem dX5_goOn_92 : decode cX5_goOn 92 = .ok (.iadd, 1) := by decide +kernel
theorem dX5_goOn_93 : decode cX5_goOn 93 = .ok (.iload_n 2, 1) := by decide +kernel
theorem dX5_goOn_94 : decode cX5_goOn 94 = .ok (.iload_n 3, 1) := by decide +kernel
theorem dX5_goOn_95 : decode cX5_goOn 95 = .ok (.iload 4, 2) := by decide +kernel
theorem dX5_goOn_97 : decode cX5_goOn 97 = .ok (.invokevirtual 65, 3) := by decide +kernel
theorem dX5_goOn_100 : decode cX5_goOn 100 = .ok (.return_, 1) := by decide +kernel
theorem dX5_choose_0 : decode cX5_choose 0 = .ok (.iload_n 1, 1) := by decide +kernel
theorem dX5_choose_1 : decode cX5_choose 1 = .ok (.aload_n 0, 1) := by decide +kernel
theorem dX5_choose_2 : decode cX5_choose 2 = .ok (.getfield 25, 3) := by decide +kernel
theorem dX5_choose_5 : decode cX5_choose 5 = .ok (.if_icmp .le 4, 3) := by decide +kernel
theorem dX5_choose_8 : decode cX5_choose 8 = .ok (.return_, 1) := by decide +kernel
theorem dX5_choose_9 : decode cX5_choose 9 = .ok (.iload_n 1, 1) := by decide +kernel
theorem dX5_choose_10 : decode cX5_choose 10 = .ok (.ifCond .ne 7, 3) := by decide +kernel
theorem dX5_choose_13 : decode cX5_choose 13 = .ok (.iconst 1, 1) := by decide +kernel
theorem dX5_choose_14 : decode cX5_choose 14 = .ok (.goto 11, 3) := by decide +kernel
theorem dX5_choose_17 : decode cX5_choose 17 = .ok (.aload_n 0, 1) := by decide +kernel
theorem dX5_choose_18 : decode cX5_choose 18 = .ok (.getfield 22, 3) := by decide +kernel
theorem dX5_choose_21 : decode cX5_choose 21 = .ok (.iload_n 1, 1) := by decide +kernel
theorem dX5_choose_22 : decode cX5_choose 22 = .ok (.iconst 1, 1) := by decide +kernel
theorem dX5_choose_23 : decode cX5_choose 23 = .ok (.isub, 1) := by decide +kernel
theorem dX5_choose_24 : decode cX5_choose 24 = .ok (.iaload, 1) := by decide +kernel
theorem dX5_choose_25 : decode cX5_choose 25 = .ok (.istore 5, 2) := by decide +kernel
theorem dX5_choose_27 : decode cX5_choose 27 = .ok (.iload_n 1, 1) := by decide +kernel
theorem dX5_choose_28 : decode cX5_choose 28 = .ok (.aload_n 0, 1) := by decide +kernel
theorem dX5_choose_29 : decode cX5_choose 29 = .ok (.getfield 25, 3) := by decide +kernel
theorem dX5_choose_32 : decode cX5_choose 32 = .ok (.if_icmp .ne 13, 3) := by decide +kernel
theorem dX5_choose_35 : decode cX5_choose 35 = .ok (.aload_n 0, 1) := by decide +kernel
theorem dX5_choose_36 : decode cX5_choose 36 = .ok (.getfield 54, 3) := by decide +kernel
theorem dX5_choose_39 : decode cX5_choose 39 = .ok (.invokevirtual 77, 3) := by decide +kernel
theorem dX5_choose_42 : decode cX5_choose 42 = .ok (.goto 11, 3) := by decide +kernel
theorem dX5_choose_45 : decode cX5_choose 45 = .ok (.aload_n 0, 1) := by decide +kernel
theorem dX5_choose_46 : decode cX5_choose 46 = .ok (.getfield 22, 3) := by decide +kernel
theorem dX5_choose_49 : decode cX5_choose 49 = .ok (.iload_n 1, 1) := by decide +kernel
theorem dX5_choose_50 : decode cX5_choose 50 = .ok (.iaload, 1) := by decide +kernel
theorem dX5_choose_51 : decode cX5_choose 51 = .ok (.iconst 1, 1) := by decide +kernel
theorem dX5_choose_52 : decode cX5_choose 52 = .ok (.isub, 1) := by decide +kernel
theorem dX5_choose_53 : decode cX5_choose 53 = .ok (.istore 6, 2) := by decide +kernel
theorem dX5_choose_55 : decode cX5_choose 55 = .ok (.aload_n 0, 1) := by decide +kernel
theorem dX5_choose_56 : decode cX5_choose 56 = .ok (.getfield 58, 3) := by decide +kernel
theorem dX5_choose_59 : decode cX5_choose 59 = .ok (.iload_n 3, 1) := by decide +kernel
theorem dX5_choose_60 : decode cX5_choose 60 = .ok (.invokevirtual 84, 3) := by decide +kernel
theorem dX5_choose_63 : decode cX5_choose 63 = .ok (.aload_n 0, 1) := by decide +kernel
theorem dX5_choose_64 : decode cX5_choose 64 = .ok (.getfield 58, 3) := by decide +kernel
theorem dX5_choose_67 : decode cX5_choose 67 = .ok (.aload_n 0, 1) := by decide +kernel
theorem dX5_choose_68 : decode cX5_choose 68 = .ok (.getfield 12, 3) := by decide +kernel
theorem dX5_choose_71 : decode cX5_choose 71 = .ok (.iload 5, 2) := by decide +kernel
theorem dX5_choose_73 : decode cX5_choose 73 = .ok (.iload 6, 2) := by decide +kernel
theorem dX5_choose_75 : decode cX5_choose 75 = .ok (.invokevirtual 89, 3) := by decide +kernel
theorem dX5_choose_78 : decode cX5_choose 78 = .ok (.aload_n 0, 1) := by decide +kernel
theorem dX5_choose_79 : decode cX5_choose 79 = .ok (.getfield 58, 3) := by decide +kernel
theorem dX5_choose_82 : decode cX5_choose 82 = .ok (.getfield 93, 3) := by decide +kernel
theorem dX5_choose_85 : decode cX5_choose 85 = .ok (.ifCond .le 4, 3) := by decide +kernel
theorem dX5_choose_88 : decode cX5_choose 88 = .ok (.return_, 1) := by decide +kernel
theorem dX5_choose_89 : decode cX5_choose 89 = .ok (.aload_n 0, 1) := by decide +kernel
theorem dX5_choose_90 : decode cX5_choose 90 = .ok (.getfield 58, 3) := by decide +kernel
theorem dX5_choose_93 : decode cX5_choose 93 = .ok (.getfield 96, 3) := by decide +kernel
theorem dX5_choose_96 : decode cX5_choose 96 = .ok (.istore 7, 2) := by decide +kernel
theorem dX5_choose_98 : decode cX5_choose 98 = .ok (.iload 4, 2) := by decide +kernel
theorem dX5_choose_100 : decode cX5_choose 100 = .ok (.aload_n 0, 1) := by decide +kernel
theorem dX5_choose_101 : decode cX5_choose 101 = .ok (.getfield 58, 3) := by decide +kernel
theorem dX5_choose_104 : decode cX5_choose 104 = .ok (.aload_n 0, 1) := by decide +kernel
theorem dX5_choose_105 : decode cX5_choose 105 = .ok (.getfield 12, 3) := by decide +kernel
theorem dX5_choose_108 : decode cX5_choose 108 = .ok (.aload_n 0, 1) := by decide +kernel
theorem dX5_choose_109 : decode cX5_choose 109 = .ok (.getfield 12, 3) := by decide +kernel
theorem dX5_choose_112 : decode cX5_choose 112 = .ok (.invokevirtual 99, 3) := by decide +kernel
theorem dX5_choose_115 : decode cX5_choose 115 = .ok (.iload 5, 2) := by decide +kernel
theorem dX5_choose_117 : decode cX5_choose 117 = .ok (.iload 6, 2) := by decide +kernel
theorem dX5_choose_119 : decode cX5_choose 119 = .ok (.invokevirtual 102, 3) := by decide +kernel
theorem dX5_choose_122 : decode cX5_choose 122 = .ok (.iadd, 1) := by decide +kernel
theorem dX5_choose_123 : decode cX5_choose 123 = .ok (.istore 8, 2) := by decide +kernel
theorem dX5_choose_125 : decode cX5_choose 125 = .ok (.aload_n 0, 1) := by decide +kernel
theorem dX5_choose_126 : decode cX5_choose 126 = .ok (.getfield 42, 3) := by decide +kernel
theorem dX5_choose_129 : decode cX5_choose 129 = .ok (.ifCond .eq 13, 3) := by decide +kernel
theorem dX5_choose_132 : decode cX5_choose 132 = .ok (.iload 8, 2) := by decide +kernel
theorem dX5_choose_134 : decode cX5_choose 134 = .ok (.aload_n 0, 1) := by decide +kernel
theorem dX5_choose_135 : decode cX5_choose 135 = .ok (.getfield 45, 3) := by decide +kernel
theorem dX5_choose_138 : decode cX5_choose 138 = .ok (.if_icmp .le 4, 3) := by decide +kernel
theorem dX5_choose_141 : decode cX5_choose 141 = .ok (.return_, 1) := by decide +kernel
theorem dX5_choose_142 : decode cX5_choose 142 = .ok (.iload_n 1, 1) := by decide +kernel
theorem dX5_choose_143 : decode cX5_choose 143 = .ok (.aload_n 0, 1) := by decide +kernel
theorem dX5_choose_144 : decode cX5_choose 144 = .ok (.getfield 25, 3) := by decide +kernel
theorem dX5_choose_147 : decode cX5_choose 147 = .ok (.if_icmp .ne 13, 3) := by decide +kernel
theorem dX5_choose_150 : decode cX5_choose 150 = .ok (.aload_n 0, 1) := by decide +kernel
theorem dX5_choose_151 : decode cX5_choose 151 = .ok (.iload_n 2, 1) := by decide +kernel
theorem dX5_choose_152 : decode cX5_choose 152 = .ok (.iload 8, 2) := by decide +kernel
theorem dX5_choose_154 : decode cX5_choose 154 = .ok (.invokevirtual 106, 3) := by decide +kernel
theorem dX5_choose_157 : decode cX5_choose 157 = .ok (.goto 13, 3) := by decide +kernel
theorem dX5_choose_160 : decode cX5_choose 160 = .ok (.aload_n 0, 1) := by decide +kernel
theorem dX5_choose_161 : decode cX5_choose 161 = .ok (.iload_n 1, 1) := by decide +kernel
theorem dX5_choose_162 : decode cX5_choose 162 = .ok (.iload_n 2, 1) := by decide +kernel
theorem dX5_choose_163 : decode cX5_choose 163 = .ok (.iload 7, 2) := by decide +kernel
theorem dX5_choose_165 : decode cX5_choose 165 = .ok (.iload 8, 2) := by decide +kernel
theorem dX5_choose_167 : decode cX5_choose 167 = .ok (.invokevirtual 110, 3) := by decide +kernel
theorem dX5_choose_170 : decode cX5_choose 170 = .ok (.return_, 1) := by decide +kernel
theorem dX5_findPlan_0 : decode cX5_findPlan 0 = .ok (.aload_n 0, 1) := by decide +kernel
theorem dX5_findPlan_1 : decode cX5_findPlan 1 = .ok (.getfield 29, 3) := by decide +kernel
theorem dX5_findPlan_4 : decode cX5_findPlan 4 = .ok (.ifCond .eq 4, 3) := by decide +kernel
theorem dX5_findPlan_7 : decode cX5_findPlan 7 = .ok (.return_, 1) := by decide +kernel
theorem dX5_findPlan_8 : decode cX5_findPlan 8 = .ok (.aload_n 0, 1) := by decide +kernel
theorem dX5_findPlan_9 : decode cX5_findPlan 9 = .ok (.iconst 1, 1) := by decide +kernel
theorem dX5_findPlan_10 : decode cX5_findPlan 10 = .ok (.putfield 29, 3) := by decide +kernel
theorem dX5_findPlan_13 : decode cX5_findPlan 13 = .ok (.aload_n 0, 1) := by decide +kernel
theorem dX5_findPlan_14 : decode cX5_findPlan 14 = .ok (.iconst 0, 1) := by decide +kernel
theorem dX5_findPlan_15 : decode cX5_findPlan 15 = .ok (.putfield 42, 3) := by decide +kernel
theorem dX5_findPlan_18 : decode cX5_findPlan 18 = .ok (.aload_n 0, 1) := by decide +kernel
theorem dX5_findPlan_19 : decode cX5_findPlan 19 = .ok (.invokevirtual 62, 3) := by decide +kernel
theorem dX5_findPlan_22 : decode cX5_findPlan 22 = .ok (.aload_n 0, 1) := by decide +kernel
theorem dX5_findPlan_23 : decode cX5_findPlan 23 = .ok (.iconst 0, 1) := by decide +kernel
theorem dX5_findPlan_24 : decode cX5_findPlan 24 = .ok (.iconst 0, 1) := by decide +kernel
theorem dX5_findPlan_25 : decode cX5_findPlan 25 = .ok (.iconst 0, 1) := by decide +kernel
theorem dX5_findPlan_26 : decode cX5_findPlan 26 = .ok (.iconst 0, 1) := by decide +kernel
theorem dX5_findPlan_27 : decode cX5_findPlan 27 = .ok (.invokevirtual 65, 3) := by decide +kernel
theorem dX5_findPlan_30 : decode cX5_findPlan 30 = .ok (.return_, 1) := by decide +kernel
theorem dX5_follow_0 : decode cX5_follow 0 = .ok (.aload_n 0, 1) := by decide +kernel
theorem dX5_follow_1 : decode cX5_follow 1 = .ok (.invokevirtual 62, 3) := by decide +kernel
theorem dX5_follow_4 : decode cX5_follow 4 = .ok (.iconst 0, 1) := by decide +kernel
theorem dX5_follow_5 : decode cX5_follow 5 = .ok (.istore_n 2, 1) := by decide +kernel
theorem dX5_follow_6 : decode cX5_follow 6 = .ok (.iconst 0, 1) := by decide +kernel
theorem dX5_follow_7 : decode cX5_follow 7 = .ok (.istore_n 3, 1) := by decide +kernel
theorem dX5_follow_8 : decode cX5_follow 8 = .ok (.iload_n 3, 1) := by decide +kernel
theorem dX5_follow_9 : decode cX5_follow 9 = .ok (.aload_n 0, 1) := by decide +kernel
theorem dX5_follow_10 : decode cX5_follow 10 = .ok (.getfield 25, 3) := by decide +kernel
theorem dX5_follow_13 : decode cX5_follow 13 = .ok (.if_icmp .ge 73, 3) := by decide +kernel
theorem dX5_follow_16 : decode cX5_follow 16 = .ok (.aload_n 0, 1) := by decide +kernel
theorem dX5_follow_17 : decode cX5_follow 17 = .ok (.getfield 22, 3) := by decide +kernel
theorem dX5_follow_20 : decode cX5_follow 20 = .ok (.iload_n 3, 1) := by decide +kernel
theorem dX5_follow_21 : decode cX5_follow 21 = .ok (.iaload, 1) := by decide +kernel
theorem dX5_follow_22 : decode cX5_follow 22 = .ok (.istore 4, 2) := by decide +kernel
theorem dX5_follow_24 : decode cX5_follow 24 = .ok (.aload_n 0, 1) := by decide +kernel
theorem dX5_follow_25 : decode cX5_follow 25 = .ok (.getfield 54, 3) := by decide +kernel
theorem dX5_follow_28 : decode cX5_follow 28 = .ok (.getfield 81, 3) := by decide +kernel
theorem dX5_follow_31 : decode cX5_follow 31 = .ok (.iload 4, 2) := by decide +kernel
theorem dX5_follow_33 : decode cX5_follow 33 = .ok (.iaload, 1) := by decide +kernel
theorem dX5_follow_34 : decode cX5_follow 34 = .ok (.istore 5, 2) := by decide +kernel
theorem dX5_follow_36 : decode cX5_follow 36 = .ok (.iload 4, 2) := by decide +kernel
theorem dX5_follow_38 : decode cX5_follow 38 = .ok (.iload_n 2, 1) := by decide +kernel
theorem dX5_follow_39 : decode cX5_follow 39 = .ok (.isub, 1) := by decide +kernel
theorem dX5_follow_40 : decode cX5_follow 40 = .ok (.iload_n 1, 1) := by decide +kernel
theorem dX5_follow_41 : decode cX5_follow 41 = .ok (.if_icmp .lt 39, 3) := by decide +kernel
theorem dX5_follow_44 : decode cX5_follow 44 = .ok (.aload_n 0, 1) := by decide +kernel
theorem dX5_follow_45 : decode cX5_follow 45 = .ok (.getfield 18, 3) := by decide +kernel
theorem dX5_follow_48 : decode cX5_follow 48 = .ok (.iload 5, 2) := by decide +kernel
theorem dX5_follow_50 : decode cX5_follow 50 = .ok (.iaload, 1) := by decide +kernel
theorem dX5_follow_51 : decode cX5_follow 51 = .ok (.ifCond .le 29, 3) := by decide +kernel
theorem dX5_follow_54 : decode cX5_follow 54 = .ok (.aload_n 0, 1) := by decide +kernel
theorem dX5_follow_55 : decode cX5_follow 55 = .ok (.getfield 18, 3) := by decide +kernel
theorem dX5_follow_58 : decode cX5_follow 58 = .ok (.iload 5, 2) := by decide +kernel
theorem dX5_follow_60 : decode cX5_follow 60 = .ok (.dup2, 1) := by decide +kernel
theorem dX5_follow_61 : decode cX5_follow 61 = .ok (.iaload, 1) := by decide +kernel
theorem dX5_follow_62 : decode cX5_follow 62 = .ok (.iconst 1, 1) := by decide +kernel
theorem dX5_follow_63 : decode cX5_follow 63 = .ok (.isub, 1) := by decide +kernel
theorem dX5_follow_64 : decode cX5_follow 64 = .ok (.iastore, 1) := by decide +kernel
theorem dX5_follow_65 : decode cX5_follow 65 = .ok (.aload_n 0, 1) := by decide +kernel
theorem dX5_follow_66 : decode cX5_follow 66 = .ok (.getfield 12, 3) := by decide +kernel
theorem dX5_follow_69 : decode cX5_follow 69 = .ok (.iload 4, 2) := by decide +kernel
theorem dX5_follow_71 : decode cX5_follow 71 = .ok (.iload 5, 2) := by decide +kernel
theorem dX5_follow_73 : decode cX5_follow 73 = .ok (.invokevirtual 113, 3) := by decide +kernel
theorem dX5_follow_76 : decode cX5_follow 76 = .ok (.pop, 1) := by decide +kernel
theorem dX5_follow_77 : decode cX5_follow 77 = .ok (.iload 4, 2) := by decide +kernel
theorem dX5_follow_79 : decode cX5_follow 79 = .ok (.istore_n 2, 1) := by decide +kernel
theorem dX5_follow_80 : decode cX5_follow 80 = .ok (.iinc 3 1, 3) := by decide +kernel
theorem dX5_follow_83 : decode cX5_follow 83 = .ok (.goto (-75), 3) := by decide +kernel
theorem dX5_follow_86 : decode cX5_follow 86 = .ok (.return_, 1) := by decide +kernel
theorem dX5_ruleRisk_0 : decode cX5_ruleRisk 0 = .ok (.aload_n 0, 1) := by decide +kernel
theorem dX5_ruleRisk_1 : decode cX5_ruleRisk 1 = .ok (.getfield 58, 3) := by decide +kernel
theorem dX5_ruleRisk_4 : decode cX5_ruleRisk 4 = .ok (.aload_n 0, 1) := by decide +kernel
theorem dX5_ruleRisk_5 : decode cX5_ruleRisk 5 = .ok (.getfield 12, 3) := by decide +kernel
theorem dX5_ruleRisk_8 : decode cX5_ruleRisk 8 = .ok (.aload_n 0, 1) := by decide +kernel
theorem dX5_ruleRisk_9 : decode cX5_ruleRisk 9 = .ok (.getfield 12, 3) := by decide +kernel
theorem dX5_ruleRisk_12 : decode cX5_ruleRisk 12 = .ok (.invokevirtual 99, 3) := by decide +kernel
theorem dX5_ruleRisk_15 : decode cX5_ruleRisk 15 = .ok (.invokevirtual 124, 3) := by decide +kernel
theorem dX5_ruleRisk_18 : decode cX5_ruleRisk 18 = .ok (.ireturn, 1) := by decide +kernel
theorem dX5_ruleSize_0 : decode cX5_ruleSize 0 = .ok (.aload_n 0, 1) := by decide +kernel
theorem dX5_ruleSize_1 : decode cX5_ruleSize 1 = .ok (.getfield 12, 3) := by decide +kernel
theorem dX5_ruleSize_4 : decode cX5_ruleSize 4 = .ok (.getfield 69, 3) := by decide +kernel
theorem dX5_ruleSize_7 : decode cX5_ruleSize 7 = .ok (.ireturn, 1) := by decide +kernel
theorem dX5_ruleIsTooMuch_0 : decode cX5_ruleIsTooMuch 0 = .ok (.aload_n 0, 1) := by decide +kernel
theorem dX5_ruleIsTooMuch_1 : decode cX5_ruleIsTooMuch 1 = .ok (.getfield 58, 3) := by decide +kernel
theorem dX5_ruleIsTooMuch_4 : decode cX5_ruleIsTooMuch 4 = .ok (.aload_n 0, 1) := by decide +kernel
theorem dX5_ruleIsTooMuch_5 : decode cX5_ruleIsTooMuch 5 = .ok (.getfield 12, 3) := by decide +kernel
theorem dX5_ruleIsTooMuch_8 : decode cX5_ruleIsTooMuch 8 = .ok (.invokevirtual 128, 3) := by decide +kernel
theorem dX5_ruleIsTooMuch_11 : decode cX5_ruleIsTooMuch 11 = .ok (.aload_n 0, 1) := by decide +kernel
theorem dX5_ruleIsTooMuch_12 : decode cX5_ruleIsTooMuch 12 = .ok (.getfield 58, 3) := by decide +kernel
theorem dX5_ruleIsTooMuch_15 : decode cX5_ruleIsTooMuch 15 = .ok (.getfield 93, 3) := by decide +kernel
theorem dX5_ruleIsTooMuch_18 : decode cX5_ruleIsTooMuch 18 = .ok (.ifCond .le 7, 3) := by decide +kernel
theorem dX5_ruleIsTooMuch_21 : decode cX5_ruleIsTooMuch 21 = .ok (.iconst 1, 1) := by decide +kernel
theorem dX5_ruleIsTooMuch_22 : decode cX5_ruleIsTooMuch 22 = .ok (.goto 4, 3) := by decide +kernel
theorem dX5_ruleIsTooMuch_25 : decode cX5_ruleIsTooMuch 25 = .ok (.iconst 0, 1) := by decide +kernel
theorem dX5_ruleIsTooMuch_26 : decode cX5_ruleIsTooMuch 26 = .ok (.ireturn, 1) := by decide +kernel
theorem dX5_findBest_0 : decode cX5_findBest 0 = .ok (.aload_n 0, 1) := by decide +kernel
theorem dX5_findBest_1 : decode cX5_findBest 1 = .ok (.invokevirtual 131, 3) := by decide +kernel
theorem dX5_findBest_4 : decode cX5_findBest 4 = .ok (.aload_n 0, 1) := by decide +kernel
theorem dX5_findBest_5 : decode cX5_findBest 5 = .ok (.getfield 33, 3) := by decide +kernel
theorem dX5_findBest_8 : decode cX5_findBest 8 = .ok (.ifCond .eq 4, 3) := by decide +kernel
theorem dX5_findBest_11 : decode cX5_findBest 11 = .ok (.return_, 1) := by decide +kernel
theorem dX5_findBest_12 : decode cX5_findBest 12 = .ok (.aload_n 0, 1) := by decide +kernel
theorem dX5_findBest_13 : decode cX5_findBest 13 = .ok (.iconst 1, 1) := by decide +kernel
theorem dX5_findBest_14 : decode cX5_findBest 14 = .ok (.putfield 33, 3) := by decide +kernel
theorem dX5_findBest_17 : decode cX5_findBest 17 = .ok (.aload_n 0, 1) := by decide +kernel
theorem dX5_findBest_18 : decode cX5_findBest 18 = .ok (.iconst 0, 1) := by decide +kernel
theorem dX5_findBest_19 : decode cX5_findBest 19 = .ok (.putfield 48, 3) := by decide +kernel
theorem dX5_findBest_22 : decode cX5_findBest 22 = .ok (.aload_n 0, 1) := by decide +kernel
theorem dX5_findBest_23 : decode cX5_findBest 23 = .ok (.iconst 0, 1) := by decide +kernel
theorem dX5_findBest_24 : decode cX5_findBest 24 = .ok (.putfield 51, 3) := by decide +kernel
theorem dX5_findBest_27 : decode cX5_findBest 27 = .ok (.iconst 1, 1) := by decide +kernel
theorem dX5_findBest_28 : decode cX5_findBest 28 = .ok (.istore_n 1, 1) := by decide +kernel
theorem dX5_findBest_29 : decode cX5_findBest 29 = .ok (.iload_n 1, 1) := by decide +kernel
theorem dX5_findBest_30 : decode cX5_findBest 30 = .ok (.bipush 40, 2) := by decide +kernel
theorem dX5_findBest_32 : decode cX5_findBest 32 = .ok (.if_icmp .gt 54, 3) := by decide +kernel
theorem dX5_findBest_35 : decode cX5_findBest 35 = .ok (.aload_n 0, 1) := by decide +kernel
theorem dX5_findBest_36 : decode cX5_findBest 36 = .ok (.iload_n 1, 1) := by decide +kernel
theorem dX5_findBest_37 : decode cX5_findBest 37 = .ok (.invokevirtual 134, 3) := by decide +kernel
theorem dX5_findBest_40 : decode cX5_findBest 40 = .ok (.aload_n 0, 1) := by decide +kernel
theorem dX5_findBest_41 : decode cX5_findBest 41 = .ok (.invokevirtual 137, 3) := by decide +kernel
theorem dX5_findBest_44 : decode cX5_findBest 44 = .ok (.ifCond .eq 6, 3) := by decide +kernel
theorem dX5_findBest_47 : decode cX5_findBest 47 = .ok (.goto 33, 3) := by decide +kernel
theorem dX5_findBest_50 : decode cX5_findBest 50 = .ok (.aload_n 0, 1) := by decide +kernel
theorem dX5_findBest_51 : decode cX5_findBest 51 = .ok (.invokevirtual 141, 3) := by decide +kernel
theorem dX5_findBest_54 : decode cX5_findBest 54 = .ok (.istore_n 2, 1) := by decide +kernel
theorem dX5_findBest_55 : decode cX5_findBest 55 = .ok (.aload_n 0, 1) := by decide +kernel
theorem dX5_findBest_56 : decode cX5_findBest 56 = .ok (.getfield 48, 3) := by decide +kernel
theorem dX5_findBest_59 : decode cX5_findBest 59 = .ok (.ifCond .eq 11, 3) := by decide +kernel
theorem dX5_findBest_62 : decode cX5_findBest 62 = .ok (.iload_n 2, 1) := by decide +kernel
theorem dX5_findBest_63 : decode cX5_findBest 63 = .ok (.aload_n 0, 1) := by decide +kernel
theorem dX5_findBest_64 : decode cX5_findBest 64 = .ok (.getfield 51, 3) := by decide +kernel
theorem dX5_findBest_67 : decode cX5_findBest 67 = .ok (.if_icmp .gt 13, 3) := by decide +kernel
theorem dX5_findBest_70 : decode cX5_findBest 70 = .ok (.aload_n 0, 1) := by decide +kernel
theorem dX5_findBest_71 : decode cX5_findBest 71 = .ok (.iload_n 1, 1) := by decide +kernel
theorem dX5_findBest_72 : decode cX5_findBest 72 = .ok (.putfield 48, 3) := by decide +kernel
theorem dX5_findBest_75 : decode cX5_findBest 75 = .ok (.aload_n 0, 1) := by decide +kernel
theorem dX5_findBest_76 : decode cX5_findBest 76 = .ok (.iload_n 2, 1) := by decide +kernel
theorem dX5_findBest_77 : decode cX5_findBest 77 = .ok (.putfield 51, 3) := by decide +kernel
theorem dX5_findBest_80 : decode cX5_findBest 80 = .ok (.iinc 1 1, 3) := by decide +kernel
theorem dX5_findBest_83 : decode cX5_findBest 83 = .ok (.goto (-54), 3) := by decide +kernel
theorem dX5_findBest_86 : decode cX5_findBest 86 = .ok (.return_, 1) := by decide +kernel
abbrev q_X5_forget  (σ : tw_M) : Option tw_V → tw_M → Prop := fun z τ => z = none ∧ tw_I τ ∧ tw_F (fun c j => (c = 60 ∧ (j = 6 ∨ j = 7))) σ τ ∧ (τ 60 6 = 0)
set_option maxHeartbeats 4000000 in
set_option maxRecDepth 100000 in
theorem c_X5_forget {G : tw_G} (hX : tw_isX G) (σ : tw_M) (hI : tw_I σ) : tw_C G yX5_forget cX5_forget 1 none 0 [vR 60] σ (q_X5_forget σ) := by
  refine tw_met [(0, vR 60)] (by decide +kernel) rfl (Nat.le_of_ble_eq_true rfl) ?_
  refine j_aload_n (pc := 0) dX5_forget_0 rfl rfl ?_
  refine j_iconst (pc := 1) dX5_forget_1 ?_
  refine j_putZ (pc := 2) (by omega) fl_X5_29 fp_X5_6 dX5_forget_2 (a_60 hX) rfl (j_nm (fun σ1 (eσ1 : σ1 = tw_up σ 60 6 0) => ?_))
  have hIσ1 : tw_I σ1 := tw_I_up hI eσ1 (show (0 : Int) ≤ 0 ∧ 0 ≤ 1 from by decide)
  have hFσ1 : tw_F (fun c j => (c = 60 ∧ (j = 6 ∨ j = 7))) σ σ1 := tw_F_up (tw_F_rf) eσ1 (show (60 = 60 ∧ (6 = 6 ∨ 6 = 7)) from ⟨rfl, (Or.inl rfl)⟩)
  refine j_aload_n (pc := 5) dX5_forget_5 rfl rfl ?_
  refine j_iconst (pc := 6) dX5_forget_6 ?_
  refine j_putZ (pc := 7) (by omega) fl_X5_33 fp_X5_7 dX5_forget_7 (a_60 hX) rfl (j_nm (fun σ2 (eσ2 : σ2 = tw_up σ1 60 7 0) => ?_))
  have hIσ2 : tw_I σ2 := tw_I_up hIσ1 eσ2 (show (0 : Int) ≤ 0 ∧ 0 ≤ 1 from by decide)
  have hFσ2 : tw_F (fun c j => (c = 60 ∧ (j = 6 ∨ j = 7))) σ σ2 := tw_F_up hFσ1 eσ2 (show (60 = 60 ∧ (7 = 6 ∨ 7 = 7)) from ⟨rfl, (Or.inr rfl)⟩)
  have y3 : σ2 60 6 = 0 := ((tw_ne1 eσ2 (by (first | decide | omega)))).trans (tw_eq1 eσ1)
  exact j_vret (pc := 10) ⟨rfl, rfl⟩ dX5_forget_10 rfl ⟨rfl, hIσ2, hFσ2, by omega⟩
abbrev q_X5_begin  (σ : tw_M) : Option tw_V → tw_M → Prop := fun z τ => z = none ∧ tw_I τ ∧ tw_F (fun c j => (c = 60 ∧ (j = 5)) ∨ (c = 61 ∧ (j = 0)) ∨ (65 ≤ c ∧ c < 67)) σ τ ∧ (CRK (wW 1 σ) τ) ∧ (τ 61 0 = 0) ∧ (∀ s : Int, 1 ≤ s → s ≤ 10 → τ 65 s.toNat = σ 3 s.toNat)
set_option maxHeartbeats 4000000 in
set_option maxRecDepth 100000 in
theorem l_X5_begin {G : tw_G} (hX : tw_isX G) (σ : tw_M) (hI : tw_I σ) : ∀ N_ : Nat, (∀ (i : Int) (hi : 0 ≤ i ∧ i ≤ 11) (τ : tw_M) (hIτ : tw_I τ) (hFτ : tw_F (fun c j => (c = 60 ∧ (j = 5)) ∨ (c = 61 ∧ (j = 0)) ∨ (65 ≤ c ∧ c < 67)) σ τ) (i0 : τ 61 0 = 0) (i1 : τ 60 5 = 0) (i2 : Cn 65 (σ 3) τ i) (hm : (500 - i).toNat < N_), tw_J G (tw_mt RX5 cX5_begin 2 none 1) (tw_E G (q_X5_begin σ)) 15 [(0, vR 60), (1, vI i)] [] τ) ∧ (∀ (i : Int) (hi : 1 ≤ i ∧ i ≤ 41) (τ : tw_M) (hIτ : tw_I τ) (hFτ : tw_F (fun c j => (c = 60 ∧ (j = 5)) ∨ (c = 61 ∧ (j = 0)) ∨ (65 ≤ c ∧ c < 67)) σ τ) (i0 : τ 61 0 = 0) (i1 : CRB (wW 1 σ) i τ) (i2 : Cn 65 (σ 3) τ 11) (i3 : i ≤ σ 2 0 + 1) (hm : (100 - i).toNat < N_), tw_J G (tw_mt RX5 cX5_begin 2 none 1) (tw_E G (q_X5_begin σ)) 44 [(0, vR 60), (1, vI i)] [] τ) := by
  intro N_
  induction N_ with
  | zero => exact ⟨fun i hi τ hIτ hFτ i0 i1 i2 hm => absurd hm (Nat.not_lt_zero _), fun i hi τ hIτ hFτ i0 i1 i2 i3 hm => absurd hm (Nat.not_lt_zero _)⟩
  | succ N_ ih =>
    refine ⟨?_, ?_⟩
    · intro i hi τ hIτ hFτ i0 i1 i2 hm
      have ft : (1 : Int) ≤ σ 2 0 ∧ σ 2 0 ≤ 40 := hI 2 0
      refine j_iload_n (pc := 15) dX5_begin_15 rfl rfl ?_
      refine j_bipush (pc := 16) dX5_begin_16 rfl ?_
      refine j_icmpR_gt (pc := 18) (tgt := 42) ⟨by omega, by omega⟩ ⟨by omega, by omega⟩ dX5_begin_18 rfl (fun h1 => ?_) (fun h1 => ?_)
      · refine j_iconst (pc := 42) dX5_begin_42 ?_
        refine j_istore_n (pc := 43) (i := 1) (ls' := [(0, vR 60), (1, vI 1)]) [1, 0] dX5_begin_43 rfl (Nat.le_of_ble_eq_true rfl) rfl rfl ?_
        refine j_ls (ls' := [(0, vR 60), (1, vI 1)]) [0, 1] rfl ?_
        exact ih.2 1 (by (first | decide | exact ⟨by omega, by omega⟩)) τ hIτ hFτ (show τ 61 0 = 0 from by omega) (show CRB (wW 1 σ) (1 : Int) τ from (by first | exact CRB_0 (by omega) | exact CRB_p i1 ⟨by omega, by omega⟩ (by omega) (by omega) _ (by omega) _ | exact CRB_n i1 (by omega) (by omega))) (show Cn 65 (σ 3) τ 11 from (by first | exact Cn_F (fun j => rfl) i2 | (rw [show (11 : Int) = i from by omega]; exact i2))) (show (1 : Int) ≤ σ 2 0 + 1 from by omega) (show (100 - (1 : Int)).toNat < N_ from by omega)
      · refine j_aload_n (pc := 21) dX5_begin_21 rfl rfl ?_
        refine j_getR (pc := 22) (r := 65) fl_X5_18 dX5_begin_22 (a_60 hX) rfl ?_
        refine j_iload_n (pc := 25) dX5_begin_25 rfl rfl ?_
        refine j_aload_n (pc := 26) dX5_begin_26 rfl rfl ?_
        refine j_getR (pc := 27) (r := 1) fl_X5_54 dX5_begin_27 (a_60 hX) rfl ?_
        refine j_getR (pc := 30) (r := 3) fl_X5_72 dX5_begin_30 (a_1 hX) rfl ?_
        refine j_iload_n (pc := 33) dX5_begin_33 rfl rfl ?_
        refine j_iald (pc := 34) dX5_begin_34 (a_3 hX) (by omega) (by omega) (by decide) ?_
        have f2 : (0 : Int) ≤ τ 3 (i.toNat) ∧ τ 3 (i.toNat) ≤ 5 := hIτ 3 (i.toNat)
        refine j_iast (pc := 35) dX5_begin_35 (a_65 hX) (by omega) (by omega) (by decide) (j_nm (fun σ3 (eσ3 : σ3 = tw_up τ 65 (i.toNat) (τ 3 (i.toNat))) => ?_))
        have hIσ3 : tw_I σ3 := tw_I_up hIτ eσ3 (show (-2147483648 : Int) ≤ τ 3 (i.toNat) ∧ τ 3 (i.toNat) ≤ 2147483647 from ⟨by omega, by omega⟩)
        have hFσ3 : tw_F (fun c j => (c = 60 ∧ (j = 5)) ∨ (c = 61 ∧ (j = 0)) ∨ (65 ≤ c ∧ c < 67)) σ σ3 := tw_F_up hFτ eσ3 (show (65 = 60 ∧ (i.toNat = 5)) ∨ (65 = 61 ∧ (i.toNat = 0)) ∨ (65 ≤ 65 ∧ 65 < 67) from (Or.inr (Or.inr (by decide))))
        refine j_iinc (pc := 36) (i := 1) (n := 1) (ls' := [(0, vR 60), (1, vI (i + 1))]) [1, 0] dX5_begin_36 rfl (Nat.le_of_ble_eq_true rfl) rfl rfl ?_
        refine j_goto (pc := 39) (tgt := 15) dX5_begin_39 rfl ?_
        refine j_ls (ls' := [(0, vR 60), (1, vI (i + 1))]) [0, 1] rfl ?_
        have y4 : σ3 61 0 = τ 61 0 := (tw_ne1 eσ3 (by (first | decide | omega)))
        have f5 : (0 : Int) ≤ τ 61 0 ∧ τ 61 0 ≤ 10 := hIτ 61 0
        have y6 : σ3 60 5 = τ 60 5 := (tw_ne1 eσ3 (by (first | decide | omega)))
        have f7 : (0 : Int) ≤ τ 60 5 ∧ τ 60 5 ≤ 10 := hIτ 60 5
        exact ih.1 (i + 1) ⟨by omega, by omega⟩ σ3 hIσ3 hFσ3 (show σ3 61 0 = 0 from by omega) (show σ3 60 5 = 0 from by omega) (show Cn 65 (σ 3) σ3 (i + 1) from (by first | exact Cn_0 | exact Cn_up eσ3 (by omega) i2 (hFτ 3 _ (show ¬ ((3 = 60 ∧ (i.toNat = 5)) ∨ (3 = 61 ∧ (i.toNat = 0)) ∨ (65 ≤ 3 ∧ 3 < 67)) from fun h => h.elim (fun h => absurd h.1 (by decide)) (fun h => h.elim (fun h => absurd h.1 (by decide)) (fun h => absurd h (by decide))))) (by omega))) (show (500 - (i + 1)).toNat < N_ from by omega)
    · intro i hi τ hIτ hFτ i0 i1 i2 i3 hm
      have ft : (1 : Int) ≤ σ 2 0 ∧ σ 2 0 ≤ 40 := hI 2 0
      have n20 : τ 2 0 = σ 2 0 := hFτ 2 0 (show ¬ ((2 = 60 ∧ (0 = 5)) ∨ (2 = 61 ∧ (0 = 0)) ∨ (65 ≤ 2 ∧ 2 < 67)) from by decide)
      have r0 : wW 1 σ 100 = σ 2 0 := wW_r (w := 1) (j := 0) (by decide)
      refine j_iload_n (pc := 44) dX5_begin_44 rfl rfl ?_
      refine j_aload_n (pc := 45) dX5_begin_45 rfl rfl ?_
      refine j_getR (pc := 46) (r := 1) fl_X5_54 dX5_begin_46 (a_60 hX) rfl ?_
      refine j_callV (pc := 49) (As := []) (st := [vI i]) (c_X10_top 1 (s_Wall_1 hX) τ hIτ) mv_X5_77 rfl rfl rfl (a_1 hX) dX5_begin_49 ⟨Nat.le_of_ble_eq_true rfl, Nat.le_of_ble_eq_true rfl⟩ ⟨Nat.le_refl _, Nat.le_refl _⟩ rfl (Nat.le_of_ble_eq_true rfl) rfl (fun z8 σ9 hz8 => ?_)
      obtain ⟨r11, rfl, hr11, rfl, q10_0⟩ := hz8
      replace q10_0 : r11 = τ 2 0 := q10_0
      refine j_st (st' := [vI r11, vI i]) rfl ?_
      refine j_icmpR_gt (pc := 52) (tgt := 99) ⟨by omega, by omega⟩ ⟨by omega, by omega⟩ dX5_begin_52 rfl (fun h12 => ?_) (fun h12 => ?_)
      · exact j_vret (pc := 99) ⟨rfl, rfl⟩ dX5_begin_99 rfl ⟨rfl, hIτ, hFτ, (CRB_end i1 (by omega) (by omega) (by omega)), by omega, (fun s s1 s2 => i2 s.toNat (by omega))⟩
      · refine j_aload_n (pc := 55) dX5_begin_55 rfl rfl ?_
        refine j_getI (pc := 56) fl_X5_25 dX5_begin_56 (a_60 hX) rfl ?_
        have f13 : (0 : Int) ≤ τ 60 5 ∧ τ 60 5 ≤ 10 := hIτ 60 5
        refine j_bipush (pc := 59) dX5_begin_59 rfl ?_
        refine j_icmpR_ge (pc := 61) (tgt := 99) ⟨by omega, by omega⟩ ⟨by omega, by omega⟩ dX5_begin_61 rfl (fun h14 => ?_) (fun h14 => ?_)
        · exact j_vret (pc := 99) ⟨rfl, rfl⟩ dX5_begin_99 rfl ⟨rfl, hIτ, hFτ, (CRB_end i1 (by omega) (by omega) (by omega)), by omega, (fun s s1 s2 => i2 s.toNat (by omega))⟩
        · have c9 : cW (wW 1 σ) i.toNat = τ 5 i.toNat := by
            have e := wW_1 (w := 1) (σ := σ) (h := i) ⟨by omega, by omega⟩
            unfold cW
            rw [if_pos (by omega), show ((i.toNat : Nat) : Int) = i from by omega, e]
            exact (hFτ 5 _ (show ¬ ((5 = 60 ∧ (i.toNat = 5)) ∨ (5 = 61 ∧ (i.toNat = 0)) ∨ (65 ≤ 5 ∧ 5 < 67)) from fun h => h.elim (fun h => absurd h.1 (by decide)) (fun h => h.elim (fun h => absurd h.1 (by decide)) (fun h => absurd h (by decide))))).symm
          refine j_aload_n (pc := 64) dX5_begin_64 rfl rfl ?_
          refine j_getR (pc := 65) (r := 1) fl_X5_54 dX5_begin_65 (a_60 hX) rfl ?_
          refine j_getR (pc := 68) (r := 5) fl_X5_81 dX5_begin_68 (a_1 hX) rfl ?_
          refine j_iload_n (pc := 71) dX5_begin_71 rfl rfl ?_
          refine j_iald (pc := 72) dX5_begin_72 (a_5 hX) (by omega) (by omega) (by decide) ?_
          have f15 : (0 : Int) ≤ τ 5 (i.toNat) ∧ τ 5 (i.toNat) ≤ 10 := hIτ 5 (i.toNat)
          refine j_ifR_eq (pc := 73) (tgt := 93) ⟨by omega, by omega⟩ dX5_begin_73 rfl (fun h16 => ?_) (fun h16 => ?_)
          · refine j_iinc (pc := 93) (i := 1) (n := 1) (ls' := [(0, vR 60), (1, vI (i + 1))]) [1, 0] dX5_begin_93 rfl (Nat.le_of_ble_eq_true rfl) rfl rfl ?_
            refine j_goto (pc := 96) (tgt := 44) dX5_begin_96 rfl ?_
            refine j_ls (ls' := [(0, vR 60), (1, vI (i + 1))]) [0, 1] rfl ?_
            exact ih.2 (i + 1) ⟨by omega, by omega⟩ τ hIτ hFτ (show τ 61 0 = 0 from by omega) (show CRB (wW 1 σ) (i + 1) τ from (by first | exact CRB_0 (by omega) | exact CRB_p i1 ⟨by omega, by omega⟩ (by omega) (by omega) _ (by omega) _ | exact CRB_n i1 (by omega) (by omega))) (show Cn 65 (σ 3) τ 11 from (by first | exact Cn_F (fun j => rfl) i2 | (rw [show (11 : Int) = i from by omega]; exact i2))) (show (i + 1) ≤ σ 2 0 + 1 from by omega) (show (100 - (i + 1)).toNat < N_ from by omega)
          · refine j_aload_n (pc := 76) dX5_begin_76 rfl rfl ?_
            refine j_getR (pc := 77) (r := 66) fl_X5_22 dX5_begin_77 (a_60 hX) rfl ?_
            refine j_aload_n (pc := 80) dX5_begin_80 rfl rfl ?_
            refine j_dup (pc := 81) dX5_begin_81 rfl ?_
            refine j_getI (pc := 82) fl_X5_25 dX5_begin_82 (a_60 hX) rfl ?_
            refine j_dup_x1 (pc := 85) dX5_begin_85 rfl rfl ?_
            refine j_iconst (pc := 86) dX5_begin_86 ?_
            refine j_iadd (pc := 87) dX5_begin_87 ?_
            refine j_putI (pc := 88) fl_X5_25 fp_X5_5 dX5_begin_88 (a_60 hX) rfl (j_nm (fun σ17 (eσ17 : σ17 = tw_up τ 60 5 ((τ 60 5) + 1)) => ?_))
            have hIσ17 : tw_I σ17 := tw_I_up hIτ eσ17 (show (0 : Int) ≤ (τ 60 5) + 1 ∧ (τ 60 5) + 1 ≤ 10 from ⟨by omega, by omega⟩)
            have hFσ17 : tw_F (fun c j => (c = 60 ∧ (j = 5)) ∨ (c = 61 ∧ (j = 0)) ∨ (65 ≤ c ∧ c < 67)) σ σ17 := tw_F_up hFτ eσ17 (show (60 = 60 ∧ (5 = 5)) ∨ (60 = 61 ∧ (5 = 0)) ∨ (65 ≤ 60 ∧ 60 < 67) from (Or.inl ⟨rfl, rfl⟩))
            refine j_iload_n (pc := 91) dX5_begin_91 rfl rfl ?_
            refine j_iast (pc := 92) dX5_begin_92 (a_66 hX) (by omega) (by omega) (by decide) (j_nm (fun σ18 (eσ18 : σ18 = tw_up σ17 66 ((τ 60 5).toNat) i) => ?_))
            have hIσ18 : tw_I σ18 := tw_I_up hIσ17 eσ18 (show (0 : Int) ≤ i ∧ i ≤ 40 from ⟨by omega, by omega⟩)
            have hFσ18 : tw_F (fun c j => (c = 60 ∧ (j = 5)) ∨ (c = 61 ∧ (j = 0)) ∨ (65 ≤ c ∧ c < 67)) σ σ18 := tw_F_up hFσ17 eσ18 (show (66 = 60 ∧ ((τ 60 5).toNat = 5)) ∨ (66 = 61 ∧ ((τ 60 5).toNat = 0)) ∨ (65 ≤ 66 ∧ 66 < 67) from (Or.inr (Or.inr (by decide))))
            refine j_iinc (pc := 93) (i := 1) (n := 1) (ls' := [(0, vR 60), (1, vI (i + 1))]) [1, 0] dX5_begin_93 rfl (Nat.le_of_ble_eq_true rfl) rfl rfl ?_
            refine j_goto (pc := 96) (tgt := 44) dX5_begin_96 rfl ?_
            refine j_ls (ls' := [(0, vR 60), (1, vI (i + 1))]) [0, 1] rfl ?_
            have y19 : σ18 61 0 = τ 61 0 := ((tw_ne1 eσ18 (by (first | decide | omega)))).trans (tw_ne1 eσ17 (by (first | decide | omega)))
            have f20 : (0 : Int) ≤ τ 61 0 ∧ τ 61 0 ≤ 10 := hIτ 61 0
            exact ih.2 (i + 1) ⟨by omega, by omega⟩ σ18 hIσ18 hFσ18 (show σ18 61 0 = 0 from by omega) (show CRB (wW 1 σ) (i + 1) σ18 from (by first | exact CRB_0 (by omega) | exact CRB_p i1 ⟨by omega, by omega⟩ (by omega) (by omega) eσ17 (by omega) eσ18 | exact CRB_n i1 (by omega) (by omega))) (show Cn 65 (σ 3) σ18 11 from (by first | exact Cn_F (fun j => ((tw_ne1 eσ18 (by (first | decide | omega)))).trans (tw_ne1 eσ17 (by (first | decide | omega)))) i2 | (rw [show (11 : Int) = i from by omega]; exact i2))) (show (i + 1) ≤ σ 2 0 + 1 from by omega) (show (100 - (i + 1)).toNat < N_ from by omega)
set_option maxHeartbeats 4000000 in
set_option maxRecDepth 100000 in
theorem c_X5_begin {G : tw_G} (hX : tw_isX G) (σ : tw_M) (hI : tw_I σ) : tw_C G yX5_begin cX5_begin 2 none 1 [vR 60] σ (q_X5_begin σ) := by
  refine tw_met [(0, vR 60)] (by decide +kernel) rfl (Nat.le_of_ble_eq_true rfl) ?_
  refine j_aload_n (pc := 0) dX5_begin_0 rfl rfl ?_
  refine j_getR (pc := 1) (r := 61) fl_X5_12 dX5_begin_1 (a_60 hX) rfl ?_
  refine j_iconst (pc := 4) dX5_begin_4 ?_
  refine j_putI (pc := 5) fl_X5_69 fp_X7_0 dX5_begin_5 (a_61 hX) rfl (j_nm (fun σ21 (eσ21 : σ21 = tw_up σ 61 0 0) => ?_))
  have hIσ21 : tw_I σ21 := tw_I_up hI eσ21 (show (0 : Int) ≤ 0 ∧ 0 ≤ 10 from by decide)
  have hFσ21 : tw_F (fun c j => (c = 60 ∧ (j = 5)) ∨ (c = 61 ∧ (j = 0)) ∨ (65 ≤ c ∧ c < 67)) σ σ21 := tw_F_up (tw_F_rf) eσ21 (show (61 = 60 ∧ (0 = 5)) ∨ (61 = 61 ∧ (0 = 0)) ∨ (65 ≤ 61 ∧ 61 < 67) from (Or.inr (Or.inl ⟨rfl, rfl⟩)))
  refine j_aload_n (pc := 8) dX5_begin_8 rfl rfl ?_
  refine j_iconst (pc := 9) dX5_begin_9 ?_
  refine j_putI (pc := 10) fl_X5_25 fp_X5_5 dX5_begin_10 (a_60 hX) rfl (j_nm (fun σ22 (eσ22 : σ22 = tw_up σ21 60 5 0) => ?_))
  have hIσ22 : tw_I σ22 := tw_I_up hIσ21 eσ22 (show (0 : Int) ≤ 0 ∧ 0 ≤ 10 from by decide)
  have hFσ22 : tw_F (fun c j => (c = 60 ∧ (j = 5)) ∨ (c = 61 ∧ (j = 0)) ∨ (65 ≤ c ∧ c < 67)) σ σ22 := tw_F_up hFσ21 eσ22 (show (60 = 60 ∧ (5 = 5)) ∨ (60 = 61 ∧ (5 = 0)) ∨ (65 ≤ 60 ∧ 60 < 67) from (Or.inl ⟨rfl, rfl⟩))
  refine j_iconst (pc := 13) dX5_begin_13 ?_
  refine j_istore_n (pc := 14) (i := 1) (ls' := [(0, vR 60), (1, vI 0)]) [1, 0] dX5_begin_14 rfl (Nat.le_of_ble_eq_true rfl) rfl rfl ?_
  refine j_ls (ls' := [(0, vR 60), (1, vI 0)]) [0, 1] rfl ?_
  have y23 : σ22 61 0 = 0 := ((tw_ne1 eσ22 (by (first | decide | omega)))).trans (tw_eq1 eσ21)
  have y24 : σ22 60 5 = 0 := (tw_eq1 eσ22)
  exact (l_X5_begin hX σ hI (((500 - (0 : Int)).toNat) + 1)).1 0 (by (first | decide | exact ⟨by omega, by omega⟩)) σ22 hIσ22 hFσ22 (show σ22 61 0 = 0 from by omega) (show σ22 60 5 = 0 from by omega) (show Cn 65 (σ 3) σ22 (0 : Int) from (by first | exact Cn_0 | exact Cn_up eσ22 (by omega) i2 (hFτ 3 _ (show ¬ ((3 = 60 ∧ (i.toNat = 5)) ∨ (3 = 61 ∧ (i.toNat = 0)) ∨ (65 ≤ 3 ∧ 3 < 67)) from fun h => h.elim (fun h => absurd h.1 (by decide)) (fun h => h.elim (fun h => absurd h.1 (by decide)) (fun h => absurd h (by decide))))) (by omega))) (Nat.lt_succ_self _)
abbrev q_X5_keepIfBetter (b : Int) (k : Int) (σ : tw_M) : Option tw_V → tw_M → Prop := fun z τ => z = none ∧ tw_I τ ∧ tw_F (fun c j => (c = 60 ∧ (j = 8 ∨ j = 10 ∨ j = 11)) ∨ (67 ≤ c ∧ c < 71)) σ τ ∧ ((¬ (σ 60 10 = 0 ∨ k < σ 60 11 ∨ (k = σ 60 11 ∧ (σ 61 0 < σ 67 0 ∨ (σ 61 0 = σ 67 0 ∧ b < σ 60 8)))) ∧ τ 60 10 = σ 60 10 ∧ τ 60 8 = σ 60 8 ∧ τ 60 11 = σ 60 11) ∨ ((σ 60 10 = 0 ∨ k < σ 60 11 ∨ (k = σ 60 11 ∧ (σ 61 0 < σ 67 0 ∨ (σ 61 0 = σ 67 0 ∧ b < σ 60 8)))) ∧ τ 60 10 = 1 ∧ τ 60 8 = b ∧ τ 60 11 = k)) ∧ (∀ gg qq : Nat → Int, (σ 60 10 = 0 ∨ k < σ 60 11 ∨ (k = σ 60 11 ∧ (σ 61 0 < σ 67 0 ∨ (σ 61 0 = σ 67 0 ∧ b < σ 60 8)))) → RG 61 gg qq σ → RG 67 gg qq τ) ∧ (∀ gg qq : Nat → Int, ¬ (σ 60 10 = 0 ∨ k < σ 60 11 ∨ (k = σ 60 11 ∧ (σ 61 0 < σ 67 0 ∨ (σ 61 0 = σ 67 0 ∧ b < σ 60 8)))) → RG 67 gg qq σ → RG 67 gg qq τ)
set_option maxHeartbeats 4000000 in
set_option maxRecDepth 100000 in
theorem c_X5_keepIfBetter {G : tw_G} (hX : tw_isX G) (b : Int) (hb : -2147483648 ≤ b ∧ b ≤ 2147483647) (k : Int) (hk : -2147483648 ≤ k ∧ k ≤ 2147483647) (σ : tw_M) (hI : tw_I σ) : tw_C G yX5_keepIfBetter cX5_keepIfBetter 4 none 1 [vR 60, vI b, vI k] σ (q_X5_keepIfBetter b k σ) := by
  refine tw_met [(0, vR 60), (1, vI b), (2, vI k)] (by decide +kernel) rfl (Nat.le_of_ble_eq_true rfl) ?_
  refine j_aload_n (pc := 0) dX5_keepIfBetter_0 rfl rfl ?_
  refine j_getI (pc := 1) fl_X5_42 dX5_keepIfBetter_1 (a_60 hX) rfl ?_
  have f1 : (0 : Int) ≤ σ 60 10 ∧ σ 60 10 ≤ 1 := hI 60 10
  refine j_ifR_eq (pc := 4) (tgt := 15) ⟨by omega, by omega⟩ dX5_keepIfBetter_4 rfl (fun h2 => ?_) (fun h2 => ?_)
  · refine j_iconst (pc := 15) dX5_keepIfBetter_15 ?_
    refine j_goto (pc := 16) (tgt := 20) dX5_keepIfBetter_16 rfl ?_
    refine j_istore_n (pc := 20) (i := 3) (ls' := [(0, vR 60), (1, vI b), (2, vI k), (3, vI 1)]) [1, 2, 3, 0] dX5_keepIfBetter_20 rfl (Nat.le_of_ble_eq_true rfl) rfl rfl ?_
    refine j_iload_n (pc := 21) dX5_keepIfBetter_21 rfl rfl ?_
    refine j_ifR_ne (pc := 22) (tgt := 81) ⟨by omega, by omega⟩ dX5_keepIfBetter_22 rfl (fun h3 => ?_) (fun h3 => by exfalso; omega)
    refine j_iload_n (pc := 81) dX5_keepIfBetter_81 rfl rfl ?_
    refine j_ifR_ne (pc := 82) (tgt := 86) ⟨by omega, by omega⟩ dX5_keepIfBetter_82 rfl (fun h4 => ?_) (fun h4 => by exfalso; omega)
    refine j_aload_n (pc := 86) dX5_keepIfBetter_86 rfl rfl ?_
    refine j_iconst (pc := 87) dX5_keepIfBetter_87 ?_
    refine j_putZ (pc := 88) (by omega) fl_X5_42 fp_X5_10 dX5_keepIfBetter_88 (a_60 hX) rfl (j_nm (fun σ5 (eσ5 : σ5 = tw_up σ 60 10 1) => ?_))
    have hIσ5 : tw_I σ5 := tw_I_up hI eσ5 (show (0 : Int) ≤ 1 ∧ 1 ≤ 1 from by decide)
    have hFσ5 : tw_F (fun c j => (c = 60 ∧ (j = 8 ∨ j = 10 ∨ j = 11)) ∨ (67 ≤ c ∧ c < 71)) σ σ5 := tw_F_up (tw_F_rf) eσ5 (show (60 = 60 ∧ (10 = 8 ∨ 10 = 10 ∨ 10 = 11)) ∨ (67 ≤ 60 ∧ 60 < 71) from (Or.inl ⟨rfl, (Or.inr (Or.inl rfl))⟩))
    refine j_aload_n (pc := 91) dX5_keepIfBetter_91 rfl rfl ?_
    refine j_iload_n (pc := 92) dX5_keepIfBetter_92 rfl rfl ?_
    refine j_putI (pc := 93) fl_X5_45 fp_X5_11 dX5_keepIfBetter_93 (a_60 hX) rfl (j_nm (fun σ6 (eσ6 : σ6 = tw_up σ5 60 11 k) => ?_))
    have hIσ6 : tw_I σ6 := tw_I_up hIσ5 eσ6 (show (-2147483648 : Int) ≤ k ∧ k ≤ 2147483647 from ⟨by omega, by omega⟩)
    have hFσ6 : tw_F (fun c j => (c = 60 ∧ (j = 8 ∨ j = 10 ∨ j = 11)) ∨ (67 ≤ c ∧ c < 71)) σ σ6 := tw_F_up hFσ5 eσ6 (show (60 = 60 ∧ (11 = 8 ∨ 11 = 10 ∨ 11 = 11)) ∨ (67 ≤ 60 ∧ 60 < 71) from (Or.inl ⟨rfl, (Or.inr (Or.inr rfl))⟩))
    refine j_aload_n (pc := 96) dX5_keepIfBetter_96 rfl rfl ?_
    refine j_iload_n (pc := 97) dX5_keepIfBetter_97 rfl rfl ?_
    refine j_putI (pc := 98) fl_X5_36 fp_X5_8 dX5_keepIfBetter_98 (a_60 hX) rfl (j_nm (fun σ7 (eσ7 : σ7 = tw_up σ6 60 8 b) => ?_))
    have hIσ7 : tw_I σ7 := tw_I_up hIσ6 eσ7 (show (-2147483648 : Int) ≤ b ∧ b ≤ 2147483647 from ⟨by omega, by omega⟩)
    have hFσ7 : tw_F (fun c j => (c = 60 ∧ (j = 8 ∨ j = 10 ∨ j = 11)) ∨ (67 ≤ c ∧ c < 71)) σ σ7 := tw_F_up hFσ6 eσ7 (show (60 = 60 ∧ (8 = 8 ∨ 8 = 10 ∨ 8 = 11)) ∨ (67 ≤ 60 ∧ 60 < 71) from (Or.inl ⟨rfl, (Or.inl rfl)⟩))
    refine j_aload_n (pc := 101) dX5_keepIfBetter_101 rfl rfl ?_
    refine j_getR (pc := 102) (r := 67) fl_X5_39 dX5_keepIfBetter_102 (a_60 hX) rfl ?_
    refine j_aload_n (pc := 105) dX5_keepIfBetter_105 rfl rfl ?_
    refine j_getR (pc := 106) (r := 61) fl_X5_12 dX5_keepIfBetter_106 (a_60 hX) rfl ?_
    refine j_callV (pc := 109) (As := [vR 61]) (st := []) (c_X7_copyOf 67 (s_Row_67 hX) 61 (s_Row_61 hX) σ7 hIσ7 (by omega)) mv_X5_120 rfl rfl rfl (a_67 hX) dX5_keepIfBetter_109 ⟨Nat.le_of_ble_eq_true rfl, Nat.le_of_ble_eq_true rfl⟩ ⟨Nat.le_refl _, Nat.le_refl _⟩ rfl (Nat.le_of_ble_eq_true rfl) rfl (fun z8 σ9 hz8 => ?_)
    obtain ⟨rfl, hIσ9, hGσ9, q10_0, q10_1, q10_2⟩ := hz8
    replace q10_0 : ∀ gg qq : Nat → Int, RG 61 gg qq σ7 → RG 67 gg qq σ9 := q10_0
    replace q10_1 : σ9 67 0 = σ7 61 0 := q10_1
    have y12 : σ7 61 0 = σ 61 0 := (((tw_ne1 eσ7 (by (first | decide | omega)))).trans (tw_ne1 eσ6 (by (first | decide | omega)))).trans (tw_ne1 eσ5 (by (first | decide | omega)))
    have f13 : (0 : Int) ≤ σ 61 0 ∧ σ 61 0 ≤ 10 := hI 61 0
    replace q10_2 : ∀ x j : Nat, 1 ≤ x → x < 4 → j < 10 → σ9 (67 + x) j = σ7 (61 + x) j := q10_2
    have hFσ9 : tw_F (fun c j => (c = 60 ∧ (j = 8 ∨ j = 10 ∨ j = 11)) ∨ (67 ≤ c ∧ c < 71)) σ σ9 := tw_F_tr hFσ7 hGσ9 (fun c j q => (show (c = 60 ∧ (j = 8 ∨ j = 10 ∨ j = 11)) ∨ (67 ≤ c ∧ c < 71) from by replace q : (67 ≤ c ∧ c < 71) := q; exact (Or.inr q)))
    refine j_st (st' := []) rfl ?_
    have y14 : σ9 60 10 = 1 := ((((hGσ9 60 10 (show ¬ ((67 ≤ 60 ∧ 60 < 71)) from by decide))).trans (tw_ne1 eσ7 (by (first | decide | omega)))).trans (tw_ne1 eσ6 (by (first | decide | omega)))).trans (tw_eq1 eσ5)
    have y15 : σ9 60 8 = b := ((hGσ9 60 8 (show ¬ ((67 ≤ 60 ∧ 60 < 71)) from by decide))).trans (tw_eq1 eσ7)
    have y16 : σ9 60 11 = k := (((hGσ9 60 11 (show ¬ ((67 ≤ 60 ∧ 60 < 71)) from by decide))).trans (tw_ne1 eσ7 (by (first | decide | omega)))).trans (tw_eq1 eσ6)
    exact j_vret (pc := 112) ⟨rfl, rfl⟩ dX5_keepIfBetter_112 rfl ⟨rfl, hIσ9, hFσ9, by omega, (fun gg qq hb H => by first | exact q10_0 gg qq (RG_F H (fun c j x1 x2 => (tw_ne1 eσ7 (by (first | decide | omega))).trans ((tw_ne1 eσ6 (by (first | decide | omega))).trans (tw_ne1 eσ5 (by (first | decide | omega)))))) | (exfalso; omega)), (fun gg qq hb H => by first | exact H | (exfalso; omega))⟩
  · refine j_iload_n (pc := 7) dX5_keepIfBetter_7 rfl rfl ?_
    refine j_aload_n (pc := 8) dX5_keepIfBetter_8 rfl rfl ?_
    refine j_getI (pc := 9) fl_X5_45 dX5_keepIfBetter_9 (a_60 hX) rfl ?_
    have f17 : (-2147483648 : Int) ≤ σ 60 11 ∧ σ 60 11 ≤ 2147483647 := hI 60 11
    refine j_icmpR_ge (pc := 12) (tgt := 19) ⟨by omega, by omega⟩ ⟨by omega, by omega⟩ dX5_keepIfBetter_12 rfl (fun h18 => ?_) (fun h18 => ?_)
    · refine j_iconst (pc := 19) dX5_keepIfBetter_19 ?_
      refine j_istore_n (pc := 20) (i := 3) (ls' := [(0, vR 60), (1, vI b), (2, vI k), (3, vI 0)]) [1, 2, 3, 0] dX5_keepIfBetter_20 rfl (Nat.le_of_ble_eq_true rfl) rfl rfl ?_
      refine j_iload_n (pc := 21) dX5_keepIfBetter_21 rfl rfl ?_
      refine j_ifR_ne (pc := 22) (tgt := 81) ⟨by omega, by omega⟩ dX5_keepIfBetter_22 rfl (fun h19 => by exfalso; omega) (fun h19 => ?_)
      refine j_iload_n (pc := 25) dX5_keepIfBetter_25 rfl rfl ?_
      refine j_aload_n (pc := 26) dX5_keepIfBetter_26 rfl rfl ?_
      refine j_getI (pc := 27) fl_X5_45 dX5_keepIfBetter_27 (a_60 hX) rfl ?_
      refine j_icmpR_ne (pc := 30) (tgt := 81) ⟨by omega, by omega⟩ ⟨by omega, by omega⟩ dX5_keepIfBetter_30 rfl (fun h20 => ?_) (fun h20 => ?_)
      · refine j_iload_n (pc := 81) dX5_keepIfBetter_81 rfl rfl ?_
        refine j_ifR_ne (pc := 82) (tgt := 86) ⟨by omega, by omega⟩ dX5_keepIfBetter_82 rfl (fun h21 => by exfalso; omega) (fun h21 => ?_)
        exact j_vret (pc := 85) ⟨rfl, rfl⟩ dX5_keepIfBetter_85 rfl ⟨rfl, hI, (tw_F_rf), by omega, (fun gg qq hb H => by first | exact __0 gg qq (RG_F H (fun c j x1 x2 => (tw_ne1 _ (by omega)).trans ((tw_ne1 _ (by omega)).trans (tw_ne1 _ (by omega))))) | (exfalso; omega)), (fun gg qq hb H => by first | exact H | (exfalso; omega))⟩
      · refine j_aload_n (pc := 33) dX5_keepIfBetter_33 rfl rfl ?_
        refine j_getR (pc := 34) (r := 61) fl_X5_12 dX5_keepIfBetter_34 (a_60 hX) rfl ?_
        refine j_getI (pc := 37) fl_X5_69 dX5_keepIfBetter_37 (a_61 hX) rfl ?_
        have f22 : (0 : Int) ≤ σ 61 0 ∧ σ 61 0 ≤ 10 := hI 61 0
        refine j_aload_n (pc := 40) dX5_keepIfBetter_40 rfl rfl ?_
        refine j_getR (pc := 41) (r := 67) fl_X5_39 dX5_keepIfBetter_41 (a_60 hX) rfl ?_
        refine j_getI (pc := 44) fl_X5_69 dX5_keepIfBetter_44 (a_67 hX) rfl ?_
        have f23 : (0 : Int) ≤ σ 67 0 ∧ σ 67 0 ≤ 10 := hI 67 0
        refine j_icmpR_lt (pc := 47) (tgt := 75) ⟨by omega, by omega⟩ ⟨by omega, by omega⟩ dX5_keepIfBetter_47 rfl (fun h24 => ?_) (fun h24 => ?_)
        · refine j_iconst (pc := 75) dX5_keepIfBetter_75 ?_
          refine j_goto (pc := 76) (tgt := 80) dX5_keepIfBetter_76 rfl ?_
          refine j_istore_n (pc := 80) (i := 3) (ls' := [(0, vR 60), (1, vI b), (2, vI k), (3, vI 1)]) [1, 2, 3, 0] dX5_keepIfBetter_80 rfl (Nat.le_of_ble_eq_true rfl) rfl rfl ?_
          refine j_iload_n (pc := 81) dX5_keepIfBetter_81 rfl rfl ?_
          refine j_ifR_ne (pc := 82) (tgt := 86) ⟨by omega, by omega⟩ dX5_keepIfBetter_82 rfl (fun h25 => ?_) (fun h25 => by exfalso; omega)
          refine j_aload_n (pc := 86) dX5_keepIfBetter_86 rfl rfl ?_
          refine j_iconst (pc := 87) dX5_keepIfBetter_87 ?_
          refine j_putZ (pc := 88) (by omega) fl_X5_42 fp_X5_10 dX5_keepIfBetter_88 (a_60 hX) rfl (j_nm (fun σ26 (eσ26 : σ26 = tw_up σ 60 10 1) => ?_))
          have hIσ26 : tw_I σ26 := tw_I_up hI eσ26 (show (0 : Int) ≤ 1 ∧ 1 ≤ 1 from by decide)
          have hFσ26 : tw_F (fun c j => (c = 60 ∧ (j = 8 ∨ j = 10 ∨ j = 11)) ∨ (67 ≤ c ∧ c < 71)) σ σ26 := tw_F_up (tw_F_rf) eσ26 (show (60 = 60 ∧ (10 = 8 ∨ 10 = 10 ∨ 10 = 11)) ∨ (67 ≤ 60 ∧ 60 < 71) from (Or.inl ⟨rfl, (Or.inr (Or.inl rfl))⟩))
          refine j_aload_n (pc := 91) dX5_keepIfBetter_91 rfl rfl ?_
          refine j_iload_n (pc := 92) dX5_keepIfBetter_92 rfl rfl ?_
          refine j_putI (pc := 93) fl_X5_45 fp_X5_11 dX5_keepIfBetter_93 (a_60 hX) rfl (j_nm (fun σ27 (eσ27 : σ27 = tw_up σ26 60 11 k) => ?_))
          have hIσ27 : tw_I σ27 := tw_I_up hIσ26 eσ27 (show (-2147483648 : Int) ≤ k ∧ k ≤ 2147483647 from ⟨by omega, by omega⟩)
          have hFσ27 : tw_F (fun c j => (c = 60 ∧ (j = 8 ∨ j = 10 ∨ j = 11)) ∨ (67 ≤ c ∧ c < 71)) σ σ27 := tw_F_up hFσ26 eσ27 (show (60 = 60 ∧ (11 = 8 ∨ 11 = 10 ∨ 11 = 11)) ∨ (67 ≤ 60 ∧ 60 < 71) from (Or.inl ⟨rfl, (Or.inr (Or.inr rfl))⟩))
          refine j_aload_n (pc := 96) dX5_keepIfBetter_96 rfl rfl ?_
          refine j_iload_n (pc := 97) dX5_keepIfBetter_97 rfl rfl ?_
          refine j_putI (pc := 98) fl_X5_36 fp_X5_8 dX5_keepIfBetter_98 (a_60 hX) rfl (j_nm (fun σ28 (eσ28 : σ28 = tw_up σ27 60 8 b) => ?_))
          have hIσ28 : tw_I σ28 := tw_I_up hIσ27 eσ28 (show (-2147483648 : Int) ≤ b ∧ b ≤ 2147483647 from ⟨by omega, by omega⟩)
          have hFσ28 : tw_F (fun c j => (c = 60 ∧ (j = 8 ∨ j = 10 ∨ j = 11)) ∨ (67 ≤ c ∧ c < 71)) σ σ28 := tw_F_up hFσ27 eσ28 (show (60 = 60 ∧ (8 = 8 ∨ 8 = 10 ∨ 8 = 11)) ∨ (67 ≤ 60 ∧ 60 < 71) from (Or.inl ⟨rfl, (Or.inl rfl)⟩))
          refine j_aload_n (pc := 101) dX5_keepIfBetter_101 rfl rfl ?_
          refine j_getR (pc := 102) (r := 67) fl_X5_39 dX5_keepIfBetter_102 (a_60 hX) rfl ?_
          refine j_aload_n (pc := 105) dX5_keepIfBetter_105 rfl rfl ?_
          refine j_getR (pc := 106) (r := 61) fl_X5_12 dX5_keepIfBetter_106 (a_60 hX) rfl ?_
          refine j_callV (pc := 109) (As := [vR 61]) (st := []) (c_X7_copyOf 67 (s_Row_67 hX) 61 (s_Row_61 hX) σ28 hIσ28 (by omega)) mv_X5_120 rfl rfl rfl (a_67 hX) dX5_keepIfBetter_109 ⟨Nat.le_of_ble_eq_true rfl, Nat.le_of_ble_eq_true rfl⟩ ⟨Nat.le_refl _, Nat.le_refl _⟩ rfl (Nat.le_of_ble_eq_true rfl) rfl (fun z29 σ30 hz29 => ?_)
          obtain ⟨rfl, hIσ30, hGσ30, q31_0, q31_1, q31_2⟩ := hz29
          replace q31_0 : ∀ gg qq : Nat → Int, RG 61 gg qq σ28 → RG 67 gg qq σ30 := q31_0
          replace q31_1 : σ30 67 0 = σ28 61 0 := q31_1
          have y33 : σ28 61 0 = σ 61 0 := (((tw_ne1 eσ28 (by (first | decide | omega)))).trans (tw_ne1 eσ27 (by (first | decide | omega)))).trans (tw_ne1 eσ26 (by (first | decide | omega)))
          replace q31_2 : ∀ x j : Nat, 1 ≤ x → x < 4 → j < 10 → σ30 (67 + x) j = σ28 (61 + x) j := q31_2
          have hFσ30 : tw_F (fun c j => (c = 60 ∧ (j = 8 ∨ j = 10 ∨ j = 11)) ∨ (67 ≤ c ∧ c < 71)) σ σ30 := tw_F_tr hFσ28 hGσ30 (fun c j q => (show (c = 60 ∧ (j = 8 ∨ j = 10 ∨ j = 11)) ∨ (67 ≤ c ∧ c < 71) from by replace q : (67 ≤ c ∧ c < 71) := q; exact (Or.inr q)))
          refine j_st (st' := []) rfl ?_
          have y34 : σ30 60 10 = 1 := ((((hGσ30 60 10 (show ¬ ((67 ≤ 60 ∧ 60 < 71)) from by decide))).trans (tw_ne1 eσ28 (by (first | decide | omega)))).trans (tw_ne1 eσ27 (by (first | decide | omega)))).trans (tw_eq1 eσ26)
          have y35 : σ30 60 8 = b := ((hGσ30 60 8 (show ¬ ((67 ≤ 60 ∧ 60 < 71)) from by decide))).trans (tw_eq1 eσ28)
          have y36 : σ30 60 11 = k := (((hGσ30 60 11 (show ¬ ((67 ≤ 60 ∧ 60 < 71)) from by decide))).trans (tw_ne1 eσ28 (by (first | decide | omega)))).trans (tw_eq1 eσ27)
          exact j_vret (pc := 112) ⟨rfl, rfl⟩ dX5_keepIfBetter_112 rfl ⟨rfl, hIσ30, hFσ30, by omega, (fun gg qq hb H => by first | exact q31_0 gg qq (RG_F H (fun c j x1 x2 => (tw_ne1 eσ28 (by (first | decide | omega))).trans ((tw_ne1 eσ27 (by (first | decide | omega))).trans (tw_ne1 eσ26 (by (first | decide | omega)))))) | (exfalso; omega)), (fun gg qq hb H => by first | exact H | (exfalso; omega))⟩
        · refine j_aload_n (pc := 50) dX5_keepIfBetter_50 rfl rfl ?_
          refine j_getR (pc := 51) (r := 61) fl_X5_12 dX5_keepIfBetter_51 (a_60 hX) rfl ?_
          refine j_getI (pc := 54) fl_X5_69 dX5_keepIfBetter_54 (a_61 hX) rfl ?_
          refine j_aload_n (pc := 57) dX5_keepIfBetter_57 rfl rfl ?_
          refine j_getR (pc := 58) (r := 67) fl_X5_39 dX5_keepIfBetter_58 (a_60 hX) rfl ?_
          refine j_getI (pc := 61) fl_X5_69 dX5_keepIfBetter_61 (a_67 hX) rfl ?_
          refine j_icmpR_ne (pc := 64) (tgt := 79) ⟨by omega, by omega⟩ ⟨by omega, by omega⟩ dX5_keepIfBetter_64 rfl (fun h37 => ?_) (fun h37 => ?_)
          · refine j_iconst (pc := 79) dX5_keepIfBetter_79 ?_
            refine j_istore_n (pc := 80) (i := 3) (ls' := [(0, vR 60), (1, vI b), (2, vI k), (3, vI 0)]) [1, 2, 3, 0] dX5_keepIfBetter_80 rfl (Nat.le_of_ble_eq_true rfl) rfl rfl ?_
            refine j_iload_n (pc := 81) dX5_keepIfBetter_81 rfl rfl ?_
            refine j_ifR_ne (pc := 82) (tgt := 86) ⟨by omega, by omega⟩ dX5_keepIfBetter_82 rfl (fun h38 => by exfalso; omega) (fun h38 => ?_)
            exact j_vret (pc := 85) ⟨rfl, rfl⟩ dX5_keepIfBetter_85 rfl ⟨rfl, hI, (tw_F_rf), by omega, (fun gg qq hb H => by first | exact __0 gg qq (RG_F H (fun c j x1 x2 => (tw_ne1 _ (by omega)).trans ((tw_ne1 _ (by omega)).trans (tw_ne1 _ (by omega))))) | (exfalso; omega)), (fun gg qq hb H => by first | exact H | (exfalso; omega))⟩
          · refine j_iload_n (pc := 67) dX5_keepIfBetter_67 rfl rfl ?_
            refine j_aload_n (pc := 68) dX5_keepIfBetter_68 rfl rfl ?_
            refine j_getI (pc := 69) fl_X5_36 dX5_keepIfBetter_69 (a_60 hX) rfl ?_
            have f39 : (-2147483648 : Int) ≤ σ 60 8 ∧ σ 60 8 ≤ 2147483647 := hI 60 8
            refine j_icmpR_ge (pc := 72) (tgt := 79) ⟨by omega, by omega⟩ ⟨by omega, by omega⟩ dX5_keepIfBetter_72 rfl (fun h40 => ?_) (fun h40 => ?_)
            · refine j_iconst (pc := 79) dX5_keepIfBetter_79 ?_
              refine j_istore_n (pc := 80) (i := 3) (ls' := [(0, vR 60), (1, vI b), (2, vI k), (3, vI 0)]) [1, 2, 3, 0] dX5_keepIfBetter_80 rfl (Nat.le_of_ble_eq_true rfl) rfl rfl ?_
              refine j_iload_n (pc := 81) dX5_keepIfBetter_81 rfl rfl ?_
              refine j_ifR_ne (pc := 82) (tgt := 86) ⟨by omega, by omega⟩ dX5_keepIfBetter_82 rfl (fun h41 => by exfalso; omega) (fun h41 => ?_)
              exact j_vret (pc := 85) ⟨rfl, rfl⟩ dX5_keepIfBetter_85 rfl ⟨rfl, hI, (tw_F_rf), by omega, (fun gg qq hb H => by first | exact __0 gg qq (RG_F H (fun c j x1 x2 => (tw_ne1 _ (by omega)).trans ((tw_ne1 _ (by omega)).trans (tw_ne1 _ (by omega))))) | (exfalso; omega)), (fun gg qq hb H => by first | exact H | (exfalso; omega))⟩
            · refine j_iconst (pc := 75) dX5_keepIfBetter_75 ?_
              refine j_goto (pc := 76) (tgt := 80) dX5_keepIfBetter_76 rfl ?_
              refine j_istore_n (pc := 80) (i := 3) (ls' := [(0, vR 60), (1, vI b), (2, vI k), (3, vI 1)]) [1, 2, 3, 0] dX5_keepIfBetter_80 rfl (Nat.le_of_ble_eq_true rfl) rfl rfl ?_
              refine j_iload_n (pc := 81) dX5_keepIfBetter_81 rfl rfl ?_
              refine j_ifR_ne (pc := 82) (tgt := 86) ⟨by omega, by omega⟩ dX5_keepIfBetter_82 rfl (fun h42 => ?_) (fun h42 => by exfalso; omega)
              refine j_aload_n (pc := 86) dX5_keepIfBetter_86 rfl rfl ?_
              refine j_iconst (pc := 87) dX5_keepIfBetter_87 ?_
              refine j_putZ (pc := 88) (by omega) fl_X5_42 fp_X5_10 dX5_keepIfBetter_88 (a_60 hX) rfl (j_nm (fun σ43 (eσ43 : σ43 = tw_up σ 60 10 1) => ?_))
              have hIσ43 : tw_I σ43 := tw_I_up hI eσ43 (show (0 : Int) ≤ 1 ∧ 1 ≤ 1 from by decide)
              have hFσ43 : tw_F (fun c j => (c = 60 ∧ (j = 8 ∨ j = 10 ∨ j = 11)) ∨ (67 ≤ c ∧ c < 71)) σ σ43 := tw_F_up (tw_F_rf) eσ43 (show (60 = 60 ∧ (10 = 8 ∨ 10 = 10 ∨ 10 = 11)) ∨ (67 ≤ 60 ∧ 60 < 71) from (Or.inl ⟨rfl, (Or.inr (Or.inl rfl))⟩))
              refine j_aload_n (pc := 91) dX5_keepIfBetter_91 rfl rfl ?_
              refine j_iload_n (pc := 92) dX5_keepIfBetter_92 rfl rfl ?_
              refine j_putI (pc := 93) fl_X5_45 fp_X5_11 dX5_keepIfBetter_93 (a_60 hX) rfl (j_nm (fun σ44 (eσ44 : σ44 = tw_up σ43 60 11 k) => ?_))
              have hIσ44 : tw_I σ44 := tw_I_up hIσ43 eσ44 (show (-2147483648 : Int) ≤ k ∧ k ≤ 2147483647 from ⟨by omega, by omega⟩)
              have hFσ44 : tw_F (fun c j => (c = 60 ∧ (j = 8 ∨ j = 10 ∨ j = 11)) ∨ (67 ≤ c ∧ c < 71)) σ σ44 := tw_F_up hFσ43 eσ44 (show (60 = 60 ∧ (11 = 8 ∨ 11 = 10 ∨ 11 = 11)) ∨ (67 ≤ 60 ∧ 60 < 71) from (Or.inl ⟨rfl, (Or.inr (Or.inr rfl))⟩))
              refine j_aload_n (pc := 96) dX5_keepIfBetter_96 rfl rfl ?_
              refine j_iload_n (pc := 97) dX5_keepIfBetter_97 rfl rfl ?_
              refine j_putI (pc := 98) fl_X5_36 fp_X5_8 dX5_keepIfBetter_98 (a_60 hX) rfl (j_nm (fun σ45 (eσ45 : σ45 = tw_up σ44 60 8 b) => ?_))
              have hIσ45 : tw_I σ45 := tw_I_up hIσ44 eσ45 (show (-2147483648 : Int) ≤ b ∧ b ≤ 2147483647 from ⟨by omega, by omega⟩)
              have hFσ45 : tw_F (fun c j => (c = 60 ∧ (j = 8 ∨ j = 10 ∨ j = 11)) ∨ (67 ≤ c ∧ c < 71)) σ σ45 := tw_F_up hFσ44 eσ45 (show (60 = 60 ∧ (8 = 8 ∨ 8 = 10 ∨ 8 = 11)) ∨ (67 ≤ 60 ∧ 60 < 71) from (Or.inl ⟨rfl, (Or.inl rfl)⟩))
              refine j_aload_n (pc := 101) dX5_keepIfBetter_101 rfl rfl ?_
              refine j_getR (pc := 102) (r := 67) fl_X5_39 dX5_keepIfBetter_102 (a_60 hX) rfl ?_
              refine j_aload_n (pc := 105) dX5_keepIfBetter_105 rfl rfl ?_
              refine j_getR (pc := 106) (r := 61) fl_X5_12 dX5_keepIfBetter_106 (a_60 hX) rfl ?_
              refine j_callV (pc := 109) (As := [vR 61]) (st := []) (c_X7_copyOf 67 (s_Row_67 hX) 61 (s_Row_61 hX) σ45 hIσ45 (by omega)) mv_X5_120 rfl rfl rfl (a_67 hX) dX5_keepIfBetter_109 ⟨Nat.le_of_ble_eq_true rfl, Nat.le_of_ble_eq_true rfl⟩ ⟨Nat.le_refl _, Nat.le_refl _⟩ rfl (Nat.le_of_ble_eq_true rfl) rfl (fun z46 σ47 hz46 => ?_)
              obtain ⟨rfl, hIσ47, hGσ47, q48_0, q48_1, q48_2⟩ := hz46
              replace q48_0 : ∀ gg qq : Nat → Int, RG 61 gg qq σ45 → RG 67 gg qq σ47 := q48_0
              replace q48_1 : σ47 67 0 = σ45 61 0 := q48_1
              have y50 : σ45 61 0 = σ 61 0 := (((tw_ne1 eσ45 (by (first | decide | omega)))).trans (tw_ne1 eσ44 (by (first | decide | omega)))).trans (tw_ne1 eσ43 (by (first | decide | omega)))
              replace q48_2 : ∀ x j : Nat, 1 ≤ x → x < 4 → j < 10 → σ47 (67 + x) j = σ45 (61 + x) j := q48_2
              have hFσ47 : tw_F (fun c j => (c = 60 ∧ (j = 8 ∨ j = 10 ∨ j = 11)) ∨ (67 ≤ c ∧ c < 71)) σ σ47 := tw_F_tr hFσ45 hGσ47 (fun c j q => (show (c = 60 ∧ (j = 8 ∨ j = 10 ∨ j = 11)) ∨ (67 ≤ c ∧ c < 71) from by replace q : (67 ≤ c ∧ c < 71) := q; exact (Or.inr q)))
              refine j_st (st' := []) rfl ?_
              have y51 : σ47 60 10 = 1 := ((((hGσ47 60 10 (show ¬ ((67 ≤ 60 ∧ 60 < 71)) from by decide))).trans (tw_ne1 eσ45 (by (first | decide | omega)))).trans (tw_ne1 eσ44 (by (first | decide | omega)))).trans (tw_eq1 eσ43)
              have y52 : σ47 60 8 = b := ((hGσ47 60 8 (show ¬ ((67 ≤ 60 ∧ 60 < 71)) from by decide))).trans (tw_eq1 eσ45)
              have y53 : σ47 60 11 = k := (((hGσ47 60 11 (show ¬ ((67 ≤ 60 ∧ 60 < 71)) from by decide))).trans (tw_ne1 eσ45 (by (first | decide | omega)))).trans (tw_eq1 eσ44)
              exact j_vret (pc := 112) ⟨rfl, rfl⟩ dX5_keepIfBetter_112 rfl ⟨rfl, hIσ47, hFσ47, by omega, (fun gg qq hb H => by first | exact q48_0 gg qq (RG_F H (fun c j x1 x2 => (tw_ne1 eσ45 (by (first | decide | omega))).trans ((tw_ne1 eσ44 (by (first | decide | omega))).trans (tw_ne1 eσ43 (by (first | decide | omega)))))) | (exfalso; omega)), (fun gg qq hb H => by first | exact H | (exfalso; omega))⟩
    · refine j_iconst (pc := 15) dX5_keepIfBetter_15 ?_
      refine j_goto (pc := 16) (tgt := 20) dX5_keepIfBetter_16 rfl ?_
      refine j_istore_n (pc := 20) (i := 3) (ls' := [(0, vR 60), (1, vI b), (2, vI k), (3, vI 1)]) [1, 2, 3, 0] dX5_keepIfBetter_20 rfl (Nat.le_of_ble_eq_true rfl) rfl rfl ?_
      refine j_iload_n (pc := 21) dX5_keepIfBetter_21 rfl rfl ?_
      refine j_ifR_ne (pc := 22) (tgt := 81) ⟨by omega, by omega⟩ dX5_keepIfBetter_22 rfl (fun h54 => ?_) (fun h54 => by exfalso; omega)
      refine j_iload_n (pc := 81) dX5_keepIfBetter_81 rfl rfl ?_
      refine j_ifR_ne (pc := 82) (tgt := 86) ⟨by omega, by omega⟩ dX5_keepIfBetter_82 rfl (fun h55 => ?_) (fun h55 => by exfalso; omega)
      refine j_aload_n (pc := 86) dX5_keepIfBetter_86 rfl rfl ?_
      refine j_iconst (pc := 87) dX5_keepIfBetter_87 ?_
      refine j_putZ (pc := 88) (by omega) fl_X5_42 fp_X5_10 dX5_keepIfBetter_88 (a_60 hX) rfl (j_nm (fun σ56 (eσ56 : σ56 = tw_up σ 60 10 1) => ?_))
      have hIσ56 : tw_I σ56 := tw_I_up hI eσ56 (show (0 : Int) ≤ 1 ∧ 1 ≤ 1 from by decide)
      have hFσ56 : tw_F (fun c j => (c = 60 ∧ (j = 8 ∨ j = 10 ∨ j = 11)) ∨ (67 ≤ c ∧ c < 71)) σ σ56 := tw_F_up (tw_F_rf) eσ56 (show (60 = 60 ∧ (10 = 8 ∨ 10 = 10 ∨ 10 = 11)) ∨ (67 ≤ 60 ∧ 60 < 71) from (Or.inl ⟨rfl, (Or.inr (Or.inl rfl))⟩))
      refine j_aload_n (pc := 91) dX5_keepIfBetter_91 rfl rfl ?_
      refine j_iload_n (pc := 92) dX5_keepIfBetter_92 rfl rfl ?_
      refine j_putI (pc := 93) fl_X5_45 fp_X5_11 dX5_keepIfBetter_93 (a_60 hX) rfl (j_nm (fun σ57 (eσ57 : σ57 = tw_up σ56 60 11 k) => ?_))
      have hIσ57 : tw_I σ57 := tw_I_up hIσ56 eσ57 (show (-2147483648 : Int) ≤ k ∧ k ≤ 2147483647 from ⟨by omega, by omega⟩)
      have hFσ57 : tw_F (fun c j => (c = 60 ∧ (j = 8 ∨ j = 10 ∨ j = 11)) ∨ (67 ≤ c ∧ c < 71)) σ σ57 := tw_F_up hFσ56 eσ57 (show (60 = 60 ∧ (11 = 8 ∨ 11 = 10 ∨ 11 = 11)) ∨ (67 ≤ 60 ∧ 60 < 71) from (Or.inl ⟨rfl, (Or.inr (Or.inr rfl))⟩))
      refine j_aload_n (pc := 96) dX5_keepIfBetter_96 rfl rfl ?_
      refine j_iload_n (pc := 97) dX5_keepIfBetter_97 rfl rfl ?_
      refine j_putI (pc := 98) fl_X5_36 fp_X5_8 dX5_keepIfBetter_98 (a_60 hX) rfl (j_nm (fun σ58 (eσ58 : σ58 = tw_up σ57 60 8 b) => ?_))
      have hIσ58 : tw_I σ58 := tw_I_up hIσ57 eσ58 (show (-2147483648 : Int) ≤ b ∧ b ≤ 2147483647 from ⟨by omega, by omega⟩)
      have hFσ58 : tw_F (fun c j => (c = 60 ∧ (j = 8 ∨ j = 10 ∨ j = 11)) ∨ (67 ≤ c ∧ c < 71)) σ σ58 := tw_F_up hFσ57 eσ58 (show (60 = 60 ∧ (8 = 8 ∨ 8 = 10 ∨ 8 = 11)) ∨ (67 ≤ 60 ∧ 60 < 71) from (Or.inl ⟨rfl, (Or.inl rfl)⟩))
      refine j_aload_n (pc := 101) dX5_keepIfBetter_101 rfl rfl ?_
      refine j_getR (pc := 102) (r := 67) fl_X5_39 dX5_keepIfBetter_102 (a_60 hX) rfl ?_
      refine j_aload_n (pc := 105) dX5_keepIfBetter_105 rfl rfl ?_
      refine j_getR (pc := 106) (r := 61) fl_X5_12 dX5_keepIfBetter_106 (a_60 hX) rfl ?_
      refine j_callV (pc := 109) (As := [vR 61]) (st := []) (c_X7_copyOf 67 (s_Row_67 hX) 61 (s_Row_61 hX) σ58 hIσ58 (by omega)) mv_X5_120 rfl rfl rfl (a_67 hX) dX5_keepIfBetter_109 ⟨Nat.le_of_ble_eq_true rfl, Nat.le_of_ble_eq_true rfl⟩ ⟨Nat.le_refl _, Nat.le_refl _⟩ rfl (Nat.le_of_ble_eq_true rfl) rfl (fun z59 σ60 hz59 => ?_)
      obtain ⟨rfl, hIσ60, hGσ60, q61_0, q61_1, q61_2⟩ := hz59
      replace q61_0 : ∀ gg qq : Nat → Int, RG 61 gg qq σ58 → RG 67 gg qq σ60 := q61_0
      replace q61_1 : σ60 67 0 = σ58 61 0 := q61_1
      have y63 : σ58 61 0 = σ 61 0 := (((tw_ne1 eσ58 (by (first | decide | omega)))).trans (tw_ne1 eσ57 (by (first | decide | omega)))).trans (tw_ne1 eσ56 (by (first | decide | omega)))
      have f64 : (0 : Int) ≤ σ 61 0 ∧ σ 61 0 ≤ 10 := hI 61 0
      replace q61_2 : ∀ x j : Nat, 1 ≤ x → x < 4 → j < 10 → σ60 (67 + x) j = σ58 (61 + x) j := q61_2
      have hFσ60 : tw_F (fun c j => (c = 60 ∧ (j = 8 ∨ j = 10 ∨ j = 11)) ∨ (67 ≤ c ∧ c < 71)) σ σ60 := tw_F_tr hFσ58 hGσ60 (fun c j q => (show (c = 60 ∧ (j = 8 ∨ j = 10 ∨ j = 11)) ∨ (67 ≤ c ∧ c < 71) from by replace q : (67 ≤ c ∧ c < 71) := q; exact (Or.inr q)))
      refine j_st (st' := []) rfl ?_
      have y65 : σ60 60 10 = 1 := ((((hGσ60 60 10 (show ¬ ((67 ≤ 60 ∧ 60 < 71)) from by decide))).trans (tw_ne1 eσ58 (by (first | decide | omega)))).trans (tw_ne1 eσ57 (by (first | decide | omega)))).trans (tw_eq1 eσ56)
      have y66 : σ60 60 8 = b := ((hGσ60 60 8 (show ¬ ((67 ≤ 60 ∧ 60 < 71)) from by decide))).trans (tw_eq1 eσ58)
      have y67 : σ60 60 11 = k := (((hGσ60 60 11 (show ¬ ((67 ≤ 60 ∧ 60 < 71)) from by decide))).trans (tw_ne1 eσ58 (by (first | decide | omega)))).trans (tw_eq1 eσ57)
      exact j_vret (pc := 112) ⟨rfl, rfl⟩ dX5_keepIfBetter_112 rfl ⟨rfl, hIσ60, hFσ60, by omega, (fun gg qq hb H => by first | exact q61_0 gg qq (RG_F H (fun c j x1 x2 => (tw_ne1 eσ58 (by (first | decide | omega))).trans ((tw_ne1 eσ57 (by (first | decide | omega))).trans (tw_ne1 eσ56 (by (first | decide | omega)))))) | (exfalso; omega)), (fun gg qq hb H => by first | exact H | (exfalso; omega))⟩
abbrev q_X5_choose (c : Int) (b : Int) (e : Int) (k : Int) (σ : tw_M) : Option tw_V → tw_M → Prop := fun z τ => z = none ∧ tw_I τ ∧ tw_F (fun c j => (56 ≤ c ∧ c < 58) ∨ (c = 60 ∧ (j = 8 ∨ j = 10 ∨ j = 11)) ∨ (61 ≤ c ∧ c < 66) ∨ (67 ≤ c ∧ c < 71)) σ τ ∧ (∀ (rk : Nat → Int) (T : Int → Prop), WOK (wW 1 σ) → CHP (wW 1 σ) rk c b e k σ → BST (wW 1 σ) rk T σ → CHQ (wW 1 σ) rk b τ ∧ BST (wW 1 σ) rk (fun S => T S ∨ CMP (wW 1 σ) c b S) τ)
abbrev q_X5_goOn (c : Int) (b : Int) (e : Int) (k : Int) (σ : tw_M) : Option tw_V → tw_M → Prop := fun z τ => z = none ∧ tw_I τ ∧ tw_F (fun c j => (56 ≤ c ∧ c < 58) ∨ (c = 60 ∧ (j = 8 ∨ j = 10 ∨ j = 11)) ∨ (61 ≤ c ∧ c < 66) ∨ (67 ≤ c ∧ c < 71)) σ τ ∧ (∀ (rk : Nat → Int) (T : Int → Prop), WOK (wW 1 σ) → GOP (wW 1 σ) rk c b e k σ → BST (wW 1 σ) rk T σ → CHQ (wW 1 σ) rk b τ ∧ BST (wW 1 σ) rk (fun S => T S ∨ CMP (wW 1 σ) c b S) τ)
set_option maxHeartbeats 4000000 in
set_option maxRecDepth 100000 in
theorem c_X5_goOn_step {G : tw_G} (hX : tw_isX G) (N : Nat) (hch : ∀ (c : Int) (hc : 0 ≤ c ∧ c ≤ 11) (b : Int) (hb : -2147483648 ≤ b ∧ b ≤ 2147483647) (e : Int) (he : -2147483648 ≤ e ∧ e ≤ 2147483647) (k : Int) (hk : -2147483648 ≤ k ∧ k ≤ 2147483647) (σ : tw_M) (hI : tw_I σ) (hq0 : 11 - c ≤ (N : Int)), tw_C G yX5_choose cX5_choose 9 none (20 + 2 * N + 1) [vR 60, vI c, vI b, vI e, vI k] σ (q_X5_choose c b e k σ)) (c : Int) (hc : 0 ≤ c ∧ c ≤ 9) (b : Int) (hb : -2147483648 ≤ b ∧ b ≤ 2147483647) (e : Int) (he : -2147483648 ≤ e ∧ e ≤ 2147483647) (k : Int) (hk : -2147483648 ≤ k ∧ k ≤ 2147483647) (σ : tw_M) (hI : tw_I σ) (hq0 : 11 - c ≤ (N : Int) + 1) : tw_C G yX5_goOn cX5_goOn 7 none (20 + 2 * (N + 1)) [vR 60, vI c, vI b, vI e, vI k] σ (q_X5_goOn c b e k σ) := by
  refine tw_met [(0, vR 60), (1, vI c), (2, vI b), (3, vI e), (4, vI k)] (by decide +kernel) rfl (Nat.le_of_ble_eq_true rfl) ?_
  refine j_aload_n (pc := 0) dX5_goOn_0 rfl rfl ?_
  refine j_getR (pc := 1) (r := 1) fl_X5_54 dX5_goOn_1 (a_60 hX) rfl ?_
  refine j_getR (pc := 4) (r := 5) fl_X5_81 dX5_goOn_4 (a_1 hX) rfl ?_
  refine j_aload_n (pc := 7) dX5_goOn_7 rfl rfl ?_
  refine j_getR (pc := 8) (r := 66) fl_X5_22 dX5_goOn_8 (a_60 hX) rfl ?_
  refine j_iload_n (pc := 11) dX5_goOn_11 rfl rfl ?_
  refine j_iald (pc := 12) dX5_goOn_12 (a_66 hX) (by omega) (by omega) (by decide) ?_
  have f1 : (0 : Int) ≤ σ 66 (c.toNat) ∧ σ 66 (c.toNat) ≤ 40 := hI 66 (c.toNat)
  refine j_iald (pc := 13) dX5_goOn_13 (a_5 hX) (by omega) (by omega) (by decide) ?_
  have f2 : (0 : Int) ≤ σ 5 ((σ 66 (c.toNat)).toNat) ∧ σ 5 ((σ 66 (c.toNat)).toNat) ≤ 10 := hI 5 ((σ 66 (c.toNat)).toNat)
  refine j_istore (pc := 14) (i := 5) (ls' := [(0, vR 60), (1, vI c), (2, vI b), (3, vI e), (4, vI k), (5, vI (σ 5 ((σ 66 (c.toNat)).toNat)))]) [1, 2, 3, 4, 5, 0] dX5_goOn_14 (Nat.le_of_ble_eq_true rfl) rfl rfl ?_
  have z9 : (0 : Int) ≤ σ 66 c.toNat ∧ σ 66 c.toNat ≤ 40 := hI 66 _
  have sz : ∀ rk : Nat → Int, GOP (wW 1 σ) rk c b e k σ → (σ 5 ((σ 66 (c.toNat)).toNat)) = cW (wW 1 σ) (σ 66 c.toNat).toNat := fun rk hP => by
    obtain ⟨c1, c2, c3, c4⟩ := hP.1.2 c.toNat (by have := hP.2.1; omega)
    have x := wW_1 (w := 1) (σ := σ) (h := σ 66 c.toNat) ⟨by omega, by omega⟩
    unfold cW
    rw [if_pos (by omega), show (((σ 66 c.toNat).toNat : Nat) : Int) = σ 66 c.toNat from by omega, x]
  refine j_aload_n (pc := 16) dX5_goOn_16 rfl rfl ?_
  refine j_getR (pc := 17) (r := 65) fl_X5_18 dX5_goOn_17 (a_60 hX) rfl ?_
  refine j_iload (pc := 20) dX5_goOn_20 rfl ?_
  refine j_iald (pc := 22) dX5_goOn_22 (a_65 hX) (by omega) (by omega) (by decide) ?_
  have f3 : (-2147483648 : Int) ≤ σ 65 ((σ 5 ((σ 66 (c.toNat)).toNat)).toNat) ∧ σ 65 ((σ 5 ((σ 66 (c.toNat)).toNat)).toNat) ≤ 2147483647 := hI 65 ((σ 5 ((σ 66 (c.toNat)).toNat)).toNat)
  refine j_ifR_le (pc := 23) (tgt := 89) ⟨by omega, by omega⟩ dX5_goOn_23 rfl (fun h4 => ?_) (fun h4 => ?_)
  · refine j_aload_n (pc := 89) dX5_goOn_89 rfl rfl ?_
    refine j_iload_n (pc := 90) dX5_goOn_90 rfl rfl ?_
    refine j_iconst (pc := 91) dX5_goOn_91 ?_
    refine j_iadd (pc := 92) dX5_goOn_92 ?_
    refine j_iload_n (pc := 93) dX5_goOn_93 rfl rfl ?_
    refine j_iload_n (pc := 94) dX5_goOn_94 rfl rfl ?_
    refine j_iload (pc := 95) dX5_goOn_95 rfl ?_
    refine j_callV (pc := 97) (As := [vI (c + 1), vI b, vI e, vI k]) (st := []) (hch (c + 1) ⟨by omega, by omega⟩ b ⟨by omega, by omega⟩ e ⟨by omega, by omega⟩ k ⟨by omega, by omega⟩ σ hI (by omega)) mv_X5_65 rfl rfl rfl (a_60 hX) dX5_goOn_97 ⟨(show (20 + 2 * N + 1) + 1 ≤ ((20 + 2 * (N + 1))) from by omega), (show 8 + (9 + 11) + 60 * (20 + 2 * N + 1) ≤ 60 * ((20 + 2 * (N + 1))) from by omega)⟩ ⟨Nat.le_refl _, Nat.le_refl _⟩ rfl (Nat.le_of_ble_eq_true rfl) rfl (fun z5 σ6 hz5 => ?_)
    obtain ⟨rfl, hIσ6, hGσ6, q7_0⟩ := hz5
    replace q7_0 : ∀ (rk : Nat → Int) (T : Int → Prop), WOK (wW 1 σ) → CHP (wW 1 σ) rk (c + 1) b e k σ → BST (wW 1 σ) rk T σ → CHQ (wW 1 σ) rk b σ6 ∧ BST (wW 1 σ) rk (fun S => T S ∨ CMP (wW 1 σ) (c + 1) b S) σ6 := q7_0
    have hFσ6 : tw_F (fun c j => (56 ≤ c ∧ c < 58) ∨ (c = 60 ∧ (j = 8 ∨ j = 10 ∨ j = 11)) ∨ (61 ≤ c ∧ c < 66) ∨ (67 ≤ c ∧ c < 71)) σ σ6 := tw_F_tr (tw_F_rf) hGσ6 (fun c j q => (show (56 ≤ c ∧ c < 58) ∨ (c = 60 ∧ (j = 8 ∨ j = 10 ∨ j = 11)) ∨ (61 ≤ c ∧ c < 66) ∨ (67 ≤ c ∧ c < 71) from by replace q : (56 ≤ c ∧ c < 58) ∨ (c = 60 ∧ (j = 8 ∨ j = 10 ∨ j = 11)) ∨ (61 ≤ c ∧ c < 66) ∨ (67 ≤ c ∧ c < 71) := q; exact q))
    refine j_st (st' := []) rfl ?_
    have hE9 := q7_0
    have fin : ∀ (rk : Nat → Int) (T : Int → Prop), WOK (wW 1 σ) → GOP (wW 1 σ) rk c b e k σ → BST (wW 1 σ) rk T σ → CHQ (wW 1 σ) rk b σ6 ∧ BST (wW 1 σ) rk (fun S => T S ∨ CMP (wW 1 σ) c b S) σ6 := fun rk T hW hP hB => by
      have y1 := go_none hP hW (f := (σ 66 c.toNat).toNat) (by omega) (by rw [← sz rk hP]; omega) hB
      obtain ⟨y9, y10⟩ := hE9 rk _ hW (go_2 hP ⟨hP.1, hP.2.2.2.1, hP.2.2.2.2.1⟩ rfl) y1
      exact ⟨y9, go_end hP y10 (fun S => Iff.rfl)⟩
    exact j_vret (pc := 100) ⟨rfl, rfl⟩ dX5_goOn_100 rfl ⟨rfl, hIσ6, hFσ6, fin⟩
  · refine j_aload_n (pc := 26) dX5_goOn_26 rfl rfl ?_
    refine j_getR (pc := 27) (r := 65) fl_X5_18 dX5_goOn_27 (a_60 hX) rfl ?_
    refine j_iload (pc := 30) dX5_goOn_30 rfl ?_
    refine j_dup2 (pc := 32) dX5_goOn_32 rfl rfl ?_
    refine j_iald (pc := 33) dX5_goOn_33 (a_65 hX) (by omega) (by omega) (by decide) ?_
    refine j_iconst (pc := 34) dX5_goOn_34 ?_
    refine j_isub (pc := 35) dX5_goOn_35 ?_
    refine j_iast (pc := 36) dX5_goOn_36 (a_65 hX) (by omega) (by omega) (by decide) (j_nm (fun σ9 (eσ9 : σ9 = tw_up σ 65 ((σ 5 ((σ 66 (c.toNat)).toNat)).toNat) ((σ 65 ((σ 5 ((σ 66 (c.toNat)).toNat)).toNat)) - 1)) => ?_))
    have hIσ9 : tw_I σ9 := tw_I_up hI eσ9 (show (-2147483648 : Int) ≤ (σ 65 ((σ 5 ((σ 66 (c.toNat)).toNat)).toNat)) - 1 ∧ (σ 65 ((σ 5 ((σ 66 (c.toNat)).toNat)).toNat)) - 1 ≤ 2147483647 from ⟨by omega, by omega⟩)
    have hFσ9 : tw_F (fun c j => (56 ≤ c ∧ c < 58) ∨ (c = 60 ∧ (j = 8 ∨ j = 10 ∨ j = 11)) ∨ (61 ≤ c ∧ c < 66) ∨ (67 ≤ c ∧ c < 71)) σ σ9 := tw_F_up (tw_F_rf) eσ9 (show (56 ≤ 65 ∧ 65 < 58) ∨ (65 = 60 ∧ ((σ 5 ((σ 66 (c.toNat)).toNat)).toNat = 8 ∨ (σ 5 ((σ 66 (c.toNat)).toNat)).toNat = 10 ∨ (σ 5 ((σ 66 (c.toNat)).toNat)).toNat = 11)) ∨ (61 ≤ 65 ∧ 65 < 66) ∨ (67 ≤ 65 ∧ 65 < 71) from (Or.inr (Or.inr (Or.inl (by decide)))))
    have eA := eσ9
    refine j_aload_n (pc := 37) dX5_goOn_37 rfl rfl ?_
    refine j_getR (pc := 38) (r := 61) fl_X5_12 dX5_goOn_38 (a_60 hX) rfl ?_
    refine j_aload_n (pc := 41) dX5_goOn_41 rfl rfl ?_
    refine j_getR (pc := 42) (r := 66) fl_X5_22 dX5_goOn_42 (a_60 hX) rfl ?_
    refine j_iload_n (pc := 45) dX5_goOn_45 rfl rfl ?_
    refine j_iald (pc := 46) dX5_goOn_46 (a_66 hX) (by omega) (by omega) (by decide) ?_
    refine j_topV (show σ9 66 (c.toNat) = σ 66 (c.toNat) from (tw_ne1 eσ9 (by (first | decide | omega)))) ?_
    refine j_iload (pc := 47) dX5_goOn_47 rfl ?_
    refine j_callV (pc := 49) (As := [vI (σ 66 (c.toNat)), vI (σ 5 ((σ 66 (c.toNat)).toNat))]) (st := []) (c_X7_insert 61 (s_Row_61 hX) (σ 66 (c.toNat)) ⟨by omega, by omega⟩ (σ 5 ((σ 66 (c.toNat)).toNat)) ⟨by omega, by omega⟩ σ9 hIσ9) mv_X5_113 rfl rfl rfl (a_61 hX) dX5_goOn_49 ⟨(show (0) + 1 ≤ ((20 + 2 * (N + 1))) from by omega), (show 8 + (4 + 11) + 60 * (0) ≤ 60 * ((20 + 2 * (N + 1))) from by omega)⟩ ⟨Nat.le_refl _, Nat.le_refl _⟩ rfl (Nat.le_of_ble_eq_true rfl) rfl (fun z10 σ11 hz10 => ?_)
    obtain ⟨r13, rfl, hr13, hIσ11, hGσ11, q12_0⟩ := hz10
    replace q12_0 : ∀ gg qq : Nat → Int, RG 61 gg qq σ9 → gg (σ 66 (c.toNat)).toNat = 0 → 1 ≤ (σ 66 (c.toNat)) → 1 ≤ (σ 5 ((σ 66 (c.toNat)).toNat)) → σ9 61 0 < 10 → RG 61 (pg gg (σ 66 (c.toNat)).toNat (σ 5 ((σ 66 (c.toNat)).toNat))) (pg qq (σ 66 (c.toNat)).toNat 0) σ11 ∧ r13 = cnt gg (σ 66 (c.toNat)).toNat := q12_0
    have y14 : σ9 61 0 = σ 61 0 := (tw_ne1 eσ9 (by (first | decide | omega)))
    have f15 : (0 : Int) ≤ σ 61 0 ∧ σ 61 0 ≤ 10 := hI 61 0
    have hFσ11 : tw_F (fun c j => (56 ≤ c ∧ c < 58) ∨ (c = 60 ∧ (j = 8 ∨ j = 10 ∨ j = 11)) ∨ (61 ≤ c ∧ c < 66) ∨ (67 ≤ c ∧ c < 71)) σ σ11 := tw_F_tr hFσ9 hGσ11 (fun c j q => (show (56 ≤ c ∧ c < 58) ∨ (c = 60 ∧ (j = 8 ∨ j = 10 ∨ j = 11)) ∨ (61 ≤ c ∧ c < 66) ∨ (67 ≤ c ∧ c < 71) from by replace q : (61 ≤ c ∧ c < 65) := q; exact (Or.inr (Or.inr (Or.inl ⟨Nat.le_trans (by decide) q.1, Nat.lt_of_lt_of_le q.2 (by decide)⟩)))))
    refine j_st (st' := [vI r13]) rfl ?_
    have hB9 := q12_0
    have WB9 : wW 1 σ11 = wW 1 σ := wW_F (fun c j a b => hFσ11 c j (show ¬ ((56 ≤ c ∧ c < 58) ∨ (c = 60 ∧ (j = 8 ∨ j = 10 ∨ j = 11)) ∨ (61 ≤ c ∧ c < 66) ∨ (67 ≤ c ∧ c < 71)) from by omega))
    have fB : ∀ x j, ¬ (61 ≤ x ∧ x < 65) → σ11 x j = σ9 x j := fun x j h => hGσ11 x j (show ¬ ((61 ≤ x ∧ x < 65)) from by omega)
    refine j_istore (pc := 52) (i := 6) (ls' := [(0, vR 60), (1, vI c), (2, vI b), (3, vI e), (4, vI k), (5, vI (σ 5 ((σ 66 (c.toNat)).toNat))), (6, vI r13)]) [1, 2, 3, 4, 5, 6, 0] dX5_goOn_52 (Nat.le_of_ble_eq_true rfl) rfl rfl ?_
    refine j_aload_n (pc := 54) dX5_goOn_54 rfl rfl ?_
    refine j_iload_n (pc := 55) dX5_goOn_55 rfl rfl ?_
    refine j_iconst (pc := 56) dX5_goOn_56 ?_
    refine j_iadd (pc := 57) dX5_goOn_57 ?_
    refine j_iload_n (pc := 58) dX5_goOn_58 rfl rfl ?_
    refine j_iconst (pc := 59) dX5_goOn_59 ?_
    refine j_iload_n (pc := 60) dX5_goOn_60 rfl rfl ?_
    refine j_ishl (pc := 61) dX5_goOn_61 (fun z16 ez16 => ?_)
    have hz16 : (-2147483648 : Int) ≤ z16 ∧ z16 ≤ 2147483647 := by rw [ez16]; exact shl_in _ _
    have s1 := ez16
    refine j_ior (pc := 62) dX5_goOn_62 (fun z17 ez17 => ?_)
    have hz17 : (-2147483648 : Int) ≤ z17 ∧ z17 ≤ 2147483647 := by rw [ez17]; exact or_in _ _
    have s2 := ez17; rw [s1] at s2
    refine j_iload_n (pc := 63) dX5_goOn_63 rfl rfl ?_
    refine j_iload (pc := 64) dX5_goOn_64 rfl ?_
    refine j_callV (pc := 66) (As := [vI (c + 1), vI z17, vI e, vI k]) (st := []) (hch (c + 1) ⟨by omega, by omega⟩ z17 ⟨by omega, by omega⟩ e ⟨by omega, by omega⟩ k ⟨by omega, by omega⟩ σ11 hIσ11 (by omega)) mv_X5_65 rfl rfl rfl (a_60 hX) dX5_goOn_66 ⟨(show (20 + 2 * N + 1) + 1 ≤ ((20 + 2 * (N + 1))) from by omega), (show 8 + (9 + 11) + 60 * (20 + 2 * N + 1) ≤ 60 * ((20 + 2 * (N + 1))) from by omega)⟩ ⟨Nat.le_refl _, Nat.le_refl _⟩ rfl (Nat.le_of_ble_eq_true rfl) rfl (fun z18 σ19 hz18 => ?_)
    obtain ⟨rfl, hIσ19, hGσ19, q20_0⟩ := hz18
    replace q20_0 : ∀ (rk : Nat → Int) (T : Int → Prop), WOK (wW 1 σ11) → CHP (wW 1 σ11) rk (c + 1) z17 e k σ11 → BST (wW 1 σ11) rk T σ11 → CHQ (wW 1 σ11) rk z17 σ19 ∧ BST (wW 1 σ11) rk (fun S => T S ∨ CMP (wW 1 σ11) (c + 1) z17 S) σ19 := q20_0
    have hFσ19 : tw_F (fun c j => (56 ≤ c ∧ c < 58) ∨ (c = 60 ∧ (j = 8 ∨ j = 10 ∨ j = 11)) ∨ (61 ≤ c ∧ c < 66) ∨ (67 ≤ c ∧ c < 71)) σ σ19 := tw_F_tr hFσ11 hGσ19 (fun c j q => (show (56 ≤ c ∧ c < 58) ∨ (c = 60 ∧ (j = 8 ∨ j = 10 ∨ j = 11)) ∨ (61 ≤ c ∧ c < 66) ∨ (67 ≤ c ∧ c < 71) from by replace q : (56 ≤ c ∧ c < 58) ∨ (c = 60 ∧ (j = 8 ∨ j = 10 ∨ j = 11)) ∨ (61 ≤ c ∧ c < 66) ∨ (67 ≤ c ∧ c < 71) := q; exact q))
    refine j_st (st' := []) rfl ?_
    have hC9 := q20_0; rw [WB9] at hC9
    have WC9 : wW 1 σ19 = wW 1 σ := wW_F (fun c j a b => hFσ19 c j (show ¬ ((56 ≤ c ∧ c < 58) ∨ (c = 60 ∧ (j = 8 ∨ j = 10 ∨ j = 11)) ∨ (61 ≤ c ∧ c < 66) ∨ (67 ≤ c ∧ c < 71)) from by omega))
    refine j_aload_n (pc := 69) dX5_goOn_69 rfl rfl ?_
    refine j_getR (pc := 70) (r := 61) fl_X5_12 dX5_goOn_70 (a_60 hX) rfl ?_
    refine j_iload (pc := 73) dX5_goOn_73 rfl ?_
    refine j_callV (pc := 75) (As := [vI r13]) (st := []) (c_X7_remove 61 (s_Row_61 hX) r13 ⟨by omega, by omega⟩ σ19 hIσ19) mv_X5_117 rfl rfl rfl (a_61 hX) dX5_goOn_75 ⟨(show (0) + 1 ≤ ((20 + 2 * (N + 1))) from by omega), (show 8 + (3 + 11) + 60 * (0) ≤ 60 * ((20 + 2 * (N + 1))) from by omega)⟩ ⟨Nat.le_refl _, Nat.le_refl _⟩ rfl (Nat.le_of_ble_eq_true rfl) rfl (fun z22 σ23 hz22 => ?_)
    obtain ⟨rfl, hIσ23, hGσ23, q24_0⟩ := hz22
    replace q24_0 : ∀ gg qq : Nat → Int, RG 61 gg qq σ19 → 0 ≤ r13 → r13 < σ19 61 0 → RG 61 (pg gg (σ19 62 r13.toNat).toNat 0) qq σ23 := q24_0
    have hFσ23 : tw_F (fun c j => (56 ≤ c ∧ c < 58) ∨ (c = 60 ∧ (j = 8 ∨ j = 10 ∨ j = 11)) ∨ (61 ≤ c ∧ c < 66) ∨ (67 ≤ c ∧ c < 71)) σ σ23 := tw_F_tr hFσ19 hGσ23 (fun c j q => (show (56 ≤ c ∧ c < 58) ∨ (c = 60 ∧ (j = 8 ∨ j = 10 ∨ j = 11)) ∨ (61 ≤ c ∧ c < 66) ∨ (67 ≤ c ∧ c < 71) from by replace q : (61 ≤ c ∧ c < 65) := q; exact (Or.inr (Or.inr (Or.inl ⟨Nat.le_trans (by decide) q.1, Nat.lt_of_lt_of_le q.2 (by decide)⟩)))))
    refine j_st (st' := []) rfl ?_
    have hD9 := q24_0
    have fD : ∀ x j, ¬ (61 ≤ x ∧ x < 65) → σ23 x j = σ19 x j := fun x j h => hGσ23 x j (show ¬ ((61 ≤ x ∧ x < 65)) from by omega)
    have fE : σ23 65 ((σ 5 ((σ 66 (c.toNat)).toNat))).toNat = σ19 65 ((σ 5 ((σ 66 (c.toNat)).toNat))).toNat := fD 65 _ (by omega)
    refine j_aload_n (pc := 78) dX5_goOn_78 rfl rfl ?_
    refine j_getR (pc := 79) (r := 65) fl_X5_18 dX5_goOn_79 (a_60 hX) rfl ?_
    refine j_iload (pc := 82) dX5_goOn_82 rfl ?_
    refine j_dup2 (pc := 84) dX5_goOn_84 rfl rfl ?_
    refine j_iald (pc := 85) dX5_goOn_85 (a_65 hX) (by omega) (by omega) (by decide) ?_
    refine j_topV (show σ23 65 ((σ 5 ((σ 66 (c.toNat)).toNat)).toNat) = σ19 65 ((σ 5 ((σ 66 (c.toNat)).toNat)).toNat) from (hGσ23 65 ((σ 5 ((σ 66 (c.toNat)).toNat)).toNat) (show ¬ ((61 ≤ 65 ∧ 65 < 65)) from by decide))) ?_
    have f26 : (-2147483648 : Int) ≤ σ19 65 ((σ 5 ((σ 66 (c.toNat)).toNat)).toNat) ∧ σ19 65 ((σ 5 ((σ 66 (c.toNat)).toNat)).toNat) ≤ 2147483647 := hIσ19 65 ((σ 5 ((σ 66 (c.toNat)).toNat)).toNat)
    refine j_iconst (pc := 86) dX5_goOn_86 ?_
    refine j_iadd (pc := 87) dX5_goOn_87 ?_
    refine j_top (fun z27 ez27 hz27 => ?_)
    have gz27 : (σ19 65 ((σ 5 ((σ 66 (c.toNat)).toNat)).toNat)) + 1 < -2147483648 ∨ 2147483647 < (σ19 65 ((σ 5 ((σ 66 (c.toNat)).toNat)).toNat)) + 1 ∨ z27 = (σ19 65 ((σ 5 ((σ 66 (c.toNat)).toNat)).toNat)) + 1 := by rw [ez27]; exact w32_or _
    refine j_iast (pc := 88) dX5_goOn_88 (a_65 hX) (by omega) (by omega) (by decide) (j_nm (fun σ28 (eσ28 : σ28 = tw_up σ23 65 ((σ 5 ((σ 66 (c.toNat)).toNat)).toNat) z27) => ?_))
    have hIσ28 : tw_I σ28 := tw_I_up hIσ23 eσ28 (show (-2147483648 : Int) ≤ z27 ∧ z27 ≤ 2147483647 from ⟨by omega, by omega⟩)
    have hFσ28 : tw_F (fun c j => (56 ≤ c ∧ c < 58) ∨ (c = 60 ∧ (j = 8 ∨ j = 10 ∨ j = 11)) ∨ (61 ≤ c ∧ c < 66) ∨ (67 ≤ c ∧ c < 71)) σ σ28 := tw_F_up hFσ23 eσ28 (show (56 ≤ 65 ∧ 65 < 58) ∨ (65 = 60 ∧ ((σ 5 ((σ 66 (c.toNat)).toNat)).toNat = 8 ∨ (σ 5 ((σ 66 (c.toNat)).toNat)).toNat = 10 ∨ (σ 5 ((σ 66 (c.toNat)).toNat)).toNat = 11)) ∨ (61 ≤ 65 ∧ 65 < 66) ∨ (67 ≤ 65 ∧ 65 < 71) from (Or.inr (Or.inr (Or.inl (by decide)))))
    have eE := eσ28
    have WE9 : wW 1 σ28 = wW 1 σ := wW_F (fun c j a b => hFσ28 c j (show ¬ ((56 ≤ c ∧ c < 58) ∨ (c = 60 ∧ (j = 8 ∨ j = 10 ∨ j = 11)) ∨ (61 ≤ c ∧ c < 66) ∨ (67 ≤ c ∧ c < 71)) from by omega))
    refine j_aload_n (pc := 89) dX5_goOn_89 rfl rfl ?_
    refine j_iload_n (pc := 90) dX5_goOn_90 rfl rfl ?_
    refine j_iconst (pc := 91) dX5_goOn_91 ?_
    refine j_iadd (pc := 92) dX5_goOn_92 ?_
    refine j_iload_n (pc := 93) dX5_goOn_93 rfl rfl ?_
    refine j_iload_n (pc := 94) dX5_goOn_94 rfl rfl ?_
    refine j_iload (pc := 95) dX5_goOn_95 rfl ?_
    refine j_callV (pc := 97) (As := [vI (c + 1), vI b, vI e, vI k]) (st := []) (hch (c + 1) ⟨by omega, by omega⟩ b ⟨by omega, by omega⟩ e ⟨by omega, by omega⟩ k ⟨by omega, by omega⟩ σ28 hIσ28 (by omega)) mv_X5_65 rfl rfl rfl (a_60 hX) dX5_goOn_97 ⟨(show (20 + 2 * N + 1) + 1 ≤ ((20 + 2 * (N + 1))) from by omega), (show 8 + (9 + 11) + 60 * (20 + 2 * N + 1) ≤ 60 * ((20 + 2 * (N + 1))) from by omega)⟩ ⟨Nat.le_refl _, Nat.le_refl _⟩ rfl (Nat.le_of_ble_eq_true rfl) rfl (fun z29 σ30 hz29 => ?_)
    obtain ⟨rfl, hIσ30, hGσ30, q31_0⟩ := hz29
    replace q31_0 : ∀ (rk : Nat → Int) (T : Int → Prop), WOK (wW 1 σ28) → CHP (wW 1 σ28) rk (c + 1) b e k σ28 → BST (wW 1 σ28) rk T σ28 → CHQ (wW 1 σ28) rk b σ30 ∧ BST (wW 1 σ28) rk (fun S => T S ∨ CMP (wW 1 σ28) (c + 1) b S) σ30 := q31_0
    have hFσ30 : tw_F (fun c j => (56 ≤ c ∧ c < 58) ∨ (c = 60 ∧ (j = 8 ∨ j = 10 ∨ j = 11)) ∨ (61 ≤ c ∧ c < 66) ∨ (67 ≤ c ∧ c < 71)) σ σ30 := tw_F_tr hFσ28 hGσ30 (fun c j q => (show (56 ≤ c ∧ c < 58) ∨ (c = 60 ∧ (j = 8 ∨ j = 10 ∨ j = 11)) ∨ (61 ≤ c ∧ c < 66) ∨ (67 ≤ c ∧ c < 71) from by replace q : (56 ≤ c ∧ c < 58) ∨ (c = 60 ∧ (j = 8 ∨ j = 10 ∨ j = 11)) ∨ (61 ≤ c ∧ c < 66) ∨ (67 ≤ c ∧ c < 71) := q; exact q))
    refine j_st (st' := []) rfl ?_
    have hE9 := q31_0; rw [WE9] at hE9
    have fin : ∀ (rk : Nat → Int) (T : Int → Prop), WOK (wW 1 σ) → GOP (wW 1 σ) rk c b e k σ → BST (wW 1 σ) rk T σ → CHQ (wW 1 σ) rk b σ30 ∧ BST (wW 1 σ) rk (fun S => T S ∨ CMP (wW 1 σ) c b S) σ30 := fun rk T hW hP hB => by
      obtain ⟨y1, y2, y3, y4⟩ := go_put hW hP hB (sz rk hP) eA (by omega) (by omega) hB9 fB s2
      obtain ⟨y5, y6⟩ := hC9 rk T hW y1 y2
      obtain ⟨y7, y8⟩ := go_back hW hP y5 y6 y3 y4 (sz rk hP) hD9 fD eE (by omega) (by omega)
      obtain ⟨y9, y10⟩ := hE9 rk _ hW y7 y8
      exact ⟨y9, go_end hP y10 (fun S => by rw [y3])⟩
    exact j_vret (pc := 100) ⟨rfl, rfl⟩ dX5_goOn_100 rfl ⟨rfl, hIσ30, hFσ30, fin⟩
set_option maxHeartbeats 4000000 in
set_option maxRecDepth 100000 in
theorem c_X5_choose_step {G : tw_G} (hX : tw_isX G) (N : Nat) (hgo : ∀ (c : Int) (hc : 0 ≤ c ∧ c ≤ 9) (b : Int) (hb : -2147483648 ≤ b ∧ b ≤ 2147483647) (e : Int) (he : -2147483648 ≤ e ∧ e ≤ 2147483647) (k : Int) (hk : -2147483648 ≤ k ∧ k ≤ 2147483647) (σ : tw_M) (hI : tw_I σ) (hq0 : 11 - c ≤ (N : Int)), tw_C G yX5_goOn cX5_goOn 7 none (20 + 2 * N) [vR 60, vI c, vI b, vI e, vI k] σ (q_X5_goOn c b e k σ)) (c : Int) (hc : 0 ≤ c ∧ c ≤ 11) (b : Int) (hb : -2147483648 ≤ b ∧ b ≤ 2147483647) (e : Int) (he : -2147483648 ≤ e ∧ e ≤ 2147483647) (k : Int) (hk : -2147483648 ≤ k ∧ k ≤ 2147483647) (σ : tw_M) (hI : tw_I σ) (hq0 : 11 - c ≤ (N : Int)) : tw_C G yX5_choose cX5_choose 9 none (20 + 2 * N + 1) [vR 60, vI c, vI b, vI e, vI k] σ (q_X5_choose c b e k σ) := by
  refine tw_met [(0, vR 60), (1, vI c), (2, vI b), (3, vI e), (4, vI k)] (by decide +kernel) rfl (Nat.le_of_ble_eq_true rfl) ?_
  have r0 : wW 1 σ 100 = σ 2 0 := wW_r (w := 1) (j := 0) (by decide)
  refine j_iload_n (pc := 0) dX5_choose_0 rfl rfl ?_
  refine j_aload_n (pc := 1) dX5_choose_1 rfl rfl ?_
  refine j_getI (pc := 2) fl_X5_25 dX5_choose_2 (a_60 hX) rfl ?_
  have f1 : (0 : Int) ≤ σ 60 5 ∧ σ 60 5 ≤ 10 := hI 60 5
  refine j_icmpR_le (pc := 5) (tgt := 9) ⟨by omega, by omega⟩ ⟨by omega, by omega⟩ dX5_choose_5 rfl (fun h2 => ?_) (fun h2 => ?_)
  · refine j_iload_n (pc := 9) dX5_choose_9 rfl rfl ?_
    refine j_ifR_ne (pc := 10) (tgt := 17) ⟨by omega, by omega⟩ dX5_choose_10 rfl (fun h3 => ?_) (fun h3 => ?_)
    · refine j_aload_n (pc := 17) dX5_choose_17 rfl rfl ?_
      refine j_getR (pc := 18) (r := 66) fl_X5_22 dX5_choose_18 (a_60 hX) rfl ?_
      refine j_iload_n (pc := 21) dX5_choose_21 rfl rfl ?_
      refine j_iconst (pc := 22) dX5_choose_22 ?_
      refine j_isub (pc := 23) dX5_choose_23 ?_
      refine j_iald (pc := 24) dX5_choose_24 (a_66 hX) (by omega) (by omega) (by decide) ?_
      have f4 : (0 : Int) ≤ σ 66 ((c - 1).toNat) ∧ σ 66 ((c - 1).toNat) ≤ 40 := hI 66 ((c - 1).toNat)
      refine j_istore (pc := 25) (i := 5) (ls' := [(0, vR 60), (1, vI c), (2, vI b), (3, vI e), (4, vI k), (5, vI (σ 66 ((c - 1).toNat)))]) [1, 2, 3, 4, 5, 0] dX5_choose_25 (Nat.le_of_ble_eq_true rfl) rfl rfl ?_
      have v0 : (σ 66 ((c - 1).toNat)) = f0F c σ := by unfold f0F; first | exact (if_pos (by omega)).symm | exact (if_neg (by omega)).symm
      refine j_iload_n (pc := 27) dX5_choose_27 rfl rfl ?_
      refine j_aload_n (pc := 28) dX5_choose_28 rfl rfl ?_
      refine j_getI (pc := 29) fl_X5_25 dX5_choose_29 (a_60 hX) rfl ?_
      refine j_icmpR_ne (pc := 32) (tgt := 45) ⟨by omega, by omega⟩ ⟨by omega, by omega⟩ dX5_choose_32 rfl (fun h5 => ?_) (fun h5 => ?_)
      · refine j_aload_n (pc := 45) dX5_choose_45 rfl rfl ?_
        refine j_getR (pc := 46) (r := 66) fl_X5_22 dX5_choose_46 (a_60 hX) rfl ?_
        refine j_iload_n (pc := 49) dX5_choose_49 rfl rfl ?_
        refine j_iald (pc := 50) dX5_choose_50 (a_66 hX) (by omega) (by omega) (by decide) ?_
        have f6 : (0 : Int) ≤ σ 66 (c.toNat) ∧ σ 66 (c.toNat) ≤ 40 := hI 66 (c.toNat)
        refine j_iconst (pc := 51) dX5_choose_51 ?_
        refine j_isub (pc := 52) dX5_choose_52 ?_
        refine j_istore (pc := 53) (i := 6) (ls' := [(0, vR 60), (1, vI c), (2, vI b), (3, vI e), (4, vI k), (5, vI (σ 66 ((c - 1).toNat))), (6, vI ((σ 66 (c.toNat)) - 1))]) [1, 2, 3, 4, 5, 6, 0] dX5_choose_53 (Nat.le_of_ble_eq_true rfl) rfl rfl ?_
        have v1 : ((c = σ 60 5 ∧ ((σ 66 (c.toNat)) - 1) = wW 1 σ 100) ∨ (¬ c = σ 60 5 ∧ ((σ 66 (c.toNat)) - 1) = σ 66 c.toNat - 1)) := by first | exact Or.inl ⟨by omega, by omega⟩ | exact Or.inr ⟨by omega, by omega⟩
        refine j_aload_n (pc := 55) dX5_choose_55 rfl rfl ?_
        refine j_getR (pc := 56) (r := 56) fl_X5_58 dX5_choose_56 (a_60 hX) rfl ?_
        refine j_iload_n (pc := 59) dX5_choose_59 rfl rfl ?_
        refine j_callV (pc := 60) (As := [vI e]) (st := []) (c_X4_begin hX e ⟨by omega, by omega⟩ σ hI) mv_X5_84 rfl rfl rfl (a_56 hX) dX5_choose_60 ⟨(show (0) + 1 ≤ ((20 + 2 * N + 1)) from by omega), (show 8 + (2 + 11) + 60 * (0) ≤ 60 * ((20 + 2 * N + 1)) from by omega)⟩ ⟨Nat.le_refl _, Nat.le_refl _⟩ rfl (Nat.le_of_ble_eq_true rfl) rfl (fun z7 σ8 hz7 => ?_)
        obtain ⟨rfl, hIσ8, hGσ8, q9_0, q9_1⟩ := hz7
        replace q9_0 : σ8 56 2 = e := q9_0
        replace q9_1 : σ8 56 3 = 0 := q9_1
        have hFσ8 : tw_F (fun c j => (56 ≤ c ∧ c < 58) ∨ (c = 60 ∧ (j = 8 ∨ j = 10 ∨ j = 11)) ∨ (61 ≤ c ∧ c < 66) ∨ (67 ≤ c ∧ c < 71)) σ σ8 := tw_F_tr (tw_F_rf) hGσ8 (fun c j q => (show (56 ≤ c ∧ c < 58) ∨ (c = 60 ∧ (j = 8 ∨ j = 10 ∨ j = 11)) ∨ (61 ≤ c ∧ c < 66) ∨ (67 ≤ c ∧ c < 71) from by replace q : (c = 56 ∧ (j = 2 ∨ j = 3)) := q; exact (Or.inl (by rw [show c = 56 from q.1]; decide))))
        refine j_st (st' := []) rfl ?_
        refine j_aload_n (pc := 63) dX5_choose_63 rfl rfl ?_
        refine j_getR (pc := 64) (r := 56) fl_X5_58 dX5_choose_64 (a_60 hX) rfl ?_
        refine j_aload_n (pc := 67) dX5_choose_67 rfl rfl ?_
        refine j_getR (pc := 68) (r := 61) fl_X5_12 dX5_choose_68 (a_60 hX) rfl ?_
        refine j_iload (pc := 71) dX5_choose_71 rfl ?_
        refine j_iload (pc := 73) dX5_choose_73 rfl ?_
        refine j_callV (pc := 75) (As := [vR 61, vI (σ 66 ((c - 1).toNat)), vI ((σ 66 (c.toNat)) - 1)]) (st := []) (c_X4_climb hX 61 (s_Row_61 hX) (σ 66 ((c - 1).toNat)) ⟨by omega, by omega⟩ ((σ 66 (c.toNat)) - 1) ⟨by omega, by omega⟩ σ8 hIσ8 (by omega)) mv_X5_89 rfl rfl rfl (a_56 hX) dX5_choose_75 ⟨(show (1) + 1 ≤ ((20 + 2 * N + 1)) from by omega), (show 8 + (6 + 11) + 60 * (1) ≤ 60 * ((20 + 2 * N + 1)) from by omega)⟩ ⟨Nat.le_refl _, Nat.le_refl _⟩ rfl (Nat.le_of_ble_eq_true rfl) rfl (fun z11 σ12 hz11 => ?_)
        obtain ⟨rfl, hIσ12, hGσ12, q13_0⟩ := hz11
        replace q13_0 : ∀ gg qq : Nat → Int, RG 61 gg qq σ8 → 1 ≤ (σ 66 ((c - 1).toNat)) → (σ 66 ((c - 1).toNat)) ≤ ((σ 66 (c.toNat)) - 1) + 1 → σ8 56 2 = eff (wW 1 σ8) gg ((σ 66 ((c - 1).toNat)) - 1).toNat → σ8 56 3 = 0 → σ12 56 2 = eff (wW 1 σ8) gg ((σ 66 (c.toNat)) - 1).toNat ∧ TMs (wW 1 σ8) gg 0 (σ 66 ((c - 1).toNat)) (((σ 66 (c.toNat)) - 1) + 1) (σ12 56 3) := q13_0
        have hFσ12 : tw_F (fun c j => (56 ≤ c ∧ c < 58) ∨ (c = 60 ∧ (j = 8 ∨ j = 10 ∨ j = 11)) ∨ (61 ≤ c ∧ c < 66) ∨ (67 ≤ c ∧ c < 71)) σ σ12 := tw_F_tr hFσ8 hGσ12 (fun c j q => (show (56 ≤ c ∧ c < 58) ∨ (c = 60 ∧ (j = 8 ∨ j = 10 ∨ j = 11)) ∨ (61 ≤ c ∧ c < 66) ∨ (67 ≤ c ∧ c < 71) from by replace q : (c = 56 ∧ (j = 2 ∨ j = 3)) := q; exact (Or.inl (by rw [show c = 56 from q.1]; decide))))
        refine j_st (st' := []) rfl ?_
        have WA9 : wW 1 σ8 = wW 1 σ := wW_F (fun c j a b => hGσ8 c j (show ¬ ((c = 56 ∧ (j = 2 ∨ j = 3))) from by omega))
        have cl : ∀ rk : Nat → Int, WOK (wW 1 σ) → CHP (wW 1 σ) rk c b e k σ → σ12 56 2 = eff (wW 1 σ) (lay (wW 1 σ) b) ((σ 66 (c.toNat)) - 1).toNat ∧ TMs (wW 1 σ) (lay (wW 1 σ) b) 0 (f0F c σ) (((σ 66 (c.toNat)) - 1) + 1) (σ12 56 3) := fun rk hW hP => by
          obtain ⟨x1, x2, x3, x4⟩ := CH_f1 hP hW v1
          have x5 := CH_f0 hP hW
          have y := q13_0 _ _ (RG_F hP.2.2.2.1 (fun c j a b => hGσ8 c j (show ¬ ((c = 56 ∧ (j = 2 ∨ j = 3))) from by omega))) (by omega) (by omega) (by rw [WA9]; exact (q9_0).trans (hP.2.2.2.2.2.1.trans (by rw [← v0]))) q9_1
          rw [WA9] at y
          exact ⟨y.1, by rw [← v0]; exact y.2⟩
        have fz : ∀ x j, 60 ≤ x → x < 71 → σ12 x j = σ x j := fun x j a b => (hGσ12 x j (show ¬ ((x = 56 ∧ (j = 2 ∨ j = 3))) from by omega)).trans (hGσ8 x j (show ¬ ((x = 56 ∧ (j = 2 ∨ j = 3))) from by omega))
        have WB9 : wW 1 σ12 = wW 1 σ := wW_F (fun c j a b => hFσ12 c j (show ¬ ((56 ≤ c ∧ c < 58) ∨ (c = 60 ∧ (j = 8 ∨ j = 10 ∨ j = 11)) ∨ (61 ≤ c ∧ c < 66) ∨ (67 ≤ c ∧ c < 71)) from by omega))
        refine j_aload_n (pc := 78) dX5_choose_78 rfl rfl ?_
        refine j_getR (pc := 79) (r := 56) fl_X5_58 dX5_choose_79 (a_60 hX) rfl ?_
        refine j_getI (pc := 82) fl_X5_93 dX5_choose_82 (a_56 hX) rfl ?_
        have f15 : (-2147483648 : Int) ≤ σ12 56 3 ∧ σ12 56 3 ≤ 2147483647 := hIσ12 56 3
        refine j_ifR_le (pc := 85) (tgt := 89) ⟨by omega, by omega⟩ dX5_choose_85 rfl (fun h16 => ?_) (fun h16 => ?_)
        · refine j_aload_n (pc := 89) dX5_choose_89 rfl rfl ?_
          refine j_getR (pc := 90) (r := 56) fl_X5_58 dX5_choose_90 (a_60 hX) rfl ?_
          refine j_getI (pc := 93) fl_X5_96 dX5_choose_93 (a_56 hX) rfl ?_
          have f17 : (-2147483648 : Int) ≤ σ12 56 2 ∧ σ12 56 2 ≤ 2147483647 := hIσ12 56 2
          refine j_istore (pc := 96) (i := 7) (ls' := [(0, vR 60), (1, vI c), (2, vI b), (4, vI k), (5, vI (σ 66 ((c - 1).toNat))), (6, vI ((σ 66 (c.toNat)) - 1)), (7, vI (σ12 56 2))]) [1, 2, 3, 5, 6, 7, 0] dX5_choose_96 (Nat.le_of_ble_eq_true rfl) rfl rfl ?_
          refine j_iload (pc := 98) dX5_choose_98 rfl ?_
          refine j_aload_n (pc := 100) dX5_choose_100 rfl rfl ?_
          refine j_getR (pc := 101) (r := 56) fl_X5_58 dX5_choose_101 (a_60 hX) rfl ?_
          refine j_aload_n (pc := 104) dX5_choose_104 rfl rfl ?_
          refine j_getR (pc := 105) (r := 61) fl_X5_12 dX5_choose_105 (a_60 hX) rfl ?_
          refine j_aload_n (pc := 108) dX5_choose_108 rfl rfl ?_
          refine j_getR (pc := 109) (r := 61) fl_X5_12 dX5_choose_109 (a_60 hX) rfl ?_
          refine j_callV (pc := 112) (As := []) (st := [vR 61, vR 56, vI k]) (c_X7_all 61 (s_Row_61 hX) σ12 hIσ12) mv_X5_99 rfl rfl rfl (a_61 hX) dX5_choose_112 ⟨(show (0) + 1 ≤ ((20 + 2 * N + 1)) from by omega), (show 8 + (1 + 11) + 60 * (0) ≤ 60 * ((20 + 2 * N + 1)) from by omega)⟩ ⟨Nat.le_refl _, Nat.le_refl _⟩ rfl (Nat.le_of_ble_eq_true rfl) rfl (fun z18 σ19 hz18 => ?_)
          obtain ⟨r21, rfl, hr21, rfl, q20_0⟩ := hz18
          replace q20_0 : r21 = pt (σ12 61 0) - 1 := q20_0
          have y22 : σ12 61 0 = σ 61 0 := ((hGσ12 61 0 (show ¬ ((61 = 56 ∧ (0 = 2 ∨ 0 = 3))) from by decide))).trans (hGσ8 61 0 (show ¬ ((61 = 56 ∧ (0 = 2 ∨ 0 = 3))) from by decide))
          have f23 : (0 : Int) ≤ σ 61 0 ∧ σ 61 0 ≤ 10 := hI 61 0
          refine j_st (st' := [vI r21, vR 61, vR 56, vI k]) rfl ?_
          refine j_iload (pc := 115) dX5_choose_115 rfl ?_
          refine j_iload (pc := 117) dX5_choose_117 rfl ?_
          refine j_callV (pc := 119) (As := [vR 61, vI r21, vI (σ 66 ((c - 1).toNat)), vI ((σ 66 (c.toNat)) - 1)]) (st := [vI k]) (c_X4_riskOver hX 61 (s_Row_61 hX) r21 ⟨by omega, by omega⟩ (σ 66 ((c - 1).toNat)) ⟨by omega, by omega⟩ ((σ 66 (c.toNat)) - 1) ⟨by omega, by omega⟩ σ12 hIσ12 (by omega)) mv_X5_102 rfl rfl rfl (a_56 hX) dX5_choose_119 ⟨(show (2) + 1 ≤ ((20 + 2 * N + 1)) from by omega), (show 8 + (7 + 11) + 60 * (2) ≤ 60 * ((20 + 2 * N + 1)) from by omega)⟩ ⟨Nat.le_refl _, Nat.le_refl _⟩ rfl (Nat.le_of_ble_eq_true rfl) rfl (fun z24 σ25 hz24 => ?_)
          obtain ⟨r27, rfl, hr27, hIσ25, hGσ25, q26_0, q26_1⟩ := hz24
          replace q26_0 : ∀ gg qq : Nat → Int, RG 61 gg qq σ12 → (σ 66 ((c - 1).toNat)) ≤ ((σ 66 (c.toNat)) - 1) + 1 → r27 = rsk (wW 1 σ12) gg r21 ((σ 66 (c.toNat)) - 1).toNat - rsk (wW 1 σ12) gg r21 ((σ 66 ((c - 1).toNat)) - 1).toNat := q26_0
          replace q26_1 : -16000 ≤ r27 ∧ r27 ≤ 16000 := q26_1
          have hFσ25 : tw_F (fun c j => (56 ≤ c ∧ c < 58) ∨ (c = 60 ∧ (j = 8 ∨ j = 10 ∨ j = 11)) ∨ (61 ≤ c ∧ c < 66) ∨ (67 ≤ c ∧ c < 71)) σ σ25 := tw_F_tr hFσ12 hGσ25 (fun c j q => (show (56 ≤ c ∧ c < 58) ∨ (c = 60 ∧ (j = 8 ∨ j = 10 ∨ j = 11)) ∨ (61 ≤ c ∧ c < 66) ∨ (67 ≤ c ∧ c < 71) from by replace q : c = 57 := q; exact (Or.inl (by rw [show c = 57 from q]; decide))))
          refine j_st (st' := [vI r27, vI k]) rfl ?_
          have fy : ∀ x j, 60 ≤ x → x < 71 → σ25 x j = σ x j := fun x j a b => (hGσ25 x j (show ¬ (x = 57) from by omega)).trans (fz x j a b)
          have rs : ∀ rk : Nat → Int, WOK (wW 1 σ) → CHP (wW 1 σ) rk c b e k σ → r27 = rsk (wW 1 σ) (lay (wW 1 σ) b) 1023 ((σ 66 (c.toNat)) - 1).toNat - k ∧ 0 ≤ k ∧ k ≤ 16000 := fun rk hW hP => by
            obtain ⟨x1, x2, x3, x4⟩ := CH_f1 hP hW v1
            have x5 := CH_f0 hP hW
            have y := q26_0 _ _ (RG_F hP.2.2.2.1 (fun c j a b => fz c j (by omega) (by omega))) (by omega)
            rw [WB9, q20_0, fz 61 0 (by omega) (by omega)] at y
            have ek : k = rsk (wW 1 σ) (lay (wW 1 σ) b) 1023 (((σ 66 ((c - 1).toNat)) : Int) - 1).toNat := hP.2.2.2.2.2.2.1.trans (by rw [← v0])
            have n1 := RG_n hP.2.2.2.1
            have n2 : (0 : Int) ≤ σ 61 0 ∧ σ 61 0 ≤ 10 := hI 61 0
            have g : ∀ n : Nat, rsk (wW 1 σ) (lay (wW 1 σ) b) (pt (σ 61 0) - 1) n = rsk (wW 1 σ) (lay (wW 1 σ) b) 1023 n := fun n => rsk_good (fun k k1 k2 => by
              have m := n1 n
              have u := bt_all (σ 61 0).toNat (by omega) k.toNat (by omega)
              rw [show (((σ 61 0).toNat : Nat) : Int) = σ 61 0 from by omega, show ((k.toNat : Nat) : Int) = k from by omega] at u
              exact ⟨fun z => absurd z u.1, fun z => absurd z u.2⟩)
            rw [g, g, ← ek] at y
            have z := rsk_in (g := lay (wW 1 σ) b) (good := 1023) hW (n := (f0F c σ - 1).toNat) (by have := hW.1; omega)
            rw [← hP.2.2.2.2.2.2.1] at z
            exact ⟨y, z⟩
          refine j_iadd (pc := 122) dX5_choose_122 ?_
          refine j_top (fun z28 ez28 hz28 => ?_)
          have gz28 : k + r27 < -2147483648 ∨ 2147483647 < k + r27 ∨ z28 = k + r27 := by rw [ez28]; exact w32_or _
          refine j_istore (pc := 123) (i := 8) (ls' := [(0, vR 60), (1, vI c), (2, vI b), (7, vI (σ12 56 2)), (8, vI z28)]) [1, 2, 3, 7, 0] dX5_choose_123 (Nat.le_of_ble_eq_true rfl) rfl rfl ?_
          refine j_aload_n (pc := 125) dX5_choose_125 rfl rfl ?_
          refine j_getI (pc := 126) fl_X5_42 dX5_choose_126 (a_60 hX) rfl ?_
          refine j_topV (show σ25 60 10 = σ 60 10 from (((hGσ25 60 10 (show ¬ (60 = 57) from by decide))).trans (hGσ12 60 10 (show ¬ ((60 = 56 ∧ (10 = 2 ∨ 10 = 3))) from by decide))).trans (hGσ8 60 10 (show ¬ ((60 = 56 ∧ (10 = 2 ∨ 10 = 3))) from by decide))) ?_
          have f29 : (0 : Int) ≤ σ 60 10 ∧ σ 60 10 ≤ 1 := hI 60 10
          refine j_ifR_eq (pc := 129) (tgt := 142) ⟨by omega, by omega⟩ dX5_choose_129 rfl (fun h30 => ?_) (fun h30 => ?_)
          · refine j_iload_n (pc := 142) dX5_choose_142 rfl rfl ?_
            refine j_aload_n (pc := 143) dX5_choose_143 rfl rfl ?_
            refine j_getI (pc := 144) fl_X5_25 dX5_choose_144 (a_60 hX) rfl ?_
            refine j_topV (show σ25 60 5 = σ 60 5 from (((hGσ25 60 5 (show ¬ (60 = 57) from by decide))).trans (hGσ12 60 5 (show ¬ ((60 = 56 ∧ (5 = 2 ∨ 5 = 3))) from by decide))).trans (hGσ8 60 5 (show ¬ ((60 = 56 ∧ (5 = 2 ∨ 5 = 3))) from by decide))) ?_
            refine j_icmpR_ne (pc := 147) (tgt := 160) ⟨by omega, by omega⟩ ⟨by omega, by omega⟩ dX5_choose_147 rfl (fun h31 => ?_) (fun h31 => ?_)
            · have W9 : wW 1 σ25 = wW 1 σ := wW_F (fun c j a b => hFσ25 c j (show ¬ ((56 ≤ c ∧ c < 58) ∨ (c = 60 ∧ (j = 8 ∨ j = 10 ∨ j = 11)) ∨ (61 ≤ c ∧ c < 66) ∨ (67 ≤ c ∧ c < 71)) from by omega))
              refine j_aload_n (pc := 160) dX5_choose_160 rfl rfl ?_
              refine j_iload_n (pc := 161) dX5_choose_161 rfl rfl ?_
              refine j_iload_n (pc := 162) dX5_choose_162 rfl rfl ?_
              refine j_iload (pc := 163) dX5_choose_163 rfl ?_
              refine j_iload (pc := 165) dX5_choose_165 rfl ?_
              refine j_callV (pc := 167) (As := [vI c, vI b, vI (σ12 56 2), vI z28]) (st := []) (hgo c ⟨by omega, by omega⟩ b ⟨by omega, by omega⟩ (σ12 56 2) ⟨by omega, by omega⟩ z28 ⟨by omega, by omega⟩ σ25 hIσ25 (by omega)) mv_X5_110 rfl rfl rfl (a_60 hX) dX5_choose_167 ⟨(show (20 + 2 * N) + 1 ≤ ((20 + 2 * N + 1)) from by omega), (show 8 + (7 + 11) + 60 * (20 + 2 * N) ≤ 60 * ((20 + 2 * N + 1)) from by omega)⟩ ⟨Nat.le_refl _, Nat.le_refl _⟩ rfl (Nat.le_of_ble_eq_true rfl) rfl (fun z32 σ33 hz32 => ?_)
              obtain ⟨rfl, hIσ33, hGσ33, q34_0⟩ := hz32
              replace q34_0 : ∀ (rk : Nat → Int) (T : Int → Prop), WOK (wW 1 σ25) → GOP (wW 1 σ25) rk c b (σ12 56 2) z28 σ25 → BST (wW 1 σ25) rk T σ25 → CHQ (wW 1 σ25) rk b σ33 ∧ BST (wW 1 σ25) rk (fun S => T S ∨ CMP (wW 1 σ25) c b S) σ33 := q34_0
              have hFσ33 : tw_F (fun c j => (56 ≤ c ∧ c < 58) ∨ (c = 60 ∧ (j = 8 ∨ j = 10 ∨ j = 11)) ∨ (61 ≤ c ∧ c < 66) ∨ (67 ≤ c ∧ c < 71)) σ σ33 := tw_F_tr hFσ25 hGσ33 (fun c j q => (show (56 ≤ c ∧ c < 58) ∨ (c = 60 ∧ (j = 8 ∨ j = 10 ∨ j = 11)) ∨ (61 ≤ c ∧ c < 66) ∨ (67 ≤ c ∧ c < 71) from by replace q : (56 ≤ c ∧ c < 58) ∨ (c = 60 ∧ (j = 8 ∨ j = 10 ∨ j = 11)) ∨ (61 ≤ c ∧ c < 66) ∨ (67 ≤ c ∧ c < 71) := q; exact q))
              refine j_st (st' := []) rfl ?_
              have hg := q34_0; rw [W9] at hg
              have fin : ∀ (rk : Nat → Int) (T : Int → Prop), WOK (wW 1 σ) → CHP (wW 1 σ) rk c b e k σ → BST (wW 1 σ) rk T σ → CHQ (wW 1 σ) rk b σ33 ∧ BST (wW 1 σ) rk (fun S => T S ∨ CMP (wW 1 σ) c b S) σ33 := fun rk T hW hP hB => by
                have y := rs rk hW hP
                have z := fy 60 5 (by omega) (by omega)
                exact hg rk T hW (ch_go hW hP (by omega) (by omega) (cl rk hW hP).2 (by omega) (by omega) (cl rk hW hP).1 fy) (BST_F hB (fun j => fy 60 j (by omega) (by omega)) (fun x j a b => fy x j (by omega) (by omega)))
              exact j_vret (pc := 170) ⟨rfl, rfl⟩ dX5_choose_170 rfl ⟨rfl, hIσ33, hFσ33, fin⟩
            · refine j_aload_n (pc := 150) dX5_choose_150 rfl rfl ?_
              refine j_iload_n (pc := 151) dX5_choose_151 rfl rfl ?_
              refine j_iload (pc := 152) dX5_choose_152 rfl ?_
              refine j_callV (pc := 154) (As := [vI b, vI z28]) (st := []) (c_X5_keepIfBetter hX b ⟨by omega, by omega⟩ z28 ⟨by omega, by omega⟩ σ25 hIσ25) mv_X5_106 rfl rfl rfl (a_60 hX) dX5_choose_154 ⟨(show (1) + 1 ≤ ((20 + 2 * N + 1)) from by omega), (show 8 + (4 + 11) + 60 * (1) ≤ 60 * ((20 + 2 * N + 1)) from by omega)⟩ ⟨Nat.le_refl _, Nat.le_refl _⟩ rfl (Nat.le_of_ble_eq_true rfl) rfl (fun z36 σ37 hz36 => ?_)
              obtain ⟨rfl, hIσ37, hGσ37, q38_0, q38_1, q38_2⟩ := hz36
              replace q38_0 : (¬ (σ25 60 10 = 0 ∨ z28 < σ25 60 11 ∨ (z28 = σ25 60 11 ∧ (σ25 61 0 < σ25 67 0 ∨ (σ25 61 0 = σ25 67 0 ∧ b < σ25 60 8)))) ∧ σ37 60 10 = σ25 60 10 ∧ σ37 60 8 = σ25 60 8 ∧ σ37 60 11 = σ25 60 11) ∨ ((σ25 60 10 = 0 ∨ z28 < σ25 60 11 ∨ (z28 = σ25 60 11 ∧ (σ25 61 0 < σ25 67 0 ∨ (σ25 61 0 = σ25 67 0 ∧ b < σ25 60 8)))) ∧ σ37 60 10 = 1 ∧ σ37 60 8 = b ∧ σ37 60 11 = z28) := q38_0
              have y40 : σ25 60 10 = σ 60 10 := (((hGσ25 60 10 (show ¬ (60 = 57) from by decide))).trans (hGσ12 60 10 (show ¬ ((60 = 56 ∧ (10 = 2 ∨ 10 = 3))) from by decide))).trans (hGσ8 60 10 (show ¬ ((60 = 56 ∧ (10 = 2 ∨ 10 = 3))) from by decide))
              have y41 : σ25 60 11 = σ 60 11 := (((hGσ25 60 11 (show ¬ (60 = 57) from by decide))).trans (hGσ12 60 11 (show ¬ ((60 = 56 ∧ (11 = 2 ∨ 11 = 3))) from by decide))).trans (hGσ8 60 11 (show ¬ ((60 = 56 ∧ (11 = 2 ∨ 11 = 3))) from by decide))
              have f42 : (-2147483648 : Int) ≤ σ 60 11 ∧ σ 60 11 ≤ 2147483647 := hI 60 11
              have y43 : σ25 61 0 = σ 61 0 := (((hGσ25 61 0 (show ¬ (61 = 57) from by decide))).trans (hGσ12 61 0 (show ¬ ((61 = 56 ∧ (0 = 2 ∨ 0 = 3))) from by decide))).trans (hGσ8 61 0 (show ¬ ((61 = 56 ∧ (0 = 2 ∨ 0 = 3))) from by decide))
              have y44 : σ25 67 0 = σ 67 0 := (((hGσ25 67 0 (show ¬ (67 = 57) from by decide))).trans (hGσ12 67 0 (show ¬ ((67 = 56 ∧ (0 = 2 ∨ 0 = 3))) from by decide))).trans (hGσ8 67 0 (show ¬ ((67 = 56 ∧ (0 = 2 ∨ 0 = 3))) from by decide))
              have f45 : (0 : Int) ≤ σ 67 0 ∧ σ 67 0 ≤ 10 := hI 67 0
              have y46 : σ25 60 8 = σ 60 8 := (((hGσ25 60 8 (show ¬ (60 = 57) from by decide))).trans (hGσ12 60 8 (show ¬ ((60 = 56 ∧ (8 = 2 ∨ 8 = 3))) from by decide))).trans (hGσ8 60 8 (show ¬ ((60 = 56 ∧ (8 = 2 ∨ 8 = 3))) from by decide))
              have f47 : (-2147483648 : Int) ≤ σ 60 8 ∧ σ 60 8 ≤ 2147483647 := hI 60 8
              replace q38_1 : ∀ gg qq : Nat → Int, (σ25 60 10 = 0 ∨ z28 < σ25 60 11 ∨ (z28 = σ25 60 11 ∧ (σ25 61 0 < σ25 67 0 ∨ (σ25 61 0 = σ25 67 0 ∧ b < σ25 60 8)))) → RG 61 gg qq σ25 → RG 67 gg qq σ37 := q38_1
              have y48 : σ25 60 10 = σ 60 10 := (((hGσ25 60 10 (show ¬ (60 = 57) from by decide))).trans (hGσ12 60 10 (show ¬ ((60 = 56 ∧ (10 = 2 ∨ 10 = 3))) from by decide))).trans (hGσ8 60 10 (show ¬ ((60 = 56 ∧ (10 = 2 ∨ 10 = 3))) from by decide))
              have y49 : σ25 60 11 = σ 60 11 := (((hGσ25 60 11 (show ¬ (60 = 57) from by decide))).trans (hGσ12 60 11 (show ¬ ((60 = 56 ∧ (11 = 2 ∨ 11 = 3))) from by decide))).trans (hGσ8 60 11 (show ¬ ((60 = 56 ∧ (11 = 2 ∨ 11 = 3))) from by decide))
              have y50 : σ25 61 0 = σ 61 0 := (((hGσ25 61 0 (show ¬ (61 = 57) from by decide))).trans (hGσ12 61 0 (show ¬ ((61 = 56 ∧ (0 = 2 ∨ 0 = 3))) from by decide))).trans (hGσ8 61 0 (show ¬ ((61 = 56 ∧ (0 = 2 ∨ 0 = 3))) from by decide))
              have y51 : σ25 67 0 = σ 67 0 := (((hGσ25 67 0 (show ¬ (67 = 57) from by decide))).trans (hGσ12 67 0 (show ¬ ((67 = 56 ∧ (0 = 2 ∨ 0 = 3))) from by decide))).trans (hGσ8 67 0 (show ¬ ((67 = 56 ∧ (0 = 2 ∨ 0 = 3))) from by decide))
              have y52 : σ25 60 8 = σ 60 8 := (((hGσ25 60 8 (show ¬ (60 = 57) from by decide))).trans (hGσ12 60 8 (show ¬ ((60 = 56 ∧ (8 = 2 ∨ 8 = 3))) from by decide))).trans (hGσ8 60 8 (show ¬ ((60 = 56 ∧ (8 = 2 ∨ 8 = 3))) from by decide))
              replace q38_2 : ∀ gg qq : Nat → Int, ¬ (σ25 60 10 = 0 ∨ z28 < σ25 60 11 ∨ (z28 = σ25 60 11 ∧ (σ25 61 0 < σ25 67 0 ∨ (σ25 61 0 = σ25 67 0 ∧ b < σ25 60 8)))) → RG 67 gg qq σ25 → RG 67 gg qq σ37 := q38_2
              have y53 : σ25 60 10 = σ 60 10 := (((hGσ25 60 10 (show ¬ (60 = 57) from by decide))).trans (hGσ12 60 10 (show ¬ ((60 = 56 ∧ (10 = 2 ∨ 10 = 3))) from by decide))).trans (hGσ8 60 10 (show ¬ ((60 = 56 ∧ (10 = 2 ∨ 10 = 3))) from by decide))
              have y54 : σ25 60 11 = σ 60 11 := (((hGσ25 60 11 (show ¬ (60 = 57) from by decide))).trans (hGσ12 60 11 (show ¬ ((60 = 56 ∧ (11 = 2 ∨ 11 = 3))) from by decide))).trans (hGσ8 60 11 (show ¬ ((60 = 56 ∧ (11 = 2 ∨ 11 = 3))) from by decide))
              have y55 : σ25 61 0 = σ 61 0 := (((hGσ25 61 0 (show ¬ (61 = 57) from by decide))).trans (hGσ12 61 0 (show ¬ ((61 = 56 ∧ (0 = 2 ∨ 0 = 3))) from by decide))).trans (hGσ8 61 0 (show ¬ ((61 = 56 ∧ (0 = 2 ∨ 0 = 3))) from by decide))
              have y56 : σ25 67 0 = σ 67 0 := (((hGσ25 67 0 (show ¬ (67 = 57) from by decide))).trans (hGσ12 67 0 (show ¬ ((67 = 56 ∧ (0 = 2 ∨ 0 = 3))) from by decide))).trans (hGσ8 67 0 (show ¬ ((67 = 56 ∧ (0 = 2 ∨ 0 = 3))) from by decide))
              have y57 : σ25 60 8 = σ 60 8 := (((hGσ25 60 8 (show ¬ (60 = 57) from by decide))).trans (hGσ12 60 8 (show ¬ ((60 = 56 ∧ (8 = 2 ∨ 8 = 3))) from by decide))).trans (hGσ8 60 8 (show ¬ ((60 = 56 ∧ (8 = 2 ∨ 8 = 3))) from by decide))
              have hFσ37 : tw_F (fun c j => (56 ≤ c ∧ c < 58) ∨ (c = 60 ∧ (j = 8 ∨ j = 10 ∨ j = 11)) ∨ (61 ≤ c ∧ c < 66) ∨ (67 ≤ c ∧ c < 71)) σ σ37 := tw_F_tr hFσ25 hGσ37 (fun c j q => (show (56 ≤ c ∧ c < 58) ∨ (c = 60 ∧ (j = 8 ∨ j = 10 ∨ j = 11)) ∨ (61 ≤ c ∧ c < 66) ∨ (67 ≤ c ∧ c < 71) from by replace q : (c = 60 ∧ (j = 8 ∨ j = 10 ∨ j = 11)) ∨ (67 ≤ c ∧ c < 71) := q; exact (q.elim (fun q => (Or.inr (Or.inl q))) (fun q => (Or.inr (Or.inr (Or.inr q)))))))
              refine j_st (st' := []) rfl ?_
              have fin : ∀ (rk : Nat → Int) (T : Int → Prop), WOK (wW 1 σ) → CHP (wW 1 σ) rk c b e k σ → BST (wW 1 σ) rk T σ → CHQ (wW 1 σ) rk b σ37 ∧ BST (wW 1 σ) rk (fun S => T S ∨ CMP (wW 1 σ) c b S) σ37 := fun rk T hW hP hB => by
                have y := rs rk hW hP
                exact fin_keep (v := z28) hW hP hB (by have z := fy 60 5 (by omega) (by omega); omega) (by have z := fy 60 5 (by omega) (by omega); omega) (cl rk hW hP).2 (by omega) (by omega) fy q38_0 q38_1 q38_2 (hGσ37 60 5 (show ¬ ((60 = 60 ∧ (5 = 8 ∨ 5 = 10 ∨ 5 = 11)) ∨ (67 ≤ 60 ∧ 60 < 71)) from by decide)) (fun x j a b => hGσ37 x j (show ¬ ((x = 60 ∧ (j = 8 ∨ j = 10 ∨ j = 11)) ∨ (67 ≤ x ∧ x < 71)) from by omega))
              refine j_goto (pc := 157) (tgt := 170) dX5_choose_157 rfl ?_
              exact j_vret (pc := 170) ⟨rfl, rfl⟩ dX5_choose_170 rfl ⟨rfl, hIσ37, hFσ37, fin⟩
          · refine j_iload (pc := 132) dX5_choose_132 rfl ?_
            refine j_aload_n (pc := 134) dX5_choose_134 rfl rfl ?_
            refine j_getI (pc := 135) fl_X5_45 dX5_choose_135 (a_60 hX) rfl ?_
            refine j_topV (show σ25 60 11 = σ 60 11 from (((hGσ25 60 11 (show ¬ (60 = 57) from by decide))).trans (hGσ12 60 11 (show ¬ ((60 = 56 ∧ (11 = 2 ∨ 11 = 3))) from by decide))).trans (hGσ8 60 11 (show ¬ ((60 = 56 ∧ (11 = 2 ∨ 11 = 3))) from by decide))) ?_
            have f58 : (-2147483648 : Int) ≤ σ 60 11 ∧ σ 60 11 ≤ 2147483647 := hI 60 11
            refine j_icmpR_le (pc := 138) (tgt := 142) ⟨by omega, by omega⟩ ⟨by omega, by omega⟩ dX5_choose_138 rfl (fun h59 => ?_) (fun h59 => ?_)
            · refine j_iload_n (pc := 142) dX5_choose_142 rfl rfl ?_
              refine j_aload_n (pc := 143) dX5_choose_143 rfl rfl ?_
              refine j_getI (pc := 144) fl_X5_25 dX5_choose_144 (a_60 hX) rfl ?_
              refine j_topV (show σ25 60 5 = σ 60 5 from (((hGσ25 60 5 (show ¬ (60 = 57) from by decide))).trans (hGσ12 60 5 (show ¬ ((60 = 56 ∧ (5 = 2 ∨ 5 = 3))) from by decide))).trans (hGσ8 60 5 (show ¬ ((60 = 56 ∧ (5 = 2 ∨ 5 = 3))) from by decide))) ?_
              refine j_icmpR_ne (pc := 147) (tgt := 160) ⟨by omega, by omega⟩ ⟨by omega, by omega⟩ dX5_choose_147 rfl (fun h60 => ?_) (fun h60 => ?_)
              · have W9 : wW 1 σ25 = wW 1 σ := wW_F (fun c j a b => hFσ25 c j (show ¬ ((56 ≤ c ∧ c < 58) ∨ (c = 60 ∧ (j = 8 ∨ j = 10 ∨ j = 11)) ∨ (61 ≤ c ∧ c < 66) ∨ (67 ≤ c ∧ c < 71)) from by omega))
                refine j_aload_n (pc := 160) dX5_choose_160 rfl rfl ?_
                refine j_iload_n (pc := 161) dX5_choose_161 rfl rfl ?_
                refine j_iload_n (pc := 162) dX5_choose_162 rfl rfl ?_
                refine j_iload (pc := 163) dX5_choose_163 rfl ?_
                refine j_iload (pc := 165) dX5_choose_165 rfl ?_
                refine j_callV (pc := 167) (As := [vI c, vI b, vI (σ12 56 2), vI z28]) (st := []) (hgo c ⟨by omega, by omega⟩ b ⟨by omega, by omega⟩ (σ12 56 2) ⟨by omega, by omega⟩ z28 ⟨by omega, by omega⟩ σ25 hIσ25 (by omega)) mv_X5_110 rfl rfl rfl (a_60 hX) dX5_choose_167 ⟨(show (20 + 2 * N) + 1 ≤ ((20 + 2 * N + 1)) from by omega), (show 8 + (7 + 11) + 60 * (20 + 2 * N) ≤ 60 * ((20 + 2 * N + 1)) from by omega)⟩ ⟨Nat.le_refl _, Nat.le_refl _⟩ rfl (Nat.le_of_ble_eq_true rfl) rfl (fun z61 σ62 hz61 => ?_)
                obtain ⟨rfl, hIσ62, hGσ62, q63_0⟩ := hz61
                replace q63_0 : ∀ (rk : Nat → Int) (T : Int → Prop), WOK (wW 1 σ25) → GOP (wW 1 σ25) rk c b (σ12 56 2) z28 σ25 → BST (wW 1 σ25) rk T σ25 → CHQ (wW 1 σ25) rk b σ62 ∧ BST (wW 1 σ25) rk (fun S => T S ∨ CMP (wW 1 σ25) c b S) σ62 := q63_0
                have hFσ62 : tw_F (fun c j => (56 ≤ c ∧ c < 58) ∨ (c = 60 ∧ (j = 8 ∨ j = 10 ∨ j = 11)) ∨ (61 ≤ c ∧ c < 66) ∨ (67 ≤ c ∧ c < 71)) σ σ62 := tw_F_tr hFσ25 hGσ62 (fun c j q => (show (56 ≤ c ∧ c < 58) ∨ (c = 60 ∧ (j = 8 ∨ j = 10 ∨ j = 11)) ∨ (61 ≤ c ∧ c < 66) ∨ (67 ≤ c ∧ c < 71) from by replace q : (56 ≤ c ∧ c < 58) ∨ (c = 60 ∧ (j = 8 ∨ j = 10 ∨ j = 11)) ∨ (61 ≤ c ∧ c < 66) ∨ (67 ≤ c ∧ c < 71) := q; exact q))
                refine j_st (st' := []) rfl ?_
                have hg := q63_0; rw [W9] at hg
                have fin : ∀ (rk : Nat → Int) (T : Int → Prop), WOK (wW 1 σ) → CHP (wW 1 σ) rk c b e k σ → BST (wW 1 σ) rk T σ → CHQ (wW 1 σ) rk b σ62 ∧ BST (wW 1 σ) rk (fun S => T S ∨ CMP (wW 1 σ) c b S) σ62 := fun rk T hW hP hB => by
                  have y := rs rk hW hP
                  have z := fy 60 5 (by omega) (by omega)
                  exact hg rk T hW (ch_go hW hP (by omega) (by omega) (cl rk hW hP).2 (by omega) (by omega) (cl rk hW hP).1 fy) (BST_F hB (fun j => fy 60 j (by omega) (by omega)) (fun x j a b => fy x j (by omega) (by omega)))
                exact j_vret (pc := 170) ⟨rfl, rfl⟩ dX5_choose_170 rfl ⟨rfl, hIσ62, hFσ62, fin⟩
              · refine j_aload_n (pc := 150) dX5_choose_150 rfl rfl ?_
                refine j_iload_n (pc := 151) dX5_choose_151 rfl rfl ?_
                refine j_iload (pc := 152) dX5_choose_152 rfl ?_
                refine j_callV (pc := 154) (As := [vI b, vI z28]) (st := []) (c_X5_keepIfBetter hX b ⟨by omega, by omega⟩ z28 ⟨by omega, by omega⟩ σ25 hIσ25) mv_X5_106 rfl rfl rfl (a_60 hX) dX5_choose_154 ⟨(show (1) + 1 ≤ ((20 + 2 * N + 1)) from by omega), (show 8 + (4 + 11) + 60 * (1) ≤ 60 * ((20 + 2 * N + 1)) from by omega)⟩ ⟨Nat.le_refl _, Nat.le_refl _⟩ rfl (Nat.le_of_ble_eq_true rfl) rfl (fun z65 σ66 hz65 => ?_)
                obtain ⟨rfl, hIσ66, hGσ66, q67_0, q67_1, q67_2⟩ := hz65
                replace q67_0 : (¬ (σ25 60 10 = 0 ∨ z28 < σ25 60 11 ∨ (z28 = σ25 60 11 ∧ (σ25 61 0 < σ25 67 0 ∨ (σ25 61 0 = σ25 67 0 ∧ b < σ25 60 8)))) ∧ σ66 60 10 = σ25 60 10 ∧ σ66 60 8 = σ25 60 8 ∧ σ66 60 11 = σ25 60 11) ∨ ((σ25 60 10 = 0 ∨ z28 < σ25 60 11 ∨ (z28 = σ25 60 11 ∧ (σ25 61 0 < σ25 67 0 ∨ (σ25 61 0 = σ25 67 0 ∧ b < σ25 60 8)))) ∧ σ66 60 10 = 1 ∧ σ66 60 8 = b ∧ σ66 60 11 = z28) := q67_0
                have y69 : σ25 60 10 = σ 60 10 := (((hGσ25 60 10 (show ¬ (60 = 57) from by decide))).trans (hGσ12 60 10 (show ¬ ((60 = 56 ∧ (10 = 2 ∨ 10 = 3))) from by decide))).trans (hGσ8 60 10 (show ¬ ((60 = 56 ∧ (10 = 2 ∨ 10 = 3))) from by decide))
                have y70 : σ25 60 11 = σ 60 11 := (((hGσ25 60 11 (show ¬ (60 = 57) from by decide))).trans (hGσ12 60 11 (show ¬ ((60 = 56 ∧ (11 = 2 ∨ 11 = 3))) from by decide))).trans (hGσ8 60 11 (show ¬ ((60 = 56 ∧ (11 = 2 ∨ 11 = 3))) from by decide))
                have y71 : σ25 61 0 = σ 61 0 := (((hGσ25 61 0 (show ¬ (61 = 57) from by decide))).trans (hGσ12 61 0 (show ¬ ((61 = 56 ∧ (0 = 2 ∨ 0 = 3))) from by decide))).trans (hGσ8 61 0 (show ¬ ((61 = 56 ∧ (0 = 2 ∨ 0 = 3))) from by decide))
                have y72 : σ25 67 0 = σ 67 0 := (((hGσ25 67 0 (show ¬ (67 = 57) from by decide))).trans (hGσ12 67 0 (show ¬ ((67 = 56 ∧ (0 = 2 ∨ 0 = 3))) from by decide))).trans (hGσ8 67 0 (show ¬ ((67 = 56 ∧ (0 = 2 ∨ 0 = 3))) from by decide))
                have f73 : (0 : Int) ≤ σ 67 0 ∧ σ 67 0 ≤ 10 := hI 67 0
                have y74 : σ25 60 8 = σ 60 8 := (((hGσ25 60 8 (show ¬ (60 = 57) from by decide))).trans (hGσ12 60 8 (show ¬ ((60 = 56 ∧ (8 = 2 ∨ 8 = 3))) from by decide))).trans (hGσ8 60 8 (show ¬ ((60 = 56 ∧ (8 = 2 ∨ 8 = 3))) from by decide))
                have f75 : (-2147483648 : Int) ≤ σ 60 8 ∧ σ 60 8 ≤ 2147483647 := hI 60 8
                replace q67_1 : ∀ gg qq : Nat → Int, (σ25 60 10 = 0 ∨ z28 < σ25 60 11 ∨ (z28 = σ25 60 11 ∧ (σ25 61 0 < σ25 67 0 ∨ (σ25 61 0 = σ25 67 0 ∧ b < σ25 60 8)))) → RG 61 gg qq σ25 → RG 67 gg qq σ66 := q67_1
                have y76 : σ25 60 10 = σ 60 10 := (((hGσ25 60 10 (show ¬ (60 = 57) from by decide))).trans (hGσ12 60 10 (show ¬ ((60 = 56 ∧ (10 = 2 ∨ 10 = 3))) from by decide))).trans (hGσ8 60 10 (show ¬ ((60 = 56 ∧ (10 = 2 ∨ 10 = 3))) from by decide))
                have y77 : σ25 60 11 = σ 60 11 := (((hGσ25 60 11 (show ¬ (60 = 57) from by decide))).trans (hGσ12 60 11 (show ¬ ((60 = 56 ∧ (11 = 2 ∨ 11 = 3))) from by decide))).trans (hGσ8 60 11 (show ¬ ((60 = 56 ∧ (11 = 2 ∨ 11 = 3))) from by decide))
                have y78 : σ25 61 0 = σ 61 0 := (((hGσ25 61 0 (show ¬ (61 = 57) from by decide))).trans (hGσ12 61 0 (show ¬ ((61 = 56 ∧ (0 = 2 ∨ 0 = 3))) from by decide))).trans (hGσ8 61 0 (show ¬ ((61 = 56 ∧ (0 = 2 ∨ 0 = 3))) from by decide))
                have y79 : σ25 67 0 = σ 67 0 := (((hGσ25 67 0 (show ¬ (67 = 57) from by decide))).trans (hGσ12 67 0 (show ¬ ((67 = 56 ∧ (0 = 2 ∨ 0 = 3))) from by decide))).trans (hGσ8 67 0 (show ¬ ((67 = 56 ∧ (0 = 2 ∨ 0 = 3))) from by decide))
                have y80 : σ25 60 8 = σ 60 8 := (((hGσ25 60 8 (show ¬ (60 = 57) from by decide))).trans (hGσ12 60 8 (show ¬ ((60 = 56 ∧ (8 = 2 ∨ 8 = 3))) from by decide))).trans (hGσ8 60 8 (show ¬ ((60 = 56 ∧ (8 = 2 ∨ 8 = 3))) from by decide))
                replace q67_2 : ∀ gg qq : Nat → Int, ¬ (σ25 60 10 = 0 ∨ z28 < σ25 60 11 ∨ (z28 = σ25 60 11 ∧ (σ25 61 0 < σ25 67 0 ∨ (σ25 61 0 = σ25 67 0 ∧ b < σ25 60 8)))) → RG 67 gg qq σ25 → RG 67 gg qq σ66 := q67_2
                have y81 : σ25 60 10 = σ 60 10 := (((hGσ25 60 10 (show ¬ (60 = 57) from by decide))).trans (hGσ12 60 10 (show ¬ ((60 = 56 ∧ (10 = 2 ∨ 10 = 3))) from by decide))).trans (hGσ8 60 10 (show ¬ ((60 = 56 ∧ (10 = 2 ∨ 10 = 3))) from by decide))
                have y82 : σ25 60 11 = σ 60 11 := (((hGσ25 60 11 (show ¬ (60 = 57) from by decide))).trans (hGσ12 60 11 (show ¬ ((60 = 56 ∧ (11 = 2 ∨ 11 = 3))) from by decide))).trans (hGσ8 60 11 (show ¬ ((60 = 56 ∧ (11 = 2 ∨ 11 = 3))) from by decide))
                have y83 : σ25 61 0 = σ 61 0 := (((hGσ25 61 0 (show ¬ (61 = 57) from by decide))).trans (hGσ12 61 0 (show ¬ ((61 = 56 ∧ (0 = 2 ∨ 0 = 3))) from by decide))).trans (hGσ8 61 0 (show ¬ ((61 = 56 ∧ (0 = 2 ∨ 0 = 3))) from by decide))
                have y84 : σ25 67 0 = σ 67 0 := (((hGσ25 67 0 (show ¬ (67 = 57) from by decide))).trans (hGσ12 67 0 (show ¬ ((67 = 56 ∧ (0 = 2 ∨ 0 = 3))) from by decide))).trans (hGσ8 67 0 (show ¬ ((67 = 56 ∧ (0 = 2 ∨ 0 = 3))) from by decide))
                have y85 : σ25 60 8 = σ 60 8 := (((hGσ25 60 8 (show ¬ (60 = 57) from by decide))).trans (hGσ12 60 8 (show ¬ ((60 = 56 ∧ (8 = 2 ∨ 8 = 3))) from by decide))).trans (hGσ8 60 8 (show ¬ ((60 = 56 ∧ (8 = 2 ∨ 8 = 3))) from by decide))
                have hFσ66 : tw_F (fun c j => (56 ≤ c ∧ c < 58) ∨ (c = 60 ∧ (j = 8 ∨ j = 10 ∨ j = 11)) ∨ (61 ≤ c ∧ c < 66) ∨ (67 ≤ c ∧ c < 71)) σ σ66 := tw_F_tr hFσ25 hGσ66 (fun c j q => (show (56 ≤ c ∧ c < 58) ∨ (c = 60 ∧ (j = 8 ∨ j = 10 ∨ j = 11)) ∨ (61 ≤ c ∧ c < 66) ∨ (67 ≤ c ∧ c < 71) from by replace q : (c = 60 ∧ (j = 8 ∨ j = 10 ∨ j = 11)) ∨ (67 ≤ c ∧ c < 71) := q; exact (q.elim (fun q => (Or.inr (Or.inl q))) (fun q => (Or.inr (Or.inr (Or.inr q)))))))
                refine j_st (st' := []) rfl ?_
                have fin : ∀ (rk : Nat → Int) (T : Int → Prop), WOK (wW 1 σ) → CHP (wW 1 σ) rk c b e k σ → BST (wW 1 σ) rk T σ → CHQ (wW 1 σ) rk b σ66 ∧ BST (wW 1 σ) rk (fun S => T S ∨ CMP (wW 1 σ) c b S) σ66 := fun rk T hW hP hB => by
                  have y := rs rk hW hP
                  exact fin_keep (v := z28) hW hP hB (by have z := fy 60 5 (by omega) (by omega); omega) (by have z := fy 60 5 (by omega) (by omega); omega) (cl rk hW hP).2 (by omega) (by omega) fy q67_0 q67_1 q67_2 (hGσ66 60 5 (show ¬ ((60 = 60 ∧ (5 = 8 ∨ 5 = 10 ∨ 5 = 11)) ∨ (67 ≤ 60 ∧ 60 < 71)) from by decide)) (fun x j a b => hGσ66 x j (show ¬ ((x = 60 ∧ (j = 8 ∨ j = 10 ∨ j = 11)) ∨ (67 ≤ x ∧ x < 71)) from by omega))
                refine j_goto (pc := 157) (tgt := 170) dX5_choose_157 rfl ?_
                exact j_vret (pc := 170) ⟨rfl, rfl⟩ dX5_choose_170 rfl ⟨rfl, hIσ66, hFσ66, fin⟩
            · have fin : ∀ (rk : Nat → Int) (T : Int → Prop), WOK (wW 1 σ) → CHP (wW 1 σ) rk c b e k σ → BST (wW 1 σ) rk T σ → CHQ (wW 1 σ) rk b σ25 ∧ BST (wW 1 σ) rk (fun S => T S ∨ CMP (wW 1 σ) c b S) σ25 := fun rk T hW hP hB => by
                have y := rs rk hW hP
                have z := fy 60 10 (by omega) (by omega)
                have z2 := fy 60 11 (by omega) (by omega)
                exact fin_prune (v := z28) hW hP hB v1 (by omega) (by omega) (by omega) fy
              exact j_vret (pc := 141) ⟨rfl, rfl⟩ dX5_choose_141 rfl ⟨rfl, hIσ25, hFσ25, fin⟩
        · have fin : ∀ (rk : Nat → Int) (T : Int → Prop), WOK (wW 1 σ) → CHP (wW 1 σ) rk c b e k σ → BST (wW 1 σ) rk T σ → CHQ (wW 1 σ) rk b σ12 ∧ BST (wW 1 σ) rk (fun S => T S ∨ CMP (wW 1 σ) c b S) σ12 := fun rk T hW hP hB => fin_much hW hP hB v1 (cl rk hW hP).2 (by omega) fz
          exact j_vret (pc := 88) ⟨rfl, rfl⟩ dX5_choose_88 rfl ⟨rfl, hIσ12, hFσ12, fin⟩
      · refine j_aload_n (pc := 35) dX5_choose_35 rfl rfl ?_
        refine j_getR (pc := 36) (r := 1) fl_X5_54 dX5_choose_36 (a_60 hX) rfl ?_
        refine j_callV (pc := 39) (As := []) (st := []) (c_X10_top 1 (s_Wall_1 hX) σ hI) mv_X5_77 rfl rfl rfl (a_1 hX) dX5_choose_39 ⟨(show (0) + 1 ≤ ((20 + 2 * N + 1)) from by omega), (show 8 + (1 + 11) + 60 * (0) ≤ 60 * ((20 + 2 * N + 1)) from by omega)⟩ ⟨Nat.le_refl _, Nat.le_refl _⟩ rfl (Nat.le_of_ble_eq_true rfl) rfl (fun z86 σ87 hz86 => ?_)
        obtain ⟨r89, rfl, hr89, rfl, q88_0⟩ := hz86
        replace q88_0 : r89 = σ 2 0 := q88_0
        refine j_st (st' := [vI r89]) rfl ?_
        refine j_goto (pc := 42) (tgt := 53) dX5_choose_42 rfl ?_
        refine j_istore (pc := 53) (i := 6) (ls' := [(0, vR 60), (1, vI c), (2, vI b), (3, vI e), (4, vI k), (5, vI (σ 66 ((c - 1).toNat))), (6, vI r89)]) [1, 2, 3, 4, 5, 6, 0] dX5_choose_53 (Nat.le_of_ble_eq_true rfl) rfl rfl ?_
        have v1 : ((c = σ 60 5 ∧ r89 = wW 1 σ 100) ∨ (¬ c = σ 60 5 ∧ r89 = σ 66 c.toNat - 1)) := by first | exact Or.inl ⟨by omega, by omega⟩ | exact Or.inr ⟨by omega, by omega⟩
        refine j_aload_n (pc := 55) dX5_choose_55 rfl rfl ?_
        refine j_getR (pc := 56) (r := 56) fl_X5_58 dX5_choose_56 (a_60 hX) rfl ?_
        refine j_iload_n (pc := 59) dX5_choose_59 rfl rfl ?_
        refine j_callV (pc := 60) (As := [vI e]) (st := []) (c_X4_begin hX e ⟨by omega, by omega⟩ σ hI) mv_X5_84 rfl rfl rfl (a_56 hX) dX5_choose_60 ⟨(show (0) + 1 ≤ ((20 + 2 * N + 1)) from by omega), (show 8 + (2 + 11) + 60 * (0) ≤ 60 * ((20 + 2 * N + 1)) from by omega)⟩ ⟨Nat.le_refl _, Nat.le_refl _⟩ rfl (Nat.le_of_ble_eq_true rfl) rfl (fun z90 σ91 hz90 => ?_)
        obtain ⟨rfl, hIσ91, hGσ91, q92_0, q92_1⟩ := hz90
        replace q92_0 : σ91 56 2 = e := q92_0
        replace q92_1 : σ91 56 3 = 0 := q92_1
        have hFσ91 : tw_F (fun c j => (56 ≤ c ∧ c < 58) ∨ (c = 60 ∧ (j = 8 ∨ j = 10 ∨ j = 11)) ∨ (61 ≤ c ∧ c < 66) ∨ (67 ≤ c ∧ c < 71)) σ σ91 := tw_F_tr (tw_F_rf) hGσ91 (fun c j q => (show (56 ≤ c ∧ c < 58) ∨ (c = 60 ∧ (j = 8 ∨ j = 10 ∨ j = 11)) ∨ (61 ≤ c ∧ c < 66) ∨ (67 ≤ c ∧ c < 71) from by replace q : (c = 56 ∧ (j = 2 ∨ j = 3)) := q; exact (Or.inl (by rw [show c = 56 from q.1]; decide))))
        refine j_st (st' := []) rfl ?_
        refine j_aload_n (pc := 63) dX5_choose_63 rfl rfl ?_
        refine j_getR (pc := 64) (r := 56) fl_X5_58 dX5_choose_64 (a_60 hX) rfl ?_
        refine j_aload_n (pc := 67) dX5_choose_67 rfl rfl ?_
        refine j_getR (pc := 68) (r := 61) fl_X5_12 dX5_choose_68 (a_60 hX) rfl ?_
        refine j_iload (pc := 71) dX5_choose_71 rfl ?_
        refine j_iload (pc := 73) dX5_choose_73 rfl ?_
        refine j_callV (pc := 75) (As := [vR 61, vI (σ 66 ((c - 1).toNat)), vI r89]) (st := []) (c_X4_climb hX 61 (s_Row_61 hX) (σ 66 ((c - 1).toNat)) ⟨by omega, by omega⟩ r89 ⟨by omega, by omega⟩ σ91 hIσ91 (by omega)) mv_X5_89 rfl rfl rfl (a_56 hX) dX5_choose_75 ⟨(show (1) + 1 ≤ ((20 + 2 * N + 1)) from by omega), (show 8 + (6 + 11) + 60 * (1) ≤ 60 * ((20 + 2 * N + 1)) from by omega)⟩ ⟨Nat.le_refl _, Nat.le_refl _⟩ rfl (Nat.le_of_ble_eq_true rfl) rfl (fun z94 σ95 hz94 => ?_)
        obtain ⟨rfl, hIσ95, hGσ95, q96_0⟩ := hz94
        replace q96_0 : ∀ gg qq : Nat → Int, RG 61 gg qq σ91 → 1 ≤ (σ 66 ((c - 1).toNat)) → (σ 66 ((c - 1).toNat)) ≤ r89 + 1 → σ91 56 2 = eff (wW 1 σ91) gg ((σ 66 ((c - 1).toNat)) - 1).toNat → σ91 56 3 = 0 → σ95 56 2 = eff (wW 1 σ91) gg r89.toNat ∧ TMs (wW 1 σ91) gg 0 (σ 66 ((c - 1).toNat)) (r89 + 1) (σ95 56 3) := q96_0
        have hFσ95 : tw_F (fun c j => (56 ≤ c ∧ c < 58) ∨ (c = 60 ∧ (j = 8 ∨ j = 10 ∨ j = 11)) ∨ (61 ≤ c ∧ c < 66) ∨ (67 ≤ c ∧ c < 71)) σ σ95 := tw_F_tr hFσ91 hGσ95 (fun c j q => (show (56 ≤ c ∧ c < 58) ∨ (c = 60 ∧ (j = 8 ∨ j = 10 ∨ j = 11)) ∨ (61 ≤ c ∧ c < 66) ∨ (67 ≤ c ∧ c < 71) from by replace q : (c = 56 ∧ (j = 2 ∨ j = 3)) := q; exact (Or.inl (by rw [show c = 56 from q.1]; decide))))
        refine j_st (st' := []) rfl ?_
        have WA9 : wW 1 σ91 = wW 1 σ := wW_F (fun c j a b => hGσ91 c j (show ¬ ((c = 56 ∧ (j = 2 ∨ j = 3))) from by omega))
        have cl : ∀ rk : Nat → Int, WOK (wW 1 σ) → CHP (wW 1 σ) rk c b e k σ → σ95 56 2 = eff (wW 1 σ) (lay (wW 1 σ) b) r89.toNat ∧ TMs (wW 1 σ) (lay (wW 1 σ) b) 0 (f0F c σ) (r89 + 1) (σ95 56 3) := fun rk hW hP => by
          obtain ⟨x1, x2, x3, x4⟩ := CH_f1 hP hW v1
          have x5 := CH_f0 hP hW
          have y := q96_0 _ _ (RG_F hP.2.2.2.1 (fun c j a b => hGσ91 c j (show ¬ ((c = 56 ∧ (j = 2 ∨ j = 3))) from by omega))) (by omega) (by omega) (by rw [WA9]; exact (q92_0).trans (hP.2.2.2.2.2.1.trans (by rw [← v0]))) q92_1
          rw [WA9] at y
          exact ⟨y.1, by rw [← v0]; exact y.2⟩
        have fz : ∀ x j, 60 ≤ x → x < 71 → σ95 x j = σ x j := fun x j a b => (hGσ95 x j (show ¬ ((x = 56 ∧ (j = 2 ∨ j = 3))) from by omega)).trans (hGσ91 x j (show ¬ ((x = 56 ∧ (j = 2 ∨ j = 3))) from by omega))
        have WB9 : wW 1 σ95 = wW 1 σ := wW_F (fun c j a b => hFσ95 c j (show ¬ ((56 ≤ c ∧ c < 58) ∨ (c = 60 ∧ (j = 8 ∨ j = 10 ∨ j = 11)) ∨ (61 ≤ c ∧ c < 66) ∨ (67 ≤ c ∧ c < 71)) from by omega))
        refine j_aload_n (pc := 78) dX5_choose_78 rfl rfl ?_
        refine j_getR (pc := 79) (r := 56) fl_X5_58 dX5_choose_79 (a_60 hX) rfl ?_
        refine j_getI (pc := 82) fl_X5_93 dX5_choose_82 (a_56 hX) rfl ?_
        have f98 : (-2147483648 : Int) ≤ σ95 56 3 ∧ σ95 56 3 ≤ 2147483647 := hIσ95 56 3
        refine j_ifR_le (pc := 85) (tgt := 89) ⟨by omega, by omega⟩ dX5_choose_85 rfl (fun h99 => ?_) (fun h99 => ?_)
        · refine j_aload_n (pc := 89) dX5_choose_89 rfl rfl ?_
          refine j_getR (pc := 90) (r := 56) fl_X5_58 dX5_choose_90 (a_60 hX) rfl ?_
          refine j_getI (pc := 93) fl_X5_96 dX5_choose_93 (a_56 hX) rfl ?_
          have f100 : (-2147483648 : Int) ≤ σ95 56 2 ∧ σ95 56 2 ≤ 2147483647 := hIσ95 56 2
          refine j_istore (pc := 96) (i := 7) (ls' := [(0, vR 60), (1, vI c), (2, vI b), (4, vI k), (5, vI (σ 66 ((c - 1).toNat))), (6, vI r89), (7, vI (σ95 56 2))]) [1, 2, 3, 5, 6, 7, 0] dX5_choose_96 (Nat.le_of_ble_eq_true rfl) rfl rfl ?_
          refine j_iload (pc := 98) dX5_choose_98 rfl ?_
          refine j_aload_n (pc := 100) dX5_choose_100 rfl rfl ?_
          refine j_getR (pc := 101) (r := 56) fl_X5_58 dX5_choose_101 (a_60 hX) rfl ?_
          refine j_aload_n (pc := 104) dX5_choose_104 rfl rfl ?_
          refine j_getR (pc := 105) (r := 61) fl_X5_12 dX5_choose_105 (a_60 hX) rfl ?_
          refine j_aload_n (pc := 108) dX5_choose_108 rfl rfl ?_
          refine j_getR (pc := 109) (r := 61) fl_X5_12 dX5_choose_109 (a_60 hX) rfl ?_
          refine j_callV (pc := 112) (As := []) (st := [vR 61, vR 56, vI k]) (c_X7_all 61 (s_Row_61 hX) σ95 hIσ95) mv_X5_99 rfl rfl rfl (a_61 hX) dX5_choose_112 ⟨(show (0) + 1 ≤ ((20 + 2 * N + 1)) from by omega), (show 8 + (1 + 11) + 60 * (0) ≤ 60 * ((20 + 2 * N + 1)) from by omega)⟩ ⟨Nat.le_refl _, Nat.le_refl _⟩ rfl (Nat.le_of_ble_eq_true rfl) rfl (fun z101 σ102 hz101 => ?_)
          obtain ⟨r104, rfl, hr104, rfl, q103_0⟩ := hz101
          replace q103_0 : r104 = pt (σ95 61 0) - 1 := q103_0
          have y105 : σ95 61 0 = σ 61 0 := ((hGσ95 61 0 (show ¬ ((61 = 56 ∧ (0 = 2 ∨ 0 = 3))) from by decide))).trans (hGσ91 61 0 (show ¬ ((61 = 56 ∧ (0 = 2 ∨ 0 = 3))) from by decide))
          have f106 : (0 : Int) ≤ σ 61 0 ∧ σ 61 0 ≤ 10 := hI 61 0
          refine j_st (st' := [vI r104, vR 61, vR 56, vI k]) rfl ?_
          refine j_iload (pc := 115) dX5_choose_115 rfl ?_
          refine j_iload (pc := 117) dX5_choose_117 rfl ?_
          refine j_callV (pc := 119) (As := [vR 61, vI r104, vI (σ 66 ((c - 1).toNat)), vI r89]) (st := [vI k]) (c_X4_riskOver hX 61 (s_Row_61 hX) r104 ⟨by omega, by omega⟩ (σ 66 ((c - 1).toNat)) ⟨by omega, by omega⟩ r89 ⟨by omega, by omega⟩ σ95 hIσ95 (by omega)) mv_X5_102 rfl rfl rfl (a_56 hX) dX5_choose_119 ⟨(show (2) + 1 ≤ ((20 + 2 * N + 1)) from by omega), (show 8 + (7 + 11) + 60 * (2) ≤ 60 * ((20 + 2 * N + 1)) from by omega)⟩ ⟨Nat.le_refl _, Nat.le_refl _⟩ rfl (Nat.le_of_ble_eq_true rfl) rfl (fun z107 σ108 hz107 => ?_)
          obtain ⟨r110, rfl, hr110, hIσ108, hGσ108, q109_0, q109_1⟩ := hz107
          replace q109_0 : ∀ gg qq : Nat → Int, RG 61 gg qq σ95 → (σ 66 ((c - 1).toNat)) ≤ r89 + 1 → r110 = rsk (wW 1 σ95) gg r104 r89.toNat - rsk (wW 1 σ95) gg r104 ((σ 66 ((c - 1).toNat)) - 1).toNat := q109_0
          replace q109_1 : -16000 ≤ r110 ∧ r110 ≤ 16000 := q109_1
          have hFσ108 : tw_F (fun c j => (56 ≤ c ∧ c < 58) ∨ (c = 60 ∧ (j = 8 ∨ j = 10 ∨ j = 11)) ∨ (61 ≤ c ∧ c < 66) ∨ (67 ≤ c ∧ c < 71)) σ σ108 := tw_F_tr hFσ95 hGσ108 (fun c j q => (show (56 ≤ c ∧ c < 58) ∨ (c = 60 ∧ (j = 8 ∨ j = 10 ∨ j = 11)) ∨ (61 ≤ c ∧ c < 66) ∨ (67 ≤ c ∧ c < 71) from by replace q : c = 57 := q; exact (Or.inl (by rw [show c = 57 from q]; decide))))
          refine j_st (st' := [vI r110, vI k]) rfl ?_
          have fy : ∀ x j, 60 ≤ x → x < 71 → σ108 x j = σ x j := fun x j a b => (hGσ108 x j (show ¬ (x = 57) from by omega)).trans (fz x j a b)
          have rs : ∀ rk : Nat → Int, WOK (wW 1 σ) → CHP (wW 1 σ) rk c b e k σ → r110 = rsk (wW 1 σ) (lay (wW 1 σ) b) 1023 r89.toNat - k ∧ 0 ≤ k ∧ k ≤ 16000 := fun rk hW hP => by
            obtain ⟨x1, x2, x3, x4⟩ := CH_f1 hP hW v1
            have x5 := CH_f0 hP hW
            have y := q109_0 _ _ (RG_F hP.2.2.2.1 (fun c j a b => fz c j (by omega) (by omega))) (by omega)
            rw [WB9, q103_0, fz 61 0 (by omega) (by omega)] at y
            have ek : k = rsk (wW 1 σ) (lay (wW 1 σ) b) 1023 (((σ 66 ((c - 1).toNat)) : Int) - 1).toNat := hP.2.2.2.2.2.2.1.trans (by rw [← v0])
            have n1 := RG_n hP.2.2.2.1
            have n2 : (0 : Int) ≤ σ 61 0 ∧ σ 61 0 ≤ 10 := hI 61 0
            have g : ∀ n : Nat, rsk (wW 1 σ) (lay (wW 1 σ) b) (pt (σ 61 0) - 1) n = rsk (wW 1 σ) (lay (wW 1 σ) b) 1023 n := fun n => rsk_good (fun k k1 k2 => by
              have m := n1 n
              have u := bt_all (σ 61 0).toNat (by omega) k.toNat (by omega)
              rw [show (((σ 61 0).toNat : Nat) : Int) = σ 61 0 from by omega, show ((k.toNat : Nat) : Int) = k from by omega] at u
              exact ⟨fun z => absurd z u.1, fun z => absurd z u.2⟩)
            rw [g, g, ← ek] at y
            have z := rsk_in (g := lay (wW 1 σ) b) (good := 1023) hW (n := (f0F c σ - 1).toNat) (by have := hW.1; omega)
            rw [← hP.2.2.2.2.2.2.1] at z
            exact ⟨y, z⟩
          refine j_iadd (pc := 122) dX5_choose_122 ?_
          refine j_top (fun z111 ez111 hz111 => ?_)
          have gz111 : k + r110 < -2147483648 ∨ 2147483647 < k + r110 ∨ z111 = k + r110 := by rw [ez111]; exact w32_or _
          refine j_istore (pc := 123) (i := 8) (ls' := [(0, vR 60), (1, vI c), (2, vI b), (7, vI (σ95 56 2)), (8, vI z111)]) [1, 2, 3, 7, 0] dX5_choose_123 (Nat.le_of_ble_eq_true rfl) rfl rfl ?_
          refine j_aload_n (pc := 125) dX5_choose_125 rfl rfl ?_
          refine j_getI (pc := 126) fl_X5_42 dX5_choose_126 (a_60 hX) rfl ?_
          refine j_topV (show σ108 60 10 = σ 60 10 from (((hGσ108 60 10 (show ¬ (60 = 57) from by decide))).trans (hGσ95 60 10 (show ¬ ((60 = 56 ∧ (10 = 2 ∨ 10 = 3))) from by decide))).trans (hGσ91 60 10 (show ¬ ((60 = 56 ∧ (10 = 2 ∨ 10 = 3))) from by decide))) ?_
          have f112 : (0 : Int) ≤ σ 60 10 ∧ σ 60 10 ≤ 1 := hI 60 10
          refine j_ifR_eq (pc := 129) (tgt := 142) ⟨by omega, by omega⟩ dX5_choose_129 rfl (fun h113 => ?_) (fun h113 => ?_)
          · refine j_iload_n (pc := 142) dX5_choose_142 rfl rfl ?_
            refine j_aload_n (pc := 143) dX5_choose_143 rfl rfl ?_
            refine j_getI (pc := 144) fl_X5_25 dX5_choose_144 (a_60 hX) rfl ?_
            refine j_topV (show σ108 60 5 = σ 60 5 from (((hGσ108 60 5 (show ¬ (60 = 57) from by decide))).trans (hGσ95 60 5 (show ¬ ((60 = 56 ∧ (5 = 2 ∨ 5 = 3))) from by decide))).trans (hGσ91 60 5 (show ¬ ((60 = 56 ∧ (5 = 2 ∨ 5 = 3))) from by decide))) ?_
            refine j_icmpR_ne (pc := 147) (tgt := 160) ⟨by omega, by omega⟩ ⟨by omega, by omega⟩ dX5_choose_147 rfl (fun h114 => ?_) (fun h114 => ?_)
            · have W9 : wW 1 σ108 = wW 1 σ := wW_F (fun c j a b => hFσ108 c j (show ¬ ((56 ≤ c ∧ c < 58) ∨ (c = 60 ∧ (j = 8 ∨ j = 10 ∨ j = 11)) ∨ (61 ≤ c ∧ c < 66) ∨ (67 ≤ c ∧ c < 71)) from by omega))
              refine j_aload_n (pc := 160) dX5_choose_160 rfl rfl ?_
              refine j_iload_n (pc := 161) dX5_choose_161 rfl rfl ?_
              refine j_iload_n (pc := 162) dX5_choose_162 rfl rfl ?_
              refine j_iload (pc := 163) dX5_choose_163 rfl ?_
              refine j_iload (pc := 165) dX5_choose_165 rfl ?_
              refine j_callV (pc := 167) (As := [vI c, vI b, vI (σ95 56 2), vI z111]) (st := []) (hgo c ⟨by omega, by omega⟩ b ⟨by omega, by omega⟩ (σ95 56 2) ⟨by omega, by omega⟩ z111 ⟨by omega, by omega⟩ σ108 hIσ108 (by omega)) mv_X5_110 rfl rfl rfl (a_60 hX) dX5_choose_167 ⟨(show (20 + 2 * N) + 1 ≤ ((20 + 2 * N + 1)) from by omega), (show 8 + (7 + 11) + 60 * (20 + 2 * N) ≤ 60 * ((20 + 2 * N + 1)) from by omega)⟩ ⟨Nat.le_refl _, Nat.le_refl _⟩ rfl (Nat.le_of_ble_eq_true rfl) rfl (fun z115 σ116 hz115 => ?_)
              obtain ⟨rfl, hIσ116, hGσ116, q117_0⟩ := hz115
              replace q117_0 : ∀ (rk : Nat → Int) (T : Int → Prop), WOK (wW 1 σ108) → GOP (wW 1 σ108) rk c b (σ95 56 2) z111 σ108 → BST (wW 1 σ108) rk T σ108 → CHQ (wW 1 σ108) rk b σ116 ∧ BST (wW 1 σ108) rk (fun S => T S ∨ CMP (wW 1 σ108) c b S) σ116 := q117_0
              have hFσ116 : tw_F (fun c j => (56 ≤ c ∧ c < 58) ∨ (c = 60 ∧ (j = 8 ∨ j = 10 ∨ j = 11)) ∨ (61 ≤ c ∧ c < 66) ∨ (67 ≤ c ∧ c < 71)) σ σ116 := tw_F_tr hFσ108 hGσ116 (fun c j q => (show (56 ≤ c ∧ c < 58) ∨ (c = 60 ∧ (j = 8 ∨ j = 10 ∨ j = 11)) ∨ (61 ≤ c ∧ c < 66) ∨ (67 ≤ c ∧ c < 71) from by replace q : (56 ≤ c ∧ c < 58) ∨ (c = 60 ∧ (j = 8 ∨ j = 10 ∨ j = 11)) ∨ (61 ≤ c ∧ c < 66) ∨ (67 ≤ c ∧ c < 71) := q; exact q))
              refine j_st (st' := []) rfl ?_
              have hg := q117_0; rw [W9] at hg
              have fin : ∀ (rk : Nat → Int) (T : Int → Prop), WOK (wW 1 σ) → CHP (wW 1 σ) rk c b e k σ → BST (wW 1 σ) rk T σ → CHQ (wW 1 σ) rk b σ116 ∧ BST (wW 1 σ) rk (fun S => T S ∨ CMP (wW 1 σ) c b S) σ116 := fun rk T hW hP hB => by
                have y := rs rk hW hP
                have z := fy 60 5 (by omega) (by omega)
                exact hg rk T hW (ch_go hW hP (by omega) (by omega) (cl rk hW hP).2 (by omega) (by omega) (cl rk hW hP).1 fy) (BST_F hB (fun j => fy 60 j (by omega) (by omega)) (fun x j a b => fy x j (by omega) (by omega)))
              exact j_vret (pc := 170) ⟨rfl, rfl⟩ dX5_choose_170 rfl ⟨rfl, hIσ116, hFσ116, fin⟩
            · refine j_aload_n (pc := 150) dX5_choose_150 rfl rfl ?_
              refine j_iload_n (pc := 151) dX5_choose_151 rfl rfl ?_
              refine j_iload (pc := 152) dX5_choose_152 rfl ?_
              refine j_callV (pc := 154) (As := [vI b, vI z111]) (st := []) (c_X5_keepIfBetter hX b ⟨by omega, by omega⟩ z111 ⟨by omega, by omega⟩ σ108 hIσ108) mv_X5_106 rfl rfl rfl (a_60 hX) dX5_choose_154 ⟨(show (1) + 1 ≤ ((20 + 2 * N + 1)) from by omega), (show 8 + (4 + 11) + 60 * (1) ≤ 60 * ((20 + 2 * N + 1)) from by omega)⟩ ⟨Nat.le_refl _, Nat.le_refl _⟩ rfl (Nat.le_of_ble_eq_true rfl) rfl (fun z119 σ120 hz119 => ?_)
              obtain ⟨rfl, hIσ120, hGσ120, q121_0, q121_1, q121_2⟩ := hz119
              replace q121_0 : (¬ (σ108 60 10 = 0 ∨ z111 < σ108 60 11 ∨ (z111 = σ108 60 11 ∧ (σ108 61 0 < σ108 67 0 ∨ (σ108 61 0 = σ108 67 0 ∧ b < σ108 60 8)))) ∧ σ120 60 10 = σ108 60 10 ∧ σ120 60 8 = σ108 60 8 ∧ σ120 60 11 = σ108 60 11) ∨ ((σ108 60 10 = 0 ∨ z111 < σ108 60 11 ∨ (z111 = σ108 60 11 ∧ (σ108 61 0 < σ108 67 0 ∨ (σ108 61 0 = σ108 67 0 ∧ b < σ108 60 8)))) ∧ σ120 60 10 = 1 ∧ σ120 60 8 = b ∧ σ120 60 11 = z111) := q121_0
              have y123 : σ108 60 10 = σ 60 10 := (((hGσ108 60 10 (show ¬ (60 = 57) from by decide))).trans (hGσ95 60 10 (show ¬ ((60 = 56 ∧ (10 = 2 ∨ 10 = 3))) from by decide))).trans (hGσ91 60 10 (show ¬ ((60 = 56 ∧ (10 = 2 ∨ 10 = 3))) from by decide))
              have y124 : σ108 60 11 = σ 60 11 := (((hGσ108 60 11 (show ¬ (60 = 57) from by decide))).trans (hGσ95 60 11 (show ¬ ((60 = 56 ∧ (11 = 2 ∨ 11 = 3))) from by decide))).trans (hGσ91 60 11 (show ¬ ((60 = 56 ∧ (11 = 2 ∨ 11 = 3))) from by decide))
              have f125 : (-2147483648 : Int) ≤ σ 60 11 ∧ σ 60 11 ≤ 2147483647 := hI 60 11
              have y126 : σ108 61 0 = σ 61 0 := (((hGσ108 61 0 (show ¬ (61 = 57) from by decide))).trans (hGσ95 61 0 (show ¬ ((61 = 56 ∧ (0 = 2 ∨ 0 = 3))) from by decide))).trans (hGσ91 61 0 (show ¬ ((61 = 56 ∧ (0 = 2 ∨ 0 = 3))) from by decide))
              have y127 : σ108 67 0 = σ 67 0 := (((hGσ108 67 0 (show ¬ (67 = 57) from by decide))).trans (hGσ95 67 0 (show ¬ ((67 = 56 ∧ (0 = 2 ∨ 0 = 3))) from by decide))).trans (hGσ91 67 0 (show ¬ ((67 = 56 ∧ (0 = 2 ∨ 0 = 3))) from by decide))
              have f128 : (0 : Int) ≤ σ 67 0 ∧ σ 67 0 ≤ 10 := hI 67 0
              have y129 : σ108 60 8 = σ 60 8 := (((hGσ108 60 8 (show ¬ (60 = 57) from by decide))).trans (hGσ95 60 8 (show ¬ ((60 = 56 ∧ (8 = 2 ∨ 8 = 3))) from by decide))).trans (hGσ91 60 8 (show ¬ ((60 = 56 ∧ (8 = 2 ∨ 8 = 3))) from by decide))
              have f130 : (-2147483648 : Int) ≤ σ 60 8 ∧ σ 60 8 ≤ 2147483647 := hI 60 8
              replace q121_1 : ∀ gg qq : Nat → Int, (σ108 60 10 = 0 ∨ z111 < σ108 60 11 ∨ (z111 = σ108 60 11 ∧ (σ108 61 0 < σ108 67 0 ∨ (σ108 61 0 = σ108 67 0 ∧ b < σ108 60 8)))) → RG 61 gg qq σ108 → RG 67 gg qq σ120 := q121_1
              have y131 : σ108 60 10 = σ 60 10 := (((hGσ108 60 10 (show ¬ (60 = 57) from by decide))).trans (hGσ95 60 10 (show ¬ ((60 = 56 ∧ (10 = 2 ∨ 10 = 3))) from by decide))).trans (hGσ91 60 10 (show ¬ ((60 = 56 ∧ (10 = 2 ∨ 10 = 3))) from by decide))
              have y132 : σ108 60 11 = σ 60 11 := (((hGσ108 60 11 (show ¬ (60 = 57) from by decide))).trans (hGσ95 60 11 (show ¬ ((60 = 56 ∧ (11 = 2 ∨ 11 = 3))) from by decide))).trans (hGσ91 60 11 (show ¬ ((60 = 56 ∧ (11 = 2 ∨ 11 = 3))) from by decide))
              have y133 : σ108 61 0 = σ 61 0 := (((hGσ108 61 0 (show ¬ (61 = 57) from by decide))).trans (hGσ95 61 0 (show ¬ ((61 = 56 ∧ (0 = 2 ∨ 0 = 3))) from by decide))).trans (hGσ91 61 0 (show ¬ ((61 = 56 ∧ (0 = 2 ∨ 0 = 3))) from by decide))
              have y134 : σ108 67 0 = σ 67 0 := (((hGσ108 67 0 (show ¬ (67 = 57) from by decide))).trans (hGσ95 67 0 (show ¬ ((67 = 56 ∧ (0 = 2 ∨ 0 = 3))) from by decide))).trans (hGσ91 67 0 (show ¬ ((67 = 56 ∧ (0 = 2 ∨ 0 = 3))) from by decide))
              have y135 : σ108 60 8 = σ 60 8 := (((hGσ108 60 8 (show ¬ (60 = 57) from by decide))).trans (hGσ95 60 8 (show ¬ ((60 = 56 ∧ (8 = 2 ∨ 8 = 3))) from by decide))).trans (hGσ91 60 8 (show ¬ ((60 = 56 ∧ (8 = 2 ∨ 8 = 3))) from by decide))
              replace q121_2 : ∀ gg qq : Nat → Int, ¬ (σ108 60 10 = 0 ∨ z111 < σ108 60 11 ∨ (z111 = σ108 60 11 ∧ (σ108 61 0 < σ108 67 0 ∨ (σ108 61 0 = σ108 67 0 ∧ b < σ108 60 8)))) → RG 67 gg qq σ108 → RG 67 gg qq σ120 := q121_2
              have y136 : σ108 60 10 = σ 60 10 := (((hGσ108 60 10 (show ¬ (60 = 57) from by decide))).trans (hGσ95 60 10 (show ¬ ((60 = 56 ∧ (10 = 2 ∨ 10 = 3))) from by decide))).trans (hGσ91 60 10 (show ¬ ((60 = 56 ∧ (10 = 2 ∨ 10 = 3))) from by decide))
              have y137 : σ108 60 11 = σ 60 11 := (((hGσ108 60 11 (show ¬ (60 = 57) from by decide))).trans (hGσ95 60 11 (show ¬ ((60 = 56 ∧ (11 = 2 ∨ 11 = 3))) from by decide))).trans (hGσ91 60 11 (show ¬ ((60 = 56 ∧ (11 = 2 ∨ 11 = 3))) from by decide))
              have y138 : σ108 61 0 = σ 61 0 := (((hGσ108 61 0 (show ¬ (61 = 57) from by decide))).trans (hGσ95 61 0 (show ¬ ((61 = 56 ∧ (0 = 2 ∨ 0 = 3))) from by decide))).trans (hGσ91 61 0 (show ¬ ((61 = 56 ∧ (0 = 2 ∨ 0 = 3))) from by decide))
              have y139 : σ108 67 0 = σ 67 0 := (((hGσ108 67 0 (show ¬ (67 = 57) from by decide))).trans (hGσ95 67 0 (show ¬ ((67 = 56 ∧ (0 = 2 ∨ 0 = 3))) from by decide))).trans (hGσ91 67 0 (show ¬ ((67 = 56 ∧ (0 = 2 ∨ 0 = 3))) from by decide))
              have y140 : σ108 60 8 = σ 60 8 := (((hGσ108 60 8 (show ¬ (60 = 57) from by decide))).trans (hGσ95 60 8 (show ¬ ((60 = 56 ∧ (8 = 2 ∨ 8 = 3))) from by decide))).trans (hGσ91 60 8 (show ¬ ((60 = 56 ∧ (8 = 2 ∨ 8 = 3))) from by decide))
              have hFσ120 : tw_F (fun c j => (56 ≤ c ∧ c < 58) ∨ (c = 60 ∧ (j = 8 ∨ j = 10 ∨ j = 11)) ∨ (61 ≤ c ∧ c < 66) ∨ (67 ≤ c ∧ c < 71)) σ σ120 := tw_F_tr hFσ108 hGσ120 (fun c j q => (show (56 ≤ c ∧ c < 58) ∨ (c = 60 ∧ (j = 8 ∨ j = 10 ∨ j = 11)) ∨ (61 ≤ c ∧ c < 66) ∨ (67 ≤ c ∧ c < 71) from by replace q : (c = 60 ∧ (j = 8 ∨ j = 10 ∨ j = 11)) ∨ (67 ≤ c ∧ c < 71) := q; exact (q.elim (fun q => (Or.inr (Or.inl q))) (fun q => (Or.inr (Or.inr (Or.inr q)))))))
              refine j_st (st' := []) rfl ?_
              have fin : ∀ (rk : Nat → Int) (T : Int → Prop), WOK (wW 1 σ) → CHP (wW 1 σ) rk c b e k σ → BST (wW 1 σ) rk T σ → CHQ (wW 1 σ) rk b σ120 ∧ BST (wW 1 σ) rk (fun S => T S ∨ CMP (wW 1 σ) c b S) σ120 := fun rk T hW hP hB => by
                have y := rs rk hW hP
                exact fin_keep (v := z111) hW hP hB (by have z := fy 60 5 (by omega) (by omega); omega) (by have z := fy 60 5 (by omega) (by omega); omega) (cl rk hW hP).2 (by omega) (by omega) fy q121_0 q121_1 q121_2 (hGσ120 60 5 (show ¬ ((60 = 60 ∧ (5 = 8 ∨ 5 = 10 ∨ 5 = 11)) ∨ (67 ≤ 60 ∧ 60 < 71)) from by decide)) (fun x j a b => hGσ120 x j (show ¬ ((x = 60 ∧ (j = 8 ∨ j = 10 ∨ j = 11)) ∨ (67 ≤ x ∧ x < 71)) from by omega))
              refine j_goto (pc := 157) (tgt := 170) dX5_choose_157 rfl ?_
              exact j_vret (pc := 170) ⟨rfl, rfl⟩ dX5_choose_170 rfl ⟨rfl, hIσ120, hFσ120, fin⟩
          · refine j_iload (pc := 132) dX5_choose_132 rfl ?_
            refine j_aload_n (pc := 134) dX5_choose_134 rfl rfl ?_
            refine j_getI (pc := 135) fl_X5_45 dX5_choose_135 (a_60 hX) rfl ?_
            refine j_topV (show σ108 60 11 = σ 60 11 from (((hGσ108 60 11 (show ¬ (60 = 57) from by decide))).trans (hGσ95 60 11 (show ¬ ((60 = 56 ∧ (11 = 2 ∨ 11 = 3))) from by decide))).trans (hGσ91 60 11 (show ¬ ((60 = 56 ∧ (11 = 2 ∨ 11 = 3))) from by decide))) ?_
            have f141 : (-2147483648 : Int) ≤ σ 60 11 ∧ σ 60 11 ≤ 2147483647 := hI 60 11
            refine j_icmpR_le (pc := 138) (tgt := 142) ⟨by omega, by omega⟩ ⟨by omega, by omega⟩ dX5_choose_138 rfl (fun h142 => ?_) (fun h142 => ?_)
            · refine j_iload_n (pc := 142) dX5_choose_142 rfl rfl ?_
              refine j_aload_n (pc := 143) dX5_choose_143 rfl rfl ?_
              refine j_getI (pc := 144) fl_X5_25 dX5_choose_144 (a_60 hX) rfl ?_
              refine j_topV (show σ108 60 5 = σ 60 5 from (((hGσ108 60 5 (show ¬ (60 = 57) from by decide))).trans (hGσ95 60 5 (show ¬ ((60 = 56 ∧ (5 = 2 ∨ 5 = 3))) from by decide))).trans (hGσ91 60 5 (show ¬ ((60 = 56 ∧ (5 = 2 ∨ 5 = 3))) from by decide))) ?_
              refine j_icmpR_ne (pc := 147) (tgt := 160) ⟨by omega, by omega⟩ ⟨by omega, by omega⟩ dX5_choose_147 rfl (fun h143 => ?_) (fun h143 => ?_)
              · have W9 : wW 1 σ108 = wW 1 σ := wW_F (fun c j a b => hFσ108 c j (show ¬ ((56 ≤ c ∧ c < 58) ∨ (c = 60 ∧ (j = 8 ∨ j = 10 ∨ j = 11)) ∨ (61 ≤ c ∧ c < 66) ∨ (67 ≤ c ∧ c < 71)) from by omega))
                refine j_aload_n (pc := 160) dX5_choose_160 rfl rfl ?_
                refine j_iload_n (pc := 161) dX5_choose_161 rfl rfl ?_
                refine j_iload_n (pc := 162) dX5_choose_162 rfl rfl ?_
                refine j_iload (pc := 163) dX5_choose_163 rfl ?_
                refine j_iload (pc := 165) dX5_choose_165 rfl ?_
                refine j_callV (pc := 167) (As := [vI c, vI b, vI (σ95 56 2), vI z111]) (st := []) (hgo c ⟨by omega, by omega⟩ b ⟨by omega, by omega⟩ (σ95 56 2) ⟨by omega, by omega⟩ z111 ⟨by omega, by omega⟩ σ108 hIσ108 (by omega)) mv_X5_110 rfl rfl rfl (a_60 hX) dX5_choose_167 ⟨(show (20 + 2 * N) + 1 ≤ ((20 + 2 * N + 1)) from by omega), (show 8 + (7 + 11) + 60 * (20 + 2 * N) ≤ 60 * ((20 + 2 * N + 1)) from by omega)⟩ ⟨Nat.le_refl _, Nat.le_refl _⟩ rfl (Nat.le_of_ble_eq_true rfl) rfl (fun z144 σ145 hz144 => ?_)
                obtain ⟨rfl, hIσ145, hGσ145, q146_0⟩ := hz144
                replace q146_0 : ∀ (rk : Nat → Int) (T : Int → Prop), WOK (wW 1 σ108) → GOP (wW 1 σ108) rk c b (σ95 56 2) z111 σ108 → BST (wW 1 σ108) rk T σ108 → CHQ (wW 1 σ108) rk b σ145 ∧ BST (wW 1 σ108) rk (fun S => T S ∨ CMP (wW 1 σ108) c b S) σ145 := q146_0
                have hFσ145 : tw_F (fun c j => (56 ≤ c ∧ c < 58) ∨ (c = 60 ∧ (j = 8 ∨ j = 10 ∨ j = 11)) ∨ (61 ≤ c ∧ c < 66) ∨ (67 ≤ c ∧ c < 71)) σ σ145 := tw_F_tr hFσ108 hGσ145 (fun c j q => (show (56 ≤ c ∧ c < 58) ∨ (c = 60 ∧ (j = 8 ∨ j = 10 ∨ j = 11)) ∨ (61 ≤ c ∧ c < 66) ∨ (67 ≤ c ∧ c < 71) from by replace q : (56 ≤ c ∧ c < 58) ∨ (c = 60 ∧ (j = 8 ∨ j = 10 ∨ j = 11)) ∨ (61 ≤ c ∧ c < 66) ∨ (67 ≤ c ∧ c < 71) := q; exact q))
                refine j_st (st' := []) rfl ?_
                have hg := q146_0; rw [W9] at hg
                have fin : ∀ (rk : Nat → Int) (T : Int → Prop), WOK (wW 1 σ) → CHP (wW 1 σ) rk c b e k σ → BST (wW 1 σ) rk T σ → CHQ (wW 1 σ) rk b σ145 ∧ BST (wW 1 σ) rk (fun S => T S ∨ CMP (wW 1 σ) c b S) σ145 := fun rk T hW hP hB => by
                  have y := rs rk hW hP
                  have z := fy 60 5 (by omega) (by omega)
                  exact hg rk T hW (ch_go hW hP (by omega) (by omega) (cl rk hW hP).2 (by omega) (by omega) (cl rk hW hP).1 fy) (BST_F hB (fun j => fy 60 j (by omega) (by omega)) (fun x j a b => fy x j (by omega) (by omega)))
                exact j_vret (pc := 170) ⟨rfl, rfl⟩ dX5_choose_170 rfl ⟨rfl, hIσ145, hFσ145, fin⟩
              · refine j_aload_n (pc := 150) dX5_choose_150 rfl rfl ?_
                refine j_iload_n (pc := 151) dX5_choose_151 rfl rfl ?_
                refine j_iload (pc := 152) dX5_choose_152 rfl ?_
                refine j_callV (pc := 154) (As := [vI b, vI z111]) (st := []) (c_X5_keepIfBetter hX b ⟨by omega, by omega⟩ z111 ⟨by omega, by omega⟩ σ108 hIσ108) mv_X5_106 rfl rfl rfl (a_60 hX) dX5_choose_154 ⟨(show (1) + 1 ≤ ((20 + 2 * N + 1)) from by omega), (show 8 + (4 + 11) + 60 * (1) ≤ 60 * ((20 + 2 * N + 1)) from by omega)⟩ ⟨Nat.le_refl _, Nat.le_refl _⟩ rfl (Nat.le_of_ble_eq_true rfl) rfl (fun z148 σ149 hz148 => ?_)
                obtain ⟨rfl, hIσ149, hGσ149, q150_0, q150_1, q150_2⟩ := hz148
                replace q150_0 : (¬ (σ108 60 10 = 0 ∨ z111 < σ108 60 11 ∨ (z111 = σ108 60 11 ∧ (σ108 61 0 < σ108 67 0 ∨ (σ108 61 0 = σ108 67 0 ∧ b < σ108 60 8)))) ∧ σ149 60 10 = σ108 60 10 ∧ σ149 60 8 = σ108 60 8 ∧ σ149 60 11 = σ108 60 11) ∨ ((σ108 60 10 = 0 ∨ z111 < σ108 60 11 ∨ (z111 = σ108 60 11 ∧ (σ108 61 0 < σ108 67 0 ∨ (σ108 61 0 = σ108 67 0 ∧ b < σ108 60 8)))) ∧ σ149 60 10 = 1 ∧ σ149 60 8 = b ∧ σ149 60 11 = z111) := q150_0
                have y152 : σ108 60 10 = σ 60 10 := (((hGσ108 60 10 (show ¬ (60 = 57) from by decide))).trans (hGσ95 60 10 (show ¬ ((60 = 56 ∧ (10 = 2 ∨ 10 = 3))) from by decide))).trans (hGσ91 60 10 (show ¬ ((60 = 56 ∧ (10 = 2 ∨ 10 = 3))) from by decide))
                have y153 : σ108 60 11 = σ 60 11 := (((hGσ108 60 11 (show ¬ (60 = 57) from by decide))).trans (hGσ95 60 11 (show ¬ ((60 = 56 ∧ (11 = 2 ∨ 11 = 3))) from by decide))).trans (hGσ91 60 11 (show ¬ ((60 = 56 ∧ (11 = 2 ∨ 11 = 3))) from by decide))
                have y154 : σ108 61 0 = σ 61 0 := (((hGσ108 61 0 (show ¬ (61 = 57) from by decide))).trans (hGσ95 61 0 (show ¬ ((61 = 56 ∧ (0 = 2 ∨ 0 = 3))) from by decide))).trans (hGσ91 61 0 (show ¬ ((61 = 56 ∧ (0 = 2 ∨ 0 = 3))) from by decide))
                have y155 : σ108 67 0 = σ 67 0 := (((hGσ108 67 0 (show ¬ (67 = 57) from by decide))).trans (hGσ95 67 0 (show ¬ ((67 = 56 ∧ (0 = 2 ∨ 0 = 3))) from by decide))).trans (hGσ91 67 0 (show ¬ ((67 = 56 ∧ (0 = 2 ∨ 0 = 3))) from by decide))
                have f156 : (0 : Int) ≤ σ 67 0 ∧ σ 67 0 ≤ 10 := hI 67 0
                have y157 : σ108 60 8 = σ 60 8 := (((hGσ108 60 8 (show ¬ (60 = 57) from by decide))).trans (hGσ95 60 8 (show ¬ ((60 = 56 ∧ (8 = 2 ∨ 8 = 3))) from by decide))).trans (hGσ91 60 8 (show ¬ ((60 = 56 ∧ (8 = 2 ∨ 8 = 3))) from by decide))
                have f158 : (-2147483648 : Int) ≤ σ 60 8 ∧ σ 60 8 ≤ 2147483647 := hI 60 8
                replace q150_1 : ∀ gg qq : Nat → Int, (σ108 60 10 = 0 ∨ z111 < σ108 60 11 ∨ (z111 = σ108 60 11 ∧ (σ108 61 0 < σ108 67 0 ∨ (σ108 61 0 = σ108 67 0 ∧ b < σ108 60 8)))) → RG 61 gg qq σ108 → RG 67 gg qq σ149 := q150_1
                have y159 : σ108 60 10 = σ 60 10 := (((hGσ108 60 10 (show ¬ (60 = 57) from by decide))).trans (hGσ95 60 10 (show ¬ ((60 = 56 ∧ (10 = 2 ∨ 10 = 3))) from by decide))).trans (hGσ91 60 10 (show ¬ ((60 = 56 ∧ (10 = 2 ∨ 10 = 3))) from by decide))
                have y160 : σ108 60 11 = σ 60 11 := (((hGσ108 60 11 (show ¬ (60 = 57) from by decide))).trans (hGσ95 60 11 (show ¬ ((60 = 56 ∧ (11 = 2 ∨ 11 = 3))) from by decide))).trans (hGσ91 60 11 (show ¬ ((60 = 56 ∧ (11 = 2 ∨ 11 = 3))) from by decide))
                have y161 : σ108 61 0 = σ 61 0 := (((hGσ108 61 0 (show ¬ (61 = 57) from by decide))).trans (hGσ95 61 0 (show ¬ ((61 = 56 ∧ (0 = 2 ∨ 0 = 3))) from by decide))).trans (hGσ91 61 0 (show ¬ ((61 = 56 ∧ (0 = 2 ∨ 0 = 3))) from by decide))
                have y162 : σ108 67 0 = σ 67 0 := (((hGσ108 67 0 (show ¬ (67 = 57) from by decide))).trans (hGσ95 67 0 (show ¬ ((67 = 56 ∧ (0 = 2 ∨ 0 = 3))) from by decide))).trans (hGσ91 67 0 (show ¬ ((67 = 56 ∧ (0 = 2 ∨ 0 = 3))) from by decide))
                have y163 : σ108 60 8 = σ 60 8 := (((hGσ108 60 8 (show ¬ (60 = 57) from by decide))).trans (hGσ95 60 8 (show ¬ ((60 = 56 ∧ (8 = 2 ∨ 8 = 3))) from by decide))).trans (hGσ91 60 8 (show ¬ ((60 = 56 ∧ (8 = 2 ∨ 8 = 3))) from by decide))
                replace q150_2 : ∀ gg qq : Nat → Int, ¬ (σ108 60 10 = 0 ∨ z111 < σ108 60 11 ∨ (z111 = σ108 60 11 ∧ (σ108 61 0 < σ108 67 0 ∨ (σ108 61 0 = σ108 67 0 ∧ b < σ108 60 8)))) → RG 67 gg qq σ108 → RG 67 gg qq σ149 := q150_2
                have y164 : σ108 60 10 = σ 60 10 := (((hGσ108 60 10 (show ¬ (60 = 57) from by decide))).trans (hGσ95 60 10 (show ¬ ((60 = 56 ∧ (10 = 2 ∨ 10 = 3))) from by decide))).trans (hGσ91 60 10 (show ¬ ((60 = 56 ∧ (10 = 2 ∨ 10 = 3))) from by decide))
                have y165 : σ108 60 11 = σ 60 11 := (((hGσ108 60 11 (show ¬ (60 = 57) from by decide))).trans (hGσ95 60 11 (show ¬ ((60 = 56 ∧ (11 = 2 ∨ 11 = 3))) from by decide))).trans (hGσ91 60 11 (show ¬ ((60 = 56 ∧ (11 = 2 ∨ 11 = 3))) from by decide))
                have y166 : σ108 61 0 = σ 61 0 := (((hGσ108 61 0 (show ¬ (61 = 57) from by decide))).trans (hGσ95 61 0 (show ¬ ((61 = 56 ∧ (0 = 2 ∨ 0 = 3))) from by decide))).trans (hGσ91 61 0 (show ¬ ((61 = 56 ∧ (0 = 2 ∨ 0 = 3))) from by decide))
                have y167 : σ108 67 0 = σ 67 0 := (((hGσ108 67 0 (show ¬ (67 = 57) from by decide))).trans (hGσ95 67 0 (show ¬ ((67 = 56 ∧ (0 = 2 ∨ 0 = 3))) from by decide))).trans (hGσ91 67 0 (show ¬ ((67 = 56 ∧ (0 = 2 ∨ 0 = 3))) from by decide))
                have y168 : σ108 60 8 = σ 60 8 := (((hGσ108 60 8 (show ¬ (60 = 57) from by decide))).trans (hGσ95 60 8 (show ¬ ((60 = 56 ∧ (8 = 2 ∨ 8 = 3))) from by decide))).trans (hGσ91 60 8 (show ¬ ((60 = 56 ∧ (8 = 2 ∨ 8 = 3))) from by decide))
                have hFσ149 : tw_F (fun c j => (56 ≤ c ∧ c < 58) ∨ (c = 60 ∧ (j = 8 ∨ j = 10 ∨ j = 11)) ∨ (61 ≤ c ∧ c < 66) ∨ (67 ≤ c ∧ c < 71)) σ σ149 := tw_F_tr hFσ108 hGσ149 (fun c j q => (show (56 ≤ c ∧ c < 58) ∨ (c = 60 ∧ (j = 8 ∨ j = 10 ∨ j = 11)) ∨ (61 ≤ c ∧ c < 66) ∨ (67 ≤ c ∧ c < 71) from by replace q : (c = 60 ∧ (j = 8 ∨ j = 10 ∨ j = 11)) ∨ (67 ≤ c ∧ c < 71) := q; exact (q.elim (fun q => (Or.inr (Or.inl q))) (fun q => (Or.inr (Or.inr (Or.inr q)))))))
                refine j_st (st' := []) rfl ?_
                have fin : ∀ (rk : Nat → Int) (T : Int → Prop), WOK (wW 1 σ) → CHP (wW 1 σ) rk c b e k σ → BST (wW 1 σ) rk T σ → CHQ (wW 1 σ) rk b σ149 ∧ BST (wW 1 σ) rk (fun S => T S ∨ CMP (wW 1 σ) c b S) σ149 := fun rk T hW hP hB => by
                  have y := rs rk hW hP
                  exact fin_keep (v := z111) hW hP hB (by have z := fy 60 5 (by omega) (by omega); omega) (by have z := fy 60 5 (by omega) (by omega); omega) (cl rk hW hP).2 (by omega) (by omega) fy q150_0 q150_1 q150_2 (hGσ149 60 5 (show ¬ ((60 = 60 ∧ (5 = 8 ∨ 5 = 10 ∨ 5 = 11)) ∨ (67 ≤ 60 ∧ 60 < 71)) from by decide)) (fun x j a b => hGσ149 x j (show ¬ ((x = 60 ∧ (j = 8 ∨ j = 10 ∨ j = 11)) ∨ (67 ≤ x ∧ x < 71)) from by omega))
                refine j_goto (pc := 157) (tgt := 170) dX5_choose_157 rfl ?_
                exact j_vret (pc := 170) ⟨rfl, rfl⟩ dX5_choose_170 rfl ⟨rfl, hIσ149, hFσ149, fin⟩
            · have fin : ∀ (rk : Nat → Int) (T : Int → Prop), WOK (wW 1 σ) → CHP (wW 1 σ) rk c b e k σ → BST (wW 1 σ) rk T σ → CHQ (wW 1 σ) rk b σ108 ∧ BST (wW 1 σ) rk (fun S => T S ∨ CMP (wW 1 σ) c b S) σ108 := fun rk T hW hP hB => by
                have y := rs rk hW hP
                have z := fy 60 10 (by omega) (by omega)
                have z2 := fy 60 11 (by omega) (by omega)
                exact fin_prune (v := z111) hW hP hB v1 (by omega) (by omega) (by omega) fy
              exact j_vret (pc := 141) ⟨rfl, rfl⟩ dX5_choose_141 rfl ⟨rfl, hIσ108, hFσ108, fin⟩
        · have fin : ∀ (rk : Nat → Int) (T : Int → Prop), WOK (wW 1 σ) → CHP (wW 1 σ) rk c b e k σ → BST (wW 1 σ) rk T σ → CHQ (wW 1 σ) rk b σ95 ∧ BST (wW 1 σ) rk (fun S => T S ∨ CMP (wW 1 σ) c b S) σ95 := fun rk T hW hP hB => fin_much hW hP hB v1 (cl rk hW hP).2 (by omega) fz
          exact j_vret (pc := 88) ⟨rfl, rfl⟩ dX5_choose_88 rfl ⟨rfl, hIσ95, hFσ95, fin⟩
    · refine j_iconst (pc := 13) dX5_choose_13 ?_
      refine j_goto (pc := 14) (tgt := 25) dX5_choose_14 rfl ?_
      refine j_istore (pc := 25) (i := 5) (ls' := [(0, vR 60), (1, vI c), (2, vI b), (3, vI e), (4, vI k), (5, vI 1)]) [1, 2, 3, 4, 5, 0] dX5_choose_25 (Nat.le_of_ble_eq_true rfl) rfl rfl ?_
      have v0 : 1 = f0F c σ := by unfold f0F; first | exact (if_pos (by omega)).symm | exact (if_neg (by omega)).symm
      refine j_iload_n (pc := 27) dX5_choose_27 rfl rfl ?_
      refine j_aload_n (pc := 28) dX5_choose_28 rfl rfl ?_
      refine j_getI (pc := 29) fl_X5_25 dX5_choose_29 (a_60 hX) rfl ?_
      refine j_icmpR_ne (pc := 32) (tgt := 45) ⟨by omega, by omega⟩ ⟨by omega, by omega⟩ dX5_choose_32 rfl (fun h169 => ?_) (fun h169 => ?_)
      · refine j_aload_n (pc := 45) dX5_choose_45 rfl rfl ?_
        refine j_getR (pc := 46) (r := 66) fl_X5_22 dX5_choose_46 (a_60 hX) rfl ?_
        refine j_iload_n (pc := 49) dX5_choose_49 rfl rfl ?_
        refine j_iald (pc := 50) dX5_choose_50 (a_66 hX) (by omega) (by omega) (by decide) ?_
        have f170 : (0 : Int) ≤ σ 66 (c.toNat) ∧ σ 66 (c.toNat) ≤ 40 := hI 66 (c.toNat)
        refine j_iconst (pc := 51) dX5_choose_51 ?_
        refine j_isub (pc := 52) dX5_choose_52 ?_
        refine j_istore (pc := 53) (i := 6) (ls' := [(0, vR 60), (1, vI c), (2, vI b), (3, vI e), (4, vI k), (5, vI 1), (6, vI ((σ 66 (c.toNat)) - 1))]) [1, 2, 3, 4, 5, 6, 0] dX5_choose_53 (Nat.le_of_ble_eq_true rfl) rfl rfl ?_
        have v1 : ((c = σ 60 5 ∧ ((σ 66 (c.toNat)) - 1) = wW 1 σ 100) ∨ (¬ c = σ 60 5 ∧ ((σ 66 (c.toNat)) - 1) = σ 66 c.toNat - 1)) := by first | exact Or.inl ⟨by omega, by omega⟩ | exact Or.inr ⟨by omega, by omega⟩
        refine j_aload_n (pc := 55) dX5_choose_55 rfl rfl ?_
        refine j_getR (pc := 56) (r := 56) fl_X5_58 dX5_choose_56 (a_60 hX) rfl ?_
        refine j_iload_n (pc := 59) dX5_choose_59 rfl rfl ?_
        refine j_callV (pc := 60) (As := [vI e]) (st := []) (c_X4_begin hX e ⟨by omega, by omega⟩ σ hI) mv_X5_84 rfl rfl rfl (a_56 hX) dX5_choose_60 ⟨(show (0) + 1 ≤ ((20 + 2 * N + 1)) from by omega), (show 8 + (2 + 11) + 60 * (0) ≤ 60 * ((20 + 2 * N + 1)) from by omega)⟩ ⟨Nat.le_refl _, Nat.le_refl _⟩ rfl (Nat.le_of_ble_eq_true rfl) rfl (fun z171 σ172 hz171 => ?_)
        obtain ⟨rfl, hIσ172, hGσ172, q173_0, q173_1⟩ := hz171
        replace q173_0 : σ172 56 2 = e := q173_0
        replace q173_1 : σ172 56 3 = 0 := q173_1
        have hFσ172 : tw_F (fun c j => (56 ≤ c ∧ c < 58) ∨ (c = 60 ∧ (j = 8 ∨ j = 10 ∨ j = 11)) ∨ (61 ≤ c ∧ c < 66) ∨ (67 ≤ c ∧ c < 71)) σ σ172 := tw_F_tr (tw_F_rf) hGσ172 (fun c j q => (show (56 ≤ c ∧ c < 58) ∨ (c = 60 ∧ (j = 8 ∨ j = 10 ∨ j = 11)) ∨ (61 ≤ c ∧ c < 66) ∨ (67 ≤ c ∧ c < 71) from by replace q : (c = 56 ∧ (j = 2 ∨ j = 3)) := q; exact (Or.inl (by rw [show c = 56 from q.1]; decide))))
        refine j_st (st' := []) rfl ?_
        refine j_aload_n (pc := 63) dX5_choose_63 rfl rfl ?_
        refine j_getR (pc := 64) (r := 56) fl_X5_58 dX5_choose_64 (a_60 hX) rfl ?_
        refine j_aload_n (pc := 67) dX5_choose_67 rfl rfl ?_
        refine j_getR (pc := 68) (r := 61) fl_X5_12 dX5_choose_68 (a_60 hX) rfl ?_
        refine j_iload (pc := 71) dX5_choose_71 rfl ?_
        refine j_iload (pc := 73) dX5_choose_73 rfl ?_
        refine j_callV (pc := 75) (As := [vR 61, vI 1, vI ((σ 66 (c.toNat)) - 1)]) (st := []) (c_X4_climb hX 61 (s_Row_61 hX) 1 (by (first | decide | exact ⟨by omega, by omega⟩)) ((σ 66 (c.toNat)) - 1) ⟨by omega, by omega⟩ σ172 hIσ172 (by omega)) mv_X5_89 rfl rfl rfl (a_56 hX) dX5_choose_75 ⟨(show (1) + 1 ≤ ((20 + 2 * N + 1)) from by omega), (show 8 + (6 + 11) + 60 * (1) ≤ 60 * ((20 + 2 * N + 1)) from by omega)⟩ ⟨Nat.le_refl _, Nat.le_refl _⟩ rfl (Nat.le_of_ble_eq_true rfl) rfl (fun z175 σ176 hz175 => ?_)
        obtain ⟨rfl, hIσ176, hGσ176, q177_0⟩ := hz175
        replace q177_0 : ∀ gg qq : Nat → Int, RG 61 gg qq σ172 → 1 ≤ (1 : Int) → (1 : Int) ≤ ((σ 66 (c.toNat)) - 1) + 1 → σ172 56 2 = eff (wW 1 σ172) gg ((1 : Int) - 1).toNat → σ172 56 3 = 0 → σ176 56 2 = eff (wW 1 σ172) gg ((σ 66 (c.toNat)) - 1).toNat ∧ TMs (wW 1 σ172) gg 0 (1 : Int) (((σ 66 (c.toNat)) - 1) + 1) (σ176 56 3) := q177_0
        have hFσ176 : tw_F (fun c j => (56 ≤ c ∧ c < 58) ∨ (c = 60 ∧ (j = 8 ∨ j = 10 ∨ j = 11)) ∨ (61 ≤ c ∧ c < 66) ∨ (67 ≤ c ∧ c < 71)) σ σ176 := tw_F_tr hFσ172 hGσ176 (fun c j q => (show (56 ≤ c ∧ c < 58) ∨ (c = 60 ∧ (j = 8 ∨ j = 10 ∨ j = 11)) ∨ (61 ≤ c ∧ c < 66) ∨ (67 ≤ c ∧ c < 71) from by replace q : (c = 56 ∧ (j = 2 ∨ j = 3)) := q; exact (Or.inl (by rw [show c = 56 from q.1]; decide))))
        refine j_st (st' := []) rfl ?_
        have WA9 : wW 1 σ172 = wW 1 σ := wW_F (fun c j a b => hGσ172 c j (show ¬ ((c = 56 ∧ (j = 2 ∨ j = 3))) from by omega))
        have cl : ∀ rk : Nat → Int, WOK (wW 1 σ) → CHP (wW 1 σ) rk c b e k σ → σ176 56 2 = eff (wW 1 σ) (lay (wW 1 σ) b) ((σ 66 (c.toNat)) - 1).toNat ∧ TMs (wW 1 σ) (lay (wW 1 σ) b) 0 (f0F c σ) (((σ 66 (c.toNat)) - 1) + 1) (σ176 56 3) := fun rk hW hP => by
          obtain ⟨x1, x2, x3, x4⟩ := CH_f1 hP hW v1
          have x5 := CH_f0 hP hW
          have y := q177_0 _ _ (RG_F hP.2.2.2.1 (fun c j a b => hGσ172 c j (show ¬ ((c = 56 ∧ (j = 2 ∨ j = 3))) from by omega))) (by omega) (by omega) (by rw [WA9]; exact (q173_0).trans (hP.2.2.2.2.2.1.trans (by rw [← v0]))) q173_1
          rw [WA9] at y
          exact ⟨y.1, by rw [← v0]; exact y.2⟩
        have fz : ∀ x j, 60 ≤ x → x < 71 → σ176 x j = σ x j := fun x j a b => (hGσ176 x j (show ¬ ((x = 56 ∧ (j = 2 ∨ j = 3))) from by omega)).trans (hGσ172 x j (show ¬ ((x = 56 ∧ (j = 2 ∨ j = 3))) from by omega))
        have WB9 : wW 1 σ176 = wW 1 σ := wW_F (fun c j a b => hFσ176 c j (show ¬ ((56 ≤ c ∧ c < 58) ∨ (c = 60 ∧ (j = 8 ∨ j = 10 ∨ j = 11)) ∨ (61 ≤ c ∧ c < 66) ∨ (67 ≤ c ∧ c < 71)) from by omega))
        refine j_aload_n (pc := 78) dX5_choose_78 rfl rfl ?_
        refine j_getR (pc := 79) (r := 56) fl_X5_58 dX5_choose_79 (a_60 hX) rfl ?_
        refine j_getI (pc := 82) fl_X5_93 dX5_choose_82 (a_56 hX) rfl ?_
        have f179 : (-2147483648 : Int) ≤ σ176 56 3 ∧ σ176 56 3 ≤ 2147483647 := hIσ176 56 3
        refine j_ifR_le (pc := 85) (tgt := 89) ⟨by omega, by omega⟩ dX5_choose_85 rfl (fun h180 => ?_) (fun h180 => ?_)
        · refine j_aload_n (pc := 89) dX5_choose_89 rfl rfl ?_
          refine j_getR (pc := 90) (r := 56) fl_X5_58 dX5_choose_90 (a_60 hX) rfl ?_
          refine j_getI (pc := 93) fl_X5_96 dX5_choose_93 (a_56 hX) rfl ?_
          have f181 : (-2147483648 : Int) ≤ σ176 56 2 ∧ σ176 56 2 ≤ 2147483647 := hIσ176 56 2
          refine j_istore (pc := 96) (i := 7) (ls' := [(0, vR 60), (1, vI c), (2, vI b), (4, vI k), (5, vI 1), (6, vI ((σ 66 (c.toNat)) - 1)), (7, vI (σ176 56 2))]) [1, 2, 3, 5, 6, 7, 0] dX5_choose_96 (Nat.le_of_ble_eq_true rfl) rfl rfl ?_
          refine j_iload (pc := 98) dX5_choose_98 rfl ?_
          refine j_aload_n (pc := 100) dX5_choose_100 rfl rfl ?_
          refine j_getR (pc := 101) (r := 56) fl_X5_58 dX5_choose_101 (a_60 hX) rfl ?_
          refine j_aload_n (pc := 104) dX5_choose_104 rfl rfl ?_
          refine j_getR (pc := 105) (r := 61) fl_X5_12 dX5_choose_105 (a_60 hX) rfl ?_
          refine j_aload_n (pc := 108) dX5_choose_108 rfl rfl ?_
          refine j_getR (pc := 109) (r := 61) fl_X5_12 dX5_choose_109 (a_60 hX) rfl ?_
          refine j_callV (pc := 112) (As := []) (st := [vR 61, vR 56, vI k]) (c_X7_all 61 (s_Row_61 hX) σ176 hIσ176) mv_X5_99 rfl rfl rfl (a_61 hX) dX5_choose_112 ⟨(show (0) + 1 ≤ ((20 + 2 * N + 1)) from by omega), (show 8 + (1 + 11) + 60 * (0) ≤ 60 * ((20 + 2 * N + 1)) from by omega)⟩ ⟨Nat.le_refl _, Nat.le_refl _⟩ rfl (Nat.le_of_ble_eq_true rfl) rfl (fun z182 σ183 hz182 => ?_)
          obtain ⟨r185, rfl, hr185, rfl, q184_0⟩ := hz182
          replace q184_0 : r185 = pt (σ176 61 0) - 1 := q184_0
          have y186 : σ176 61 0 = σ 61 0 := ((hGσ176 61 0 (show ¬ ((61 = 56 ∧ (0 = 2 ∨ 0 = 3))) from by decide))).trans (hGσ172 61 0 (show ¬ ((61 = 56 ∧ (0 = 2 ∨ 0 = 3))) from by decide))
          have f187 : (0 : Int) ≤ σ 61 0 ∧ σ 61 0 ≤ 10 := hI 61 0
          refine j_st (st' := [vI r185, vR 61, vR 56, vI k]) rfl ?_
          refine j_iload (pc := 115) dX5_choose_115 rfl ?_
          refine j_iload (pc := 117) dX5_choose_117 rfl ?_
          refine j_callV (pc := 119) (As := [vR 61, vI r185, vI 1, vI ((σ 66 (c.toNat)) - 1)]) (st := [vI k]) (c_X4_riskOver hX 61 (s_Row_61 hX) r185 ⟨by omega, by omega⟩ 1 (by (first | decide | exact ⟨by omega, by omega⟩)) ((σ 66 (c.toNat)) - 1) ⟨by omega, by omega⟩ σ176 hIσ176 (by omega)) mv_X5_102 rfl rfl rfl (a_56 hX) dX5_choose_119 ⟨(show (2) + 1 ≤ ((20 + 2 * N + 1)) from by omega), (show 8 + (7 + 11) + 60 * (2) ≤ 60 * ((20 + 2 * N + 1)) from by omega)⟩ ⟨Nat.le_refl _, Nat.le_refl _⟩ rfl (Nat.le_of_ble_eq_true rfl) rfl (fun z188 σ189 hz188 => ?_)
          obtain ⟨r191, rfl, hr191, hIσ189, hGσ189, q190_0, q190_1⟩ := hz188
          replace q190_0 : ∀ gg qq : Nat → Int, RG 61 gg qq σ176 → (1 : Int) ≤ ((σ 66 (c.toNat)) - 1) + 1 → r191 = rsk (wW 1 σ176) gg r185 ((σ 66 (c.toNat)) - 1).toNat - rsk (wW 1 σ176) gg r185 ((1 : Int) - 1).toNat := q190_0
          replace q190_1 : -16000 ≤ r191 ∧ r191 ≤ 16000 := q190_1
          have hFσ189 : tw_F (fun c j => (56 ≤ c ∧ c < 58) ∨ (c = 60 ∧ (j = 8 ∨ j = 10 ∨ j = 11)) ∨ (61 ≤ c ∧ c < 66) ∨ (67 ≤ c ∧ c < 71)) σ σ189 := tw_F_tr hFσ176 hGσ189 (fun c j q => (show (56 ≤ c ∧ c < 58) ∨ (c = 60 ∧ (j = 8 ∨ j = 10 ∨ j = 11)) ∨ (61 ≤ c ∧ c < 66) ∨ (67 ≤ c ∧ c < 71) from by replace q : c = 57 := q; exact (Or.inl (by rw [show c = 57 from q]; decide))))
          refine j_st (st' := [vI r191, vI k]) rfl ?_
          have fy : ∀ x j, 60 ≤ x → x < 71 → σ189 x j = σ x j := fun x j a b => (hGσ189 x j (show ¬ (x = 57) from by omega)).trans (fz x j a b)
          have rs : ∀ rk : Nat → Int, WOK (wW 1 σ) → CHP (wW 1 σ) rk c b e k σ → r191 = rsk (wW 1 σ) (lay (wW 1 σ) b) 1023 ((σ 66 (c.toNat)) - 1).toNat - k ∧ 0 ≤ k ∧ k ≤ 16000 := fun rk hW hP => by
            obtain ⟨x1, x2, x3, x4⟩ := CH_f1 hP hW v1
            have x5 := CH_f0 hP hW
            have y := q190_0 _ _ (RG_F hP.2.2.2.1 (fun c j a b => fz c j (by omega) (by omega))) (by omega)
            rw [WB9, q184_0, fz 61 0 (by omega) (by omega)] at y
            have ek : k = rsk (wW 1 σ) (lay (wW 1 σ) b) 1023 ((1 : Int) - 1).toNat := hP.2.2.2.2.2.2.1.trans (by rw [← v0])
            have n1 := RG_n hP.2.2.2.1
            have n2 : (0 : Int) ≤ σ 61 0 ∧ σ 61 0 ≤ 10 := hI 61 0
            have g : ∀ n : Nat, rsk (wW 1 σ) (lay (wW 1 σ) b) (pt (σ 61 0) - 1) n = rsk (wW 1 σ) (lay (wW 1 σ) b) 1023 n := fun n => rsk_good (fun k k1 k2 => by
              have m := n1 n
              have u := bt_all (σ 61 0).toNat (by omega) k.toNat (by omega)
              rw [show (((σ 61 0).toNat : Nat) : Int) = σ 61 0 from by omega, show ((k.toNat : Nat) : Int) = k from by omega] at u
              exact ⟨fun z => absurd z u.1, fun z => absurd z u.2⟩)
            rw [g, g, ← ek] at y
            have z := rsk_in (g := lay (wW 1 σ) b) (good := 1023) hW (n := (f0F c σ - 1).toNat) (by have := hW.1; omega)
            rw [← hP.2.2.2.2.2.2.1] at z
            exact ⟨y, z⟩
          refine j_iadd (pc := 122) dX5_choose_122 ?_
          refine j_top (fun z192 ez192 hz192 => ?_)
          have gz192 : k + r191 < -2147483648 ∨ 2147483647 < k + r191 ∨ z192 = k + r191 := by rw [ez192]; exact w32_or _
          refine j_istore (pc := 123) (i := 8) (ls' := [(0, vR 60), (1, vI c), (2, vI b), (7, vI (σ176 56 2)), (8, vI z192)]) [1, 2, 3, 7, 0] dX5_choose_123 (Nat.le_of_ble_eq_true rfl) rfl rfl ?_
          refine j_aload_n (pc := 125) dX5_choose_125 rfl rfl ?_
          refine j_getI (pc := 126) fl_X5_42 dX5_choose_126 (a_60 hX) rfl ?_
          refine j_topV (show σ189 60 10 = σ 60 10 from (((hGσ189 60 10 (show ¬ (60 = 57) from by decide))).trans (hGσ176 60 10 (show ¬ ((60 = 56 ∧ (10 = 2 ∨ 10 = 3))) from by decide))).trans (hGσ172 60 10 (show ¬ ((60 = 56 ∧ (10 = 2 ∨ 10 = 3))) from by decide))) ?_
          have f193 : (0 : Int) ≤ σ 60 10 ∧ σ 60 10 ≤ 1 := hI 60 10
          refine j_ifR_eq (pc := 129) (tgt := 142) ⟨by omega, by omega⟩ dX5_choose_129 rfl (fun h194 => ?_) (fun h194 => ?_)
          · refine j_iload_n (pc := 142) dX5_choose_142 rfl rfl ?_
            refine j_aload_n (pc := 143) dX5_choose_143 rfl rfl ?_
            refine j_getI (pc := 144) fl_X5_25 dX5_choose_144 (a_60 hX) rfl ?_
            refine j_topV (show σ189 60 5 = σ 60 5 from (((hGσ189 60 5 (show ¬ (60 = 57) from by decide))).trans (hGσ176 60 5 (show ¬ ((60 = 56 ∧ (5 = 2 ∨ 5 = 3))) from by decide))).trans (hGσ172 60 5 (show ¬ ((60 = 56 ∧ (5 = 2 ∨ 5 = 3))) from by decide))) ?_
            refine j_icmpR_ne (pc := 147) (tgt := 160) ⟨by omega, by omega⟩ ⟨by omega, by omega⟩ dX5_choose_147 rfl (fun h195 => ?_) (fun h195 => by exfalso; omega)
            have W9 : wW 1 σ189 = wW 1 σ := wW_F (fun c j a b => hFσ189 c j (show ¬ ((56 ≤ c ∧ c < 58) ∨ (c = 60 ∧ (j = 8 ∨ j = 10 ∨ j = 11)) ∨ (61 ≤ c ∧ c < 66) ∨ (67 ≤ c ∧ c < 71)) from by omega))
            refine j_aload_n (pc := 160) dX5_choose_160 rfl rfl ?_
            refine j_iload_n (pc := 161) dX5_choose_161 rfl rfl ?_
            refine j_iload_n (pc := 162) dX5_choose_162 rfl rfl ?_
            refine j_iload (pc := 163) dX5_choose_163 rfl ?_
            refine j_iload (pc := 165) dX5_choose_165 rfl ?_
            refine j_callV (pc := 167) (As := [vI c, vI b, vI (σ176 56 2), vI z192]) (st := []) (hgo c ⟨by omega, by omega⟩ b ⟨by omega, by omega⟩ (σ176 56 2) ⟨by omega, by omega⟩ z192 ⟨by omega, by omega⟩ σ189 hIσ189 (by omega)) mv_X5_110 rfl rfl rfl (a_60 hX) dX5_choose_167 ⟨(show (20 + 2 * N) + 1 ≤ ((20 + 2 * N + 1)) from by omega), (show 8 + (7 + 11) + 60 * (20 + 2 * N) ≤ 60 * ((20 + 2 * N + 1)) from by omega)⟩ ⟨Nat.le_refl _, Nat.le_refl _⟩ rfl (Nat.le_of_ble_eq_true rfl) rfl (fun z196 σ197 hz196 => ?_)
            obtain ⟨rfl, hIσ197, hGσ197, q198_0⟩ := hz196
            replace q198_0 : ∀ (rk : Nat → Int) (T : Int → Prop), WOK (wW 1 σ189) → GOP (wW 1 σ189) rk c b (σ176 56 2) z192 σ189 → BST (wW 1 σ189) rk T σ189 → CHQ (wW 1 σ189) rk b σ197 ∧ BST (wW 1 σ189) rk (fun S => T S ∨ CMP (wW 1 σ189) c b S) σ197 := q198_0
            have hFσ197 : tw_F (fun c j => (56 ≤ c ∧ c < 58) ∨ (c = 60 ∧ (j = 8 ∨ j = 10 ∨ j = 11)) ∨ (61 ≤ c ∧ c < 66) ∨ (67 ≤ c ∧ c < 71)) σ σ197 := tw_F_tr hFσ189 hGσ197 (fun c j q => (show (56 ≤ c ∧ c < 58) ∨ (c = 60 ∧ (j = 8 ∨ j = 10 ∨ j = 11)) ∨ (61 ≤ c ∧ c < 66) ∨ (67 ≤ c ∧ c < 71) from by replace q : (56 ≤ c ∧ c < 58) ∨ (c = 60 ∧ (j = 8 ∨ j = 10 ∨ j = 11)) ∨ (61 ≤ c ∧ c < 66) ∨ (67 ≤ c ∧ c < 71) := q; exact q))
            refine j_st (st' := []) rfl ?_
            have hg := q198_0; rw [W9] at hg
            have fin : ∀ (rk : Nat → Int) (T : Int → Prop), WOK (wW 1 σ) → CHP (wW 1 σ) rk c b e k σ → BST (wW 1 σ) rk T σ → CHQ (wW 1 σ) rk b σ197 ∧ BST (wW 1 σ) rk (fun S => T S ∨ CMP (wW 1 σ) c b S) σ197 := fun rk T hW hP hB => by
              have y := rs rk hW hP
              have z := fy 60 5 (by omega) (by omega)
              exact hg rk T hW (ch_go hW hP (by omega) (by omega) (cl rk hW hP).2 (by omega) (by omega) (cl rk hW hP).1 fy) (BST_F hB (fun j => fy 60 j (by omega) (by omega)) (fun x j a b => fy x j (by omega) (by omega)))
            exact j_vret (pc := 170) ⟨rfl, rfl⟩ dX5_choose_170 rfl ⟨rfl, hIσ197, hFσ197, fin⟩
          · refine j_iload (pc := 132) dX5_choose_132 rfl ?_
            refine j_aload_n (pc := 134) dX5_choose_134 rfl rfl ?_
            refine j_getI (pc := 135) fl_X5_45 dX5_choose_135 (a_60 hX) rfl ?_
            refine j_topV (show σ189 60 11 = σ 60 11 from (((hGσ189 60 11 (show ¬ (60 = 57) from by decide))).trans (hGσ176 60 11 (show ¬ ((60 = 56 ∧ (11 = 2 ∨ 11 = 3))) from by decide))).trans (hGσ172 60 11 (show ¬ ((60 = 56 ∧ (11 = 2 ∨ 11 = 3))) from by decide))) ?_
            have f200 : (-2147483648 : Int) ≤ σ 60 11 ∧ σ 60 11 ≤ 2147483647 := hI 60 11
            refine j_icmpR_le (pc := 138) (tgt := 142) ⟨by omega, by omega⟩ ⟨by omega, by omega⟩ dX5_choose_138 rfl (fun h201 => ?_) (fun h201 => ?_)
            · refine j_iload_n (pc := 142) dX5_choose_142 rfl rfl ?_
              refine j_aload_n (pc := 143) dX5_choose_143 rfl rfl ?_
              refine j_getI (pc := 144) fl_X5_25 dX5_choose_144 (a_60 hX) rfl ?_
              refine j_topV (show σ189 60 5 = σ 60 5 from (((hGσ189 60 5 (show ¬ (60 = 57) from by decide))).trans (hGσ176 60 5 (show ¬ ((60 = 56 ∧ (5 = 2 ∨ 5 = 3))) from by decide))).trans (hGσ172 60 5 (show ¬ ((60 = 56 ∧ (5 = 2 ∨ 5 = 3))) from by decide))) ?_
              refine j_icmpR_ne (pc := 147) (tgt := 160) ⟨by omega, by omega⟩ ⟨by omega, by omega⟩ dX5_choose_147 rfl (fun h202 => ?_) (fun h202 => by exfalso; omega)
              have W9 : wW 1 σ189 = wW 1 σ := wW_F (fun c j a b => hFσ189 c j (show ¬ ((56 ≤ c ∧ c < 58) ∨ (c = 60 ∧ (j = 8 ∨ j = 10 ∨ j = 11)) ∨ (61 ≤ c ∧ c < 66) ∨ (67 ≤ c ∧ c < 71)) from by omega))
              refine j_aload_n (pc := 160) dX5_choose_160 rfl rfl ?_
              refine j_iload_n (pc := 161) dX5_choose_161 rfl rfl ?_
              refine j_iload_n (pc := 162) dX5_choose_162 rfl rfl ?_
              refine j_iload (pc := 163) dX5_choose_163 rfl ?_
              refine j_iload (pc := 165) dX5_choose_165 rfl ?_
              refine j_callV (pc := 167) (As := [vI c, vI b, vI (σ176 56 2), vI z192]) (st := []) (hgo c ⟨by omega, by omega⟩ b ⟨by omega, by omega⟩ (σ176 56 2) ⟨by omega, by omega⟩ z192 ⟨by omega, by omega⟩ σ189 hIσ189 (by omega)) mv_X5_110 rfl rfl rfl (a_60 hX) dX5_choose_167 ⟨(show (20 + 2 * N) + 1 ≤ ((20 + 2 * N + 1)) from by omega), (show 8 + (7 + 11) + 60 * (20 + 2 * N) ≤ 60 * ((20 + 2 * N + 1)) from by omega)⟩ ⟨Nat.le_refl _, Nat.le_refl _⟩ rfl (Nat.le_of_ble_eq_true rfl) rfl (fun z203 σ204 hz203 => ?_)
              obtain ⟨rfl, hIσ204, hGσ204, q205_0⟩ := hz203
              replace q205_0 : ∀ (rk : Nat → Int) (T : Int → Prop), WOK (wW 1 σ189) → GOP (wW 1 σ189) rk c b (σ176 56 2) z192 σ189 → BST (wW 1 σ189) rk T σ189 → CHQ (wW 1 σ189) rk b σ204 ∧ BST (wW 1 σ189) rk (fun S => T S ∨ CMP (wW 1 σ189) c b S) σ204 := q205_0
              have hFσ204 : tw_F (fun c j => (56 ≤ c ∧ c < 58) ∨ (c = 60 ∧ (j = 8 ∨ j = 10 ∨ j = 11)) ∨ (61 ≤ c ∧ c < 66) ∨ (67 ≤ c ∧ c < 71)) σ σ204 := tw_F_tr hFσ189 hGσ204 (fun c j q => (show (56 ≤ c ∧ c < 58) ∨ (c = 60 ∧ (j = 8 ∨ j = 10 ∨ j = 11)) ∨ (61 ≤ c ∧ c < 66) ∨ (67 ≤ c ∧ c < 71) from by replace q : (56 ≤ c ∧ c < 58) ∨ (c = 60 ∧ (j = 8 ∨ j = 10 ∨ j = 11)) ∨ (61 ≤ c ∧ c < 66) ∨ (67 ≤ c ∧ c < 71) := q; exact q))
              refine j_st (st' := []) rfl ?_
              have hg := q205_0; rw [W9] at hg
              have fin : ∀ (rk : Nat → Int) (T : Int → Prop), WOK (wW 1 σ) → CHP (wW 1 σ) rk c b e k σ → BST (wW 1 σ) rk T σ → CHQ (wW 1 σ) rk b σ204 ∧ BST (wW 1 σ) rk (fun S => T S ∨ CMP (wW 1 σ) c b S) σ204 := fun rk T hW hP hB => by
                have y := rs rk hW hP
                have z := fy 60 5 (by omega) (by omega)
                exact hg rk T hW (ch_go hW hP (by omega) (by omega) (cl rk hW hP).2 (by omega) (by omega) (cl rk hW hP).1 fy) (BST_F hB (fun j => fy 60 j (by omega) (by omega)) (fun x j a b => fy x j (by omega) (by omega)))
              exact j_vret (pc := 170) ⟨rfl, rfl⟩ dX5_choose_170 rfl ⟨rfl, hIσ204, hFσ204, fin⟩
            · have fin : ∀ (rk : Nat → Int) (T : Int → Prop), WOK (wW 1 σ) → CHP (wW 1 σ) rk c b e k σ → BST (wW 1 σ) rk T σ → CHQ (wW 1 σ) rk b σ189 ∧ BST (wW 1 σ) rk (fun S => T S ∨ CMP (wW 1 σ) c b S) σ189 := fun rk T hW hP hB => by
                have y := rs rk hW hP
                have z := fy 60 10 (by omega) (by omega)
                have z2 := fy 60 11 (by omega) (by omega)
                exact fin_prune (v := z192) hW hP hB v1 (by omega) (by omega) (by omega) fy
              exact j_vret (pc := 141) ⟨rfl, rfl⟩ dX5_choose_141 rfl ⟨rfl, hIσ189, hFσ189, fin⟩
        · have fin : ∀ (rk : Nat → Int) (T : Int → Prop), WOK (wW 1 σ) → CHP (wW 1 σ) rk c b e k σ → BST (wW 1 σ) rk T σ → CHQ (wW 1 σ) rk b σ176 ∧ BST (wW 1 σ) rk (fun S => T S ∨ CMP (wW 1 σ) c b S) σ176 := fun rk T hW hP hB => fin_much hW hP hB v1 (cl rk hW hP).2 (by omega) fz
          exact j_vret (pc := 88) ⟨rfl, rfl⟩ dX5_choose_88 rfl ⟨rfl, hIσ176, hFσ176, fin⟩
      · refine j_aload_n (pc := 35) dX5_choose_35 rfl rfl ?_
        refine j_getR (pc := 36) (r := 1) fl_X5_54 dX5_choose_36 (a_60 hX) rfl ?_
        refine j_callV (pc := 39) (As := []) (st := []) (c_X10_top 1 (s_Wall_1 hX) σ hI) mv_X5_77 rfl rfl rfl (a_1 hX) dX5_choose_39 ⟨(show (0) + 1 ≤ ((20 + 2 * N + 1)) from by omega), (show 8 + (1 + 11) + 60 * (0) ≤ 60 * ((20 + 2 * N + 1)) from by omega)⟩ ⟨Nat.le_refl _, Nat.le_refl _⟩ rfl (Nat.le_of_ble_eq_true rfl) rfl (fun z207 σ208 hz207 => ?_)
        obtain ⟨r210, rfl, hr210, rfl, q209_0⟩ := hz207
        replace q209_0 : r210 = σ 2 0 := q209_0
        refine j_st (st' := [vI r210]) rfl ?_
        refine j_goto (pc := 42) (tgt := 53) dX5_choose_42 rfl ?_
        refine j_istore (pc := 53) (i := 6) (ls' := [(0, vR 60), (1, vI c), (2, vI b), (3, vI e), (4, vI k), (5, vI 1), (6, vI r210)]) [1, 2, 3, 4, 5, 6, 0] dX5_choose_53 (Nat.le_of_ble_eq_true rfl) rfl rfl ?_
        have v1 : ((c = σ 60 5 ∧ r210 = wW 1 σ 100) ∨ (¬ c = σ 60 5 ∧ r210 = σ 66 c.toNat - 1)) := by first | exact Or.inl ⟨by omega, by omega⟩ | exact Or.inr ⟨by omega, by omega⟩
        refine j_aload_n (pc := 55) dX5_choose_55 rfl rfl ?_
        refine j_getR (pc := 56) (r := 56) fl_X5_58 dX5_choose_56 (a_60 hX) rfl ?_
        refine j_iload_n (pc := 59) dX5_choose_59 rfl rfl ?_
        refine j_callV (pc := 60) (As := [vI e]) (st := []) (c_X4_begin hX e ⟨by omega, by omega⟩ σ hI) mv_X5_84 rfl rfl rfl (a_56 hX) dX5_choose_60 ⟨(show (0) + 1 ≤ ((20 + 2 * N + 1)) from by omega), (show 8 + (2 + 11) + 60 * (0) ≤ 60 * ((20 + 2 * N + 1)) from by omega)⟩ ⟨Nat.le_refl _, Nat.le_refl _⟩ rfl (Nat.le_of_ble_eq_true rfl) rfl (fun z211 σ212 hz211 => ?_)
        obtain ⟨rfl, hIσ212, hGσ212, q213_0, q213_1⟩ := hz211
        replace q213_0 : σ212 56 2 = e := q213_0
        replace q213_1 : σ212 56 3 = 0 := q213_1
        have hFσ212 : tw_F (fun c j => (56 ≤ c ∧ c < 58) ∨ (c = 60 ∧ (j = 8 ∨ j = 10 ∨ j = 11)) ∨ (61 ≤ c ∧ c < 66) ∨ (67 ≤ c ∧ c < 71)) σ σ212 := tw_F_tr (tw_F_rf) hGσ212 (fun c j q => (show (56 ≤ c ∧ c < 58) ∨ (c = 60 ∧ (j = 8 ∨ j = 10 ∨ j = 11)) ∨ (61 ≤ c ∧ c < 66) ∨ (67 ≤ c ∧ c < 71) from by replace q : (c = 56 ∧ (j = 2 ∨ j = 3)) := q; exact (Or.inl (by rw [show c = 56 from q.1]; decide))))
        refine j_st (st' := []) rfl ?_
        refine j_aload_n (pc := 63) dX5_choose_63 rfl rfl ?_
        refine j_getR (pc := 64) (r := 56) fl_X5_58 dX5_choose_64 (a_60 hX) rfl ?_
        refine j_aload_n (pc := 67) dX5_choose_67 rfl rfl ?_
        refine j_getR (pc := 68) (r := 61) fl_X5_12 dX5_choose_68 (a_60 hX) rfl ?_
        refine j_iload (pc := 71) dX5_choose_71 rfl ?_
        refine j_iload (pc := 73) dX5_choose_73 rfl ?_
        refine j_callV (pc := 75) (As := [vR 61, vI 1, vI r210]) (st := []) (c_X4_climb hX 61 (s_Row_61 hX) 1 (by (first | decide | exact ⟨by omega, by omega⟩)) r210 ⟨by omega, by omega⟩ σ212 hIσ212 (by omega)) mv_X5_89 rfl rfl rfl (a_56 hX) dX5_choose_75 ⟨(show (1) + 1 ≤ ((20 + 2 * N + 1)) from by omega), (show 8 + (6 + 11) + 60 * (1) ≤ 60 * ((20 + 2 * N + 1)) from by omega)⟩ ⟨Nat.le_refl _, Nat.le_refl _⟩ rfl (Nat.le_of_ble_eq_true rfl) rfl (fun z215 σ216 hz215 => ?_)
        obtain ⟨rfl, hIσ216, hGσ216, q217_0⟩ := hz215
        replace q217_0 : ∀ gg qq : Nat → Int, RG 61 gg qq σ212 → 1 ≤ (1 : Int) → (1 : Int) ≤ r210 + 1 → σ212 56 2 = eff (wW 1 σ212) gg ((1 : Int) - 1).toNat → σ212 56 3 = 0 → σ216 56 2 = eff (wW 1 σ212) gg r210.toNat ∧ TMs (wW 1 σ212) gg 0 (1 : Int) (r210 + 1) (σ216 56 3) := q217_0
        have hFσ216 : tw_F (fun c j => (56 ≤ c ∧ c < 58) ∨ (c = 60 ∧ (j = 8 ∨ j = 10 ∨ j = 11)) ∨ (61 ≤ c ∧ c < 66) ∨ (67 ≤ c ∧ c < 71)) σ σ216 := tw_F_tr hFσ212 hGσ216 (fun c j q => (show (56 ≤ c ∧ c < 58) ∨ (c = 60 ∧ (j = 8 ∨ j = 10 ∨ j = 11)) ∨ (61 ≤ c ∧ c < 66) ∨ (67 ≤ c ∧ c < 71) from by replace q : (c = 56 ∧ (j = 2 ∨ j = 3)) := q; exact (Or.inl (by rw [show c = 56 from q.1]; decide))))
        refine j_st (st' := []) rfl ?_
        have WA9 : wW 1 σ212 = wW 1 σ := wW_F (fun c j a b => hGσ212 c j (show ¬ ((c = 56 ∧ (j = 2 ∨ j = 3))) from by omega))
        have cl : ∀ rk : Nat → Int, WOK (wW 1 σ) → CHP (wW 1 σ) rk c b e k σ → σ216 56 2 = eff (wW 1 σ) (lay (wW 1 σ) b) r210.toNat ∧ TMs (wW 1 σ) (lay (wW 1 σ) b) 0 (f0F c σ) (r210 + 1) (σ216 56 3) := fun rk hW hP => by
          obtain ⟨x1, x2, x3, x4⟩ := CH_f1 hP hW v1
          have x5 := CH_f0 hP hW
          have y := q217_0 _ _ (RG_F hP.2.2.2.1 (fun c j a b => hGσ212 c j (show ¬ ((c = 56 ∧ (j = 2 ∨ j = 3))) from by omega))) (by omega) (by omega) (by rw [WA9]; exact (q213_0).trans (hP.2.2.2.2.2.1.trans (by rw [← v0]))) q213_1
          rw [WA9] at y
          exact ⟨y.1, by rw [← v0]; exact y.2⟩
        have fz : ∀ x j, 60 ≤ x → x < 71 → σ216 x j = σ x j := fun x j a b => (hGσ216 x j (show ¬ ((x = 56 ∧ (j = 2 ∨ j = 3))) from by omega)).trans (hGσ212 x j (show ¬ ((x = 56 ∧ (j = 2 ∨ j = 3))) from by omega))
        have WB9 : wW 1 σ216 = wW 1 σ := wW_F (fun c j a b => hFσ216 c j (show ¬ ((56 ≤ c ∧ c < 58) ∨ (c = 60 ∧ (j = 8 ∨ j = 10 ∨ j = 11)) ∨ (61 ≤ c ∧ c < 66) ∨ (67 ≤ c ∧ c < 71)) from by omega))
        refine j_aload_n (pc := 78) dX5_choose_78 rfl rfl ?_
        refine j_getR (pc := 79) (r := 56) fl_X5_58 dX5_choose_79 (a_60 hX) rfl ?_
        refine j_getI (pc := 82) fl_X5_93 dX5_choose_82 (a_56 hX) rfl ?_
        have f219 : (-2147483648 : Int) ≤ σ216 56 3 ∧ σ216 56 3 ≤ 2147483647 := hIσ216 56 3
        refine j_ifR_le (pc := 85) (tgt := 89) ⟨by omega, by omega⟩ dX5_choose_85 rfl (fun h220 => ?_) (fun h220 => ?_)
        · refine j_aload_n (pc := 89) dX5_choose_89 rfl rfl ?_
          refine j_getR (pc := 90) (r := 56) fl_X5_58 dX5_choose_90 (a_60 hX) rfl ?_
          refine j_getI (pc := 93) fl_X5_96 dX5_choose_93 (a_56 hX) rfl ?_
          have f221 : (-2147483648 : Int) ≤ σ216 56 2 ∧ σ216 56 2 ≤ 2147483647 := hIσ216 56 2
          refine j_istore (pc := 96) (i := 7) (ls' := [(0, vR 60), (1, vI c), (2, vI b), (4, vI k), (5, vI 1), (6, vI r210), (7, vI (σ216 56 2))]) [1, 2, 3, 5, 6, 7, 0] dX5_choose_96 (Nat.le_of_ble_eq_true rfl) rfl rfl ?_
          refine j_iload (pc := 98) dX5_choose_98 rfl ?_
          refine j_aload_n (pc := 100) dX5_choose_100 rfl rfl ?_
          refine j_getR (pc := 101) (r := 56) fl_X5_58 dX5_choose_101 (a_60 hX) rfl ?_
          refine j_aload_n (pc := 104) dX5_choose_104 rfl rfl ?_
          refine j_getR (pc := 105) (r := 61) fl_X5_12 dX5_choose_105 (a_60 hX) rfl ?_
          refine j_aload_n (pc := 108) dX5_choose_108 rfl rfl ?_
          refine j_getR (pc := 109) (r := 61) fl_X5_12 dX5_choose_109 (a_60 hX) rfl ?_
          refine j_callV (pc := 112) (As := []) (st := [vR 61, vR 56, vI k]) (c_X7_all 61 (s_Row_61 hX) σ216 hIσ216) mv_X5_99 rfl rfl rfl (a_61 hX) dX5_choose_112 ⟨(show (0) + 1 ≤ ((20 + 2 * N + 1)) from by omega), (show 8 + (1 + 11) + 60 * (0) ≤ 60 * ((20 + 2 * N + 1)) from by omega)⟩ ⟨Nat.le_refl _, Nat.le_refl _⟩ rfl (Nat.le_of_ble_eq_true rfl) rfl (fun z222 σ223 hz222 => ?_)
          obtain ⟨r225, rfl, hr225, rfl, q224_0⟩ := hz222
          replace q224_0 : r225 = pt (σ216 61 0) - 1 := q224_0
          have y226 : σ216 61 0 = σ 61 0 := ((hGσ216 61 0 (show ¬ ((61 = 56 ∧ (0 = 2 ∨ 0 = 3))) from by decide))).trans (hGσ212 61 0 (show ¬ ((61 = 56 ∧ (0 = 2 ∨ 0 = 3))) from by decide))
          have f227 : (0 : Int) ≤ σ 61 0 ∧ σ 61 0 ≤ 10 := hI 61 0
          refine j_st (st' := [vI r225, vR 61, vR 56, vI k]) rfl ?_
          refine j_iload (pc := 115) dX5_choose_115 rfl ?_
          refine j_iload (pc := 117) dX5_choose_117 rfl ?_
          refine j_callV (pc := 119) (As := [vR 61, vI r225, vI 1, vI r210]) (st := [vI k]) (c_X4_riskOver hX 61 (s_Row_61 hX) r225 ⟨by omega, by omega⟩ 1 (by (first | decide | exact ⟨by omega, by omega⟩)) r210 ⟨by omega, by omega⟩ σ216 hIσ216 (by omega)) mv_X5_102 rfl rfl rfl (a_56 hX) dX5_choose_119 ⟨(show (2) + 1 ≤ ((20 + 2 * N + 1)) from by omega), (show 8 + (7 + 11) + 60 * (2) ≤ 60 * ((20 + 2 * N + 1)) from by omega)⟩ ⟨Nat.le_refl _, Nat.le_refl _⟩ rfl (Nat.le_of_ble_eq_true rfl) rfl (fun z228 σ229 hz228 => ?_)
          obtain ⟨r231, rfl, hr231, hIσ229, hGσ229, q230_0, q230_1⟩ := hz228
          replace q230_0 : ∀ gg qq : Nat → Int, RG 61 gg qq σ216 → (1 : Int) ≤ r210 + 1 → r231 = rsk (wW 1 σ216) gg r225 r210.toNat - rsk (wW 1 σ216) gg r225 ((1 : Int) - 1).toNat := q230_0
          replace q230_1 : -16000 ≤ r231 ∧ r231 ≤ 16000 := q230_1
          have hFσ229 : tw_F (fun c j => (56 ≤ c ∧ c < 58) ∨ (c = 60 ∧ (j = 8 ∨ j = 10 ∨ j = 11)) ∨ (61 ≤ c ∧ c < 66) ∨ (67 ≤ c ∧ c < 71)) σ σ229 := tw_F_tr hFσ216 hGσ229 (fun c j q => (show (56 ≤ c ∧ c < 58) ∨ (c = 60 ∧ (j = 8 ∨ j = 10 ∨ j = 11)) ∨ (61 ≤ c ∧ c < 66) ∨ (67 ≤ c ∧ c < 71) from by replace q : c = 57 := q; exact (Or.inl (by rw [show c = 57 from q]; decide))))
          refine j_st (st' := [vI r231, vI k]) rfl ?_
          have fy : ∀ x j, 60 ≤ x → x < 71 → σ229 x j = σ x j := fun x j a b => (hGσ229 x j (show ¬ (x = 57) from by omega)).trans (fz x j a b)
          have rs : ∀ rk : Nat → Int, WOK (wW 1 σ) → CHP (wW 1 σ) rk c b e k σ → r231 = rsk (wW 1 σ) (lay (wW 1 σ) b) 1023 r210.toNat - k ∧ 0 ≤ k ∧ k ≤ 16000 := fun rk hW hP => by
            obtain ⟨x1, x2, x3, x4⟩ := CH_f1 hP hW v1
            have x5 := CH_f0 hP hW
            have y := q230_0 _ _ (RG_F hP.2.2.2.1 (fun c j a b => fz c j (by omega) (by omega))) (by omega)
            rw [WB9, q224_0, fz 61 0 (by omega) (by omega)] at y
            have ek : k = rsk (wW 1 σ) (lay (wW 1 σ) b) 1023 ((1 : Int) - 1).toNat := hP.2.2.2.2.2.2.1.trans (by rw [← v0])
            have n1 := RG_n hP.2.2.2.1
            have n2 : (0 : Int) ≤ σ 61 0 ∧ σ 61 0 ≤ 10 := hI 61 0
            have g : ∀ n : Nat, rsk (wW 1 σ) (lay (wW 1 σ) b) (pt (σ 61 0) - 1) n = rsk (wW 1 σ) (lay (wW 1 σ) b) 1023 n := fun n => rsk_good (fun k k1 k2 => by
              have m := n1 n
              have u := bt_all (σ 61 0).toNat (by omega) k.toNat (by omega)
              rw [show (((σ 61 0).toNat : Nat) : Int) = σ 61 0 from by omega, show ((k.toNat : Nat) : Int) = k from by omega] at u
              exact ⟨fun z => absurd z u.1, fun z => absurd z u.2⟩)
            rw [g, g, ← ek] at y
            have z := rsk_in (g := lay (wW 1 σ) b) (good := 1023) hW (n := (f0F c σ - 1).toNat) (by have := hW.1; omega)
            rw [← hP.2.2.2.2.2.2.1] at z
            exact ⟨y, z⟩
          refine j_iadd (pc := 122) dX5_choose_122 ?_
          refine j_top (fun z232 ez232 hz232 => ?_)
          have gz232 : k + r231 < -2147483648 ∨ 2147483647 < k + r231 ∨ z232 = k + r231 := by rw [ez232]; exact w32_or _
          refine j_istore (pc := 123) (i := 8) (ls' := [(0, vR 60), (1, vI c), (2, vI b), (7, vI (σ216 56 2)), (8, vI z232)]) [1, 2, 3, 7, 0] dX5_choose_123 (Nat.le_of_ble_eq_true rfl) rfl rfl ?_
          refine j_aload_n (pc := 125) dX5_choose_125 rfl rfl ?_
          refine j_getI (pc := 126) fl_X5_42 dX5_choose_126 (a_60 hX) rfl ?_
          refine j_topV (show σ229 60 10 = σ 60 10 from (((hGσ229 60 10 (show ¬ (60 = 57) from by decide))).trans (hGσ216 60 10 (show ¬ ((60 = 56 ∧ (10 = 2 ∨ 10 = 3))) from by decide))).trans (hGσ212 60 10 (show ¬ ((60 = 56 ∧ (10 = 2 ∨ 10 = 3))) from by decide))) ?_
          have f233 : (0 : Int) ≤ σ 60 10 ∧ σ 60 10 ≤ 1 := hI 60 10
          refine j_ifR_eq (pc := 129) (tgt := 142) ⟨by omega, by omega⟩ dX5_choose_129 rfl (fun h234 => ?_) (fun h234 => ?_)
          · refine j_iload_n (pc := 142) dX5_choose_142 rfl rfl ?_
            refine j_aload_n (pc := 143) dX5_choose_143 rfl rfl ?_
            refine j_getI (pc := 144) fl_X5_25 dX5_choose_144 (a_60 hX) rfl ?_
            refine j_topV (show σ229 60 5 = σ 60 5 from (((hGσ229 60 5 (show ¬ (60 = 57) from by decide))).trans (hGσ216 60 5 (show ¬ ((60 = 56 ∧ (5 = 2 ∨ 5 = 3))) from by decide))).trans (hGσ212 60 5 (show ¬ ((60 = 56 ∧ (5 = 2 ∨ 5 = 3))) from by decide))) ?_
            refine j_icmpR_ne (pc := 147) (tgt := 160) ⟨by omega, by omega⟩ ⟨by omega, by omega⟩ dX5_choose_147 rfl (fun h235 => by exfalso; omega) (fun h235 => ?_)
            refine j_aload_n (pc := 150) dX5_choose_150 rfl rfl ?_
            refine j_iload_n (pc := 151) dX5_choose_151 rfl rfl ?_
            refine j_iload (pc := 152) dX5_choose_152 rfl ?_
            refine j_callV (pc := 154) (As := [vI b, vI z232]) (st := []) (c_X5_keepIfBetter hX b ⟨by omega, by omega⟩ z232 ⟨by omega, by omega⟩ σ229 hIσ229) mv_X5_106 rfl rfl rfl (a_60 hX) dX5_choose_154 ⟨(show (1) + 1 ≤ ((20 + 2 * N + 1)) from by omega), (show 8 + (4 + 11) + 60 * (1) ≤ 60 * ((20 + 2 * N + 1)) from by omega)⟩ ⟨Nat.le_refl _, Nat.le_refl _⟩ rfl (Nat.le_of_ble_eq_true rfl) rfl (fun z236 σ237 hz236 => ?_)
            obtain ⟨rfl, hIσ237, hGσ237, q238_0, q238_1, q238_2⟩ := hz236
            replace q238_0 : (¬ (σ229 60 10 = 0 ∨ z232 < σ229 60 11 ∨ (z232 = σ229 60 11 ∧ (σ229 61 0 < σ229 67 0 ∨ (σ229 61 0 = σ229 67 0 ∧ b < σ229 60 8)))) ∧ σ237 60 10 = σ229 60 10 ∧ σ237 60 8 = σ229 60 8 ∧ σ237 60 11 = σ229 60 11) ∨ ((σ229 60 10 = 0 ∨ z232 < σ229 60 11 ∨ (z232 = σ229 60 11 ∧ (σ229 61 0 < σ229 67 0 ∨ (σ229 61 0 = σ229 67 0 ∧ b < σ229 60 8)))) ∧ σ237 60 10 = 1 ∧ σ237 60 8 = b ∧ σ237 60 11 = z232) := q238_0
            have y240 : σ229 60 10 = σ 60 10 := (((hGσ229 60 10 (show ¬ (60 = 57) from by decide))).trans (hGσ216 60 10 (show ¬ ((60 = 56 ∧ (10 = 2 ∨ 10 = 3))) from by decide))).trans (hGσ212 60 10 (show ¬ ((60 = 56 ∧ (10 = 2 ∨ 10 = 3))) from by decide))
            have y241 : σ229 60 11 = σ 60 11 := (((hGσ229 60 11 (show ¬ (60 = 57) from by decide))).trans (hGσ216 60 11 (show ¬ ((60 = 56 ∧ (11 = 2 ∨ 11 = 3))) from by decide))).trans (hGσ212 60 11 (show ¬ ((60 = 56 ∧ (11 = 2 ∨ 11 = 3))) from by decide))
            have f242 : (-2147483648 : Int) ≤ σ 60 11 ∧ σ 60 11 ≤ 2147483647 := hI 60 11
            have y243 : σ229 61 0 = σ 61 0 := (((hGσ229 61 0 (show ¬ (61 = 57) from by decide))).trans (hGσ216 61 0 (show ¬ ((61 = 56 ∧ (0 = 2 ∨ 0 = 3))) from by decide))).trans (hGσ212 61 0 (show ¬ ((61 = 56 ∧ (0 = 2 ∨ 0 = 3))) from by decide))
            have y244 : σ229 67 0 = σ 67 0 := (((hGσ229 67 0 (show ¬ (67 = 57) from by decide))).trans (hGσ216 67 0 (show ¬ ((67 = 56 ∧ (0 = 2 ∨ 0 = 3))) from by decide))).trans (hGσ212 67 0 (show ¬ ((67 = 56 ∧ (0 = 2 ∨ 0 = 3))) from by decide))
            have f245 : (0 : Int) ≤ σ 67 0 ∧ σ 67 0 ≤ 10 := hI 67 0
            have y246 : σ229 60 8 = σ 60 8 := (((hGσ229 60 8 (show ¬ (60 = 57) from by decide))).trans (hGσ216 60 8 (show ¬ ((60 = 56 ∧ (8 = 2 ∨ 8 = 3))) from by decide))).trans (hGσ212 60 8 (show ¬ ((60 = 56 ∧ (8 = 2 ∨ 8 = 3))) from by decide))
            have f247 : (-2147483648 : Int) ≤ σ 60 8 ∧ σ 60 8 ≤ 2147483647 := hI 60 8
            replace q238_1 : ∀ gg qq : Nat → Int, (σ229 60 10 = 0 ∨ z232 < σ229 60 11 ∨ (z232 = σ229 60 11 ∧ (σ229 61 0 < σ229 67 0 ∨ (σ229 61 0 = σ229 67 0 ∧ b < σ229 60 8)))) → RG 61 gg qq σ229 → RG 67 gg qq σ237 := q238_1
            have y248 : σ229 60 10 = σ 60 10 := (((hGσ229 60 10 (show ¬ (60 = 57) from by decide))).trans (hGσ216 60 10 (show ¬ ((60 = 56 ∧ (10 = 2 ∨ 10 = 3))) from by decide))).trans (hGσ212 60 10 (show ¬ ((60 = 56 ∧ (10 = 2 ∨ 10 = 3))) from by decide))
            have y249 : σ229 60 11 = σ 60 11 := (((hGσ229 60 11 (show ¬ (60 = 57) from by decide))).trans (hGσ216 60 11 (show ¬ ((60 = 56 ∧ (11 = 2 ∨ 11 = 3))) from by decide))).trans (hGσ212 60 11 (show ¬ ((60 = 56 ∧ (11 = 2 ∨ 11 = 3))) from by decide))
            have y250 : σ229 61 0 = σ 61 0 := (((hGσ229 61 0 (show ¬ (61 = 57) from by decide))).trans (hGσ216 61 0 (show ¬ ((61 = 56 ∧ (0 = 2 ∨ 0 = 3))) from by decide))).trans (hGσ212 61 0 (show ¬ ((61 = 56 ∧ (0 = 2 ∨ 0 = 3))) from by decide))
            have y251 : σ229 67 0 = σ 67 0 := (((hGσ229 67 0 (show ¬ (67 = 57) from by decide))).trans (hGσ216 67 0 (show ¬ ((67 = 56 ∧ (0 = 2 ∨ 0 = 3))) from by decide))).trans (hGσ212 67 0 (show ¬ ((67 = 56 ∧ (0 = 2 ∨ 0 = 3))) from by decide))
            have y252 : σ229 60 8 = σ 60 8 := (((hGσ229 60 8 (show ¬ (60 = 57) from by decide))).trans (hGσ216 60 8 (show ¬ ((60 = 56 ∧ (8 = 2 ∨ 8 = 3))) from by decide))).trans (hGσ212 60 8 (show ¬ ((60 = 56 ∧ (8 = 2 ∨ 8 = 3))) from by decide))
            replace q238_2 : ∀ gg qq : Nat → Int, ¬ (σ229 60 10 = 0 ∨ z232 < σ229 60 11 ∨ (z232 = σ229 60 11 ∧ (σ229 61 0 < σ229 67 0 ∨ (σ229 61 0 = σ229 67 0 ∧ b < σ229 60 8)))) → RG 67 gg qq σ229 → RG 67 gg qq σ237 := q238_2
            have y253 : σ229 60 10 = σ 60 10 := (((hGσ229 60 10 (show ¬ (60 = 57) from by decide))).trans (hGσ216 60 10 (show ¬ ((60 = 56 ∧ (10 = 2 ∨ 10 = 3))) from by decide))).trans (hGσ212 60 10 (show ¬ ((60 = 56 ∧ (10 = 2 ∨ 10 = 3))) from by decide))
            have y254 : σ229 60 11 = σ 60 11 := (((hGσ229 60 11 (show ¬ (60 = 57) from by decide))).trans (hGσ216 60 11 (show ¬ ((60 = 56 ∧ (11 = 2 ∨ 11 = 3))) from by decide))).trans (hGσ212 60 11 (show ¬ ((60 = 56 ∧ (11 = 2 ∨ 11 = 3))) from by decide))
            have y255 : σ229 61 0 = σ 61 0 := (((hGσ229 61 0 (show ¬ (61 = 57) from by decide))).trans (hGσ216 61 0 (show ¬ ((61 = 56 ∧ (0 = 2 ∨ 0 = 3))) from by decide))).trans (hGσ212 61 0 (show ¬ ((61 = 56 ∧ (0 = 2 ∨ 0 = 3))) from by decide))
            have y256 : σ229 67 0 = σ 67 0 := (((hGσ229 67 0 (show ¬ (67 = 57) from by decide))).trans (hGσ216 67 0 (show ¬ ((67 = 56 ∧ (0 = 2 ∨ 0 = 3))) from by decide))).trans (hGσ212 67 0 (show ¬ ((67 = 56 ∧ (0 = 2 ∨ 0 = 3))) from by decide))
            have y257 : σ229 60 8 = σ 60 8 := (((hGσ229 60 8 (show ¬ (60 = 57) from by decide))).trans (hGσ216 60 8 (show ¬ ((60 = 56 ∧ (8 = 2 ∨ 8 = 3))) from by decide))).trans (hGσ212 60 8 (show ¬ ((60 = 56 ∧ (8 = 2 ∨ 8 = 3))) from by decide))
            have hFσ237 : tw_F (fun c j => (56 ≤ c ∧ c < 58) ∨ (c = 60 ∧ (j = 8 ∨ j = 10 ∨ j = 11)) ∨ (61 ≤ c ∧ c < 66) ∨ (67 ≤ c ∧ c < 71)) σ σ237 := tw_F_tr hFσ229 hGσ237 (fun c j q => (show (56 ≤ c ∧ c < 58) ∨ (c = 60 ∧ (j = 8 ∨ j = 10 ∨ j = 11)) ∨ (61 ≤ c ∧ c < 66) ∨ (67 ≤ c ∧ c < 71) from by replace q : (c = 60 ∧ (j = 8 ∨ j = 10 ∨ j = 11)) ∨ (67 ≤ c ∧ c < 71) := q; exact (q.elim (fun q => (Or.inr (Or.inl q))) (fun q => (Or.inr (Or.inr (Or.inr q)))))))
            refine j_st (st' := []) rfl ?_
            have fin : ∀ (rk : Nat → Int) (T : Int → Prop), WOK (wW 1 σ) → CHP (wW 1 σ) rk c b e k σ → BST (wW 1 σ) rk T σ → CHQ (wW 1 σ) rk b σ237 ∧ BST (wW 1 σ) rk (fun S => T S ∨ CMP (wW 1 σ) c b S) σ237 := fun rk T hW hP hB => by
              have y := rs rk hW hP
              exact fin_keep (v := z232) hW hP hB (by have z := fy 60 5 (by omega) (by omega); omega) (by have z := fy 60 5 (by omega) (by omega); omega) (cl rk hW hP).2 (by omega) (by omega) fy q238_0 q238_1 q238_2 (hGσ237 60 5 (show ¬ ((60 = 60 ∧ (5 = 8 ∨ 5 = 10 ∨ 5 = 11)) ∨ (67 ≤ 60 ∧ 60 < 71)) from by decide)) (fun x j a b => hGσ237 x j (show ¬ ((x = 60 ∧ (j = 8 ∨ j = 10 ∨ j = 11)) ∨ (67 ≤ x ∧ x < 71)) from by omega))
            refine j_goto (pc := 157) (tgt := 170) dX5_choose_157 rfl ?_
            exact j_vret (pc := 170) ⟨rfl, rfl⟩ dX5_choose_170 rfl ⟨rfl, hIσ237, hFσ237, fin⟩
          · refine j_iload (pc := 132) dX5_choose_132 rfl ?_
            refine j_aload_n (pc := 134) dX5_choose_134 rfl rfl ?_
            refine j_getI (pc := 135) fl_X5_45 dX5_choose_135 (a_60 hX) rfl ?_
            refine j_topV (show σ229 60 11 = σ 60 11 from (((hGσ229 60 11 (show ¬ (60 = 57) from by decide))).trans (hGσ216 60 11 (show ¬ ((60 = 56 ∧ (11 = 2 ∨ 11 = 3))) from by decide))).trans (hGσ212 60 11 (show ¬ ((60 = 56 ∧ (11 = 2 ∨ 11 = 3))) from by decide))) ?_
            have f258 : (-2147483648 : Int) ≤ σ 60 11 ∧ σ 60 11 ≤ 2147483647 := hI 60 11
            refine j_icmpR_le (pc := 138) (tgt := 142) ⟨by omega, by omega⟩ ⟨by omega, by omega⟩ dX5_choose_138 rfl (fun h259 => ?_) (fun h259 => ?_)
            · refine j_iload_n (pc := 142) dX5_choose_142 rfl rfl ?_
              refine j_aload_n (pc := 143) dX5_choose_143 rfl rfl ?_
              refine j_getI (pc := 144) fl_X5_25 dX5_choose_144 (a_60 hX) rfl ?_
              refine j_topV (show σ229 60 5 = σ 60 5 from (((hGσ229 60 5 (show ¬ (60 = 57) from by decide))).trans (hGσ216 60 5 (show ¬ ((60 = 56 ∧ (5 = 2 ∨ 5 = 3))) from by decide))).trans (hGσ212 60 5 (show ¬ ((60 = 56 ∧ (5 = 2 ∨ 5 = 3))) from by decide))) ?_
              refine j_icmpR_ne (pc := 147) (tgt := 160) ⟨by omega, by omega⟩ ⟨by omega, by omega⟩ dX5_choose_147 rfl (fun h260 => by exfalso; omega) (fun h260 => ?_)
              refine j_aload_n (pc := 150) dX5_choose_150 rfl rfl ?_
              refine j_iload_n (pc := 151) dX5_choose_151 rfl rfl ?_
              refine j_iload (pc := 152) dX5_choose_152 rfl ?_
              refine j_callV (pc := 154) (As := [vI b, vI z232]) (st := []) (c_X5_keepIfBetter hX b ⟨by omega, by omega⟩ z232 ⟨by omega, by omega⟩ σ229 hIσ229) mv_X5_106 rfl rfl rfl (a_60 hX) dX5_choose_154 ⟨(show (1) + 1 ≤ ((20 + 2 * N + 1)) from by omega), (show 8 + (4 + 11) + 60 * (1) ≤ 60 * ((20 + 2 * N + 1)) from by omega)⟩ ⟨Nat.le_refl _, Nat.le_refl _⟩ rfl (Nat.le_of_ble_eq_true rfl) rfl (fun z261 σ262 hz261 => ?_)
              obtain ⟨rfl, hIσ262, hGσ262, q263_0, q263_1, q263_2⟩ := hz261
              replace q263_0 : (¬ (σ229 60 10 = 0 ∨ z232 < σ229 60 11 ∨ (z232 = σ229 60 11 ∧ (σ229 61 0 < σ229 67 0 ∨ (σ229 61 0 = σ229 67 0 ∧ b < σ229 60 8)))) ∧ σ262 60 10 = σ229 60 10 ∧ σ262 60 8 = σ229 60 8 ∧ σ262 60 11 = σ229 60 11) ∨ ((σ229 60 10 = 0 ∨ z232 < σ229 60 11 ∨ (z232 = σ229 60 11 ∧ (σ229 61 0 < σ229 67 0 ∨ (σ229 61 0 = σ229 67 0 ∧ b < σ229 60 8)))) ∧ σ262 60 10 = 1 ∧ σ262 60 8 = b ∧ σ262 60 11 = z232) := q263_0
              have y265 : σ229 60 10 = σ 60 10 := (((hGσ229 60 10 (show ¬ (60 = 57) from by decide))).trans (hGσ216 60 10 (show ¬ ((60 = 56 ∧ (10 = 2 ∨ 10 = 3))) from by decide))).trans (hGσ212 60 10 (show ¬ ((60 = 56 ∧ (10 = 2 ∨ 10 = 3))) from by decide))
              have y266 : σ229 60 11 = σ 60 11 := (((hGσ229 60 11 (show ¬ (60 = 57) from by decide))).trans (hGσ216 60 11 (show ¬ ((60 = 56 ∧ (11 = 2 ∨ 11 = 3))) from by decide))).trans (hGσ212 60 11 (show ¬ ((60 = 56 ∧ (11 = 2 ∨ 11 = 3))) from by decide))
              have y267 : σ229 61 0 = σ 61 0 := (((hGσ229 61 0 (show ¬ (61 = 57) from by decide))).trans (hGσ216 61 0 (show ¬ ((61 = 56 ∧ (0 = 2 ∨ 0 = 3))) from by decide))).trans (hGσ212 61 0 (show ¬ ((61 = 56 ∧ (0 = 2 ∨ 0 = 3))) from by decide))
              have y268 : σ229 67 0 = σ 67 0 := (((hGσ229 67 0 (show ¬ (67 = 57) from by decide))).trans (hGσ216 67 0 (show ¬ ((67 = 56 ∧ (0 = 2 ∨ 0 = 3))) from by decide))).trans (hGσ212 67 0 (show ¬ ((67 = 56 ∧ (0 = 2 ∨ 0 = 3))) from by decide))
              have f269 : (0 : Int) ≤ σ 67 0 ∧ σ 67 0 ≤ 10 := hI 67 0
              have y270 : σ229 60 8 = σ 60 8 := (((hGσ229 60 8 (show ¬ (60 = 57) from by decide))).trans (hGσ216 60 8 (show ¬ ((60 = 56 ∧ (8 = 2 ∨ 8 = 3))) from by decide))).trans (hGσ212 60 8 (show ¬ ((60 = 56 ∧ (8 = 2 ∨ 8 = 3))) from by decide))
              have f271 : (-2147483648 : Int) ≤ σ 60 8 ∧ σ 60 8 ≤ 2147483647 := hI 60 8
              replace q263_1 : ∀ gg qq : Nat → Int, (σ229 60 10 = 0 ∨ z232 < σ229 60 11 ∨ (z232 = σ229 60 11 ∧ (σ229 61 0 < σ229 67 0 ∨ (σ229 61 0 = σ229 67 0 ∧ b < σ229 60 8)))) → RG 61 gg qq σ229 → RG 67 gg qq σ262 := q263_1
              have y272 : σ229 60 10 = σ 60 10 := (((hGσ229 60 10 (show ¬ (60 = 57) from by decide))).trans (hGσ216 60 10 (show ¬ ((60 = 56 ∧ (10 = 2 ∨ 10 = 3))) from by decide))).trans (hGσ212 60 10 (show ¬ ((60 = 56 ∧ (10 = 2 ∨ 10 = 3))) from by decide))
              have y273 : σ229 60 11 = σ 60 11 := (((hGσ229 60 11 (show ¬ (60 = 57) from by decide))).trans (hGσ216 60 11 (show ¬ ((60 = 56 ∧ (11 = 2 ∨ 11 = 3))) from by decide))).trans (hGσ212 60 11 (show ¬ ((60 = 56 ∧ (11 = 2 ∨ 11 = 3))) from by decide))
              have y274 : σ229 61 0 = σ 61 0 := (((hGσ229 61 0 (show ¬ (61 = 57) from by decide))).trans (hGσ216 61 0 (show ¬ ((61 = 56 ∧ (0 = 2 ∨ 0 = 3))) from by decide))).trans (hGσ212 61 0 (show ¬ ((61 = 56 ∧ (0 = 2 ∨ 0 = 3))) from by decide))
              have y275 : σ229 67 0 = σ 67 0 := (((hGσ229 67 0 (show ¬ (67 = 57) from by decide))).trans (hGσ216 67 0 (show ¬ ((67 = 56 ∧ (0 = 2 ∨ 0 = 3))) from by decide))).trans (hGσ212 67 0 (show ¬ ((67 = 56 ∧ (0 = 2 ∨ 0 = 3))) from by decide))
              have y276 : σ229 60 8 = σ 60 8 := (((hGσ229 60 8 (show ¬ (60 = 57) from by decide))).trans (hGσ216 60 8 (show ¬ ((60 = 56 ∧ (8 = 2 ∨ 8 = 3))) from by decide))).trans (hGσ212 60 8 (show ¬ ((60 = 56 ∧ (8 = 2 ∨ 8 = 3))) from by decide))
              replace q263_2 : ∀ gg qq : Nat → Int, ¬ (σ229 60 10 = 0 ∨ z232 < σ229 60 11 ∨ (z232 = σ229 60 11 ∧ (σ229 61 0 < σ229 67 0 ∨ (σ229 61 0 = σ229 67 0 ∧ b < σ229 60 8)))) → RG 67 gg qq σ229 → RG 67 gg qq σ262 := q263_2
              have y277 : σ229 60 10 = σ 60 10 := (((hGσ229 60 10 (show ¬ (60 = 57) from by decide))).trans (hGσ216 60 10 (show ¬ ((60 = 56 ∧ (10 = 2 ∨ 10 = 3))) from by decide))).trans (hGσ212 60 10 (show ¬ ((60 = 56 ∧ (10 = 2 ∨ 10 = 3))) from by decide))
              have y278 : σ229 60 11 = σ 60 11 := (((hGσ229 60 11 (show ¬ (60 = 57) from by decide))).trans (hGσ216 60 11 (show ¬ ((60 = 56 ∧ (11 = 2 ∨ 11 = 3))) from by decide))).trans (hGσ212 60 11 (show ¬ ((60 = 56 ∧ (11 = 2 ∨ 11 = 3))) from by decide))
              have y279 : σ229 61 0 = σ 61 0 := (((hGσ229 61 0 (show ¬ (61 = 57) from by decide))).trans (hGσ216 61 0 (show ¬ ((61 = 56 ∧ (0 = 2 ∨ 0 = 3))) from by decide))).trans (hGσ212 61 0 (show ¬ ((61 = 56 ∧ (0 = 2 ∨ 0 = 3))) from by decide))
              have y280 : σ229 67 0 = σ 67 0 := (((hGσ229 67 0 (show ¬ (67 = 57) from by decide))).trans (hGσ216 67 0 (show ¬ ((67 = 56 ∧ (0 = 2 ∨ 0 = 3))) from by decide))).trans (hGσ212 67 0 (show ¬ ((67 = 56 ∧ (0 = 2 ∨ 0 = 3))) from by decide))
              have y281 : σ229 60 8 = σ 60 8 := (((hGσ229 60 8 (show ¬ (60 = 57) from by decide))).trans (hGσ216 60 8 (show ¬ ((60 = 56 ∧ (8 = 2 ∨ 8 = 3))) from by decide))).trans (hGσ212 60 8 (show ¬ ((60 = 56 ∧ (8 = 2 ∨ 8 = 3))) from by decide))
              have hFσ262 : tw_F (fun c j => (56 ≤ c ∧ c < 58) ∨ (c = 60 ∧ (j = 8 ∨ j = 10 ∨ j = 11)) ∨ (61 ≤ c ∧ c < 66) ∨ (67 ≤ c ∧ c < 71)) σ σ262 := tw_F_tr hFσ229 hGσ262 (fun c j q => (show (56 ≤ c ∧ c < 58) ∨ (c = 60 ∧ (j = 8 ∨ j = 10 ∨ j = 11)) ∨ (61 ≤ c ∧ c < 66) ∨ (67 ≤ c ∧ c < 71) from by replace q : (c = 60 ∧ (j = 8 ∨ j = 10 ∨ j = 11)) ∨ (67 ≤ c ∧ c < 71) := q; exact (q.elim (fun q => (Or.inr (Or.inl q))) (fun q => (Or.inr (Or.inr (Or.inr q)))))))
              refine j_st (st' := []) rfl ?_
              have fin : ∀ (rk : Nat → Int) (T : Int → Prop), WOK (wW 1 σ) → CHP (wW 1 σ) rk c b e k σ → BST (wW 1 σ) rk T σ → CHQ (wW 1 σ) rk b σ262 ∧ BST (wW 1 σ) rk (fun S => T S ∨ CMP (wW 1 σ) c b S) σ262 := fun rk T hW hP hB => by
                have y := rs rk hW hP
                exact fin_keep (v := z232) hW hP hB (by have z := fy 60 5 (by omega) (by omega); omega) (by have z := fy 60 5 (by omega) (by omega); omega) (cl rk hW hP).2 (by omega) (by omega) fy q263_0 q263_1 q263_2 (hGσ262 60 5 (show ¬ ((60 = 60 ∧ (5 = 8 ∨ 5 = 10 ∨ 5 = 11)) ∨ (67 ≤ 60 ∧ 60 < 71)) from by decide)) (fun x j a b => hGσ262 x j (show ¬ ((x = 60 ∧ (j = 8 ∨ j = 10 ∨ j = 11)) ∨ (67 ≤ x ∧ x < 71)) from by omega))
              refine j_goto (pc := 157) (tgt := 170) dX5_choose_157 rfl ?_
              exact j_vret (pc := 170) ⟨rfl, rfl⟩ dX5_choose_170 rfl ⟨rfl, hIσ262, hFσ262, fin⟩
            · have fin : ∀ (rk : Nat → Int) (T : Int → Prop), WOK (wW 1 σ) → CHP (wW 1 σ) rk c b e k σ → BST (wW 1 σ) rk T σ → CHQ (wW 1 σ) rk b σ229 ∧ BST (wW 1 σ) rk (fun S => T S ∨ CMP (wW 1 σ) c b S) σ229 := fun rk T hW hP hB => by
                have y := rs rk hW hP
                have z := fy 60 10 (by omega) (by omega)
                have z2 := fy 60 11 (by omega) (by omega)
                exact fin_prune (v := z232) hW hP hB v1 (by omega) (by omega) (by omega) fy
              exact j_vret (pc := 141) ⟨rfl, rfl⟩ dX5_choose_141 rfl ⟨rfl, hIσ229, hFσ229, fin⟩
        · have fin : ∀ (rk : Nat → Int) (T : Int → Prop), WOK (wW 1 σ) → CHP (wW 1 σ) rk c b e k σ → BST (wW 1 σ) rk T σ → CHQ (wW 1 σ) rk b σ216 ∧ BST (wW 1 σ) rk (fun S => T S ∨ CMP (wW 1 σ) c b S) σ216 := fun rk T hW hP hB => fin_much hW hP hB v1 (cl rk hW hP).2 (by omega) fz
          exact j_vret (pc := 88) ⟨rfl, rfl⟩ dX5_choose_88 rfl ⟨rfl, hIσ216, hFσ216, fin⟩
  · have fin : ∀ (rk : Nat → Int) (T : Int → Prop), WOK (wW 1 σ) → CHP (wW 1 σ) rk c b e k σ → BST (wW 1 σ) rk T σ → CHQ (wW 1 σ) rk b σ ∧ BST (wW 1 σ) rk (fun S => T S ∨ CMP (wW 1 σ) c b S) σ := fun rk T hW hP hB => by exfalso; (have a := hP.1.1); (have b := hP.2.1); omega
    exact j_vret (pc := 8) ⟨rfl, rfl⟩ dX5_choose_8 rfl ⟨rfl, hI, (tw_F_rf), fin⟩
theorem c_X5_choose_all {G : tw_G} (hX : tw_isX G) : ∀ N : Nat, ∀ (c : Int) (hc : 0 ≤ c ∧ c ≤ 11) (b : Int) (hb : -2147483648 ≤ b ∧ b ≤ 2147483647) (e : Int) (he : -2147483648 ≤ e ∧ e ≤ 2147483647) (k : Int) (hk : -2147483648 ≤ k ∧ k ≤ 2147483647) (σ : tw_M) (hI : tw_I σ) (hq0 : 11 - c ≤ (N : Int)), tw_C G yX5_choose cX5_choose 9 none (20 + 2 * N + 1) [vR 60, vI c, vI b, vI e, vI k] σ (q_X5_choose c b e k σ) := by
  intro N
  induction N with
  | zero => exact c_X5_choose_step hX 0 (fun c hc b hb e he k hk σ hI hq => by exfalso; omega)
  | succ N ih => exact c_X5_choose_step hX (N + 1) (fun c hc b hb e he k hk σ hI hq => c_X5_goOn_step hX N ih c hc b hb e he k hk σ hI (by omega))
theorem c_X5_choose {G : tw_G} (hX : tw_isX G) (c : Int) (hc : 0 ≤ c ∧ c ≤ 11) (b : Int) (hb : -2147483648 ≤ b ∧ b ≤ 2147483647) (e : Int) (he : -2147483648 ≤ e ∧ e ≤ 2147483647) (k : Int) (hk : -2147483648 ≤ k ∧ k ≤ 2147483647) (σ : tw_M) (hI : tw_I σ) (hq0 : 11 - c ≤ 11) : tw_C G yX5_choose cX5_choose 9 none 43 [vR 60, vI c, vI b, vI e, vI k] σ (q_X5_choose c b e k σ) := c_X5_choose_all hX 11 c hc b hb e he k hk σ hI (by omega)
abbrev q_X5_findPlan  (σ : tw_M) : Option tw_V → tw_M → Prop := fun z τ => z = none ∧ tw_I τ ∧ tw_F (fun c j => (56 ≤ c ∧ c < 58) ∨ (c = 60 ∧ (j = 5 ∨ j = 6 ∨ j = 8 ∨ j = 10 ∨ j = 11)) ∨ (61 ≤ c ∧ c < 71)) σ τ ∧ (∀ rk : Nat → Int, WOK (wW 1 σ) → (∀ s : Int, 1 ≤ s → s ≤ 10 → σ 3 s.toNat = rk s.toNat) → (¬ σ 60 6 = 0 → PLN (wW 1 σ) rk σ) → PLN (wW 1 σ) rk τ ∧ τ 60 6 = 1)
set_option maxHeartbeats 4000000 in
set_option maxRecDepth 100000 in
theorem c_X5_findPlan {G : tw_G} (hX : tw_isX G) (σ : tw_M) (hI : tw_I σ) : tw_C G yX5_findPlan cX5_findPlan 1 none 44 [vR 60] σ (q_X5_findPlan σ) := by
  refine tw_met [(0, vR 60)] (by decide +kernel) rfl (Nat.le_of_ble_eq_true rfl) ?_
  refine j_aload_n (pc := 0) dX5_findPlan_0 rfl rfl ?_
  refine j_getI (pc := 1) fl_X5_29 dX5_findPlan_1 (a_60 hX) rfl ?_
  have f1 : (0 : Int) ≤ σ 60 6 ∧ σ 60 6 ≤ 1 := hI 60 6
  refine j_ifR_eq (pc := 4) (tgt := 8) ⟨by omega, by omega⟩ dX5_findPlan_4 rfl (fun h2 => ?_) (fun h2 => ?_)
  · refine j_aload_n (pc := 8) dX5_findPlan_8 rfl rfl ?_
    refine j_iconst (pc := 9) dX5_findPlan_9 ?_
    refine j_putZ (pc := 10) (by omega) fl_X5_29 fp_X5_6 dX5_findPlan_10 (a_60 hX) rfl (j_nm (fun σ3 (eσ3 : σ3 = tw_up σ 60 6 1) => ?_))
    have hIσ3 : tw_I σ3 := tw_I_up hI eσ3 (show (0 : Int) ≤ 1 ∧ 1 ≤ 1 from by decide)
    have hFσ3 : tw_F (fun c j => (56 ≤ c ∧ c < 58) ∨ (c = 60 ∧ (j = 5 ∨ j = 6 ∨ j = 8 ∨ j = 10 ∨ j = 11)) ∨ (61 ≤ c ∧ c < 71)) σ σ3 := tw_F_up (tw_F_rf) eσ3 (show (56 ≤ 60 ∧ 60 < 58) ∨ (60 = 60 ∧ (6 = 5 ∨ 6 = 6 ∨ 6 = 8 ∨ 6 = 10 ∨ 6 = 11)) ∨ (61 ≤ 60 ∧ 60 < 71) from (Or.inr (Or.inl ⟨rfl, (Or.inr (Or.inl rfl))⟩)))
    refine j_aload_n (pc := 13) dX5_findPlan_13 rfl rfl ?_
    refine j_iconst (pc := 14) dX5_findPlan_14 ?_
    refine j_putZ (pc := 15) (by omega) fl_X5_42 fp_X5_10 dX5_findPlan_15 (a_60 hX) rfl (j_nm (fun σ4 (eσ4 : σ4 = tw_up σ3 60 10 0) => ?_))
    have hIσ4 : tw_I σ4 := tw_I_up hIσ3 eσ4 (show (0 : Int) ≤ 0 ∧ 0 ≤ 1 from by decide)
    have hFσ4 : tw_F (fun c j => (56 ≤ c ∧ c < 58) ∨ (c = 60 ∧ (j = 5 ∨ j = 6 ∨ j = 8 ∨ j = 10 ∨ j = 11)) ∨ (61 ≤ c ∧ c < 71)) σ σ4 := tw_F_up hFσ3 eσ4 (show (56 ≤ 60 ∧ 60 < 58) ∨ (60 = 60 ∧ (10 = 5 ∨ 10 = 6 ∨ 10 = 8 ∨ 10 = 10 ∨ 10 = 11)) ∨ (61 ≤ 60 ∧ 60 < 71) from (Or.inr (Or.inl ⟨rfl, (Or.inr (Or.inr (Or.inr (Or.inl rfl))))⟩)))
    refine j_aload_n (pc := 18) dX5_findPlan_18 rfl rfl ?_
    have W0 : wW 1 σ4 = wW 1 σ := wW_F (fun c j a b => hFσ4 c j (show ¬ ((56 ≤ c ∧ c < 58) ∨ (c = 60 ∧ (j = 5 ∨ j = 6 ∨ j = 8 ∨ j = 10 ∨ j = 11)) ∨ (61 ≤ c ∧ c < 71)) from by omega))
    have g3 : ∀ j, σ4 3 j = σ 3 j := fun j => hFσ4 3 j (show ¬ ((56 ≤ 3 ∧ 3 < 58) ∨ (3 = 60 ∧ (j = 5 ∨ j = 6 ∨ j = 8 ∨ j = 10 ∨ j = 11)) ∨ (61 ≤ 3 ∧ 3 < 71)) from fun h => h.elim (fun h => absurd h (by decide)) (fun h => h.elim (fun h => absurd h.1 (by decide)) (fun h => absurd h (by decide))))
    refine j_callV (pc := 19) (As := []) (st := []) (c_X5_begin hX σ4 hIσ4) mv_X5_62 rfl rfl rfl (a_60 hX) dX5_findPlan_19 ⟨Nat.le_of_ble_eq_true rfl, Nat.le_of_ble_eq_true rfl⟩ ⟨Nat.le_refl _, Nat.le_refl _⟩ rfl (Nat.le_of_ble_eq_true rfl) rfl (fun z5 σ6 hz5 => ?_)
    obtain ⟨rfl, hIσ6, hGσ6, q7_0, q7_1, q7_2⟩ := hz5
    replace q7_0 : CRK (wW 1 σ4) σ6 := q7_0
    replace q7_1 : σ6 61 0 = 0 := q7_1
    replace q7_2 : ∀ s : Int, 1 ≤ s → s ≤ 10 → σ6 65 s.toNat = σ4 3 s.toNat := q7_2
    have hFσ6 : tw_F (fun c j => (56 ≤ c ∧ c < 58) ∨ (c = 60 ∧ (j = 5 ∨ j = 6 ∨ j = 8 ∨ j = 10 ∨ j = 11)) ∨ (61 ≤ c ∧ c < 71)) σ σ6 := tw_F_tr hFσ4 hGσ6 (fun c j q => (show (56 ≤ c ∧ c < 58) ∨ (c = 60 ∧ (j = 5 ∨ j = 6 ∨ j = 8 ∨ j = 10 ∨ j = 11)) ∨ (61 ≤ c ∧ c < 71) from by replace q : (c = 60 ∧ (j = 5)) ∨ (c = 61 ∧ (j = 0)) ∨ (65 ≤ c ∧ c < 67) := q; exact (q.elim (fun q => (Or.inr (Or.inl ⟨q.1, (Or.inl q.2)⟩))) (fun q => (q.elim (fun q => (Or.inr (Or.inr (by rw [show c = 61 from q.1]; decide)))) (fun q => (Or.inr (Or.inr ⟨Nat.le_trans (by decide) q.1, Nat.lt_of_lt_of_le q.2 (by decide)⟩))))))))
    refine j_st (st' := []) rfl ?_
    have b1 := q7_0; rw [W0] at b1
    have b2 := q7_1
    have b3 := q7_2
    have WB9 : wW 1 σ6 = wW 1 σ := wW_F (fun c j a b => hFσ6 c j (show ¬ ((56 ≤ c ∧ c < 58) ∨ (c = 60 ∧ (j = 5 ∨ j = 6 ∨ j = 8 ∨ j = 10 ∨ j = 11)) ∨ (61 ≤ c ∧ c < 71)) from by omega))
    have p0 : σ6 60 10 = 0 := (((hGσ6 60 10 (show ¬ ((60 = 60 ∧ (10 = 5)) ∨ (60 = 61 ∧ (10 = 0)) ∨ (65 ≤ 60 ∧ 60 < 67)) from by decide))).trans (tw_eq1 eσ4)).trans rfl
    refine j_aload_n (pc := 22) dX5_findPlan_22 rfl rfl ?_
    refine j_iconst (pc := 23) dX5_findPlan_23 ?_
    refine j_iconst (pc := 24) dX5_findPlan_24 ?_
    refine j_iconst (pc := 25) dX5_findPlan_25 ?_
    refine j_iconst (pc := 26) dX5_findPlan_26 ?_
    refine j_callV (pc := 27) (As := [vI 0, vI 0, vI 0, vI 0]) (st := []) (c_X5_choose hX 0 (by (first | decide | exact ⟨by omega, by omega⟩)) 0 (by (first | decide | exact ⟨by omega, by omega⟩)) 0 (by (first | decide | exact ⟨by omega, by omega⟩)) 0 (by (first | decide | exact ⟨by omega, by omega⟩)) σ6 hIσ6 (by omega)) mv_X5_65 rfl rfl rfl (a_60 hX) dX5_findPlan_27 ⟨Nat.le_of_ble_eq_true rfl, Nat.le_of_ble_eq_true rfl⟩ ⟨Nat.le_refl _, Nat.le_refl _⟩ rfl (Nat.le_of_ble_eq_true rfl) rfl (fun z9 σ10 hz9 => ?_)
    obtain ⟨rfl, hIσ10, hGσ10, q11_0⟩ := hz9
    replace q11_0 : ∀ (rk : Nat → Int) (T : Int → Prop), WOK (wW 1 σ6) → CHP (wW 1 σ6) rk (0 : Int) (0 : Int) (0 : Int) (0 : Int) σ6 → BST (wW 1 σ6) rk T σ6 → CHQ (wW 1 σ6) rk (0 : Int) σ10 ∧ BST (wW 1 σ6) rk (fun S => T S ∨ CMP (wW 1 σ6) (0 : Int) (0 : Int) S) σ10 := q11_0
    have hFσ10 : tw_F (fun c j => (56 ≤ c ∧ c < 58) ∨ (c = 60 ∧ (j = 5 ∨ j = 6 ∨ j = 8 ∨ j = 10 ∨ j = 11)) ∨ (61 ≤ c ∧ c < 71)) σ σ10 := tw_F_tr hFσ6 hGσ10 (fun c j q => (show (56 ≤ c ∧ c < 58) ∨ (c = 60 ∧ (j = 5 ∨ j = 6 ∨ j = 8 ∨ j = 10 ∨ j = 11)) ∨ (61 ≤ c ∧ c < 71) from by replace q : (56 ≤ c ∧ c < 58) ∨ (c = 60 ∧ (j = 8 ∨ j = 10 ∨ j = 11)) ∨ (61 ≤ c ∧ c < 66) ∨ (67 ≤ c ∧ c < 71) := q; exact (q.elim (fun q => (Or.inl q)) (fun q => (q.elim (fun q => (Or.inr (Or.inl ⟨q.1, (q.2.elim (fun z => (Or.inr (Or.inr (Or.inl z)))) (fun z => (z.elim (fun z => (Or.inr (Or.inr (Or.inr (Or.inl z))))) (fun z => (Or.inr (Or.inr (Or.inr (Or.inr z))))))))⟩))) (fun q => (q.elim (fun q => (Or.inr (Or.inr ⟨Nat.le_trans (by decide) q.1, Nat.lt_of_lt_of_le q.2 (by decide)⟩))) (fun q => (Or.inr (Or.inr ⟨Nat.le_trans (by decide) q.1, Nat.lt_of_lt_of_le q.2 (by decide)⟩))))))))))
    refine j_st (st' := []) rfl ?_
    have hC9 := q11_0; rw [WB9] at hC9
    have y13 : σ10 60 6 = 1 := ((((hGσ10 60 6 (show ¬ ((56 ≤ 60 ∧ 60 < 58) ∨ (60 = 60 ∧ (6 = 8 ∨ 6 = 10 ∨ 6 = 11)) ∨ (61 ≤ 60 ∧ 60 < 66) ∨ (67 ≤ 60 ∧ 60 < 71)) from by decide))).trans (hGσ6 60 6 (show ¬ ((60 = 60 ∧ (6 = 5)) ∨ (60 = 61 ∧ (6 = 0)) ∨ (65 ≤ 60 ∧ 60 < 67)) from by decide))).trans (tw_ne1 eσ4 (by (first | decide | omega)))).trans (tw_eq1 eσ3)
    exact j_vret (pc := 30) ⟨rfl, rfl⟩ dX5_findPlan_30 rfl ⟨rfl, hIσ10, hFσ10, (fun rk hW hL hP => by
                                                              first
                                                              | exact ⟨hP (by omega), by omega⟩
                                                              | (obtain ⟨y1, y2⟩ := hC9 rk (fun _ => False) hW (PLN_0 hW b1 b2 (fun s s1 s2 => by (have z := b3 s s1 s2); (have u := hL s s1 s2); (have w : (0 : Int) ≤ σ 3 s.toNat ∧ σ 3 s.toNat ≤ 5 := hI 3 _); (have v := g3 s.toNat); omega)) (Or.inl ⟨p0, fun S h => h.elim⟩); exact ⟨BST_eqv y2 (fun S => by rw [CMP_all]; exact ⟨fun h => h.resolve_left id, Or.inr⟩), by omega⟩))⟩
  · exact j_vret (pc := 7) ⟨rfl, rfl⟩ dX5_findPlan_7 rfl ⟨rfl, hI, (tw_F_rf), (fun rk hW hL hP => by
                                                              first
                                                              | exact ⟨hP (by omega), by omega⟩
                                                              | (obtain ⟨y1, y2⟩ := hC9 rk (fun _ => False) hW (PLN_0 hW b1 b2 (fun s s1 s2 => by (have z := b3 s s1 s2); (have u := hL s s1 s2); (have w : (0 : Int) ≤ σ 3 s.toNat ∧ σ 3 s.toNat ≤ 5 := hI 3 _); (have v := g3 s.toNat); omega)) (Or.inl ⟨p0, fun S h => h.elim⟩); exact ⟨BST_eqv y2 (fun S => by rw [CMP_all]; exact ⟨fun h => h.resolve_left id, Or.inr⟩), by omega⟩))⟩
abbrev q_X5_follow (r0 : Int) (σ : tw_M) : Option tw_V → tw_M → Prop := fun z τ => z = none ∧ tw_I τ ∧ tw_F (fun c j => (c = 60 ∧ (j = 5)) ∨ (61 ≤ c ∧ c < 67)) σ τ ∧ True
set_option maxHeartbeats 4000000 in
set_option maxRecDepth 100000 in
theorem l_X5_follow {G : tw_G} (hX : tw_isX G) (r0 : Int) (hr0 : -2147483648 ≤ r0 ∧ r0 ≤ 2147483647) (σ : tw_M) (hI : tw_I σ) : ∀ N_ : Nat, (∀ (l : Int) (hl : 0 ≤ l ∧ l ≤ 40) (c : Int) (hc : 0 ≤ c ∧ c ≤ 10) (τ : tw_M) (hIτ : tw_I τ) (hFτ : tw_F (fun c j => (c = 60 ∧ (j = 5)) ∨ (61 ≤ c ∧ c < 67)) σ τ)  (hm : (10 - c).toNat < N_), tw_J G (tw_mt RX5 cX5_follow 6 none 2) (tw_E G (q_X5_follow r0 σ)) 8 [(0, vR 60), (1, vI r0), (2, vI l), (3, vI c)] [] τ) := by
  intro N_
  induction N_ with
  | zero => exact fun l hl c hc τ hIτ hFτ hm => absurd hm (Nat.not_lt_zero _)
  | succ N_ ih =>
    intro l hl c hc τ hIτ hFτ hm
    refine j_iload_n (pc := 8) dX5_follow_8 rfl rfl ?_
    refine j_aload_n (pc := 9) dX5_follow_9 rfl rfl ?_
    refine j_getI (pc := 10) fl_X5_25 dX5_follow_10 (a_60 hX) rfl ?_
    have f1 : (0 : Int) ≤ τ 60 5 ∧ τ 60 5 ≤ 10 := hIτ 60 5
    refine j_icmpR_ge (pc := 13) (tgt := 86) ⟨by omega, by omega⟩ ⟨by omega, by omega⟩ dX5_follow_13 rfl (fun h2 => ?_) (fun h2 => ?_)
    · exact j_vret (pc := 86) ⟨rfl, rfl⟩ dX5_follow_86 rfl ⟨rfl, hIτ, hFτ, trivial⟩
    · refine j_aload_n (pc := 16) dX5_follow_16 rfl rfl ?_
      refine j_getR (pc := 17) (r := 66) fl_X5_22 dX5_follow_17 (a_60 hX) rfl ?_
      refine j_iload_n (pc := 20) dX5_follow_20 rfl rfl ?_
      refine j_iald (pc := 21) dX5_follow_21 (a_66 hX) (by omega) (by omega) (by decide) ?_
      have f3 : (0 : Int) ≤ τ 66 (c.toNat) ∧ τ 66 (c.toNat) ≤ 40 := hIτ 66 (c.toNat)
      refine j_istore (pc := 22) (i := 4) (ls' := [(0, vR 60), (1, vI r0), (2, vI l), (3, vI c), (4, vI (τ 66 (c.toNat)))]) [1, 2, 3, 4, 0] dX5_follow_22 (Nat.le_of_ble_eq_true rfl) rfl rfl ?_
      refine j_aload_n (pc := 24) dX5_follow_24 rfl rfl ?_
      refine j_getR (pc := 25) (r := 1) fl_X5_54 dX5_follow_25 (a_60 hX) rfl ?_
      refine j_getR (pc := 28) (r := 5) fl_X5_81 dX5_follow_28 (a_1 hX) rfl ?_
      refine j_iload (pc := 31) dX5_follow_31 rfl ?_
      refine j_iald (pc := 33) dX5_follow_33 (a_5 hX) (by omega) (by omega) (by decide) ?_
      have f4 : (0 : Int) ≤ τ 5 ((τ 66 (c.toNat)).toNat) ∧ τ 5 ((τ 66 (c.toNat)).toNat) ≤ 10 := hIτ 5 ((τ 66 (c.toNat)).toNat)
      refine j_istore (pc := 34) (i := 5) (ls' := [(0, vR 60), (1, vI r0), (2, vI l), (3, vI c), (4, vI (τ 66 (c.toNat))), (5, vI (τ 5 ((τ 66 (c.toNat)).toNat)))]) [1, 2, 3, 4, 5, 0] dX5_follow_34 (Nat.le_of_ble_eq_true rfl) rfl rfl ?_
      refine j_iload (pc := 36) dX5_follow_36 rfl ?_
      refine j_iload_n (pc := 38) dX5_follow_38 rfl rfl ?_
      refine j_isub (pc := 39) dX5_follow_39 ?_
      refine j_iload_n (pc := 40) dX5_follow_40 rfl rfl ?_
      refine j_icmpR_lt (pc := 41) (tgt := 80) ⟨by omega, by omega⟩ ⟨by omega, by omega⟩ dX5_follow_41 rfl (fun h5 => ?_) (fun h5 => ?_)
      · refine j_iinc (pc := 80) (i := 3) (n := 1) (ls' := [(0, vR 60), (1, vI r0), (2, vI l), (3, vI (c + 1))]) [1, 2, 3, 0] dX5_follow_80 rfl (Nat.le_of_ble_eq_true rfl) rfl rfl ?_
        refine j_goto (pc := 83) (tgt := 8) dX5_follow_83 rfl ?_
        refine j_ls (ls' := [(0, vR 60), (1, vI r0), (2, vI l), (3, vI (c + 1))]) [0, 1, 2, 3] rfl ?_
        exact ih l ⟨by omega, by omega⟩ (c + 1) ⟨by omega, by omega⟩ τ hIτ hFτ (show (10 - (c + 1)).toNat < N_ from by omega)
      · refine j_aload_n (pc := 44) dX5_follow_44 rfl rfl ?_
        refine j_getR (pc := 45) (r := 65) fl_X5_18 dX5_follow_45 (a_60 hX) rfl ?_
        refine j_iload (pc := 48) dX5_follow_48 rfl ?_
        refine j_iald (pc := 50) dX5_follow_50 (a_65 hX) (by omega) (by omega) (by decide) ?_
        have f6 : (-2147483648 : Int) ≤ τ 65 ((τ 5 ((τ 66 (c.toNat)).toNat)).toNat) ∧ τ 65 ((τ 5 ((τ 66 (c.toNat)).toNat)).toNat) ≤ 2147483647 := hIτ 65 ((τ 5 ((τ 66 (c.toNat)).toNat)).toNat)
        refine j_ifR_le (pc := 51) (tgt := 80) ⟨by omega, by omega⟩ dX5_follow_51 rfl (fun h7 => ?_) (fun h7 => ?_)
        · refine j_iinc (pc := 80) (i := 3) (n := 1) (ls' := [(0, vR 60), (1, vI r0), (2, vI l), (3, vI (c + 1))]) [1, 2, 3, 0] dX5_follow_80 rfl (Nat.le_of_ble_eq_true rfl) rfl rfl ?_
          refine j_goto (pc := 83) (tgt := 8) dX5_follow_83 rfl ?_
          refine j_ls (ls' := [(0, vR 60), (1, vI r0), (2, vI l), (3, vI (c + 1))]) [0, 1, 2, 3] rfl ?_
          exact ih l ⟨by omega, by omega⟩ (c + 1) ⟨by omega, by omega⟩ τ hIτ hFτ (show (10 - (c + 1)).toNat < N_ from by omega)
        · refine j_aload_n (pc := 54) dX5_follow_54 rfl rfl ?_
          refine j_getR (pc := 55) (r := 65) fl_X5_18 dX5_follow_55 (a_60 hX) rfl ?_
          refine j_iload (pc := 58) dX5_follow_58 rfl ?_
          refine j_dup2 (pc := 60) dX5_follow_60 rfl rfl ?_
          refine j_iald (pc := 61) dX5_follow_61 (a_65 hX) (by omega) (by omega) (by decide) ?_
          refine j_iconst (pc := 62) dX5_follow_62 ?_
          refine j_isub (pc := 63) dX5_follow_63 ?_
          refine j_iast (pc := 64) dX5_follow_64 (a_65 hX) (by omega) (by omega) (by decide) (j_nm (fun σ8 (eσ8 : σ8 = tw_up τ 65 ((τ 5 ((τ 66 (c.toNat)).toNat)).toNat) ((τ 65 ((τ 5 ((τ 66 (c.toNat)).toNat)).toNat)) - 1)) => ?_))
          have hIσ8 : tw_I σ8 := tw_I_up hIτ eσ8 (show (-2147483648 : Int) ≤ (τ 65 ((τ 5 ((τ 66 (c.toNat)).toNat)).toNat)) - 1 ∧ (τ 65 ((τ 5 ((τ 66 (c.toNat)).toNat)).toNat)) - 1 ≤ 2147483647 from ⟨by omega, by omega⟩)
          have hFσ8 : tw_F (fun c j => (c = 60 ∧ (j = 5)) ∨ (61 ≤ c ∧ c < 67)) σ σ8 := tw_F_up hFτ eσ8 (show (65 = 60 ∧ ((τ 5 ((τ 66 (c.toNat)).toNat)).toNat = 5)) ∨ (61 ≤ 65 ∧ 65 < 67) from (Or.inr (by decide)))
          refine j_aload_n (pc := 65) dX5_follow_65 rfl rfl ?_
          refine j_getR (pc := 66) (r := 61) fl_X5_12 dX5_follow_66 (a_60 hX) rfl ?_
          refine j_iload (pc := 69) dX5_follow_69 rfl ?_
          refine j_iload (pc := 71) dX5_follow_71 rfl ?_
          refine j_callV (pc := 73) (As := [vI (τ 66 (c.toNat)), vI (τ 5 ((τ 66 (c.toNat)).toNat))]) (st := []) (c_X7_insert 61 (s_Row_61 hX) (τ 66 (c.toNat)) ⟨by omega, by omega⟩ (τ 5 ((τ 66 (c.toNat)).toNat)) ⟨by omega, by omega⟩ σ8 hIσ8) mv_X5_113 rfl rfl rfl (a_61 hX) dX5_follow_73 ⟨Nat.le_of_ble_eq_true rfl, Nat.le_of_ble_eq_true rfl⟩ ⟨Nat.le_refl _, Nat.le_refl _⟩ rfl (Nat.le_of_ble_eq_true rfl) rfl (fun z9 σ10 hz9 => ?_)
          obtain ⟨r12, rfl, hr12, hIσ10, hGσ10, q11_0⟩ := hz9
          replace q11_0 : ∀ gg qq : Nat → Int, RG 61 gg qq σ8 → gg (τ 66 (c.toNat)).toNat = 0 → 1 ≤ (τ 66 (c.toNat)) → 1 ≤ (τ 5 ((τ 66 (c.toNat)).toNat)) → σ8 61 0 < 10 → RG 61 (pg gg (τ 66 (c.toNat)).toNat (τ 5 ((τ 66 (c.toNat)).toNat))) (pg qq (τ 66 (c.toNat)).toNat 0) σ10 ∧ r12 = cnt gg (τ 66 (c.toNat)).toNat := q11_0
          have y13 : σ8 61 0 = τ 61 0 := (tw_ne1 eσ8 (by (first | decide | omega)))
          have f14 : (0 : Int) ≤ τ 61 0 ∧ τ 61 0 ≤ 10 := hIτ 61 0
          have hFσ10 : tw_F (fun c j => (c = 60 ∧ (j = 5)) ∨ (61 ≤ c ∧ c < 67)) σ σ10 := tw_F_tr hFσ8 hGσ10 (fun c j q => (show (c = 60 ∧ (j = 5)) ∨ (61 ≤ c ∧ c < 67) from by replace q : (61 ≤ c ∧ c < 65) := q; exact (Or.inr ⟨Nat.le_trans (by decide) q.1, Nat.lt_of_lt_of_le q.2 (by decide)⟩)))
          refine j_st (st' := [vI r12]) rfl ?_
          refine j_pop (pc := 76) dX5_follow_76 rfl ?_
          refine j_iload (pc := 77) dX5_follow_77 rfl ?_
          refine j_istore_n (pc := 79) (i := 2) (ls' := [(0, vR 60), (1, vI r0), (2, vI (τ 66 (c.toNat))), (3, vI c)]) [1, 2, 0, 3] dX5_follow_79 rfl (Nat.le_of_ble_eq_true rfl) rfl rfl ?_
          refine j_iinc (pc := 80) (i := 3) (n := 1) (ls' := [(0, vR 60), (1, vI r0), (2, vI (τ 66 (c.toNat))), (3, vI (c + 1))]) [1, 2, 3, 0] dX5_follow_80 rfl (Nat.le_of_ble_eq_true rfl) rfl rfl ?_
          refine j_goto (pc := 83) (tgt := 8) dX5_follow_83 rfl ?_
          refine j_ls (ls' := [(0, vR 60), (1, vI r0), (2, vI (τ 66 (c.toNat))), (3, vI (c + 1))]) [0, 1, 2, 3] rfl ?_
          exact ih (τ 66 (c.toNat)) ⟨by omega, by omega⟩ (c + 1) ⟨by omega, by omega⟩ σ10 hIσ10 hFσ10 (show (10 - (c + 1)).toNat < N_ from by omega)
set_option maxHeartbeats 4000000 in
set_option maxRecDepth 100000 in
theorem c_X5_follow {G : tw_G} (hX : tw_isX G) (r0 : Int) (hr0 : -2147483648 ≤ r0 ∧ r0 ≤ 2147483647) (σ : tw_M) (hI : tw_I σ) : tw_C G yX5_follow cX5_follow 6 none 2 [vR 60, vI r0] σ (q_X5_follow r0 σ) := by
  refine tw_met [(0, vR 60), (1, vI r0)] (by decide +kernel) rfl (Nat.le_of_ble_eq_true rfl) ?_
  refine j_aload_n (pc := 0) dX5_follow_0 rfl rfl ?_
  refine j_callV (pc := 1) (As := []) (st := []) (c_X5_begin hX σ hI) mv_X5_62 rfl rfl rfl (a_60 hX) dX5_follow_1 ⟨Nat.le_of_ble_eq_true rfl, Nat.le_of_ble_eq_true rfl⟩ ⟨Nat.le_refl _, Nat.le_refl _⟩ rfl (Nat.le_of_ble_eq_true rfl) rfl (fun z15 σ16 hz15 => ?_)
  obtain ⟨rfl, hIσ16, hGσ16, q17_0, q17_1, q17_2⟩ := hz15
  replace q17_0 : CRK (wW 1 σ) σ16 := q17_0
  replace q17_1 : σ16 61 0 = 0 := q17_1
  replace q17_2 : ∀ s : Int, 1 ≤ s → s ≤ 10 → σ16 65 s.toNat = σ 3 s.toNat := q17_2
  have hFσ16 : tw_F (fun c j => (c = 60 ∧ (j = 5)) ∨ (61 ≤ c ∧ c < 67)) σ σ16 := tw_F_tr (tw_F_rf) hGσ16 (fun c j q => (show (c = 60 ∧ (j = 5)) ∨ (61 ≤ c ∧ c < 67) from by replace q : (c = 60 ∧ (j = 5)) ∨ (c = 61 ∧ (j = 0)) ∨ (65 ≤ c ∧ c < 67) := q; exact (q.elim (fun q => (Or.inl q)) (fun q => (q.elim (fun q => (Or.inr (by rw [show c = 61 from q.1]; decide))) (fun q => (Or.inr ⟨Nat.le_trans (by decide) q.1, Nat.lt_of_lt_of_le q.2 (by decide)⟩)))))))
  refine j_st (st' := []) rfl ?_
  refine j_iconst (pc := 4) dX5_follow_4 ?_
  refine j_istore_n (pc := 5) (i := 2) (ls' := [(0, vR 60), (1, vI r0), (2, vI 0)]) [1, 2, 0] dX5_follow_5 rfl (Nat.le_of_ble_eq_true rfl) rfl rfl ?_
  refine j_iconst (pc := 6) dX5_follow_6 ?_
  refine j_istore_n (pc := 7) (i := 3) (ls' := [(0, vR 60), (1, vI r0), (2, vI 0), (3, vI 0)]) [1, 2, 3, 0] dX5_follow_7 rfl (Nat.le_of_ble_eq_true rfl) rfl rfl ?_
  refine j_ls (ls' := [(0, vR 60), (1, vI r0), (2, vI 0), (3, vI 0)]) [0, 1, 2, 3] rfl ?_
  exact (l_X5_follow hX r0 hr0 σ hI (((10 - (0 : Int)).toNat) + 1)) 0 (by (first | decide | exact ⟨by omega, by omega⟩)) 0 (by (first | decide | exact ⟨by omega, by omega⟩)) σ16 hIσ16 hFσ16 (Nat.lt_succ_self _)
abbrev q_X5_ruleRisk  (σ : tw_M) : Option tw_V → tw_M → Prop := fun z τ => ∃ r : Int, z = some (vI r) ∧ (-2147483648 ≤ r ∧ r ≤ 2147483647) ∧ tw_I τ ∧ tw_F (fun c j => (56 ≤ c ∧ c < 58)) σ τ ∧ True
set_option maxHeartbeats 4000000 in
set_option maxRecDepth 100000 in
theorem c_X5_ruleRisk {G : tw_G} (hX : tw_isX G) (σ : tw_M) (hI : tw_I σ) : tw_C G yX5_ruleRisk cX5_ruleRisk 1 (some .int) 4 [vR 60] σ (q_X5_ruleRisk σ) := by
  refine tw_met [(0, vR 60)] (by decide +kernel) rfl (Nat.le_of_ble_eq_true rfl) ?_
  refine j_aload_n (pc := 0) dX5_ruleRisk_0 rfl rfl ?_
  refine j_getR (pc := 1) (r := 56) fl_X5_58 dX5_ruleRisk_1 (a_60 hX) rfl ?_
  refine j_aload_n (pc := 4) dX5_ruleRisk_4 rfl rfl ?_
  refine j_getR (pc := 5) (r := 61) fl_X5_12 dX5_ruleRisk_5 (a_60 hX) rfl ?_
  refine j_aload_n (pc := 8) dX5_ruleRisk_8 rfl rfl ?_
  refine j_getR (pc := 9) (r := 61) fl_X5_12 dX5_ruleRisk_9 (a_60 hX) rfl ?_
  refine j_callV (pc := 12) (As := []) (st := [vR 61, vR 56]) (c_X7_all 61 (s_Row_61 hX) σ hI) mv_X5_99 rfl rfl rfl (a_61 hX) dX5_ruleRisk_12 ⟨Nat.le_of_ble_eq_true rfl, Nat.le_of_ble_eq_true rfl⟩ ⟨Nat.le_refl _, Nat.le_refl _⟩ rfl (Nat.le_of_ble_eq_true rfl) rfl (fun z1 σ2 hz1 => ?_)
  obtain ⟨r4, rfl, hr4, rfl, q3_0⟩ := hz1
  replace q3_0 : r4 = pt (σ 61 0) - 1 := q3_0
  refine j_st (st' := [vI r4, vR 61, vR 56]) rfl ?_
  refine j_callV (pc := 15) (As := [vR 61, vI r4]) (st := []) (c_X4_riskOf hX 61 (s_Row_61 hX) r4 ⟨by omega, by omega⟩ σ hI (by omega)) mv_X5_124 rfl rfl rfl (a_56 hX) dX5_ruleRisk_15 ⟨Nat.le_of_ble_eq_true rfl, Nat.le_of_ble_eq_true rfl⟩ ⟨Nat.le_refl _, Nat.le_refl _⟩ rfl (Nat.le_of_ble_eq_true rfl) rfl (fun z5 σ6 hz5 => ?_)
  obtain ⟨r8, rfl, hr8, hIσ6, hGσ6, q7_0, q7_1⟩ := hz5
  replace q7_0 : ∀ gg qq : Nat → Int, RG 61 gg qq σ → r8 = rsk (wW 1 σ) gg r4 (σ 2 0).toNat := q7_0
  replace q7_1 : -16000 ≤ r8 ∧ r8 ≤ 16000 := q7_1
  have hFσ6 : tw_F (fun c j => (56 ≤ c ∧ c < 58)) σ σ6 := tw_F_tr (tw_F_rf) hGσ6 (fun c j q => (show (56 ≤ c ∧ c < 58) from by replace q : c = 57 := q; exact (by rw [show c = 57 from q]; decide)))
  refine j_st (st' := [vI r8]) rfl ?_
  exact j_iret (pc := 18) ⟨rfl, rfl⟩ dX5_ruleRisk_18 rfl ⟨_, rfl, ⟨by omega, by omega⟩, hIσ6, hFσ6, trivial⟩
abbrev q_X5_ruleSize  (σ : tw_M) : Option tw_V → tw_M → Prop := fun z τ => ∃ r : Int, z = some (vI r) ∧ (0 ≤ r ∧ r ≤ 10) ∧ σ = τ ∧ True
set_option maxHeartbeats 4000000 in
set_option maxRecDepth 100000 in
theorem c_X5_ruleSize {G : tw_G} (hX : tw_isX G) (σ : tw_M) (hI : tw_I σ) : tw_C G yX5_ruleSize cX5_ruleSize 1 (some .int) 0 [vR 60] σ (q_X5_ruleSize σ) := by
  refine tw_met [(0, vR 60)] (by decide +kernel) rfl (Nat.le_of_ble_eq_true rfl) ?_
  refine j_aload_n (pc := 0) dX5_ruleSize_0 rfl rfl ?_
  refine j_getR (pc := 1) (r := 61) fl_X5_12 dX5_ruleSize_1 (a_60 hX) rfl ?_
  refine j_getI (pc := 4) fl_X5_69 dX5_ruleSize_4 (a_61 hX) rfl ?_
  have f1 : (0 : Int) ≤ σ 61 0 ∧ σ 61 0 ≤ 10 := hI 61 0
  exact j_iret (pc := 7) ⟨rfl, rfl⟩ dX5_ruleSize_7 rfl ⟨_, rfl, ⟨by omega, by omega⟩, rfl, trivial⟩
abbrev q_X5_ruleIsTooMuch  (σ : tw_M) : Option tw_V → tw_M → Prop := fun z τ => ∃ r : Int, z = some (vI r) ∧ (0 ≤ r ∧ r ≤ 1) ∧ tw_I τ ∧ tw_F (fun c j => (56 ≤ c ∧ c < 58)) σ τ ∧ True
set_option maxHeartbeats 4000000 in
set_option maxRecDepth 100000 in
theorem c_X5_ruleIsTooMuch {G : tw_G} (hX : tw_isX G) (σ : tw_M) (hI : tw_I σ) : tw_C G yX5_ruleIsTooMuch cX5_ruleIsTooMuch 1 (some .boolean) 3 [vR 60] σ (q_X5_ruleIsTooMuch σ) := by
  refine tw_met [(0, vR 60)] (by decide +kernel) rfl (Nat.le_of_ble_eq_true rfl) ?_
  refine j_aload_n (pc := 0) dX5_ruleIsTooMuch_0 rfl rfl ?_
  refine j_getR (pc := 1) (r := 56) fl_X5_58 dX5_ruleIsTooMuch_1 (a_60 hX) rfl ?_
  refine j_aload_n (pc := 4) dX5_ruleIsTooMuch_4 rfl rfl ?_
  refine j_getR (pc := 5) (r := 61) fl_X5_12 dX5_ruleIsTooMuch_5 (a_60 hX) rfl ?_
  refine j_callV (pc := 8) (As := [vR 61]) (st := []) (c_X4_climbAll hX 61 (s_Row_61 hX) σ hI (by omega)) mv_X5_128 rfl rfl rfl (a_56 hX) dX5_ruleIsTooMuch_8 ⟨Nat.le_of_ble_eq_true rfl, Nat.le_of_ble_eq_true rfl⟩ ⟨Nat.le_refl _, Nat.le_refl _⟩ rfl (Nat.le_of_ble_eq_true rfl) rfl (fun z1 σ2 hz1 => ?_)
  obtain ⟨rfl, hIσ2, hGσ2, q3_0⟩ := hz1
  replace q3_0 : ∀ gg qq : Nat → Int, RG 61 gg qq σ → σ2 56 2 = eff (wW 1 σ) gg (σ 2 0).toNat ∧ TMs (wW 1 σ) gg 0 1 (σ 2 0 + 1) (σ2 56 3) := q3_0
  have hFσ2 : tw_F (fun c j => (56 ≤ c ∧ c < 58)) σ σ2 := tw_F_tr (tw_F_rf) hGσ2 (fun c j q => (show (56 ≤ c ∧ c < 58) from by replace q : (c = 56 ∧ (j = 2 ∨ j = 3)) := q; exact (by rw [show c = 56 from q.1]; decide)))
  refine j_st (st' := []) rfl ?_
  refine j_aload_n (pc := 11) dX5_ruleIsTooMuch_11 rfl rfl ?_
  refine j_getR (pc := 12) (r := 56) fl_X5_58 dX5_ruleIsTooMuch_12 (a_60 hX) rfl ?_
  refine j_getI (pc := 15) fl_X5_93 dX5_ruleIsTooMuch_15 (a_56 hX) rfl ?_
  have f5 : (-2147483648 : Int) ≤ σ2 56 3 ∧ σ2 56 3 ≤ 2147483647 := hIσ2 56 3
  refine j_ifR_le (pc := 18) (tgt := 25) ⟨by omega, by omega⟩ dX5_ruleIsTooMuch_18 rfl (fun h6 => ?_) (fun h6 => ?_)
  · refine j_iconst (pc := 25) dX5_ruleIsTooMuch_25 ?_
    exact j_zret (pc := 26) ⟨rfl, rfl⟩ dX5_ruleIsTooMuch_26 rfl (nar_bool (by omega) (by omega)) ⟨_, rfl, ⟨by omega, by omega⟩, hIσ2, hFσ2, trivial⟩
  · refine j_iconst (pc := 21) dX5_ruleIsTooMuch_21 ?_
    refine j_goto (pc := 22) (tgt := 26) dX5_ruleIsTooMuch_22 rfl ?_
    exact j_zret (pc := 26) ⟨rfl, rfl⟩ dX5_ruleIsTooMuch_26 rfl (nar_bool (by omega) (by omega)) ⟨_, rfl, ⟨by omega, by omega⟩, hIσ2, hFσ2, trivial⟩
abbrev q_X5_findBest  (σ : tw_M) : Option tw_V → tw_M → Prop := fun z τ => z = none ∧ tw_I τ ∧ tw_F (fun c j => (56 ≤ c ∧ c < 58) ∨ (c = 60 ∧ (j = 5 ∨ j = 6 ∨ j = 7 ∨ j = 8 ∨ j = 10 ∨ j = 11 ∨ j = 12 ∨ j = 13)) ∨ (61 ≤ c ∧ c < 71)) σ τ ∧ (∀ rk : Nat → Int, WOK (wW 1 σ) → (∀ s : Int, 1 ≤ s → s ≤ 10 → σ 3 s.toNat = rk s.toNat) → (¬ σ 60 6 = 0 → PLN (wW 1 σ) rk σ) → ¬ τ 60 6 = 0 → PLN (wW 1 σ) rk τ)
set_option maxHeartbeats 4000000 in
set_option maxRecDepth 100000 in
theorem l_X5_findBest {G : tw_G} (hX : tw_isX G) (σ : tw_M) (hI : tw_I σ) : ∀ N_ : Nat, (∀ (i : Int) (hi : 1 ≤ i ∧ i ≤ 41) (τ : tw_M) (hIτ : tw_I τ) (hFτ : tw_F (fun c j => (56 ≤ c ∧ c < 58) ∨ (c = 60 ∧ (j = 5 ∨ j = 6 ∨ j = 7 ∨ j = 8 ∨ j = 10 ∨ j = 11 ∨ j = 12 ∨ j = 13)) ∨ (61 ≤ c ∧ c < 71)) σ τ) (i0 : ∀ rk : Nat → Int, WOK (wW 1 σ) → (∀ s : Int, 1 ≤ s → s ≤ 10 → σ 3 s.toNat = rk s.toNat) → (¬ σ 60 6 = 0 → PLN (wW 1 σ) rk σ) → ¬ τ 60 6 = 0 → PLN (wW 1 σ) rk τ) (hm : (41 - i).toNat < N_), tw_J G (tw_mt RX5 cX5_findBest 3 none 45) (tw_E G (q_X5_findBest σ)) 29 [(0, vR 60), (1, vI i)] [] τ) := by
  intro N_
  induction N_ with
  | zero => exact fun i hi τ hIτ hFτ i0 hm => absurd hm (Nat.not_lt_zero _)
  | succ N_ ih =>
    intro i hi τ hIτ hFτ i0 hm
    refine j_iload_n (pc := 29) dX5_findBest_29 rfl rfl ?_
    refine j_bipush (pc := 30) dX5_findBest_30 rfl ?_
    refine j_icmpR_gt (pc := 32) (tgt := 86) ⟨by omega, by omega⟩ ⟨by omega, by omega⟩ dX5_findBest_32 rfl (fun h1 => ?_) (fun h1 => ?_)
    · exact j_vret (pc := 86) ⟨rfl, rfl⟩ dX5_findBest_86 rfl ⟨rfl, hIτ, hFτ, (fun rk a b c d => by first | exact i0 rk a b c d | exact (pA rk a b c).1)⟩
    · refine j_aload_n (pc := 35) dX5_findBest_35 rfl rfl ?_
      refine j_iload_n (pc := 36) dX5_findBest_36 rfl rfl ?_
      refine j_callV (pc := 37) (As := [vI i]) (st := []) (c_X5_follow hX i ⟨by omega, by omega⟩ τ hIτ) mv_X5_134 rfl rfl rfl (a_60 hX) dX5_findBest_37 ⟨Nat.le_of_ble_eq_true rfl, Nat.le_of_ble_eq_true rfl⟩ ⟨Nat.le_refl _, Nat.le_refl _⟩ rfl (Nat.le_of_ble_eq_true rfl) rfl (fun z2 σ3 hz2 => ?_)
      obtain ⟨rfl, hIσ3, hGσ3, -⟩ := hz2
      have hFσ3 : tw_F (fun c j => (56 ≤ c ∧ c < 58) ∨ (c = 60 ∧ (j = 5 ∨ j = 6 ∨ j = 7 ∨ j = 8 ∨ j = 10 ∨ j = 11 ∨ j = 12 ∨ j = 13)) ∨ (61 ≤ c ∧ c < 71)) σ σ3 := tw_F_tr hFτ hGσ3 (fun c j q => (show (56 ≤ c ∧ c < 58) ∨ (c = 60 ∧ (j = 5 ∨ j = 6 ∨ j = 7 ∨ j = 8 ∨ j = 10 ∨ j = 11 ∨ j = 12 ∨ j = 13)) ∨ (61 ≤ c ∧ c < 71) from by replace q : (c = 60 ∧ (j = 5)) ∨ (61 ≤ c ∧ c < 67) := q; exact (q.elim (fun q => (Or.inr (Or.inl ⟨q.1, (Or.inl q.2)⟩))) (fun q => (Or.inr (Or.inr ⟨Nat.le_trans (by decide) q.1, Nat.lt_of_lt_of_le q.2 (by decide)⟩))))))
      refine j_st (st' := []) rfl ?_
      refine j_aload_n (pc := 40) dX5_findBest_40 rfl rfl ?_
      refine j_callV (pc := 41) (As := []) (st := []) (c_X5_ruleIsTooMuch hX σ3 hIσ3) mv_X5_137 rfl rfl rfl (a_60 hX) dX5_findBest_41 ⟨Nat.le_of_ble_eq_true rfl, Nat.le_of_ble_eq_true rfl⟩ ⟨Nat.le_refl _, Nat.le_refl _⟩ rfl (Nat.le_of_ble_eq_true rfl) rfl (fun z6 σ7 hz6 => ?_)
      obtain ⟨r9, rfl, hr9, hIσ7, hGσ7, -⟩ := hz6
      have hFσ7 : tw_F (fun c j => (56 ≤ c ∧ c < 58) ∨ (c = 60 ∧ (j = 5 ∨ j = 6 ∨ j = 7 ∨ j = 8 ∨ j = 10 ∨ j = 11 ∨ j = 12 ∨ j = 13)) ∨ (61 ≤ c ∧ c < 71)) σ σ7 := tw_F_tr hFσ3 hGσ7 (fun c j q => (show (56 ≤ c ∧ c < 58) ∨ (c = 60 ∧ (j = 5 ∨ j = 6 ∨ j = 7 ∨ j = 8 ∨ j = 10 ∨ j = 11 ∨ j = 12 ∨ j = 13)) ∨ (61 ≤ c ∧ c < 71) from by replace q : (56 ≤ c ∧ c < 58) := q; exact (Or.inl q)))
      refine j_st (st' := [vI r9]) rfl ?_
      refine j_ifR_eq (pc := 44) (tgt := 50) ⟨by omega, by omega⟩ dX5_findBest_44 rfl (fun h10 => ?_) (fun h10 => ?_)
      · refine j_aload_n (pc := 50) dX5_findBest_50 rfl rfl ?_
        refine j_callV (pc := 51) (As := []) (st := []) (c_X5_ruleRisk hX σ7 hIσ7) mv_X5_141 rfl rfl rfl (a_60 hX) dX5_findBest_51 ⟨Nat.le_of_ble_eq_true rfl, Nat.le_of_ble_eq_true rfl⟩ ⟨Nat.le_refl _, Nat.le_refl _⟩ rfl (Nat.le_of_ble_eq_true rfl) rfl (fun z11 σ12 hz11 => ?_)
        obtain ⟨r14, rfl, hr14, hIσ12, hGσ12, -⟩ := hz11
        have hFσ12 : tw_F (fun c j => (56 ≤ c ∧ c < 58) ∨ (c = 60 ∧ (j = 5 ∨ j = 6 ∨ j = 7 ∨ j = 8 ∨ j = 10 ∨ j = 11 ∨ j = 12 ∨ j = 13)) ∨ (61 ≤ c ∧ c < 71)) σ σ12 := tw_F_tr hFσ7 hGσ12 (fun c j q => (show (56 ≤ c ∧ c < 58) ∨ (c = 60 ∧ (j = 5 ∨ j = 6 ∨ j = 7 ∨ j = 8 ∨ j = 10 ∨ j = 11 ∨ j = 12 ∨ j = 13)) ∨ (61 ≤ c ∧ c < 71) from by replace q : (56 ≤ c ∧ c < 58) := q; exact (Or.inl q)))
        refine j_st (st' := [vI r14]) rfl ?_
        refine j_istore_n (pc := 54) (i := 2) (ls' := [(0, vR 60), (1, vI i), (2, vI r14)]) [1, 2, 0] dX5_findBest_54 rfl (Nat.le_of_ble_eq_true rfl) rfl rfl ?_
        refine j_aload_n (pc := 55) dX5_findBest_55 rfl rfl ?_
        refine j_getI (pc := 56) fl_X5_48 dX5_findBest_56 (a_60 hX) rfl ?_
        refine j_topV (show σ12 60 12 = τ 60 12 from (((hGσ12 60 12 (show ¬ ((56 ≤ 60 ∧ 60 < 58)) from by decide))).trans (hGσ7 60 12 (show ¬ ((56 ≤ 60 ∧ 60 < 58)) from by decide))).trans (hGσ3 60 12 (show ¬ ((60 = 60 ∧ (12 = 5)) ∨ (61 ≤ 60 ∧ 60 < 67)) from by decide))) ?_
        have f15 : (0 : Int) ≤ τ 60 12 ∧ τ 60 12 ≤ 40 := hIτ 60 12
        refine j_ifR_eq (pc := 59) (tgt := 70) ⟨by omega, by omega⟩ dX5_findBest_59 rfl (fun h16 => ?_) (fun h16 => ?_)
        · refine j_aload_n (pc := 70) dX5_findBest_70 rfl rfl ?_
          refine j_iload_n (pc := 71) dX5_findBest_71 rfl rfl ?_
          refine j_putI (pc := 72) fl_X5_48 fp_X5_12 dX5_findBest_72 (a_60 hX) rfl (j_nm (fun σ17 (eσ17 : σ17 = tw_up σ12 60 12 i) => ?_))
          have hIσ17 : tw_I σ17 := tw_I_up hIσ12 eσ17 (show (0 : Int) ≤ i ∧ i ≤ 40 from ⟨by omega, by omega⟩)
          have hFσ17 : tw_F (fun c j => (56 ≤ c ∧ c < 58) ∨ (c = 60 ∧ (j = 5 ∨ j = 6 ∨ j = 7 ∨ j = 8 ∨ j = 10 ∨ j = 11 ∨ j = 12 ∨ j = 13)) ∨ (61 ≤ c ∧ c < 71)) σ σ17 := tw_F_up hFσ12 eσ17 (show (56 ≤ 60 ∧ 60 < 58) ∨ (60 = 60 ∧ (12 = 5 ∨ 12 = 6 ∨ 12 = 7 ∨ 12 = 8 ∨ 12 = 10 ∨ 12 = 11 ∨ 12 = 12 ∨ 12 = 13)) ∨ (61 ≤ 60 ∧ 60 < 71) from (Or.inr (Or.inl ⟨rfl, (Or.inr (Or.inr (Or.inr (Or.inr (Or.inr (Or.inr (Or.inl rfl)))))))⟩)))
          refine j_aload_n (pc := 75) dX5_findBest_75 rfl rfl ?_
          refine j_iload_n (pc := 76) dX5_findBest_76 rfl rfl ?_
          refine j_putI (pc := 77) fl_X5_51 fp_X5_13 dX5_findBest_77 (a_60 hX) rfl (j_nm (fun σ18 (eσ18 : σ18 = tw_up σ17 60 13 r14) => ?_))
          have hIσ18 : tw_I σ18 := tw_I_up hIσ17 eσ18 (show (-2147483648 : Int) ≤ r14 ∧ r14 ≤ 2147483647 from ⟨by omega, by omega⟩)
          have hFσ18 : tw_F (fun c j => (56 ≤ c ∧ c < 58) ∨ (c = 60 ∧ (j = 5 ∨ j = 6 ∨ j = 7 ∨ j = 8 ∨ j = 10 ∨ j = 11 ∨ j = 12 ∨ j = 13)) ∨ (61 ≤ c ∧ c < 71)) σ σ18 := tw_F_up hFσ17 eσ18 (show (56 ≤ 60 ∧ 60 < 58) ∨ (60 = 60 ∧ (13 = 5 ∨ 13 = 6 ∨ 13 = 7 ∨ 13 = 8 ∨ 13 = 10 ∨ 13 = 11 ∨ 13 = 12 ∨ 13 = 13)) ∨ (61 ≤ 60 ∧ 60 < 71) from (Or.inr (Or.inl ⟨rfl, (Or.inr (Or.inr (Or.inr (Or.inr (Or.inr (Or.inr (Or.inr rfl)))))))⟩)))
          refine j_iinc (pc := 80) (i := 1) (n := 1) (ls' := [(0, vR 60), (1, vI (i + 1))]) [1, 0] dX5_findBest_80 rfl (Nat.le_of_ble_eq_true rfl) rfl rfl ?_
          refine j_goto (pc := 83) (tgt := 29) dX5_findBest_83 rfl ?_
          refine j_ls (ls' := [(0, vR 60), (1, vI (i + 1))]) [0, 1] rfl ?_
          have y19 : σ18 60 6 = τ 60 6 := (((((tw_ne1 eσ18 (by (first | decide | omega)))).trans (tw_ne1 eσ17 (by (first | decide | omega)))).trans (hGσ12 60 6 (show ¬ ((56 ≤ 60 ∧ 60 < 58)) from by decide))).trans (hGσ7 60 6 (show ¬ ((56 ≤ 60 ∧ 60 < 58)) from by decide))).trans (hGσ3 60 6 (show ¬ ((60 = 60 ∧ (6 = 5)) ∨ (61 ≤ 60 ∧ 60 < 67)) from by decide))
          have f20 : (0 : Int) ≤ τ 60 6 ∧ τ 60 6 ≤ 1 := hIτ 60 6
          exact ih (i + 1) ⟨by omega, by omega⟩ σ18 hIσ18 hFσ18 (show ∀ rk : Nat → Int, WOK (wW 1 σ) → (∀ s : Int, 1 ≤ s → s ≤ 10 → σ 3 s.toNat = rk s.toNat) → (¬ σ 60 6 = 0 → PLN (wW 1 σ) rk σ) → ¬ σ18 60 6 = 0 → PLN (wW 1 σ) rk σ18 from (fun rk a b c d => BST_G (i0 rk a b c (fun z => d ((((((((tw_ne1 eσ18 (by (first | decide | omega)))).trans (tw_ne1 eσ17 (by (first | decide | omega)))).trans (hGσ12 60 6 (show ¬ ((56 ≤ 60 ∧ 60 < 58)) from by decide))).trans (hGσ7 60 6 (show ¬ ((56 ≤ 60 ∧ 60 < 58)) from by decide))).trans (hGσ3 60 6 (show ¬ ((60 = 60 ∧ (6 = 5)) ∨ (61 ≤ 60 ∧ 60 < 67)) from by decide)))).trans z))) ((((((tw_ne1 eσ18 (by (first | decide | omega)))).trans (tw_ne1 eσ17 (by (first | decide | omega)))).trans (hGσ12 60 8 (show ¬ ((56 ≤ 60 ∧ 60 < 58)) from by decide))).trans (hGσ7 60 8 (show ¬ ((56 ≤ 60 ∧ 60 < 58)) from by decide))).trans (hGσ3 60 8 (show ¬ ((60 = 60 ∧ (8 = 5)) ∨ (61 ≤ 60 ∧ 60 < 67)) from by decide))) ((((((tw_ne1 eσ18 (by (first | decide | omega)))).trans (tw_ne1 eσ17 (by (first | decide | omega)))).trans (hGσ12 60 10 (show ¬ ((56 ≤ 60 ∧ 60 < 58)) from by decide))).trans (hGσ7 60 10 (show ¬ ((56 ≤ 60 ∧ 60 < 58)) from by decide))).trans (hGσ3 60 10 (show ¬ ((60 = 60 ∧ (10 = 5)) ∨ (61 ≤ 60 ∧ 60 < 67)) from by decide))) ((((((tw_ne1 eσ18 (by (first | decide | omega)))).trans (tw_ne1 eσ17 (by (first | decide | omega)))).trans (hGσ12 60 11 (show ¬ ((56 ≤ 60 ∧ 60 < 58)) from by decide))).trans (hGσ7 60 11 (show ¬ ((56 ≤ 60 ∧ 60 < 58)) from by decide))).trans (hGσ3 60 11 (show ¬ ((60 = 60 ∧ (11 = 5)) ∨ (61 ≤ 60 ∧ 60 < 67)) from by decide))) (fun c j a b => ((((((tw_ne1 eσ18 (by (first | decide | omega)))).trans (tw_ne1 eσ17 (by (first | decide | omega)))).trans (hGσ12 c j (show ¬ ((56 ≤ c ∧ c < 58)) from by omega))).trans (hGσ7 c j (show ¬ ((56 ≤ c ∧ c < 58)) from by omega))).trans (hGσ3 c j (show ¬ ((c = 60 ∧ (j = 5)) ∨ (61 ≤ c ∧ c < 67)) from by omega)))))) (show (41 - (i + 1)).toNat < N_ from by omega)
        · refine j_iload_n (pc := 62) dX5_findBest_62 rfl rfl ?_
          refine j_aload_n (pc := 63) dX5_findBest_63 rfl rfl ?_
          refine j_getI (pc := 64) fl_X5_51 dX5_findBest_64 (a_60 hX) rfl ?_
          refine j_topV (show σ12 60 13 = τ 60 13 from (((hGσ12 60 13 (show ¬ ((56 ≤ 60 ∧ 60 < 58)) from by decide))).trans (hGσ7 60 13 (show ¬ ((56 ≤ 60 ∧ 60 < 58)) from by decide))).trans (hGσ3 60 13 (show ¬ ((60 = 60 ∧ (13 = 5)) ∨ (61 ≤ 60 ∧ 60 < 67)) from by decide))) ?_
          have f21 : (-2147483648 : Int) ≤ τ 60 13 ∧ τ 60 13 ≤ 2147483647 := hIτ 60 13
          refine j_icmpR_gt (pc := 67) (tgt := 80) ⟨by omega, by omega⟩ ⟨by omega, by omega⟩ dX5_findBest_67 rfl (fun h22 => ?_) (fun h22 => ?_)
          · refine j_iinc (pc := 80) (i := 1) (n := 1) (ls' := [(0, vR 60), (1, vI (i + 1))]) [1, 0] dX5_findBest_80 rfl (Nat.le_of_ble_eq_true rfl) rfl rfl ?_
            refine j_goto (pc := 83) (tgt := 29) dX5_findBest_83 rfl ?_
            refine j_ls (ls' := [(0, vR 60), (1, vI (i + 1))]) [0, 1] rfl ?_
            have y23 : σ12 60 6 = τ 60 6 := (((hGσ12 60 6 (show ¬ ((56 ≤ 60 ∧ 60 < 58)) from by decide))).trans (hGσ7 60 6 (show ¬ ((56 ≤ 60 ∧ 60 < 58)) from by decide))).trans (hGσ3 60 6 (show ¬ ((60 = 60 ∧ (6 = 5)) ∨ (61 ≤ 60 ∧ 60 < 67)) from by decide))
            have f24 : (0 : Int) ≤ τ 60 6 ∧ τ 60 6 ≤ 1 := hIτ 60 6
            exact ih (i + 1) ⟨by omega, by omega⟩ σ12 hIσ12 hFσ12 (show ∀ rk : Nat → Int, WOK (wW 1 σ) → (∀ s : Int, 1 ≤ s → s ≤ 10 → σ 3 s.toNat = rk s.toNat) → (¬ σ 60 6 = 0 → PLN (wW 1 σ) rk σ) → ¬ σ12 60 6 = 0 → PLN (wW 1 σ) rk σ12 from (fun rk a b c d => BST_G (i0 rk a b c (fun z => d ((((((hGσ12 60 6 (show ¬ ((56 ≤ 60 ∧ 60 < 58)) from by decide))).trans (hGσ7 60 6 (show ¬ ((56 ≤ 60 ∧ 60 < 58)) from by decide))).trans (hGσ3 60 6 (show ¬ ((60 = 60 ∧ (6 = 5)) ∨ (61 ≤ 60 ∧ 60 < 67)) from by decide)))).trans z))) ((((hGσ12 60 8 (show ¬ ((56 ≤ 60 ∧ 60 < 58)) from by decide))).trans (hGσ7 60 8 (show ¬ ((56 ≤ 60 ∧ 60 < 58)) from by decide))).trans (hGσ3 60 8 (show ¬ ((60 = 60 ∧ (8 = 5)) ∨ (61 ≤ 60 ∧ 60 < 67)) from by decide))) ((((hGσ12 60 10 (show ¬ ((56 ≤ 60 ∧ 60 < 58)) from by decide))).trans (hGσ7 60 10 (show ¬ ((56 ≤ 60 ∧ 60 < 58)) from by decide))).trans (hGσ3 60 10 (show ¬ ((60 = 60 ∧ (10 = 5)) ∨ (61 ≤ 60 ∧ 60 < 67)) from by decide))) ((((hGσ12 60 11 (show ¬ ((56 ≤ 60 ∧ 60 < 58)) from by decide))).trans (hGσ7 60 11 (show ¬ ((56 ≤ 60 ∧ 60 < 58)) from by decide))).trans (hGσ3 60 11 (show ¬ ((60 = 60 ∧ (11 = 5)) ∨ (61 ≤ 60 ∧ 60 < 67)) from by decide))) (fun c j a b => ((((hGσ12 c j (show ¬ ((56 ≤ c ∧ c < 58)) from by omega))).trans (hGσ7 c j (show ¬ ((56 ≤ c ∧ c < 58)) from by omega))).trans (hGσ3 c j (show ¬ ((c = 60 ∧ (j = 5)) ∨ (61 ≤ c ∧ c < 67)) from by omega)))))) (show (41 - (i + 1)).toNat < N_ from by omega)
          · refine j_aload_n (pc := 70) dX5_findBest_70 rfl rfl ?_
            refine j_iload_n (pc := 71) dX5_findBest_71 rfl rfl ?_
            refine j_putI (pc := 72) fl_X5_48 fp_X5_12 dX5_findBest_72 (a_60 hX) rfl (j_nm (fun σ25 (eσ25 : σ25 = tw_up σ12 60 12 i) => ?_))
            have hIσ25 : tw_I σ25 := tw_I_up hIσ12 eσ25 (show (0 : Int) ≤ i ∧ i ≤ 40 from ⟨by omega, by omega⟩)
            have hFσ25 : tw_F (fun c j => (56 ≤ c ∧ c < 58) ∨ (c = 60 ∧ (j = 5 ∨ j = 6 ∨ j = 7 ∨ j = 8 ∨ j = 10 ∨ j = 11 ∨ j = 12 ∨ j = 13)) ∨ (61 ≤ c ∧ c < 71)) σ σ25 := tw_F_up hFσ12 eσ25 (show (56 ≤ 60 ∧ 60 < 58) ∨ (60 = 60 ∧ (12 = 5 ∨ 12 = 6 ∨ 12 = 7 ∨ 12 = 8 ∨ 12 = 10 ∨ 12 = 11 ∨ 12 = 12 ∨ 12 = 13)) ∨ (61 ≤ 60 ∧ 60 < 71) from (Or.inr (Or.inl ⟨rfl, (Or.inr (Or.inr (Or.inr (Or.inr (Or.inr (Or.inr (Or.inl rfl)))))))⟩)))
            refine j_aload_n (pc := 75) dX5_findBest_75 rfl rfl ?_
            refine j_iload_n (pc := 76) dX5_findBest_76 rfl rfl ?_
            refine j_putI (pc := 77) fl_X5_51 fp_X5_13 dX5_findBest_77 (a_60 hX) rfl (j_nm (fun σ26 (eσ26 : σ26 = tw_up σ25 60 13 r14) => ?_))
            have hIσ26 : tw_I σ26 := tw_I_up hIσ25 eσ26 (show (-2147483648 : Int) ≤ r14 ∧ r14 ≤ 2147483647 from ⟨by omega, by omega⟩)
            have hFσ26 : tw_F (fun c j => (56 ≤ c ∧ c < 58) ∨ (c = 60 ∧ (j = 5 ∨ j = 6 ∨ j = 7 ∨ j = 8 ∨ j = 10 ∨ j = 11 ∨ j = 12 ∨ j = 13)) ∨ (61 ≤ c ∧ c < 71)) σ σ26 := tw_F_up hFσ25 eσ26 (show (56 ≤ 60 ∧ 60 < 58) ∨ (60 = 60 ∧ (13 = 5 ∨ 13 = 6 ∨ 13 = 7 ∨ 13 = 8 ∨ 13 = 10 ∨ 13 = 11 ∨ 13 = 12 ∨ 13 = 13)) ∨ (61 ≤ 60 ∧ 60 < 71) from (Or.inr (Or.inl ⟨rfl, (Or.inr (Or.inr (Or.inr (Or.inr (Or.inr (Or.inr (Or.inr rfl)))))))⟩)))
            refine j_iinc (pc := 80) (i := 1) (n := 1) (ls' := [(0, vR 60), (1, vI (i + 1))]) [1, 0] dX5_findBest_80 rfl (Nat.le_of_ble_eq_true rfl) rfl rfl ?_
            refine j_goto (pc := 83) (tgt := 29) dX5_findBest_83 rfl ?_
            refine j_ls (ls' := [(0, vR 60), (1, vI (i + 1))]) [0, 1] rfl ?_
            have y27 : σ26 60 6 = τ 60 6 := (((((tw_ne1 eσ26 (by (first | decide | omega)))).trans (tw_ne1 eσ25 (by (first | decide | omega)))).trans (hGσ12 60 6 (show ¬ ((56 ≤ 60 ∧ 60 < 58)) from by decide))).trans (hGσ7 60 6 (show ¬ ((56 ≤ 60 ∧ 60 < 58)) from by decide))).trans (hGσ3 60 6 (show ¬ ((60 = 60 ∧ (6 = 5)) ∨ (61 ≤ 60 ∧ 60 < 67)) from by decide))
            have f28 : (0 : Int) ≤ τ 60 6 ∧ τ 60 6 ≤ 1 := hIτ 60 6
            exact ih (i + 1) ⟨by omega, by omega⟩ σ26 hIσ26 hFσ26 (show ∀ rk : Nat → Int, WOK (wW 1 σ) → (∀ s : Int, 1 ≤ s → s ≤ 10 → σ 3 s.toNat = rk s.toNat) → (¬ σ 60 6 = 0 → PLN (wW 1 σ) rk σ) → ¬ σ26 60 6 = 0 → PLN (wW 1 σ) rk σ26 from (fun rk a b c d => BST_G (i0 rk a b c (fun z => d ((((((((tw_ne1 eσ26 (by (first | decide | omega)))).trans (tw_ne1 eσ25 (by (first | decide | omega)))).trans (hGσ12 60 6 (show ¬ ((56 ≤ 60 ∧ 60 < 58)) from by decide))).trans (hGσ7 60 6 (show ¬ ((56 ≤ 60 ∧ 60 < 58)) from by decide))).trans (hGσ3 60 6 (show ¬ ((60 = 60 ∧ (6 = 5)) ∨ (61 ≤ 60 ∧ 60 < 67)) from by decide)))).trans z))) ((((((tw_ne1 eσ26 (by (first | decide | omega)))).trans (tw_ne1 eσ25 (by (first | decide | omega)))).trans (hGσ12 60 8 (show ¬ ((56 ≤ 60 ∧ 60 < 58)) from by decide))).trans (hGσ7 60 8 (show ¬ ((56 ≤ 60 ∧ 60 < 58)) from by decide))).trans (hGσ3 60 8 (show ¬ ((60 = 60 ∧ (8 = 5)) ∨ (61 ≤ 60 ∧ 60 < 67)) from by decide))) ((((((tw_ne1 eσ26 (by (first | decide | omega)))).trans (tw_ne1 eσ25 (by (first | decide | omega)))).trans (hGσ12 60 10 (show ¬ ((56 ≤ 60 ∧ 60 < 58)) from by decide))).trans (hGσ7 60 10 (show ¬ ((56 ≤ 60 ∧ 60 < 58)) from by decide))).trans (hGσ3 60 10 (show ¬ ((60 = 60 ∧ (10 = 5)) ∨ (61 ≤ 60 ∧ 60 < 67)) from by decide))) ((((((tw_ne1 eσ26 (by (first | decide | omega)))).trans (tw_ne1 eσ25 (by (first | decide | omega)))).trans (hGσ12 60 11 (show ¬ ((56 ≤ 60 ∧ 60 < 58)) from by decide))).trans (hGσ7 60 11 (show ¬ ((56 ≤ 60 ∧ 60 < 58)) from by decide))).trans (hGσ3 60 11 (show ¬ ((60 = 60 ∧ (11 = 5)) ∨ (61 ≤ 60 ∧ 60 < 67)) from by decide))) (fun c j a b => ((((((tw_ne1 eσ26 (by (first | decide | omega)))).trans (tw_ne1 eσ25 (by (first | decide | omega)))).trans (hGσ12 c j (show ¬ ((56 ≤ c ∧ c < 58)) from by omega))).trans (hGσ7 c j (show ¬ ((56 ≤ c ∧ c < 58)) from by omega))).trans (hGσ3 c j (show ¬ ((c = 60 ∧ (j = 5)) ∨ (61 ≤ c ∧ c < 67)) from by omega)))))) (show (41 - (i + 1)).toNat < N_ from by omega)
      · refine j_goto (pc := 47) (tgt := 80) dX5_findBest_47 rfl ?_
        refine j_iinc (pc := 80) (i := 1) (n := 1) (ls' := [(0, vR 60), (1, vI (i + 1))]) [1, 0] dX5_findBest_80 rfl (Nat.le_of_ble_eq_true rfl) rfl rfl ?_
        refine j_goto (pc := 83) (tgt := 29) dX5_findBest_83 rfl ?_
        refine j_ls (ls' := [(0, vR 60), (1, vI (i + 1))]) [0, 1] rfl ?_
        have y29 : σ7 60 6 = τ 60 6 := ((hGσ7 60 6 (show ¬ ((56 ≤ 60 ∧ 60 < 58)) from by decide))).trans (hGσ3 60 6 (show ¬ ((60 = 60 ∧ (6 = 5)) ∨ (61 ≤ 60 ∧ 60 < 67)) from by decide))
        have f30 : (0 : Int) ≤ τ 60 6 ∧ τ 60 6 ≤ 1 := hIτ 60 6
        exact ih (i + 1) ⟨by omega, by omega⟩ σ7 hIσ7 hFσ7 (show ∀ rk : Nat → Int, WOK (wW 1 σ) → (∀ s : Int, 1 ≤ s → s ≤ 10 → σ 3 s.toNat = rk s.toNat) → (¬ σ 60 6 = 0 → PLN (wW 1 σ) rk σ) → ¬ σ7 60 6 = 0 → PLN (wW 1 σ) rk σ7 from (fun rk a b c d => BST_G (i0 rk a b c (fun z => d (((((hGσ7 60 6 (show ¬ ((56 ≤ 60 ∧ 60 < 58)) from by decide))).trans (hGσ3 60 6 (show ¬ ((60 = 60 ∧ (6 = 5)) ∨ (61 ≤ 60 ∧ 60 < 67)) from by decide)))).trans z))) (((hGσ7 60 8 (show ¬ ((56 ≤ 60 ∧ 60 < 58)) from by decide))).trans (hGσ3 60 8 (show ¬ ((60 = 60 ∧ (8 = 5)) ∨ (61 ≤ 60 ∧ 60 < 67)) from by decide))) (((hGσ7 60 10 (show ¬ ((56 ≤ 60 ∧ 60 < 58)) from by decide))).trans (hGσ3 60 10 (show ¬ ((60 = 60 ∧ (10 = 5)) ∨ (61 ≤ 60 ∧ 60 < 67)) from by decide))) (((hGσ7 60 11 (show ¬ ((56 ≤ 60 ∧ 60 < 58)) from by decide))).trans (hGσ3 60 11 (show ¬ ((60 = 60 ∧ (11 = 5)) ∨ (61 ≤ 60 ∧ 60 < 67)) from by decide))) (fun c j a b => (((hGσ7 c j (show ¬ ((56 ≤ c ∧ c < 58)) from by omega))).trans (hGσ3 c j (show ¬ ((c = 60 ∧ (j = 5)) ∨ (61 ≤ c ∧ c < 67)) from by omega)))))) (show (41 - (i + 1)).toNat < N_ from by omega)
set_option maxHeartbeats 4000000 in
set_option maxRecDepth 100000 in
theorem c_X5_findBest {G : tw_G} (hX : tw_isX G) (σ : tw_M) (hI : tw_I σ) : tw_C G yX5_findBest cX5_findBest 3 none 45 [vR 60] σ (q_X5_findBest σ) := by
  refine tw_met [(0, vR 60)] (by decide +kernel) rfl (Nat.le_of_ble_eq_true rfl) ?_
  refine j_aload_n (pc := 0) dX5_findBest_0 rfl rfl ?_
  refine j_callV (pc := 1) (As := []) (st := []) (c_X5_findPlan hX σ hI) mv_X5_131 rfl rfl rfl (a_60 hX) dX5_findBest_1 ⟨Nat.le_of_ble_eq_true rfl, Nat.le_of_ble_eq_true rfl⟩ ⟨Nat.le_refl _, Nat.le_refl _⟩ rfl (Nat.le_of_ble_eq_true rfl) rfl (fun z31 σ32 hz31 => ?_)
  obtain ⟨rfl, hIσ32, hGσ32, q33_0⟩ := hz31
  replace q33_0 : ∀ rk : Nat → Int, WOK (wW 1 σ) → (∀ s : Int, 1 ≤ s → s ≤ 10 → σ 3 s.toNat = rk s.toNat) → (¬ σ 60 6 = 0 → PLN (wW 1 σ) rk σ) → PLN (wW 1 σ) rk σ32 ∧ σ32 60 6 = 1 := q33_0
  have hFσ32 : tw_F (fun c j => (56 ≤ c ∧ c < 58) ∨ (c = 60 ∧ (j = 5 ∨ j = 6 ∨ j = 7 ∨ j = 8 ∨ j = 10 ∨ j = 11 ∨ j = 12 ∨ j = 13)) ∨ (61 ≤ c ∧ c < 71)) σ σ32 := tw_F_tr (tw_F_rf) hGσ32 (fun c j q => (show (56 ≤ c ∧ c < 58) ∨ (c = 60 ∧ (j = 5 ∨ j = 6 ∨ j = 7 ∨ j = 8 ∨ j = 10 ∨ j = 11 ∨ j = 12 ∨ j = 13)) ∨ (61 ≤ c ∧ c < 71) from by replace q : (56 ≤ c ∧ c < 58) ∨ (c = 60 ∧ (j = 5 ∨ j = 6 ∨ j = 8 ∨ j = 10 ∨ j = 11)) ∨ (61 ≤ c ∧ c < 71) := q; exact (q.elim (fun q => (Or.inl q)) (fun q => (q.elim (fun q => (Or.inr (Or.inl ⟨q.1, (q.2.elim (fun z => (Or.inl z)) (fun z => (z.elim (fun z => (Or.inr (Or.inl z))) (fun z => (z.elim (fun z => (Or.inr (Or.inr (Or.inr (Or.inl z))))) (fun z => (z.elim (fun z => (Or.inr (Or.inr (Or.inr (Or.inr (Or.inl z)))))) (fun z => (Or.inr (Or.inr (Or.inr (Or.inr (Or.inr (Or.inl z))))))))))))))⟩))) (fun q => (Or.inr (Or.inr q))))))))
  refine j_st (st' := []) rfl ?_
  have pA := q33_0
  refine j_aload_n (pc := 4) dX5_findBest_4 rfl rfl ?_
  refine j_getI (pc := 5) fl_X5_33 dX5_findBest_5 (a_60 hX) rfl ?_
  refine j_topV (show σ32 60 7 = σ 60 7 from (hGσ32 60 7 (show ¬ ((56 ≤ 60 ∧ 60 < 58) ∨ (60 = 60 ∧ (7 = 5 ∨ 7 = 6 ∨ 7 = 8 ∨ 7 = 10 ∨ 7 = 11)) ∨ (61 ≤ 60 ∧ 60 < 71)) from by decide))) ?_
  have f35 : (0 : Int) ≤ σ 60 7 ∧ σ 60 7 ≤ 1 := hI 60 7
  refine j_ifR_eq (pc := 8) (tgt := 12) ⟨by omega, by omega⟩ dX5_findBest_8 rfl (fun h36 => ?_) (fun h36 => ?_)
  · refine j_aload_n (pc := 12) dX5_findBest_12 rfl rfl ?_
    refine j_iconst (pc := 13) dX5_findBest_13 ?_
    refine j_putZ (pc := 14) (by omega) fl_X5_33 fp_X5_7 dX5_findBest_14 (a_60 hX) rfl (j_nm (fun σ37 (eσ37 : σ37 = tw_up σ32 60 7 1) => ?_))
    have hIσ37 : tw_I σ37 := tw_I_up hIσ32 eσ37 (show (0 : Int) ≤ 1 ∧ 1 ≤ 1 from by decide)
    have hFσ37 : tw_F (fun c j => (56 ≤ c ∧ c < 58) ∨ (c = 60 ∧ (j = 5 ∨ j = 6 ∨ j = 7 ∨ j = 8 ∨ j = 10 ∨ j = 11 ∨ j = 12 ∨ j = 13)) ∨ (61 ≤ c ∧ c < 71)) σ σ37 := tw_F_up hFσ32 eσ37 (show (56 ≤ 60 ∧ 60 < 58) ∨ (60 = 60 ∧ (7 = 5 ∨ 7 = 6 ∨ 7 = 7 ∨ 7 = 8 ∨ 7 = 10 ∨ 7 = 11 ∨ 7 = 12 ∨ 7 = 13)) ∨ (61 ≤ 60 ∧ 60 < 71) from (Or.inr (Or.inl ⟨rfl, (Or.inr (Or.inr (Or.inl rfl)))⟩)))
    refine j_aload_n (pc := 17) dX5_findBest_17 rfl rfl ?_
    refine j_iconst (pc := 18) dX5_findBest_18 ?_
    refine j_putI (pc := 19) fl_X5_48 fp_X5_12 dX5_findBest_19 (a_60 hX) rfl (j_nm (fun σ38 (eσ38 : σ38 = tw_up σ37 60 12 0) => ?_))
    have hIσ38 : tw_I σ38 := tw_I_up hIσ37 eσ38 (show (0 : Int) ≤ 0 ∧ 0 ≤ 40 from by decide)
    have hFσ38 : tw_F (fun c j => (56 ≤ c ∧ c < 58) ∨ (c = 60 ∧ (j = 5 ∨ j = 6 ∨ j = 7 ∨ j = 8 ∨ j = 10 ∨ j = 11 ∨ j = 12 ∨ j = 13)) ∨ (61 ≤ c ∧ c < 71)) σ σ38 := tw_F_up hFσ37 eσ38 (show (56 ≤ 60 ∧ 60 < 58) ∨ (60 = 60 ∧ (12 = 5 ∨ 12 = 6 ∨ 12 = 7 ∨ 12 = 8 ∨ 12 = 10 ∨ 12 = 11 ∨ 12 = 12 ∨ 12 = 13)) ∨ (61 ≤ 60 ∧ 60 < 71) from (Or.inr (Or.inl ⟨rfl, (Or.inr (Or.inr (Or.inr (Or.inr (Or.inr (Or.inr (Or.inl rfl)))))))⟩)))
    refine j_aload_n (pc := 22) dX5_findBest_22 rfl rfl ?_
    refine j_iconst (pc := 23) dX5_findBest_23 ?_
    refine j_putI (pc := 24) fl_X5_51 fp_X5_13 dX5_findBest_24 (a_60 hX) rfl (j_nm (fun σ39 (eσ39 : σ39 = tw_up σ38 60 13 0) => ?_))
    have hIσ39 : tw_I σ39 := tw_I_up hIσ38 eσ39 (show (-2147483648 : Int) ≤ 0 ∧ 0 ≤ 2147483647 from by decide)
    have hFσ39 : tw_F (fun c j => (56 ≤ c ∧ c < 58) ∨ (c = 60 ∧ (j = 5 ∨ j = 6 ∨ j = 7 ∨ j = 8 ∨ j = 10 ∨ j = 11 ∨ j = 12 ∨ j = 13)) ∨ (61 ≤ c ∧ c < 71)) σ σ39 := tw_F_up hFσ38 eσ39 (show (56 ≤ 60 ∧ 60 < 58) ∨ (60 = 60 ∧ (13 = 5 ∨ 13 = 6 ∨ 13 = 7 ∨ 13 = 8 ∨ 13 = 10 ∨ 13 = 11 ∨ 13 = 12 ∨ 13 = 13)) ∨ (61 ≤ 60 ∧ 60 < 71) from (Or.inr (Or.inl ⟨rfl, (Or.inr (Or.inr (Or.inr (Or.inr (Or.inr (Or.inr (Or.inr rfl)))))))⟩)))
    refine j_iconst (pc := 27) dX5_findBest_27 ?_
    refine j_istore_n (pc := 28) (i := 1) (ls' := [(0, vR 60), (1, vI 1)]) [1, 0] dX5_findBest_28 rfl (Nat.le_of_ble_eq_true rfl) rfl rfl ?_
    refine j_ls (ls' := [(0, vR 60), (1, vI 1)]) [0, 1] rfl ?_
    have y40 : σ39 60 6 = σ32 60 6 := (((tw_ne1 eσ39 (by (first | decide | omega)))).trans (tw_ne1 eσ38 (by (first | decide | omega)))).trans (tw_ne1 eσ37 (by (first | decide | omega)))
    have f41 : (0 : Int) ≤ σ32 60 6 ∧ σ32 60 6 ≤ 1 := hIσ32 60 6
    exact (l_X5_findBest hX σ hI (((41 - (1 : Int)).toNat) + 1)) 1 (by (first | decide | exact ⟨by omega, by omega⟩)) σ39 hIσ39 hFσ39 (show ∀ rk : Nat → Int, WOK (wW 1 σ) → (∀ s : Int, 1 ≤ s → s ≤ 10 → σ 3 s.toNat = rk s.toNat) → (¬ σ 60 6 = 0 → PLN (wW 1 σ) rk σ) → ¬ σ39 60 6 = 0 → PLN (wW 1 σ) rk σ39 from (fun rk a b c d => BST_G ((pA rk a b c).1) ((((tw_ne1 eσ39 (by (first | decide | omega)))).trans (tw_ne1 eσ38 (by (first | decide | omega)))).trans (tw_ne1 eσ37 (by (first | decide | omega)))) ((((tw_ne1 eσ39 (by (first | decide | omega)))).trans (tw_ne1 eσ38 (by (first | decide | omega)))).trans (tw_ne1 eσ37 (by (first | decide | omega)))) ((((tw_ne1 eσ39 (by (first | decide | omega)))).trans (tw_ne1 eσ38 (by (first | decide | omega)))).trans (tw_ne1 eσ37 (by (first | decide | omega)))) (fun c j a b => ((((tw_ne1 eσ39 (by (first | decide | omega)))).trans (tw_ne1 eσ38 (by (first | decide | omega)))).trans (tw_ne1 eσ37 (by (first | decide | omega))))))) (Nat.lt_succ_self _)
  · exact j_vret (pc := 11) ⟨rfl, rfl⟩ dX5_findBest_11 rfl ⟨rfl, hIσ32, hFσ32, (fun rk a b c d => by first | exact i0 rk a b c d | exact (pA rk a b c).1)⟩
