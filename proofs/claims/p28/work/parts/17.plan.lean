/-! 17.plan -/
theorem dX5_forget_0 : decode cX5_forget 0 = .ok (.aload_n 0, 1) := by decide +kernel
theorem dX5_forget_1 : decode cX5_forget 1 = .ok (.iconst 0, 1) := by decide +kernel
theorem dX5_forget_2 : decode cX5_forget 2 = .ok (.putfield 29, 3) := by decide +kernel
theorem dX5_forget_5 : decode cX5_forget 5 = .ok (.aload_n 0, 1) := by decide +kernel
theorem dX5_forget_6 : decode cX5_forget 6 = .ok (.iconst 0, 1) := by decide +kernel
theorem dX5_forget_7 : decode cX5_forget 7 = .ok (.putfield 33, 3) := by decide +kernel
theorem dX5_forget_10 : decode cX5_forget 10 = .ok (.return_, 1) := by decide +kernel
theorem dX5_begin_0 : decode cX5_begin 0 = .ok (.aload_n 0, 1) := by decide +kernel
theorem dX5_begin_1 : decode cX5_begin 1 = .ok (.getfield 12, 3) := by decide +kernel
theorem dX5_begin_4 : decode cX5_begin 4 = .ok (.iconst 0, 1) := by decide +kernel
theorem dX5_begin_5 : decode cX5_begin 5 = .ok (.putfield 69, 3) := by decide +kernel
theorem dX5_begin_8 : decode cX5_begin 8 = .ok (.aload_n 0, 1) := by decide +kernel
theorem dX5_begin_9 : decode cX5_begin 9 = .ok (.iconst 0, 1) := by decide +kernel
theorem dX5_begin_10 : decode cX5_begin 10 = .ok (.putfield 25, 3) := by decide +kernel
theorem dX5_begin_13 : decode cX5_begin 13 = .ok (.iconst 0, 1) := by decide +kernel
theorem dX5_begin_14 : decode cX5_begin 14 = .ok (.istore_n 1, 1) := by decide +kernel
theorem dX5_begin_15 : decode cX5_begin 15 = .ok (.iload_n 1, 1) := by decide +kernel
theorem dX5_begin_16 : decode cX5_begin 16 = .ok (.bipush 10, 2) := by decide +kernel
theorem dX5_begin_18 : decode cX5_begin 18 = .ok (.if_icmp .gt 24, 3) := by decide +kernel
theorem dX5_begin_21 : decode cX5_begin 21 = .ok (.aload_n 0, 1) := by decide +kernel
theorem dX5_begin_22 : decode cX5_begin 22 = .ok (.getfield 18, 3) := by decide +kernel
theorem dX5_begin_25 : decode cX5_begin 25 = .ok (.iload_n 1, 1) := by decide +kernel
theorem dX5_begin_26 : decode cX5_begin 26 = .ok (.aload_n 0, 1) := by decide +kernel
theorem dX5_begin_27 : decode cX5_begin 27 = .ok (.getfield 54, 3) := by decide +kernel
theorem dX5_begin_30 : decode cX5_begin 30 = .ok (.getfield 72, 3) := by decide +kernel
theorem dX5_begin_33 : decode cX5_begin 33 = .ok (.iload_n 1, 1) := by decide +kernel
theorem dX5_begin_34 : decode cX5_begin 34 = .ok (.iaload, 1) := by decide +kernel
theorem dX5_begin_35 : decode cX5_begin 35 = .ok (.iastore, 1) := by decide +kernel
theorem dX5_begin_36 : decode cX5_begin 36 = .ok (.iinc 1 1, 3) := by decide +kernel
theorem dX5_begin_39 : decode cX5_begin 39 = .ok (.goto (-24), 3) := by decide +kernel
theorem dX5_begin_42 : decode cX5_begin 42 = .ok (.iconst 1, 1) := by decide +kernel
theorem dX5_begin_43 : decode cX5_begin 43 = .ok (.istore_n 1, 1) := by decide +kernel
theorem dX5_begin_44 : decode cX5_begin 44 = .ok (.iload_n 1, 1) := by decide +kernel
theorem dX5_begin_45 : decode cX5_begin 45 = .ok (.aload_n 0, 1) := by decide +kernel
theorem dX5_begin_46 : decode cX5_begin 46 = .ok (.getfield 54, 3) := by decide +kernel
theorem dX5_begin_49 : decode cX5_begin 49 = .ok (.invokevirtual 77, 3) := by decide +kernel
theorem dX5_begin_52 : decode cX5_begin 52 = .ok (.if_icmp .gt 47, 3) := by decide +kernel
theorem dX5_begin_55 : decode cX5_begin 55 = .ok (.aload_n 0, 1) := by decide +kernel
theorem dX5_begin_56 : decode cX5_begin 56 = .ok (.getfield 25, 3) := by decide +kernel
theorem dX5_begin_59 : decode cX5_begin 59 = .ok (.bipush 10, 2) := by decide +kernel
theorem dX5_begin_61 : decode cX5_begin 61 = .ok (.if_icmp .ge 38, 3) := by decide +kernel
theorem dX5_begin_64 : decode cX5_begin 64 = .ok (.aload_n 0, 1) := by decide +kernel
theorem dX5_begin_65 : decode cX5_begin 65 = .ok (.getfield 54, 3) := by decide +kernel
theorem dX5_begin_68 : decode cX5_begin 68 = .ok (.getfield 81, 3) := by decide +kernel
theorem dX5_begin_71 : decode cX5_begin 71 = .ok (.iload_n 1, 1) := by decide +kernel
theorem dX5_begin_72 : decode cX5_begin 72 = .ok (.iaload, 1) := by decide +kernel
theorem dX5_begin_73 : decode cX5_begin 73 = .ok (.ifCond .eq 20, 3) := by decide +kernel
theorem dX5_begin_76 : decode cX5_begin 76 = .ok (.aload_n 0, 1) := by decide +kernel
theorem dX5_begin_77 : decode cX5_begin 77 = .ok (.getfield 22, 3) := by decide +kernel
theorem dX5_begin_80 : decode cX5_begin 80 = .ok (.aload_n 0, 1) := by decide +kernel
theorem dX5_begin_81 : decode cX5_begin 81 = .ok (.dup, 1) := by decide +kernel
theorem dX5_begin_82 : decode cX5_begin 82 = .ok (.getfield 25, 3) := by decide +kernel
theorem dX5_begin_85 : decode cX5_begin 85 = .ok (.dup_x1, 1) := by decide +kernel
theorem dX5_begin_86 : decode cX5_begin 86 = .ok (.iconst 1, 1) := by decide +kernel
theorem dX5_begin_87 : decode cX5_begin 87 = .ok (.iadd, 1) := by decide +kernel
theorem dX5_begin_88 : decode cX5_begin 88 = .ok (.putfield 25, 3) := by decide +kernel
theorem dX5_begin_91 : decode cX5_begin 91 = .ok (.iload_n 1, 1) := by decide +kernel
theorem dX5_begin_92 : decode cX5_begin 92 = .ok (.iastore, 1) := by decide +kernel
theorem dX5_begin_93 : decode cX5_begin 93 = .ok (.iinc 1 1, 3) := by decide +kernel
theorem dX5_begin_96 : decode cX5_begin 96 = .ok (.goto (-52), 3) := by decide +kernel
theorem dX5_begin_99 : decode cX5_begin 99 = .ok (.return_, 1) := by decide +kernel
theorem dX5_keepIfBetter_0 : decode cX5_keepIfBetter 0 = .ok (.aload_n 0, 1) := by decide +kernel
theorem dX5_keepIfBetter_1 : decode cX5_keepIfBetter 1 = .ok (.getfield 42, 3) := by decide +kernel
theorem dX5_keepIfBetter_4 : decode cX5_keepIfBetter 4 = .ok (.ifCond .eq 11, 3) := by decide +kernel
theorem dX5_keepIfBetter_7 : decode cX5_keepIfBetter 7 = .ok (.iload_n 2, 1) := by decide +kernel
theorem dX5_keepIfBetter_8 : decode cX5_keepIfBetter 8 = .ok (.aload_n 0, 1) := by decide +kernel
theorem dX5_keepIfBetter_9 : decode cX5_keepIfBetter 9 = .ok (.getfield 45, 3) := by decide +kernel
theorem dX5_keepIfBetter_12 : decode cX5_keepIfBetter 12 = .ok (.if_icmp .ge 7, 3) := by decide +kernel
theorem dX5_keepIfBetter_15 : decode cX5_keepIfBetter 15 = .ok (.iconst 1, 1) := by decide +kernel
theorem dX5_keepIfBetter_16 : decode cX5_keepIfBetter 16 = .ok (.goto 4, 3) := by decide +kernel
theorem dX5_keepIfBetter_19 : decode cX5_keepIfBetter 19 = .ok (.iconst 0, 1) := by decide +kernel
theorem dX5_keepIfBetter_20 : decode cX5_keepIfBetter 20 = .ok (.istore_n 3, 1) := by decide +kernel
theorem dX5_keepIfBetter_21 : decode cX5_keepIfBetter 21 = .ok (.iload_n 3, 1) := by decide +kernel
theorem dX5_keepIfBetter_22 : decode cX5_keepIfBetter 22 = .ok (.ifCond .ne 59, 3) := by decide +kernel
theorem dX5_keepIfBetter_25 : decode cX5_keepIfBetter 25 = .ok (.iload_n 2, 1) := by decide +kernel
theorem dX5_keepIfBetter_26 : decode cX5_keepIfBetter 26 = .ok (.aload_n 0, 1) := by decide +kernel
theorem dX5_keepIfBetter_27 : decode cX5_keepIfBetter 27 = .ok (.getfield 45, 3) := by decide +kernel
theorem dX5_keepIfBetter_30 : decode cX5_keepIfBetter 30 = .ok (.if_icmp .ne 51, 3) := by decide +kernel
theorem dX5_keepIfBetter_33 : decode cX5_keepIfBetter 33 = .ok (.aload_n 0, 1) := by decide +kernel
theorem dX5_keepIfBetter_34 : decode cX5_keepIfBetter 34 = .ok (.getfield 12, 3) := by decide +kernel
theorem dX5_keepIfBetter_37 : decode cX5_keepIfBetter 37 = .ok (.getfield 69, 3) := by decide +kernel
theorem dX5_keepIfBetter_40 : decode cX5_keepIfBetter 40 = .ok (.aload_n 0, 1) := by decide +kernel
theorem dX5_keepIfBetter_41 : decode cX5_keepIfBetter 41 = .ok (.getfield 39, 3) := by decide +kernel
theorem dX5_keepIfBetter_44 : decode cX5_keepIfBetter 44 = .ok (.getfield 69, 3) := by decide +kernel
theorem dX5_keepIfBetter_47 : decode cX5_keepIfBetter 47 = .ok (.if_icmp .lt 28, 3) := by decide +kernel
theorem dX5_keepIfBetter_50 : decode cX5_keepIfBetter 50 = .ok (.aload_n 0, 1) := by decide +kernel
theorem dX5_keepIfBetter_51 : decode cX5_keepIfBetter 51 = .ok (.getfield 12, 3) := by decide +kernel
theorem dX5_keepIfBetter_54 : decode cX5_keepIfBetter 54 = .ok (.getfield 69, 3) := by decide +kernel
theorem dX5_keepIfBetter_57 : decode cX5_keepIfBetter 57 = .ok (.aload_n 0, 1) := by decide +kernel
theorem dX5_keepIfBetter_58 : decode cX5_keepIfBetter 58 = .ok (.getfield 39, 3) := by decide +kernel
theorem dX5_keepIfBetter_61 : decode cX5_keepIfBetter 61 = .ok (.getfield 69, 3) := by decide +kernel
theorem dX5_keepIfBetter_64 : decode cX5_keepIfBetter 64 = .ok (.if_icmp .ne 15, 3) := by decide +kernel
theorem dX5_keepIfBetter_67 : decode cX5_keepIfBetter 67 = .ok (.iload_n 1, 1) := by decide +kernel
theorem dX5_keepIfBetter_68 : decode cX5_keepIfBetter 68 = .ok (.aload_n 0, 1) := by decide +kernel
theorem dX5_keepIfBetter_69 : decode cX5_keepIfBetter 69 = .ok (.getfield 36, 3) := by decide +kernel
theorem dX5_keepIfBetter_72 : decode cX5_keepIfBetter 72 = .ok (.if_icmp .ge 7, 3) := by decide +kernel
theorem dX5_keepIfBetter_75 : decode cX5_keepIfBetter 75 = .ok (.iconst 1, 1) := by decide +kernel
theorem dX5_keepIfBetter_76 : decode cX5_keepIfBetter 76 = .ok (.goto 4, 3) := by decide +kernel
theorem dX5_keepIfBetter_79 : decode cX5_keepIfBetter 79 = .ok (.iconst 0, 1) := by decide +kernel
theorem dX5_keepIfBetter_80 : decode cX5_keepIfBetter 80 = .ok (.istore_n 3, 1) := by decide +kernel
theorem dX5_keepIfBetter_81 : decode cX5_keepIfBetter 81 = .ok (.iload_n 3, 1) := by decide +kernel
theorem dX5_keepIfBetter_82 : decode cX5_keepIfBetter 82 = .ok (.ifCond .ne 4, 3) := by decide +kernel
theorem dX5_keepIfBetter_85 : decode cX5_keepIfBetter 85 = .ok (.return_, 1) := by decide +kernel
theorem dX5_keepIfBetter_86 : decode cX5_keepIfBetter 86 = .ok (.aload_n 0, 1) := by decide +kernel
theorem dX5_keepIfBetter_87 : decode cX5_keepIfBetter 87 = .ok (.iconst 1, 1) := by decide +kernel
theorem dX5_keepIfBetter_88 : decode cX5_keepIfBetter 88 = .ok (.putfield 42, 3) := by decide +kernel
theorem dX5_keepIfBetter_91 : decode cX5_keepIfBetter 91 = .ok (.aload_n 0, 1) := by decide +kernel
theorem dX5_keepIfBetter_92 : decode cX5_keepIfBetter 92 = .ok (.iload_n 2, 1) := by decide +kernel
theorem dX5_keepIfBetter_93 : decode cX5_keepIfBetter 93 = .ok (.putfield 45, 3) := by decide +kernel
theorem dX5_keepIfBetter_96 : decode cX5_keepIfBetter 96 = .ok (.aload_n 0, 1) := by decide +kernel
theorem dX5_keepIfBetter_97 : decode cX5_keepIfBetter 97 = .ok (.iload_n 1, 1) := by decide +kernel
theorem dX5_keepIfBetter_98 : decode cX5_keepIfBetter 98 = .ok (.putfield 36, 3) := by decide +kernel
theorem dX5_keepIfBetter_101 : decode cX5_keepIfBetter 101 = .ok (.aload_n 0, 1) := by decide +kernel
theorem dX5_keepIfBetter_102 : decode cX5_keepIfBetter 102 = .ok (.getfield 39, 3) := by decide +kernel
theorem dX5_keepIfBetter_105 : decode cX5_keepIfBetter 105 = .ok (.aload_n 0, 1) := by decide +kernel
theorem dX5_keepIfBetter_106 : decode cX5_keepIfBetter 106 = .ok (.getfield 12, 3) := by decide +kernel
theorem dX5_keepIfBetter_109 : decode cX5_keepIfBetter 109 = .ok (.invokevirtual 120, 3) := by decide +kernel
theorem dX5_keepIfBetter_112 : decode cX5_keepIfBetter 112 = .ok (.return_, 1) := by decide +kernel
theorem dX5_goOn_0 : decode cX5_goOn 0 = .ok (.aload_n 0, 1) := by decide +kernel
theorem dX5_goOn_1 : decode cX5_goOn 1 = .ok (.getfield 54, 3) := by decide +kernel
theorem dX5_goOn_4 : decode cX5_goOn 4 = .ok (.getfield 81, 3) := by decide +kernel
theorem dX5_goOn_7 : decode cX5_goOn 7 = .ok (.aload_n 0, 1) := by decide +kernel
theorem dX5_goOn_8 : decode cX5_goOn 8 = .ok (.getfield 22, 3) := by decide +kernel
theorem dX5_goOn_11 : decode cX5_goOn 11 = .ok (.iload_n 1, 1) := by decide +kernel
theorem dX5_goOn_12 : decode cX5_goOn 12 = .ok (.iaload, 1) := by decide +kernel
theorem dX5_goOn_13 : decode cX5_goOn 13 = .ok (.iaload, 1) := by decide +kernel
theorem dX5_goOn_14 : decode cX5_goOn 14 = .ok (.istore 5, 2) := by decide +kernel
theorem dX5_goOn_16 : decode cX5_goOn 16 = .ok (.aload_n 0, 1) := by decide +kernel
theorem dX5_goOn_17 : decode cX5_goOn 17 = .ok (.getfield 18, 3) := by decide +kernel
theorem dX5_goOn_20 : decode cX5_goOn 20 = .ok (.iload 5, 2) := by decide +kernel
theorem dX5_goOn_22 : decode cX5_goOn 22 = .ok (.iaload, 1) := by decide +kernel
theorem dX5_goOn_23 : decode cX5_goOn 23 = .ok (.ifCond .le 66, 3) := by decide +kernel
theorem dX5_goOn_26 : decode cX5_goOn 26 = .ok (.aload_n 0, 1) := by decide +kernel
theorem dX5_goOn_27 : decode cX5_goOn 27 = .ok (.getfield 18, 3) := by decide +kernel
theorem dX5_goOn_30 : decode cX5_goOn 30 = .ok (.iload 5, 2) := by decide +kernel
theorem dX5_goOn_32 : decode cX5_goOn 32 = .ok (.dup2, 1) := by decide +kernel
theorem dX5_goOn_33 : decode cX5_goOn 33 = .ok (.iaload, 1) := by decide +kernel
theorem dX5_goOn_34 : decode cX5_goOn 34 = .ok (.iconst 1, 1) := by decide +kernel
theorem dX5_goOn_35 : decode cX5_goOn 35 = .ok (.isub, 1) := by decide +kernel
theorem dX5_goOn_36 : decode cX5_goOn 36 = .ok (.iastore, 1) := by decide +kernel
theorem dX5_goOn_37 : decode cX5_goOn 37 = .ok (.aload_n 0, 1) := by decide +kernel
theorem dX5_goOn_38 : decode cX5_goOn 38 = .ok (.getfield 12, 3) := by decide +kernel
theorem dX5_goOn_41 : decode cX5_goOn 41 = .ok (.aload_n 0, 1) := by decide +kernel
theorem dX5_goOn_42 : decode cX5_goOn 42 = .ok (.getfield 22, 3) := by decide +kernel
theorem dX5_goOn_45 : decode cX5_goOn 45 = .ok (.iload_n 1, 1) := by decide +kernel
theorem dX5_goOn_46 : decode cX5_goOn 46 = .ok (.iaload, 1) := by decide +kernel
theorem dX5_goOn_47 : decode cX5_goOn 47 = .ok (.iload 5, 2) := by decide +kernel
theorem dX5_goOn_49 : decode cX5_goOn 49 = .ok (.invokevirtual 113, 3) := by decide +kernel
theorem dX5_goOn_52 : decode cX5_goOn 52 = .ok (.istore 6, 2) := by decide +kernel
theorem dX5_goOn_54 : decode cX5_goOn 54 = .ok (.aload_n 0, 1) := by decide +kernel
theorem dX5_goOn_55 : decode cX5_goOn 55 = .ok (.iload_n 1, 1) := by decide +kernel
theorem dX5_goOn_56 : decode cX5_goOn 56 = .ok (.iconst 1, 1) := by decide +kernel
theorem dX5_goOn_57 : decode cX5_goOn 57 = .ok (.iadd, 1) := by decide +kernel
theorem dX5_goOn_58 : decode cX5_goOn 58 = .ok (.iload_n 2, 1) := by decide +kernel
theorem dX5_goOn_59 : decode cX5_goOn 59 = .ok (.iconst 1, 1) := by decide +kernel
theorem dX5_goOn_60 : decode cX5_goOn 60 = .ok (.iload_n 1, 1) := by decide +kernel
theorem dX5_goOn_61 : decode cX5_goOn 61 = .ok (.ishl, 1) := by decide +kernel
theorem dX5_goOn_62 : decode cX5_goOn 62 = .ok (.ior, 1) := by decide +kernel
theorem dX5_goOn_63 : decode cX5_goOn 63 = .ok (.iload_n 3, 1) := by decide +kernel
theorem dX5_goOn_64 : decode cX5_goOn 64 = .ok (.iload 4, 2) := by decide +kernel
theorem dX5_goOn_66 : decode cX5_goOn 66 = .ok (.invokevirtual 65, 3) := by decide +kernel
theorem dX5_goOn_69 : decode cX5_goOn 69 = .ok (.aload_n 0, 1) := by decide +kernel
theorem dX5_goOn_70 : decode cX5_goOn 70 = .ok (.getfield 12, 3) := by decide +kernel
theorem dX5_goOn_73 : decode cX5_goOn 73 = .ok (.iload 6, 2) := by decide +kernel
theorem dX5_goOn_75 : decode cX5_goOn 75 = .ok (.invokevirtual 117, 3) := by decide +kernel
theorem dX5_goOn_78 : decode cX5_goOn 78 = .ok (.aload_n 0, 1) := by decide +kernel
theorem dX5_goOn_79 : decode cX5_goOn 79 = .ok (.getfield 18, 3) := by decide +kernel
theorem dX5_goOn_82 : decode cX5_goOn 82 = .ok (.iload 5, 2) := by decide +kernel
theorem dX5_goOn_84 : decode cX5_goOn 84 = .ok (.dup2, 1) := by decide +kernel
theorem dX5_goOn_85 : decode cX5_goOn 85 = .ok (.iaload, 1) := by decide +kernel
theorem dX5_goOn_86 : decode cX5_goOn 86 = .ok (.iconst 1, 1) := by decide +kernel
theorem dX5_goOn_87 : decode cX5_goOn 87 = .ok (.iadd, 1) := by decide +kernel
theorem dX5_goOn_88 : decode cX5_goOn 88 = .ok (.iastore, 1) := by decide +kernel
theorem dX5_goOn_89 : decode cX5_goOn 89 = .ok (.aload_n 0, 1) := by decide +kernel
theorem dX5_goOn_90 : decode cX5_goOn 90 = .ok (.iload_n 1, 1) := by decide +kernel
theorem dX5_goOn_91 : decode cX5_goOn 91 = .ok (.iconst 1, 1) := by decide +kernel
theorem dX5_goOn_92 : decode cX5_goOn 92 = .ok (.iadd, 1) := by decide +kernel
theorem dX5_goOn_93 : decode cX5_goOn 93 = .ok (.iload_n 2, 1) := by decide +kernel
theorem dX5_goOn_94 : decode cX5_goOn 94 = .ok (.iload_n 3, 1) := by decide +kernel
theorem dX5_goOn_95 : decode cX5_goOn 95 = .ok (.iload 4, 2) := by decide +kernel
theorem dX5_goOn_97 : decode cX5_goOn 97 = .ok (.invokevirtual 65, 3) := by decide +kernel
theorem dX5_goOn_100 : decode cX5_goOn 100 = .ok (.return_, 1) := by decide +kernel
theorem dX5_choose_0 : decode cX5_choose 0 = .ok (.iload_n 1, 1) := by decide +kernel
theorem dX5_choose_1 : decode cX5_choose 1 = .ok (.aload_n 0, 1) := by decide +kernel
theorem dX5_choose_2 : decode cX5_choose 2 = .ok (.getfield 25, 3) := by decide +kernel
theorem dX5_choose_5 : decode cX5_choose 5 = .ok (.if_icmp .le 4, 3) := by decide +kernel
theorem dX5_choose_8 : decode cX5_choose 8 = .ok (.return_, 1) := by decide +kernel
theorem dX5_choose_9 : decode cX5_choose 9 = .ok (.iload_n 1, 1) := by decide +kernel
theorem dX5_choose_10 : decode cX5_choose 10 = .ok (.ifCond .ne 7, 3) := by decide +kernel
theorem dX5_choose_13 : decode cX5_choose 13 = .ok (.iconst 1, 1) := by decide +kernel
theorem dX5_choose_14 : decode cX5_choose 14 = .ok (.goto 11, 3) := by decide +kernel
theorem dX5_choose_17 : decode cX5_choose 17 = .ok (.aload_n 0, 1) := by decide +kernel
theorem dX5_choose_18 : decode cX5_choose 18 = .ok (.getfield 22, 3) := by decide +kernel
theorem dX5_choose_21 : decode cX5_choose 21 = .ok (.iload_n 1, 1) := by decide +kernel
theorem dX5_choose_22 : decode cX5_choose 22 = .ok (.iconst 1, 1) := by decide +kernel
theorem dX5_choose_23 : decode cX5_choose 23 = .ok (.isub, 1) := by decide +kernel
theorem dX5_choose_24 : decode cX5_choose 24 = .ok (.iaload, 1) := by decide +kernel
theorem dX5_choose_25 : decode cX5_choose 25 = .ok (.istore 5, 2) := by decide +kernel
theorem dX5_choose_27 : decode cX5_choose 27 = .ok (.iload_n 1, 1) := by decide +kernel
theorem dX5_choose_28 : decode cX5_choose 28 = .ok (.aload_n 0, 1) := by decide +kernel
theorem dX5_choose_29 : decode cX5_choose 29 = .ok (.getfield 25, 3) := by decide +kernel
theorem dX5_choose_32 : decode cX5_choose 32 = .ok (.if_icmp .ne 13, 3) := by decide +kernel
theorem dX5_choose_35 : decode cX5_choose 35 = .ok (.aload_n 0, 1) := by decide +kernel
theorem dX5_choose_36 : decode cX5_choose 36 = .ok (.getfield 54, 3) := by decide +kernel
theorem dX5_choose_39 : decode cX5_choose 39 = .ok (.invokevirtual 77, 3) := by decide +kernel
theorem dX5_choose_42 : decode cX5_choose 42 = .ok (.goto 11, 3) := by decide +kernel
theorem dX5_choose_45 : decode cX5_choose 45 = .ok (.aload_n 0, 1) := by decide +kernel
theorem dX5_choose_46 : decode cX5_choose 46 = .ok (.getfield 22, 3) := by decide +kernel
theorem dX5_choose_49 : decode cX5_choose 49 = .ok (.iload_n 1, 1) := by decide +kernel
theorem dX5_choose_50 : decode cX5_choose 50 = .ok (.iaload, 1) := by decide +kernel
theorem dX5_choose_51 : decode cX5_choose 51 = .ok (.iconst 1, 1) := by decide +kernel
theorem dX5_choose_52 : decode cX5_choose 52 = .ok (.isub, 1) := by decide +kernel
theorem dX5_choose_53 : decode cX5_choose 53 = .ok (.istore 6, 2) := by decide +kernel
theorem dX5_choose_55 : decode cX5_choose 55 = .ok (.aload_n 0, 1) := by decide +kernel
theorem dX5_choose_56 : decode cX5_choose 56 = .ok (.getfield 58, 3) := by decide +kernel
theorem dX5_choose_59 : decode cX5_choose 59 = .ok (.iload_n 3, 1) := by decide +kernel
theorem dX5_choose_60 : decode cX5_choose 60 = .ok (.invokevirtual 84, 3) := by decide +kernel
theorem dX5_choose_63 : decode cX5_choose 63 = .ok (.aload_n 0, 1) := by decide +kernel
theorem dX5_choose_64 : decode cX5_choose 64 = .ok (.getfield 58, 3) := by decide +kernel
theorem dX5_choose_67 : decode cX5_choose 67 = .ok (.aload_n 0, 1) := by decide +kernel
theorem dX5_choose_68 : decode cX5_choose 68 = .ok (.getfield 12, 3) := by decide +kernel
theorem dX5_choose_71 : decode cX5_choose 71 = .ok (.iload 5, 2) := by decide +kernel
theorem dX5_choose_73 : decode cX5_choose 73 = .ok (.iload 6, 2) := by decide +kernel
theorem dX5_choose_75 : decode cX5_choose 75 = .ok (.invokevirtual 89, 3) := by decide +kernel
theorem dX5_choose_78 : decode cX5_choose 78 = .ok (.aload_n 0, 1) := by decide +kernel
theorem dX5_choose_79 : decode cX5_choose 79 = .ok (.getfield 58, 3) := by decide +kernel
theorem dX5_choose_82 : decode cX5_choose 82 = .ok (.getfield 93, 3) := by decide +kernel
theorem dX5_choose_85 : decode cX5_choose 85 = .ok (.ifCond .le 4, 3) := by decide +kernel
theorem dX5_choose_88 : decode cX5_choose 88 = .ok (.return_, 1) := by decide +kernel
theorem dX5_choose_89 : decode cX5_choose 89 = .ok (.aload_n 0, 1) := by decide +kernel
theorem dX5_choose_90 : decode cX5_choose 90 = .ok (.getfield 58, 3) := by decide +kernel
theorem dX5_choose_93 : decode cX5_choose 93 = .ok (.getfield 96, 3) := by decide +kernel
theorem dX5_choose_96 : decode cX5_choose 96 = .ok (.istore 7, 2) := by decide +kernel
theorem dX5_choose_98 : decode cX5_choose 98 = .ok (.iload 4, 2) := by decide +kernel
theorem dX5_choose_100 : decode cX5_choose 100 = .ok (.aload_n 0, 1) := by decide +kernel
theorem dX5_choose_101 : decode cX5_choose 101 = .ok (.getfield 58, 3) := by decide +kernel
theorem dX5_choose_104 : decode cX5_choose 104 = .ok (.aload_n 0, 1) := by decide +kernel
theorem dX5_choose_105 : decode cX5_choose 105 = .ok (.getfield 12, 3) := by decide +kernel
theorem dX5_choose_108 : decode cX5_choose 108 = .ok (.aload_n 0, 1) := by decide +kernel
theorem dX5_choose_109 : decode cX5_choose 109 = .ok (.getfield 12, 3) := by decide +kernel
theorem dX5_choose_112 : decode cX5_choose 112 = .ok (.invokevirtual 99, 3) := by decide +kernel
theorem dX5_choose_115 : decode cX5_choose 115 = .ok (.iload 5, 2) := by decide +kernel
theorem dX5_choose_117 : decode cX5_choose 117 = .ok (.iload 6, 2) := by decide +kernel
theorem dX5_choose_119 : decode cX5_choose 119 = .ok (.invokevirtual 102, 3) := by decide +kernel
theorem dX5_choose_122 : decode cX5_choose 122 = .ok (.iadd, 1) := by decide +kernel
theorem dX5_choose_123 : decode cX5_choose 123 = .ok (.istore 8, 2) := by decide +kernel
theorem dX5_choose_125 : decode cX5_choose 125 = .ok (.aload_n 0, 1) := by decide +kernel
theorem dX5_choose_126 : decode cX5_choose 126 = .ok (.getfield 42, 3) := by decide +kernel
theorem dX5_choose_129 : decode cX5_choose 129 = .ok (.ifCond .eq 13, 3) := by decide +kernel
theorem dX5_choose_132 : decode cX5_choose 132 = .ok (.iload 8, 2) := by decide +kernel
theorem dX5_choose_134 : decode cX5_choose 134 = .ok (.aload_n 0, 1) := by decide +kernel
theorem dX5_choose_135 : decode cX5_choose 135 = .ok (.getfield 45, 3) := by decide +kernel
theorem dX5_choose_138 : decode cX5_choose 138 = .ok (.if_icmp .le 4, 3) := by decide +kernel
theorem dX5_choose_141 : decode cX5_choose 141 = .ok (.return_, 1) := by decide +kernel
theorem dX5_choose_142 : decode cX5_choose 142 = .ok (.iload_n 1, 1) := by decide +kernel
theorem dX5_choose_143 : decode cX5_choose 143 = .ok (.aload_n 0, 1) := by decide +kernel
theorem dX5_choose_144 : decode cX5_choose 144 = .ok (.getfield 25, 3) := by decide +kernel
theorem dX5_choose_147 : decode cX5_choose 147 = .ok (.if_icmp .ne 13, 3) := by decide +kernel
theorem dX5_choose_150 : decode cX5_choose 150 = .ok (.aload_n 0, 1) := by decide +kernel
theorem dX5_choose_151 : decode cX5_choose 151 = .ok (.iload_n 2, 1) := by decide +kernel
theorem dX5_choose_152 : decode cX5_choose 152 = .ok (.iload 8, 2) := by decide +kernel
theorem dX5_choose_154 : decode cX5_choose 154 = .ok (.invokevirtual 106, 3) := by decide +kernel
theorem dX5_choose_157 : decode cX5_choose 157 = .ok (.goto 13, 3) := by decide +kernel
theorem dX5_choose_160 : decode cX5_choose 160 = .ok (.aload_n 0, 1) := by decide +kernel
theorem dX5_choose_161 : decode cX5_choose 161 = .ok (.iload_n 1, 1) := by decide +kernel
theorem dX5_choose_162 : decode cX5_choose 162 = .ok (.iload_n 2, 1) := by decide +kernel
theorem dX5_choose_163 : decode cX5_choose 163 = .ok (.iload 7, 2) := by decide +kernel
theorem dX5_choose_165 : decode cX5_choose 165 = .ok (.iload 8, 2) := by decide +kernel
theorem dX5_choose_167 : decode cX5_choose 167 = .ok (.invokevirtual 110, 3) := by decide +kernel
theorem dX5_choose_170 : decode cX5_choose 170 = .ok (.return_, 1) := by decide +kernel
theorem dX5_findPlan_0 : decode cX5_findPlan 0 = .ok (.aload_n 0, 1) := by decide +kernel
theorem dX5_findPlan_1 : decode cX5_findPlan 1 = .ok (.getfield 29, 3) := by decide +kernel
theorem dX5_findPlan_4 : decode cX5_findPlan 4 = .ok (.ifCond .eq 4, 3) := by decide +kernel
theorem dX5_findPlan_7 : decode cX5_findPlan 7 = .ok (.return_, 1) := by decide +kernel
theorem dX5_findPlan_8 : decode cX5_findPlan 8 = .ok (.aload_n 0, 1) := by decide +kernel
theorem dX5_findPlan_9 : decode cX5_findPlan 9 = .ok (.iconst 1, 1) := by decide +kernel
theorem dX5_findPlan_10 : decode cX5_findPlan 10 = .ok (.putfield 29, 3) := by decide +kernel
theorem dX5_findPlan_13 : decode cX5_findPlan 13 = .ok (.aload_n 0, 1) := by decide +kernel
theorem dX5_findPlan_14 : decode cX5_findPlan 14 = .ok (.iconst 0, 1) := by decide +kernel
theorem dX5_findPlan_15 : decode cX5_findPlan 15 = .ok (.putfield 42, 3) := by decide +kernel
theorem dX5_findPlan_18 : decode cX5_findPlan 18 = .ok (.aload_n 0, 1) := by decide +kernel
theorem dX5_findPlan_19 : decode cX5_findPlan 19 = .ok (.invokevirtual 62, 3) := by decide +kernel
theorem dX5_findPlan_22 : decode cX5_findPlan 22 = .ok (.aload_n 0, 1) := by decide +kernel
theorem dX5_findPlan_23 : decode cX5_findPlan 23 = .ok (.iconst 0, 1) := by decide +kernel
theorem dX5_findPlan_24 : decode cX5_findPlan 24 = .ok (.iconst 0, 1) := by decide +kernel
theorem dX5_findPlan_25 : decode cX5_findPlan 25 = .ok (.iconst 0, 1) := by decide +kernel
theorem dX5_findPlan_26 : decode cX5_findPlan 26 = .ok (.iconst 0, 1) := by decide +kernel
theorem dX5_findPlan_27 : decode cX5_findPlan 27 = .ok (.invokevirtual 65, 3) := by decide +kernel
theorem dX5_findPlan_30 : decode cX5_findPlan 30 = .ok (.return_, 1) := by decide +kernel
theorem dX5_follow_0 : decode cX5_follow 0 = .ok (.aload_n 0, 1) := by decide +kernel
theorem dX5_follow_1 : decode cX5_follow 1 = .ok (.invokevirtual 62, 3) := by decide +kernel
theorem dX5_follow_4 : decode cX5_follow 4 = .ok (.iconst 0, 1) := by decide +kernel
theorem dX5_follow_5 : decode cX5_follow 5 = .ok (.istore_n 2, 1) := by decide +kernel
theorem dX5_follow_6 : decode cX5_follow 6 = .ok (.iconst 0, 1) := by decide +kernel
theorem dX5_follow_7 : decode cX5_follow 7 = .ok (.istore_n 3, 1) := by decide +kernel
theorem dX5_follow_8 : decode cX5_follow 8 = .ok (.iload_n 3, 1) := by decide +kernel
theorem dX5_follow_9 : decode cX5_follow 9 = .ok (.aload_n 0, 1) := by decide +kernel
theorem dX5_follow_10 : decode cX5_follow 10 = .ok (.getfield 25, 3) := by decide +kernel
theorem dX5_follow_13 : decode cX5_follow 13 = .ok (.if_icmp .ge 73, 3) := by decide +kernel
theorem dX5_follow_16 : decode cX5_follow 16 = .ok (.aload_n 0, 1) := by decide +kernel
theorem dX5_follow_17 : decode cX5_follow 17 = .ok (.getfield 22, 3) := by decide +kernel
theorem dX5_follow_20 : decode cX5_follow 20 = .ok (.iload_n 3, 1) := by decide +kernel
theorem dX5_follow_21 : decode cX5_follow 21 = .ok (.iaload, 1) := by decide +kernel
theorem dX5_follow_22 : decode cX5_follow 22 = .ok (.istore 4, 2) := by decide +kernel
theorem dX5_follow_24 : decode cX5_follow 24 = .ok (.aload_n 0, 1) := by decide +kernel
theorem dX5_follow_25 : decode cX5_follow 25 = .ok (.getfield 54, 3) := by decide +kernel
theorem dX5_follow_28 : decode cX5_follow 28 = .ok (.getfield 81, 3) := by decide +kernel
theorem dX5_follow_31 : decode cX5_follow 31 = .ok (.iload 4, 2) := by decide +kernel
theorem dX5_follow_33 : decode cX5_follow 33 = .ok (.iaload, 1) := by decide +kernel
theorem dX5_follow_34 : decode cX5_follow 34 = .ok (.istore 5, 2) := by decide +kernel
theorem dX5_follow_36 : decode cX5_follow 36 = .ok (.iload 4, 2) := by decide +kernel
theorem dX5_follow_38 : decode cX5_follow 38 = .ok (.iload_n 2, 1) := by decide +kernel
theorem dX5_follow_39 : decode cX5_follow 39 = .ok (.isub, 1) := by decide +kernel
theorem dX5_follow_40 : decode cX5_follow 40 = .ok (.iload_n 1, 1) := by decide +kernel
theorem dX5_follow_41 : decode cX5_follow 41 = .ok (.if_icmp .lt 39, 3) := by decide +kernel
theorem dX5_follow_44 : decode cX5_follow 44 = .ok (.aload_n 0, 1) := by decide +kernel
theorem dX5_follow_45 : decode cX5_follow 45 = .ok (.getfield 18, 3) := by decide +kernel
theorem dX5_follow_48 : decode cX5_follow 48 = .ok (.iload 5, 2) := by decide +kernel
theorem dX5_follow_50 : decode cX5_follow 50 = .ok (.iaload, 1) := by decide +kernel
theorem dX5_follow_51 : decode cX5_follow 51 = .ok (.ifCond .le 29, 3) := by decide +kernel
theorem dX5_follow_54 : decode cX5_follow 54 = .ok (.aload_n 0, 1) := by decide +kernel
theorem dX5_follow_55 : decode cX5_follow 55 = .ok (.getfield 18, 3) := by decide +kernel
theorem dX5_follow_58 : decode cX5_follow 58 = .ok (.iload 5, 2) := by decide +kernel
theorem dX5_follow_60 : decode cX5_follow 60 = .ok (.dup2, 1) := by decide +kernel
theorem dX5_follow_61 : decode cX5_follow 61 = .ok (.iaload, 1) := by decide +kernel
theorem dX5_follow_62 : decode cX5_follow 62 = .ok (.iconst 1, 1) := by decide +kernel
theorem dX5_follow_63 : decode cX5_follow 63 = .ok (.isub, 1) := by decide +kernel
theorem dX5_follow_64 : decode cX5_follow 64 = .ok (.iastore, 1) := by decide +kernel
theorem dX5_follow_65 : decode cX5_follow 65 = .ok (.aload_n 0, 1) := by decide +kernel
theorem dX5_follow_66 : decode cX5_follow 66 = .ok (.getfield 12, 3) := by decide +kernel
theorem dX5_follow_69 : decode cX5_follow 69 = .ok (.iload 4, 2) := by decide +kernel
theorem dX5_follow_71 : decode cX5_follow 71 = .ok (.iload 5, 2) := by decide +kernel
theorem dX5_follow_73 : decode cX5_follow 73 = .ok (.invokevirtual 113, 3) := by decide +kernel
theorem dX5_follow_76 : decode cX5_follow 76 = .ok (.pop, 1) := by decide +kernel
theorem dX5_follow_77 : decode cX5_follow 77 = .ok (.iload 4, 2) := by decide +kernel
theorem dX5_follow_79 : decode cX5_follow 79 = .ok (.istore_n 2, 1) := by decide +kernel
theorem dX5_follow_80 : decode cX5_follow 80 = .ok (.iinc 3 1, 3) := by decide +kernel
theorem dX5_follow_83 : decode cX5_follow 83 = .ok (.goto (-75), 3) := by decide +kernel
theorem dX5_follow_86 : decode cX5_follow 86 = .ok (.return_, 1) := by decide +kernel
theorem dX5_ruleRisk_0 : decode cX5_ruleRisk 0 = .ok (.aload_n 0, 1) := by decide +kernel
theorem dX5_ruleRisk_1 : decode cX5_ruleRisk 1 = .ok (.getfield 58, 3) := by decide +kernel
theorem dX5_ruleRisk_4 : decode cX5_ruleRisk 4 = .ok (.aload_n 0, 1) := by decide +kernel
theorem dX5_ruleRisk_5 : decode cX5_ruleRisk 5 = .ok (.getfield 12, 3) := by decide +kernel
theorem dX5_ruleRisk_8 : decode cX5_ruleRisk 8 = .ok (.aload_n 0, 1) := by decide +kernel
theorem dX5_ruleRisk_9 : decode cX5_ruleRisk 9 = .ok (.getfield 12, 3) := by decide +kernel
theorem dX5_ruleRisk_12 : decode cX5_ruleRisk 12 = .ok (.invokevirtual 99, 3) := by decide +kernel
theorem dX5_ruleRisk_15 : decode cX5_ruleRisk 15 = .ok (.invokevirtual 124, 3) := by decide +kernel
theorem dX5_ruleRisk_18 : decode cX5_ruleRisk 18 = .ok (.ireturn, 1) := by decide +kernel
theorem dX5_ruleSize_0 : decode cX5_ruleSize 0 = .ok (.aload_n 0, 1) := by decide +kernel
theorem dX5_ruleSize_1 : decode cX5_ruleSize 1 = .ok (.getfield 12, 3) := by decide +kernel
theorem dX5_ruleSize_4 : decode cX5_ruleSize 4 = .ok (.getfield 69, 3) := by decide +kernel
theorem dX5_ruleSize_7 : decode cX5_ruleSize 7 = .ok (.ireturn, 1) := by decide +kernel
theorem dX5_ruleIsTooMuch_0 : decode cX5_ruleIsTooMuch 0 = .ok (.aload_n 0, 1) := by decide +kernel
theorem dX5_ruleIsTooMuch_1 : decode cX5_ruleIsTooMuch 1 = .ok (.getfield 58, 3) := by decide +kernel
theorem dX5_ruleIsTooMuch_4 : decode cX5_ruleIsTooMuch 4 = .ok (.aload_n 0, 1) := by decide +kernel
theorem dX5_ruleIsTooMuch_5 : decode cX5_ruleIsTooMuch 5 = .ok (.getfield 12, 3) := by decide +kernel
theorem dX5_ruleIsTooMuch_8 : decode cX5_ruleIsTooMuch 8 = .ok (.invokevirtual 128, 3) := by decide +kernel
theorem dX5_ruleIsTooMuch_11 : decode cX5_ruleIsTooMuch 11 = .ok (.aload_n 0, 1) := by decide +kernel
theorem dX5_ruleIsTooMuch_12 : decode cX5_ruleIsTooMuch 12 = .ok (.getfield 58, 3) := by decide +kernel
theorem dX5_ruleIsTooMuch_15 : decode cX5_ruleIsTooMuch 15 = .ok (.getfield 93, 3) := by decide +kernel
theorem dX5_ruleIsTooMuch_18 : decode cX5_ruleIsTooMuch 18 = .ok (.ifCond .le 7, 3) := by decide +kernel
theorem dX5_ruleIsTooMuch_21 : decode cX5_ruleIsTooMuch 21 = .ok (.iconst 1, 1) := by decide +kernel
theorem dX5_ruleIsTooMuch_22 : decode cX5_ruleIsTooMuch 22 = .ok (.goto 4, 3) := by decide +kernel
theorem dX5_ruleIsTooMuch_25 : decode cX5_ruleIsTooMuch 25 = .ok (.iconst 0, 1) := by decide +kernel
theorem dX5_ruleIsTooMuch_26 : decode cX5_ruleIsTooMuch 26 = .ok (.ireturn, 1) := by decide +kernel
theorem dX5_findBest_0 : decode cX5_findBest 0 = .ok (.aload_n 0, 1) := by decide +kernel
theorem dX5_findBest_1 : decode cX5_findBest 1 = .ok (.invokevirtual 131, 3) := by decide +kernel
theorem dX5_findBest_4 : decode cX5_findBest 4 = .ok (.aload_n 0, 1) := by decide +kernel
theorem dX5_findBest_5 : decode cX5_findBest 5 = .ok (.getfield 33, 3) := by decide +kernel
theorem dX5_findBest_8 : decode cX5_findBest 8 = .ok (.ifCond .eq 4, 3) := by decide +kernel
theorem dX5_findBest_11 : decode cX5_findBest 11 = .ok (.return_, 1) := by decide +kernel
theorem dX5_findBest_12 : decode cX5_findBest 12 = .ok (.aload_n 0, 1) := by decide +kernel
theorem dX5_findBest_13 : decode cX5_findBest 13 = .ok (.iconst 1, 1) := by decide +kernel
theorem dX5_findBest_14 : decode cX5_findBest 14 = .ok (.putfield 33, 3) := by decide +kernel
theorem dX5_findBest_17 : decode cX5_findBest 17 = .ok (.aload_n 0, 1) := by decide +kernel
theorem dX5_findBest_18 : decode cX5_findBest 18 = .ok (.iconst 0, 1) := by decide +kernel
theorem dX5_findBest_19 : decode cX5_findBest 19 = .ok (.putfield 48, 3) := by decide +kernel
theorem dX5_findBest_22 : decode cX5_findBest 22 = .ok (.aload_n 0, 1) := by decide +kernel
theorem dX5_findBest_23 : decode cX5_findBest 23 = .ok (.iconst 0, 1) := by decide +kernel
theorem dX5_findBest_24 : decode cX5_findBest 24 = .ok (.putfield 51, 3) := by decide +kernel
theorem dX5_findBest_27 : decode cX5_findBest 27 = .ok (.iconst 1, 1) := by decide +kernel
theorem dX5_findBest_28 : decode cX5_findBest 28 = .ok (.istore_n 1, 1) := by decide +kernel
theorem dX5_findBest_29 : decode cX5_findBest 29 = .ok (.iload_n 1, 1) := by decide +kernel
theorem dX5_findBest_30 : decode cX5_findBest 30 = .ok (.bipush 40, 2) := by decide +kernel
theorem dX5_findBest_32 : decode cX5_findBest 32 = .ok (.if_icmp .gt 54, 3) := by decide +kernel
theorem dX5_findBest_35 : decode cX5_findBest 35 = .ok (.aload_n 0, 1) := by decide +kernel
theorem dX5_findBest_36 : decode cX5_findBest 36 = .ok (.iload_n 1, 1) := by decide +kernel
theorem dX5_findBest_37 : decode cX5_findBest 37 = .ok (.invokevirtual 134, 3) := by decide +kernel
theorem dX5_findBest_40 : decode cX5_findBest 40 = .ok (.aload_n 0, 1) := by decide +kernel
theorem dX5_findBest_41 : decode cX5_findBest 41 = .ok (.invokevirtual 137, 3) := by decide +kernel
theorem dX5_findBest_44 : decode cX5_findBest 44 = .ok (.ifCond .eq 6, 3) := by decide +kernel
theorem dX5_findBest_47 : decode cX5_findBest 47 = .ok (.goto 33, 3) := by decide +kernel
theorem dX5_findBest_50 : decode cX5_findBest 50 = .ok (.aload_n 0, 1) := by decide +kernel
theorem dX5_findBest_51 : decode cX5_findBest 51 = .ok (.invokevirtual 141, 3) := by decide +kernel
theorem dX5_findBest_54 : decode cX5_findBest 54 = .ok (.istore_n 2, 1) := by decide +kernel
theorem dX5_findBest_55 : decode cX5_findBest 55 = .ok (.aload_n 0, 1) := by decide +kernel
theorem dX5_findBest_56 : decode cX5_findBest 56 = .ok (.getfield 48, 3) := by decide +kernel
theorem dX5_findBest_59 : decode cX5_findBest 59 = .ok (.ifCond .eq 11, 3) := by decide +kernel
theorem dX5_findBest_62 : decode cX5_findBest 62 = .ok (.iload_n 2, 1) := by decide +kernel
theorem dX5_findBest_63 : decode cX5_findBest 63 = .ok (.aload_n 0, 1) := by decide +kernel
theorem dX5_findBest_64 : decode cX5_findBest 64 = .ok (.getfield 51, 3) := by decide +kernel
theorem dX5_findBest_67 : decode cX5_findBest 67 = .ok (.if_icmp .gt 13, 3) := by decide +kernel
theorem dX5_findBest_70 : decode cX5_findBest 70 = .ok (.aload_n 0, 1) := by decide +kernel
theorem dX5_findBest_71 : decode cX5_findBest 71 = .ok (.iload_n 1, 1) := by decide +kernel
theorem dX5_findBest_72 : decode cX5_findBest 72 = .ok (.putfield 48, 3) := by decide +kernel
theorem dX5_findBest_75 : decode cX5_findBest 75 = .ok (.aload_n 0, 1) := by decide +kernel
theorem dX5_findBest_76 : decode cX5_findBest 76 = .ok (.iload_n 2, 1) := by decide +kernel
theorem dX5_findBest_77 : decode cX5_findBest 77 = .ok (.putfield 51, 3) := by decide +kernel
theorem dX5_findBest_80 : decode cX5_findBest 80 = .ok (.iinc 1 1, 3) := by decide +kernel
theorem dX5_findBest_83 : decode cX5_findBest 83 = .ok (.goto (-54), 3) := by decide +kernel
theorem dX5_findBest_86 : decode cX5_findBest 86 = .ok (.return_, 1) := by decide +kernel
abbrev q_X5_forget  (σ : tw_M) : Option tw_V → tw_M → Prop := fun z τ => z = none ∧ tw_I τ ∧ tw_F (fun c j => (c = 60 ∧ (j = 6 ∨ j = 7))) σ τ ∧ True
set_option maxHeartbeats 4000000 in
set_option maxRecDepth 100000 in
theorem c_X5_forget {G : tw_G} (hX : tw_isX G) (σ : tw_M) (hI : tw_I σ) : tw_C G yX5_forget cX5_forget 1 none 0 [vR 60] σ (q_X5_forget σ) := by
  refine tw_met [(0, vR 60)] (by decide +kernel) rfl (Nat.le_of_ble_eq_true rfl) ?_
  refine j_aload_n (pc := 0) dX5_forget_0 rfl rfl ?_
  refine j_iconst (pc := 1) dX5_forget_1 ?_
  refine j_putZ (pc := 2) (by omega) fl_X5_29 fp_X5_6 dX5_forget_2 (a_60 hX) rfl (j_nm (fun σ1 (eσ1 : σ1 = tw_up σ 60 6 0) => ?_))
  have hIσ1 : tw_I σ1 := tw_I_up hI eσ1 (show (0 : Int) ≤ 0 ∧ 0 ≤ 1 from ⟨by omega, by omega⟩)
  have hFσ1 : tw_F (fun c j => (c = 60 ∧ (j = 6 ∨ j = 7))) σ σ1 := tw_F_up (tw_F_rf) eσ1 (show (60 = 60 ∧ (6 = 6 ∨ 6 = 7)) from by omega)
  refine j_aload_n (pc := 5) dX5_forget_5 rfl rfl ?_
  refine j_iconst (pc := 6) dX5_forget_6 ?_
  refine j_putZ (pc := 7) (by omega) fl_X5_33 fp_X5_7 dX5_forget_7 (a_60 hX) rfl (j_nm (fun σ2 (eσ2 : σ2 = tw_up σ1 60 7 0) => ?_))
  have hIσ2 : tw_I σ2 := tw_I_up hIσ1 eσ2 (show (0 : Int) ≤ 0 ∧ 0 ≤ 1 from ⟨by omega, by omega⟩)
  have hFσ2 : tw_F (fun c j => (c = 60 ∧ (j = 6 ∨ j = 7))) σ σ2 := tw_F_up hFσ1 eσ2 (show (60 = 60 ∧ (7 = 6 ∨ 7 = 7)) from by omega)
  exact j_vret (pc := 10) ⟨rfl, rfl⟩ dX5_forget_10 rfl ⟨rfl, hIσ2, hFσ2, trivial⟩
abbrev q_X5_begin  (σ : tw_M) : Option tw_V → tw_M → Prop := fun z τ => z = none ∧ tw_I τ ∧ tw_F (fun c j => (56 ≤ c ∧ c < 58) ∨ (60 ≤ c ∧ c < 71)) σ τ ∧ True
set_option maxHeartbeats 4000000 in
set_option maxRecDepth 100000 in
theorem l_X5_begin {G : tw_G} (hX : tw_isX G) (σ : tw_M) (hI : tw_I σ) : ∀ N_ : Nat, (∀ (i : Int) (hi : 0 ≤ i ∧ i ≤ 11) (τ : tw_M) (hIτ : tw_I τ) (hFτ : tw_F (fun c j => (56 ≤ c ∧ c < 58) ∨ (60 ≤ c ∧ c < 71)) σ τ)  (hm : (500 - i).toNat < N_), tw_J G (tw_mt RX5 cX5_begin 2 none 1) (tw_E G (q_X5_begin σ)) 15 [(0, vR 60), (1, vI i)] [] τ) ∧ (∀ (i : Int) (hi : 1 ≤ i ∧ i ≤ 41) (τ : tw_M) (hIτ : tw_I τ) (hFτ : tw_F (fun c j => (56 ≤ c ∧ c < 58) ∨ (60 ≤ c ∧ c < 71)) σ τ)  (hm : (100 - i).toNat < N_), tw_J G (tw_mt RX5 cX5_begin 2 none 1) (tw_E G (q_X5_begin σ)) 44 [(0, vR 60), (1, vI i)] [] τ) := by
  intro N_
  induction N_ with
  | zero => exact ⟨fun i hi τ hIτ hFτ hm => absurd hm (Nat.not_lt_zero _), fun i hi τ hIτ hFτ hm => absurd hm (Nat.not_lt_zero _)⟩
  | succ N_ ih =>
    refine ⟨?_, ?_⟩
    · intro i hi τ hIτ hFτ hm
      refine j_iload_n (pc := 15) dX5_begin_15 rfl rfl ?_
      refine j_bipush (pc := 16) dX5_begin_16 rfl ?_
      refine j_icmpR_gt (pc := 18) (tgt := 42) ⟨by omega, by omega⟩ ⟨by omega, by omega⟩ dX5_begin_18 rfl (fun h1 => ?_) (fun h1 => ?_)
      · refine j_iconst (pc := 42) dX5_begin_42 ?_
        refine j_istore_n (pc := 43) (i := 1) (ls' := [(0, vR 60), (1, vI 1)]) [1, 0] dX5_begin_43 rfl (Nat.le_of_ble_eq_true rfl) rfl rfl ?_
        refine j_ls (ls' := [(0, vR 60), (1, vI 1)]) [0, 1] rfl ?_
        exact ih.2 1 ⟨by omega, by omega⟩ τ hIτ hFτ (show (100 - (1 : Int)).toNat < N_ from by omega)
      · refine j_aload_n (pc := 21) dX5_begin_21 rfl rfl ?_
        refine j_getR (pc := 22) (r := 65) fl_X5_18 dX5_begin_22 (a_60 hX) rfl ?_
        refine j_iload_n (pc := 25) dX5_begin_25 rfl rfl ?_
        refine j_aload_n (pc := 26) dX5_begin_26 rfl rfl ?_
        refine j_getR (pc := 27) (r := 1) fl_X5_54 dX5_begin_27 (a_60 hX) rfl ?_
        refine j_getR (pc := 30) (r := 3) fl_X5_72 dX5_begin_30 (a_1 hX) rfl ?_
        refine j_iload_n (pc := 33) dX5_begin_33 rfl rfl ?_
        refine j_iald (pc := 34) dX5_begin_34 (a_3 hX) (by omega) (by omega) (by decide) ?_
        have f2 : (0 : Int) ≤ τ 3 (i.toNat) ∧ τ 3 (i.toNat) ≤ 5 := hIτ 3 (i.toNat)
        refine j_iast (pc := 35) dX5_begin_35 (a_65 hX) (by omega) (by omega) (by decide) (j_nm (fun σ3 (eσ3 : σ3 = tw_up τ 65 (i.toNat) (τ 3 (i.toNat))) => ?_))
        have hIσ3 : tw_I σ3 := tw_I_up hIτ eσ3 (show (-2147483648 : Int) ≤ τ 3 (i.toNat) ∧ τ 3 (i.toNat) ≤ 2147483647 from ⟨by omega, by omega⟩)
        have hFσ3 : tw_F (fun c j => (56 ≤ c ∧ c < 58) ∨ (60 ≤ c ∧ c < 71)) σ σ3 := tw_F_up hFτ eσ3 (show (56 ≤ 65 ∧ 65 < 58) ∨ (60 ≤ 65 ∧ 65 < 71) from by omega)
        refine j_iinc (pc := 36) (i := 1) (n := 1) (ls' := [(0, vR 60), (1, vI (i + 1))]) [1, 0] dX5_begin_36 rfl (Nat.le_of_ble_eq_true rfl) rfl rfl ?_
        refine j_goto (pc := 39) (tgt := 15) dX5_begin_39 rfl ?_
        refine j_ls (ls' := [(0, vR 60), (1, vI (i + 1))]) [0, 1] rfl ?_
        exact ih.1 (i + 1) ⟨by omega, by omega⟩ σ3 hIσ3 hFσ3 (show (500 - (i + 1)).toNat < N_ from by omega)
    · intro i hi τ hIτ hFτ hm
      refine j_iload_n (pc := 44) dX5_begin_44 rfl rfl ?_
      refine j_aload_n (pc := 45) dX5_begin_45 rfl rfl ?_
      refine j_getR (pc := 46) (r := 1) fl_X5_54 dX5_begin_46 (a_60 hX) rfl ?_
      refine j_callV (pc := 49) (As := []) (st := [vI i]) (c_X10_top 1 (s_Wall_1 hX) τ hIτ) mv_X5_77 rfl rfl rfl (a_1 hX) dX5_begin_49 ⟨Nat.le_of_ble_eq_true rfl, Nat.le_of_ble_eq_true rfl⟩ ⟨Nat.le_refl _, Nat.le_refl _⟩ rfl (Nat.le_of_ble_eq_true rfl) rfl (fun z4 σ5 hz4 => ?_)
      obtain ⟨r7, rfl, hr7, rfl, q6_0⟩ := hz4
      replace q6_0 : r7 = τ 2 0 := q6_0
      refine j_st (st' := [vI r7, vI i]) rfl ?_
      refine j_icmpR_gt (pc := 52) (tgt := 99) ⟨by omega, by omega⟩ ⟨by omega, by omega⟩ dX5_begin_52 rfl (fun h8 => ?_) (fun h8 => ?_)
      · exact j_vret (pc := 99) ⟨rfl, rfl⟩ dX5_begin_99 rfl ⟨rfl, hIτ, hFτ, trivial⟩
      · refine j_aload_n (pc := 55) dX5_begin_55 rfl rfl ?_
        refine j_getI (pc := 56) fl_X5_25 dX5_begin_56 (a_60 hX) rfl ?_
        have f9 : (0 : Int) ≤ τ 60 5 ∧ τ 60 5 ≤ 10 := hIτ 60 5
        refine j_bipush (pc := 59) dX5_begin_59 rfl ?_
        refine j_icmpR_ge (pc := 61) (tgt := 99) ⟨by omega, by omega⟩ ⟨by omega, by omega⟩ dX5_begin_61 rfl (fun h10 => ?_) (fun h10 => ?_)
        · exact j_vret (pc := 99) ⟨rfl, rfl⟩ dX5_begin_99 rfl ⟨rfl, hIτ, hFτ, trivial⟩
        · refine j_aload_n (pc := 64) dX5_begin_64 rfl rfl ?_
          refine j_getR (pc := 65) (r := 1) fl_X5_54 dX5_begin_65 (a_60 hX) rfl ?_
          refine j_getR (pc := 68) (r := 5) fl_X5_81 dX5_begin_68 (a_1 hX) rfl ?_
          refine j_iload_n (pc := 71) dX5_begin_71 rfl rfl ?_
          refine j_iald (pc := 72) dX5_begin_72 (a_5 hX) (by omega) (by omega) (by decide) ?_
          have f11 : (0 : Int) ≤ τ 5 (i.toNat) ∧ τ 5 (i.toNat) ≤ 10 := hIτ 5 (i.toNat)
          refine j_ifR_eq (pc := 73) (tgt := 93) ⟨by omega, by omega⟩ dX5_begin_73 rfl (fun h12 => ?_) (fun h12 => ?_)
          · refine j_iinc (pc := 93) (i := 1) (n := 1) (ls' := [(0, vR 60), (1, vI (i + 1))]) [1, 0] dX5_begin_93 rfl (Nat.le_of_ble_eq_true rfl) rfl rfl ?_
            refine j_goto (pc := 96) (tgt := 44) dX5_begin_96 rfl ?_
            refine j_ls (ls' := [(0, vR 60), (1, vI (i + 1))]) [0, 1] rfl ?_
            exact ih.2 (i + 1) ⟨by omega, by omega⟩ τ hIτ hFτ (show (100 - (i + 1)).toNat < N_ from by omega)
          · refine j_aload_n (pc := 76) dX5_begin_76 rfl rfl ?_
            refine j_getR (pc := 77) (r := 66) fl_X5_22 dX5_begin_77 (a_60 hX) rfl ?_
            refine j_aload_n (pc := 80) dX5_begin_80 rfl rfl ?_
            refine j_dup (pc := 81) dX5_begin_81 rfl ?_
            refine j_getI (pc := 82) fl_X5_25 dX5_begin_82 (a_60 hX) rfl ?_
            refine j_dup_x1 (pc := 85) dX5_begin_85 rfl rfl ?_
            refine j_iconst (pc := 86) dX5_begin_86 ?_
            refine j_iadd (pc := 87) dX5_begin_87 ?_
            refine j_putI (pc := 88) fl_X5_25 fp_X5_5 dX5_begin_88 (a_60 hX) rfl (j_nm (fun σ13 (eσ13 : σ13 = tw_up τ 60 5 ((τ 60 5) + 1)) => ?_))
            have hIσ13 : tw_I σ13 := tw_I_up hIτ eσ13 (show (0 : Int) ≤ (τ 60 5) + 1 ∧ (τ 60 5) + 1 ≤ 10 from ⟨by omega, by omega⟩)
            have hFσ13 : tw_F (fun c j => (56 ≤ c ∧ c < 58) ∨ (60 ≤ c ∧ c < 71)) σ σ13 := tw_F_up hFτ eσ13 (show (56 ≤ 60 ∧ 60 < 58) ∨ (60 ≤ 60 ∧ 60 < 71) from by omega)
            refine j_iload_n (pc := 91) dX5_begin_91 rfl rfl ?_
            refine j_iast (pc := 92) dX5_begin_92 (a_66 hX) (by omega) (by omega) (by decide) (j_nm (fun σ14 (eσ14 : σ14 = tw_up σ13 66 ((τ 60 5).toNat) i) => ?_))
            have hIσ14 : tw_I σ14 := tw_I_up hIσ13 eσ14 (show (0 : Int) ≤ i ∧ i ≤ 40 from ⟨by omega, by omega⟩)
            have hFσ14 : tw_F (fun c j => (56 ≤ c ∧ c < 58) ∨ (60 ≤ c ∧ c < 71)) σ σ14 := tw_F_up hFσ13 eσ14 (show (56 ≤ 66 ∧ 66 < 58) ∨ (60 ≤ 66 ∧ 66 < 71) from by omega)
            refine j_iinc (pc := 93) (i := 1) (n := 1) (ls' := [(0, vR 60), (1, vI (i + 1))]) [1, 0] dX5_begin_93 rfl (Nat.le_of_ble_eq_true rfl) rfl rfl ?_
            refine j_goto (pc := 96) (tgt := 44) dX5_begin_96 rfl ?_
            refine j_ls (ls' := [(0, vR 60), (1, vI (i + 1))]) [0, 1] rfl ?_
            exact ih.2 (i + 1) ⟨by omega, by omega⟩ σ14 hIσ14 hFσ14 (show (100 - (i + 1)).toNat < N_ from by omega)
set_option maxHeartbeats 4000000 in
set_option maxRecDepth 100000 in
theorem c_X5_begin {G : tw_G} (hX : tw_isX G) (σ : tw_M) (hI : tw_I σ) : tw_C G yX5_begin cX5_begin 2 none 1 [vR 60] σ (q_X5_begin σ) := by
  refine tw_met [(0, vR 60)] (by decide +kernel) rfl (Nat.le_of_ble_eq_true rfl) ?_
  refine j_aload_n (pc := 0) dX5_begin_0 rfl rfl ?_
  refine j_getR (pc := 1) (r := 61) fl_X5_12 dX5_begin_1 (a_60 hX) rfl ?_
  refine j_iconst (pc := 4) dX5_begin_4 ?_
  refine j_putI (pc := 5) fl_X5_69 fp_X7_0 dX5_begin_5 (a_61 hX) rfl (j_nm (fun σ15 (eσ15 : σ15 = tw_up σ 61 0 0) => ?_))
  have hIσ15 : tw_I σ15 := tw_I_up hI eσ15 (show (0 : Int) ≤ 0 ∧ 0 ≤ 10 from ⟨by omega, by omega⟩)
  have hFσ15 : tw_F (fun c j => (56 ≤ c ∧ c < 58) ∨ (60 ≤ c ∧ c < 71)) σ σ15 := tw_F_up (tw_F_rf) eσ15 (show (56 ≤ 61 ∧ 61 < 58) ∨ (60 ≤ 61 ∧ 61 < 71) from by omega)
  refine j_aload_n (pc := 8) dX5_begin_8 rfl rfl ?_
  refine j_iconst (pc := 9) dX5_begin_9 ?_
  refine j_putI (pc := 10) fl_X5_25 fp_X5_5 dX5_begin_10 (a_60 hX) rfl (j_nm (fun σ16 (eσ16 : σ16 = tw_up σ15 60 5 0) => ?_))
  have hIσ16 : tw_I σ16 := tw_I_up hIσ15 eσ16 (show (0 : Int) ≤ 0 ∧ 0 ≤ 10 from ⟨by omega, by omega⟩)
  have hFσ16 : tw_F (fun c j => (56 ≤ c ∧ c < 58) ∨ (60 ≤ c ∧ c < 71)) σ σ16 := tw_F_up hFσ15 eσ16 (show (56 ≤ 60 ∧ 60 < 58) ∨ (60 ≤ 60 ∧ 60 < 71) from by omega)
  refine j_iconst (pc := 13) dX5_begin_13 ?_
  refine j_istore_n (pc := 14) (i := 1) (ls' := [(0, vR 60), (1, vI 0)]) [1, 0] dX5_begin_14 rfl (Nat.le_of_ble_eq_true rfl) rfl rfl ?_
  refine j_ls (ls' := [(0, vR 60), (1, vI 0)]) [0, 1] rfl ?_
  exact (l_X5_begin hX σ hI (((500 - (0 : Int)).toNat) + 1)).1 0 ⟨by omega, by omega⟩ σ16 hIσ16 hFσ16 (Nat.lt_succ_self _)
abbrev q_X5_keepIfBetter (b : Int) (k : Int) (σ : tw_M) : Option tw_V → tw_M → Prop := fun z τ => z = none ∧ tw_I τ ∧ tw_F (fun c j => (56 ≤ c ∧ c < 58) ∨ (60 ≤ c ∧ c < 71)) σ τ ∧ True
set_option maxHeartbeats 4000000 in
set_option maxRecDepth 100000 in
theorem c_X5_keepIfBetter {G : tw_G} (hX : tw_isX G) (b : Int) (hb : -2147483648 ≤ b ∧ b ≤ 2147483647) (k : Int) (hk : -2147483648 ≤ k ∧ k ≤ 2147483647) (σ : tw_M) (hI : tw_I σ) : tw_C G yX5_keepIfBetter cX5_keepIfBetter 4 none 1 [vR 60, vI b, vI k] σ (q_X5_keepIfBetter b k σ) := by
  refine tw_met [(0, vR 60), (1, vI b), (2, vI k)] (by decide +kernel) rfl (Nat.le_of_ble_eq_true rfl) ?_
  refine j_aload_n (pc := 0) dX5_keepIfBetter_0 rfl rfl ?_
  refine j_getI (pc := 1) fl_X5_42 dX5_keepIfBetter_1 (a_60 hX) rfl ?_
  have f1 : (0 : Int) ≤ σ 60 10 ∧ σ 60 10 ≤ 1 := hI 60 10
  refine j_ifR_eq (pc := 4) (tgt := 15) ⟨by omega, by omega⟩ dX5_keepIfBetter_4 rfl (fun h2 => ?_) (fun h2 => ?_)
  · refine j_iconst (pc := 15) dX5_keepIfBetter_15 ?_
    refine j_goto (pc := 16) (tgt := 20) dX5_keepIfBetter_16 rfl ?_
    refine j_istore_n (pc := 20) (i := 3) (ls' := [(0, vR 60), (1, vI b), (2, vI k), (3, vI 1)]) [1, 2, 3, 0] dX5_keepIfBetter_20 rfl (Nat.le_of_ble_eq_true rfl) rfl rfl ?_
    refine j_iload_n (pc := 21) dX5_keepIfBetter_21 rfl rfl ?_
    refine j_ifR_ne (pc := 22) (tgt := 81) ⟨by omega, by omega⟩ dX5_keepIfBetter_22 rfl (fun h3 => ?_) (fun h3 => by exfalso; omega)
    refine j_iload_n (pc := 81) dX5_keepIfBetter_81 rfl rfl ?_
    refine j_ifR_ne (pc := 82) (tgt := 86) ⟨by omega, by omega⟩ dX5_keepIfBetter_82 rfl (fun h4 => ?_) (fun h4 => by exfalso; omega)
    refine j_aload_n (pc := 86) dX5_keepIfBetter_86 rfl rfl ?_
    refine j_iconst (pc := 87) dX5_keepIfBetter_87 ?_
    refine j_putZ (pc := 88) (by omega) fl_X5_42 fp_X5_10 dX5_keepIfBetter_88 (a_60 hX) rfl (j_nm (fun σ5 (eσ5 : σ5 = tw_up σ 60 10 1) => ?_))
    have hIσ5 : tw_I σ5 := tw_I_up hI eσ5 (show (0 : Int) ≤ 1 ∧ 1 ≤ 1 from ⟨by omega, by omega⟩)
    have hFσ5 : tw_F (fun c j => (56 ≤ c ∧ c < 58) ∨ (60 ≤ c ∧ c < 71)) σ σ5 := tw_F_up (tw_F_rf) eσ5 (show (56 ≤ 60 ∧ 60 < 58) ∨ (60 ≤ 60 ∧ 60 < 71) from by omega)
    refine j_aload_n (pc := 91) dX5_keepIfBetter_91 rfl rfl ?_
    refine j_iload_n (pc := 92) dX5_keepIfBetter_92 rfl rfl ?_
    refine j_putI (pc := 93) fl_X5_45 fp_X5_11 dX5_keepIfBetter_93 (a_60 hX) rfl (j_nm (fun σ6 (eσ6 : σ6 = tw_up σ5 60 11 k) => ?_))
    have hIσ6 : tw_I σ6 := tw_I_up hIσ5 eσ6 (show (-2147483648 : Int) ≤ k ∧ k ≤ 2147483647 from ⟨by omega, by omega⟩)
    have hFσ6 : tw_F (fun c j => (56 ≤ c ∧ c < 58) ∨ (60 ≤ c ∧ c < 71)) σ σ6 := tw_F_up hFσ5 eσ6 (show (56 ≤ 60 ∧ 60 < 58) ∨ (60 ≤ 60 ∧ 60 < 71) from by omega)
    refine j_aload_n (pc := 96) dX5_keepIfBetter_96 rfl rfl ?_
    refine j_iload_n (pc := 97) dX5_keepIfBetter_97 rfl rfl ?_
    refine j_putI (pc := 98) fl_X5_36 fp_X5_8 dX5_keepIfBetter_98 (a_60 hX) rfl (j_nm (fun σ7 (eσ7 : σ7 = tw_up σ6 60 8 b) => ?_))
    have hIσ7 : tw_I σ7 := tw_I_up hIσ6 eσ7 (show (-2147483648 : Int) ≤ b ∧ b ≤ 2147483647 from ⟨by omega, by omega⟩)
    have hFσ7 : tw_F (fun c j => (56 ≤ c ∧ c < 58) ∨ (60 ≤ c ∧ c < 71)) σ σ7 := tw_F_up hFσ6 eσ7 (show (56 ≤ 60 ∧ 60 < 58) ∨ (60 ≤ 60 ∧ 60 < 71) from by omega)
    refine j_aload_n (pc := 101) dX5_keepIfBetter_101 rfl rfl ?_
    refine j_getR (pc := 102) (r := 67) fl_X5_39 dX5_keepIfBetter_102 (a_60 hX) rfl ?_
    refine j_aload_n (pc := 105) dX5_keepIfBetter_105 rfl rfl ?_
    refine j_getR (pc := 106) (r := 61) fl_X5_12 dX5_keepIfBetter_106 (a_60 hX) rfl ?_
    refine j_callV (pc := 109) (As := [vR 61]) (st := []) (c_X7_copyOf 67 (s_Row_67 hX) 61 (s_Row_61 hX) σ7 hIσ7) mv_X5_120 rfl rfl rfl (a_67 hX) dX5_keepIfBetter_109 ⟨Nat.le_of_ble_eq_true rfl, Nat.le_of_ble_eq_true rfl⟩ ⟨Nat.le_refl _, Nat.le_refl _⟩ rfl (Nat.le_of_ble_eq_true rfl) rfl (fun z8 σ9 hz8 => ?_)
    obtain ⟨rfl, hIσ9, hGσ9, -⟩ := hz8
    have hFσ9 : tw_F (fun c j => (56 ≤ c ∧ c < 58) ∨ (60 ≤ c ∧ c < 71)) σ σ9 := tw_F_tr hFσ7 hGσ9 (fun c j q => (show (56 ≤ c ∧ c < 58) ∨ (60 ≤ c ∧ c < 71) from by replace q : (67 ≤ c ∧ c < 71) := q; omega))
    refine j_st (st' := []) rfl ?_
    exact j_vret (pc := 112) ⟨rfl, rfl⟩ dX5_keepIfBetter_112 rfl ⟨rfl, hIσ9, hFσ9, trivial⟩
  · refine j_iload_n (pc := 7) dX5_keepIfBetter_7 rfl rfl ?_
    refine j_aload_n (pc := 8) dX5_keepIfBetter_8 rfl rfl ?_
    refine j_getI (pc := 9) fl_X5_45 dX5_keepIfBetter_9 (a_60 hX) rfl ?_
    have f12 : (-2147483648 : Int) ≤ σ 60 11 ∧ σ 60 11 ≤ 2147483647 := hI 60 11
    refine j_icmpR_ge (pc := 12) (tgt := 19) ⟨by omega, by omega⟩ ⟨by omega, by omega⟩ dX5_keepIfBetter_12 rfl (fun h13 => ?_) (fun h13 => ?_)
    · refine j_iconst (pc := 19) dX5_keepIfBetter_19 ?_
      refine j_istore_n (pc := 20) (i := 3) (ls' := [(0, vR 60), (1, vI b), (2, vI k), (3, vI 0)]) [1, 2, 3, 0] dX5_keepIfBetter_20 rfl (Nat.le_of_ble_eq_true rfl) rfl rfl ?_
      refine j_iload_n (pc := 21) dX5_keepIfBetter_21 rfl rfl ?_
      refine j_ifR_ne (pc := 22) (tgt := 81) ⟨by omega, by omega⟩ dX5_keepIfBetter_22 rfl (fun h14 => by exfalso; omega) (fun h14 => ?_)
      refine j_iload_n (pc := 25) dX5_keepIfBetter_25 rfl rfl ?_
      refine j_aload_n (pc := 26) dX5_keepIfBetter_26 rfl rfl ?_
      refine j_getI (pc := 27) fl_X5_45 dX5_keepIfBetter_27 (a_60 hX) rfl ?_
      refine j_icmpR_ne (pc := 30) (tgt := 81) ⟨by omega, by omega⟩ ⟨by omega, by omega⟩ dX5_keepIfBetter_30 rfl (fun h15 => ?_) (fun h15 => ?_)
      · refine j_iload_n (pc := 81) dX5_keepIfBetter_81 rfl rfl ?_
        refine j_ifR_ne (pc := 82) (tgt := 86) ⟨by omega, by omega⟩ dX5_keepIfBetter_82 rfl (fun h16 => by exfalso; omega) (fun h16 => ?_)
        exact j_vret (pc := 85) ⟨rfl, rfl⟩ dX5_keepIfBetter_85 rfl ⟨rfl, hI, (tw_F_rf), trivial⟩
      · refine j_aload_n (pc := 33) dX5_keepIfBetter_33 rfl rfl ?_
        refine j_getR (pc := 34) (r := 61) fl_X5_12 dX5_keepIfBetter_34 (a_60 hX) rfl ?_
        refine j_getI (pc := 37) fl_X5_69 dX5_keepIfBetter_37 (a_61 hX) rfl ?_
        have f17 : (0 : Int) ≤ σ 61 0 ∧ σ 61 0 ≤ 10 := hI 61 0
        refine j_aload_n (pc := 40) dX5_keepIfBetter_40 rfl rfl ?_
        refine j_getR (pc := 41) (r := 67) fl_X5_39 dX5_keepIfBetter_41 (a_60 hX) rfl ?_
        refine j_getI (pc := 44) fl_X5_69 dX5_keepIfBetter_44 (a_67 hX) rfl ?_
        have f18 : (0 : Int) ≤ σ 67 0 ∧ σ 67 0 ≤ 10 := hI 67 0
        refine j_icmpR_lt (pc := 47) (tgt := 75) ⟨by omega, by omega⟩ ⟨by omega, by omega⟩ dX5_keepIfBetter_47 rfl (fun h19 => ?_) (fun h19 => ?_)
        · refine j_iconst (pc := 75) dX5_keepIfBetter_75 ?_
          refine j_goto (pc := 76) (tgt := 80) dX5_keepIfBetter_76 rfl ?_
          refine j_istore_n (pc := 80) (i := 3) (ls' := [(0, vR 60), (1, vI b), (2, vI k), (3, vI 1)]) [1, 2, 3, 0] dX5_keepIfBetter_80 rfl (Nat.le_of_ble_eq_true rfl) rfl rfl ?_
          refine j_iload_n (pc := 81) dX5_keepIfBetter_81 rfl rfl ?_
          refine j_ifR_ne (pc := 82) (tgt := 86) ⟨by omega, by omega⟩ dX5_keepIfBetter_82 rfl (fun h20 => ?_) (fun h20 => by exfalso; omega)
          refine j_aload_n (pc := 86) dX5_keepIfBetter_86 rfl rfl ?_
          refine j_iconst (pc := 87) dX5_keepIfBetter_87 ?_
          refine j_putZ (pc := 88) (by omega) fl_X5_42 fp_X5_10 dX5_keepIfBetter_88 (a_60 hX) rfl (j_nm (fun σ21 (eσ21 : σ21 = tw_up σ 60 10 1) => ?_))
          have hIσ21 : tw_I σ21 := tw_I_up hI eσ21 (show (0 : Int) ≤ 1 ∧ 1 ≤ 1 from ⟨by omega, by omega⟩)
          have hFσ21 : tw_F (fun c j => (56 ≤ c ∧ c < 58) ∨ (60 ≤ c ∧ c < 71)) σ σ21 := tw_F_up (tw_F_rf) eσ21 (show (56 ≤ 60 ∧ 60 < 58) ∨ (60 ≤ 60 ∧ 60 < 71) from by omega)
          refine j_aload_n (pc := 91) dX5_keepIfBetter_91 rfl rfl ?_
          refine j_iload_n (pc := 92) dX5_keepIfBetter_92 rfl rfl ?_
          refine j_putI (pc := 93) fl_X5_45 fp_X5_11 dX5_keepIfBetter_93 (a_60 hX) rfl (j_nm (fun σ22 (eσ22 : σ22 = tw_up σ21 60 11 k) => ?_))
          have hIσ22 : tw_I σ22 := tw_I_up hIσ21 eσ22 (show (-2147483648 : Int) ≤ k ∧ k ≤ 2147483647 from ⟨by omega, by omega⟩)
          have hFσ22 : tw_F (fun c j => (56 ≤ c ∧ c < 58) ∨ (60 ≤ c ∧ c < 71)) σ σ22 := tw_F_up hFσ21 eσ22 (show (56 ≤ 60 ∧ 60 < 58) ∨ (60 ≤ 60 ∧ 60 < 71) from by omega)
          refine j_aload_n (pc := 96) dX5_keepIfBetter_96 rfl rfl ?_
          refine j_iload_n (pc := 97) dX5_keepIfBetter_97 rfl rfl ?_
          refine j_putI (pc := 98) fl_X5_36 fp_X5_8 dX5_keepIfBetter_98 (a_60 hX) rfl (j_nm (fun σ23 (eσ23 : σ23 = tw_up σ22 60 8 b) => ?_))
          have hIσ23 : tw_I σ23 := tw_I_up hIσ22 eσ23 (show (-2147483648 : Int) ≤ b ∧ b ≤ 2147483647 from ⟨by omega, by omega⟩)
          have hFσ23 : tw_F (fun c j => (56 ≤ c ∧ c < 58) ∨ (60 ≤ c ∧ c < 71)) σ σ23 := tw_F_up hFσ22 eσ23 (show (56 ≤ 60 ∧ 60 < 58) ∨ (60 ≤ 60 ∧ 60 < 71) from by omega)
          refine j_aload_n (pc := 101) dX5_keepIfBetter_101 rfl rfl ?_
          refine j_getR (pc := 102) (r := 67) fl_X5_39 dX5_keepIfBetter_102 (a_60 hX) rfl ?_
          refine j_aload_n (pc := 105) dX5_keepIfBetter_105 rfl rfl ?_
          refine j_getR (pc := 106) (r := 61) fl_X5_12 dX5_keepIfBetter_106 (a_60 hX) rfl ?_
          refine j_callV (pc := 109) (As := [vR 61]) (st := []) (c_X7_copyOf 67 (s_Row_67 hX) 61 (s_Row_61 hX) σ23 hIσ23) mv_X5_120 rfl rfl rfl (a_67 hX) dX5_keepIfBetter_109 ⟨Nat.le_of_ble_eq_true rfl, Nat.le_of_ble_eq_true rfl⟩ ⟨Nat.le_refl _, Nat.le_refl _⟩ rfl (Nat.le_of_ble_eq_true rfl) rfl (fun z24 σ25 hz24 => ?_)
          obtain ⟨rfl, hIσ25, hGσ25, -⟩ := hz24
          have hFσ25 : tw_F (fun c j => (56 ≤ c ∧ c < 58) ∨ (60 ≤ c ∧ c < 71)) σ σ25 := tw_F_tr hFσ23 hGσ25 (fun c j q => (show (56 ≤ c ∧ c < 58) ∨ (60 ≤ c ∧ c < 71) from by replace q : (67 ≤ c ∧ c < 71) := q; omega))
          refine j_st (st' := []) rfl ?_
          exact j_vret (pc := 112) ⟨rfl, rfl⟩ dX5_keepIfBetter_112 rfl ⟨rfl, hIσ25, hFσ25, trivial⟩
        · refine j_aload_n (pc := 50) dX5_keepIfBetter_50 rfl rfl ?_
          refine j_getR (pc := 51) (r := 61) fl_X5_12 dX5_keepIfBetter_51 (a_60 hX) rfl ?_
          refine j_getI (pc := 54) fl_X5_69 dX5_keepIfBetter_54 (a_61 hX) rfl ?_
          refine j_aload_n (pc := 57) dX5_keepIfBetter_57 rfl rfl ?_
          refine j_getR (pc := 58) (r := 67) fl_X5_39 dX5_keepIfBetter_58 (a_60 hX) rfl ?_
          refine j_getI (pc := 61) fl_X5_69 dX5_keepIfBetter_61 (a_67 hX) rfl ?_
          refine j_icmpR_ne (pc := 64) (tgt := 79) ⟨by omega, by omega⟩ ⟨by omega, by omega⟩ dX5_keepIfBetter_64 rfl (fun h28 => ?_) (fun h28 => ?_)
          · refine j_iconst (pc := 79) dX5_keepIfBetter_79 ?_
            refine j_istore_n (pc := 80) (i := 3) (ls' := [(0, vR 60), (1, vI b), (2, vI k), (3, vI 0)]) [1, 2, 3, 0] dX5_keepIfBetter_80 rfl (Nat.le_of_ble_eq_true rfl) rfl rfl ?_
            refine j_iload_n (pc := 81) dX5_keepIfBetter_81 rfl rfl ?_
            refine j_ifR_ne (pc := 82) (tgt := 86) ⟨by omega, by omega⟩ dX5_keepIfBetter_82 rfl (fun h29 => by exfalso; omega) (fun h29 => ?_)
            exact j_vret (pc := 85) ⟨rfl, rfl⟩ dX5_keepIfBetter_85 rfl ⟨rfl, hI, (tw_F_rf), trivial⟩
          · refine j_iload_n (pc := 67) dX5_keepIfBetter_67 rfl rfl ?_
            refine j_aload_n (pc := 68) dX5_keepIfBetter_68 rfl rfl ?_
            refine j_getI (pc := 69) fl_X5_36 dX5_keepIfBetter_69 (a_60 hX) rfl ?_
            have f30 : (-2147483648 : Int) ≤ σ 60 8 ∧ σ 60 8 ≤ 2147483647 := hI 60 8
            refine j_icmpR_ge (pc := 72) (tgt := 79) ⟨by omega, by omega⟩ ⟨by omega, by omega⟩ dX5_keepIfBetter_72 rfl (fun h31 => ?_) (fun h31 => ?_)
            · refine j_iconst (pc := 79) dX5_keepIfBetter_79 ?_
              refine j_istore_n (pc := 80) (i := 3) (ls' := [(0, vR 60), (1, vI b), (2, vI k), (3, vI 0)]) [1, 2, 3, 0] dX5_keepIfBetter_80 rfl (Nat.le_of_ble_eq_true rfl) rfl rfl ?_
              refine j_iload_n (pc := 81) dX5_keepIfBetter_81 rfl rfl ?_
              refine j_ifR_ne (pc := 82) (tgt := 86) ⟨by omega, by omega⟩ dX5_keepIfBetter_82 rfl (fun h32 => by exfalso; omega) (fun h32 => ?_)
              exact j_vret (pc := 85) ⟨rfl, rfl⟩ dX5_keepIfBetter_85 rfl ⟨rfl, hI, (tw_F_rf), trivial⟩
            · refine j_iconst (pc := 75) dX5_keepIfBetter_75 ?_
              refine j_goto (pc := 76) (tgt := 80) dX5_keepIfBetter_76 rfl ?_
              refine j_istore_n (pc := 80) (i := 3) (ls' := [(0, vR 60), (1, vI b), (2, vI k), (3, vI 1)]) [1, 2, 3, 0] dX5_keepIfBetter_80 rfl (Nat.le_of_ble_eq_true rfl) rfl rfl ?_
              refine j_iload_n (pc := 81) dX5_keepIfBetter_81 rfl rfl ?_
              refine j_ifR_ne (pc := 82) (tgt := 86) ⟨by omega, by omega⟩ dX5_keepIfBetter_82 rfl (fun h33 => ?_) (fun h33 => by exfalso; omega)
              refine j_aload_n (pc := 86) dX5_keepIfBetter_86 rfl rfl ?_
              refine j_iconst (pc := 87) dX5_keepIfBetter_87 ?_
              refine j_putZ (pc := 88) (by omega) fl_X5_42 fp_X5_10 dX5_keepIfBetter_88 (a_60 hX) rfl (j_nm (fun σ34 (eσ34 : σ34 = tw_up σ 60 10 1) => ?_))
              have hIσ34 : tw_I σ34 := tw_I_up hI eσ34 (show (0 : Int) ≤ 1 ∧ 1 ≤ 1 from ⟨by omega, by omega⟩)
              have hFσ34 : tw_F (fun c j => (56 ≤ c ∧ c < 58) ∨ (60 ≤ c ∧ c < 71)) σ σ34 := tw_F_up (tw_F_rf) eσ34 (show (56 ≤ 60 ∧ 60 < 58) ∨ (60 ≤ 60 ∧ 60 < 71) from by omega)
              refine j_aload_n (pc := 91) dX5_keepIfBetter_91 rfl rfl ?_
              refine j_iload_n (pc := 92) dX5_keepIfBetter_92 rfl rfl ?_
              refine j_putI (pc := 93) fl_X5_45 fp_X5_11 dX5_keepIfBetter_93 (a_60 hX) rfl (j_nm (fun σ35 (eσ35 : σ35 = tw_up σ34 60 11 k) => ?_))
              have hIσ35 : tw_I σ35 := tw_I_up hIσ34 eσ35 (show (-2147483648 : Int) ≤ k ∧ k ≤ 2147483647 from ⟨by omega, by omega⟩)
              have hFσ35 : tw_F (fun c j => (56 ≤ c ∧ c < 58) ∨ (60 ≤ c ∧ c < 71)) σ σ35 := tw_F_up hFσ34 eσ35 (show (56 ≤ 60 ∧ 60 < 58) ∨ (60 ≤ 60 ∧ 60 < 71) from by omega)
              refine j_aload_n (pc := 96) dX5_keepIfBetter_96 rfl rfl ?_
              refine j_iload_n (pc := 97) dX5_keepIfBetter_97 rfl rfl ?_
              refine j_putI (pc := 98) fl_X5_36 fp_X5_8 dX5_keepIfBetter_98 (a_60 hX) rfl (j_nm (fun σ36 (eσ36 : σ36 = tw_up σ35 60 8 b) => ?_))
              have hIσ36 : tw_I σ36 := tw_I_up hIσ35 eσ36 (show (-2147483648 : Int) ≤ b ∧ b ≤ 2147483647 from ⟨by omega, by omega⟩)
              have hFσ36 : tw_F (fun c j => (56 ≤ c ∧ c < 58) ∨ (60 ≤ c ∧ c < 71)) σ σ36 := tw_F_up hFσ35 eσ36 (show (56 ≤ 60 ∧ 60 < 58) ∨ (60 ≤ 60 ∧ 60 < 71) from by omega)
              refine j_aload_n (pc := 101) dX5_keepIfBetter_101 rfl rfl ?_
              refine j_getR (pc := 102) (r := 67) fl_X5_39 dX5_keepIfBetter_102 (a_60 hX) rfl ?_
              refine j_aload_n (pc := 105) dX5_keepIfBetter_105 rfl rfl ?_
              refine j_getR (pc := 106) (r := 61) fl_X5_12 dX5_keepIfBetter_106 (a_60 hX) rfl ?_
              refine j_callV (pc := 109) (As := [vR 61]) (st := []) (c_X7_copyOf 67 (s_Row_67 hX) 61 (s_Row_61 hX) σ36 hIσ36) mv_X5_120 rfl rfl rfl (a_67 hX) dX5_keepIfBetter_109 ⟨Nat.le_of_ble_eq_true rfl, Nat.le_of_ble_eq_true rfl⟩ ⟨Nat.le_refl _, Nat.le_refl _⟩ rfl (Nat.le_of_ble_eq_true rfl) rfl (fun z37 σ38 hz37 => ?_)
              obtain ⟨rfl, hIσ38, hGσ38, -⟩ := hz37
              have hFσ38 : tw_F (fun c j => (56 ≤ c ∧ c < 58) ∨ (60 ≤ c ∧ c < 71)) σ σ38 := tw_F_tr hFσ36 hGσ38 (fun c j q => (show (56 ≤ c ∧ c < 58) ∨ (60 ≤ c ∧ c < 71) from by replace q : (67 ≤ c ∧ c < 71) := q; omega))
              refine j_st (st' := []) rfl ?_
              exact j_vret (pc := 112) ⟨rfl, rfl⟩ dX5_keepIfBetter_112 rfl ⟨rfl, hIσ38, hFσ38, trivial⟩
    · refine j_iconst (pc := 15) dX5_keepIfBetter_15 ?_
      refine j_goto (pc := 16) (tgt := 20) dX5_keepIfBetter_16 rfl ?_
      refine j_istore_n (pc := 20) (i := 3) (ls' := [(0, vR 60), (1, vI b), (2, vI k), (3, vI 1)]) [1, 2, 3, 0] dX5_keepIfBetter_20 rfl (Nat.le_of_ble_eq_true rfl) rfl rfl ?_
      refine j_iload_n (pc := 21) dX5_keepIfBetter_21 rfl rfl ?_
      refine j_ifR_ne (pc := 22) (tgt := 81) ⟨by omega, by omega⟩ dX5_keepIfBetter_22 rfl (fun h41 => ?_) (fun h41 => by exfalso; omega)
      refine j_iload_n (pc := 81) dX5_keepIfBetter_81 rfl rfl ?_
      refine j_ifR_ne (pc := 82) (tgt := 86) ⟨by omega, by omega⟩ dX5_keepIfBetter_82 rfl (fun h42 => ?_) (fun h42 => by exfalso; omega)
      refine j_aload_n (pc := 86) dX5_keepIfBetter_86 rfl rfl ?_
      refine j_iconst (pc := 87) dX5_keepIfBetter_87 ?_
      refine j_putZ (pc := 88) (by omega) fl_X5_42 fp_X5_10 dX5_keepIfBetter_88 (a_60 hX) rfl (j_nm (fun σ43 (eσ43 : σ43 = tw_up σ 60 10 1) => ?_))
      have hIσ43 : tw_I σ43 := tw_I_up hI eσ43 (show (0 : Int) ≤ 1 ∧ 1 ≤ 1 from ⟨by omega, by omega⟩)
      have hFσ43 : tw_F (fun c j => (56 ≤ c ∧ c < 58) ∨ (60 ≤ c ∧ c < 71)) σ σ43 := tw_F_up (tw_F_rf) eσ43 (show (56 ≤ 60 ∧ 60 < 58) ∨ (60 ≤ 60 ∧ 60 < 71) from by omega)
      refine j_aload_n (pc := 91) dX5_keepIfBetter_91 rfl rfl ?_
      refine j_iload_n (pc := 92) dX5_keepIfBetter_92 rfl rfl ?_
      refine j_putI (pc := 93) fl_X5_45 fp_X5_11 dX5_keepIfBetter_93 (a_60 hX) rfl (j_nm (fun σ44 (eσ44 : σ44 = tw_up σ43 60 11 k) => ?_))
      have hIσ44 : tw_I σ44 := tw_I_up hIσ43 eσ44 (show (-2147483648 : Int) ≤ k ∧ k ≤ 2147483647 from ⟨by omega, by omega⟩)
      have hFσ44 : tw_F (fun c j => (56 ≤ c ∧ c < 58) ∨ (60 ≤ c ∧ c < 71)) σ σ44 := tw_F_up hFσ43 eσ44 (show (56 ≤ 60 ∧ 60 < 58) ∨ (60 ≤ 60 ∧ 60 < 71) from by omega)
      refine j_aload_n (pc := 96) dX5_keepIfBetter_96 rfl rfl ?_
      refine j_iload_n (pc := 97) dX5_keepIfBetter_97 rfl rfl ?_
      refine j_putI (pc := 98) fl_X5_36 fp_X5_8 dX5_keepIfBetter_98 (a_60 hX) rfl (j_nm (fun σ45 (eσ45 : σ45 = tw_up σ44 60 8 b) => ?_))
      have hIσ45 : tw_I σ45 := tw_I_up hIσ44 eσ45 (show (-2147483648 : Int) ≤ b ∧ b ≤ 2147483647 from ⟨by omega, by omega⟩)
      have hFσ45 : tw_F (fun c j => (56 ≤ c ∧ c < 58) ∨ (60 ≤ c ∧ c < 71)) σ σ45 := tw_F_up hFσ44 eσ45 (show (56 ≤ 60 ∧ 60 < 58) ∨ (60 ≤ 60 ∧ 60 < 71) from by omega)
      refine j_aload_n (pc := 101) dX5_keepIfBetter_101 rfl rfl ?_
      refine j_getR (pc := 102) (r := 67) fl_X5_39 dX5_keepIfBetter_102 (a_60 hX) rfl ?_
      refine j_aload_n (pc := 105) dX5_keepIfBetter_105 rfl rfl ?_
      refine j_getR (pc := 106) (r := 61) fl_X5_12 dX5_keepIfBetter_106 (a_60 hX) rfl ?_
      refine j_callV (pc := 109) (As := [vR 61]) (st := []) (c_X7_copyOf 67 (s_Row_67 hX) 61 (s_Row_61 hX) σ45 hIσ45) mv_X5_120 rfl rfl rfl (a_67 hX) dX5_keepIfBetter_109 ⟨Nat.le_of_ble_eq_true rfl, Nat.le_of_ble_eq_true rfl⟩ ⟨Nat.le_refl _, Nat.le_refl _⟩ rfl (Nat.le_of_ble_eq_true rfl) rfl (fun z46 σ47 hz46 => ?_)
      obtain ⟨rfl, hIσ47, hGσ47, -⟩ := hz46
      have hFσ47 : tw_F (fun c j => (56 ≤ c ∧ c < 58) ∨ (60 ≤ c ∧ c < 71)) σ σ47 := tw_F_tr hFσ45 hGσ47 (fun c j q => (show (56 ≤ c ∧ c < 58) ∨ (60 ≤ c ∧ c < 71) from by replace q : (67 ≤ c ∧ c < 71) := q; omega))
      refine j_st (st' := []) rfl ?_
      exact j_vret (pc := 112) ⟨rfl, rfl⟩ dX5_keepIfBetter_112 rfl ⟨rfl, hIσ47, hFσ47, trivial⟩
abbrev q_X5_choose (c : Int) (b : Int) (e : Int) (k : Int) (σ : tw_M) : Option tw_V → tw_M → Prop := fun z τ => z = none ∧ tw_I τ ∧ tw_F (fun c j => (56 ≤ c ∧ c < 58) ∨ (60 ≤ c ∧ c < 71)) σ τ ∧ True
abbrev q_X5_goOn (c : Int) (b : Int) (e : Int) (k : Int) (σ : tw_M) : Option tw_V → tw_M → Prop := fun z τ => z = none ∧ tw_I τ ∧ tw_F (fun c j => (56 ≤ c ∧ c < 58) ∨ (60 ≤ c ∧ c < 71)) σ τ ∧ True
set_option maxHeartbeats 4000000 in
set_option maxRecDepth 100000 in
theorem c_X5_goOn_step {G : tw_G} (hX : tw_isX G) (N : Nat) (hch : ∀ (c : Int) (hc : 0 ≤ c ∧ c ≤ 11) (b : Int) (hb : -2147483648 ≤ b ∧ b ≤ 2147483647) (e : Int) (he : -2147483648 ≤ e ∧ e ≤ 2147483647) (k : Int) (hk : -2147483648 ≤ k ∧ k ≤ 2147483647) (σ : tw_M) (hI : tw_I σ) (hq0 : 11 - c ≤ (N : Int)), tw_C G yX5_choose cX5_choose 9 none (20 + 2 * N + 1) [vR 60, vI c, vI b, vI e, vI k] σ (q_X5_choose c b e k σ)) (c : Int) (hc : 0 ≤ c ∧ c ≤ 9) (b : Int) (hb : -2147483648 ≤ b ∧ b ≤ 2147483647) (e : Int) (he : -2147483648 ≤ e ∧ e ≤ 2147483647) (k : Int) (hk : -2147483648 ≤ k ∧ k ≤ 2147483647) (σ : tw_M) (hI : tw_I σ) (hq0 : 11 - c ≤ (N : Int) + 1) : tw_C G yX5_goOn cX5_goOn 7 none (20 + 2 * (N + 1)) [vR 60, vI c, vI b, vI e, vI k] σ (q_X5_goOn c b e k σ) := by
  refine tw_met [(0, vR 60), (1, vI c), (2, vI b), (3, vI e), (4, vI k)] (by decide +kernel) rfl (Nat.le_of_ble_eq_true rfl) ?_
  refine j_aload_n (pc := 0) dX5_goOn_0 rfl rfl ?_
  refine j_getR (pc := 1) (r := 1) fl_X5_54 dX5_goOn_1 (a_60 hX) rfl ?_
  refine j_getR (pc := 4) (r := 5) fl_X5_81 dX5_goOn_4 (a_1 hX) rfl ?_
  refine j_aload_n (pc := 7) dX5_goOn_7 rfl rfl ?_
  refine j_getR (pc := 8) (r := 66) fl_X5_22 dX5_goOn_8 (a_60 hX) rfl ?_
  refine j_iload_n (pc := 11) dX5_goOn_11 rfl rfl ?_
  refine j_iald (pc := 12) dX5_goOn_12 (a_66 hX) (by omega) (by omega) (by decide) ?_
  have f1 : (0 : Int) ≤ σ 66 (c.toNat) ∧ σ 66 (c.toNat) ≤ 40 := hI 66 (c.toNat)
  refine j_iald (pc := 13) dX5_goOn_13 (a_5 hX) (by omega) (by omega) (by decide) ?_
  have f2 : (0 : Int) ≤ σ 5 ((σ 66 (c.toNat)).toNat) ∧ σ 5 ((σ 66 (c.toNat)).toNat) ≤ 10 := hI 5 ((σ 66 (c.toNat)).toNat)
  refine j_istore (pc := 14) (i := 5) (ls' := [(0, vR 60), (1, vI c), (2, vI b), (3, vI e), (4, vI k), (5, vI (σ 5 ((σ 66 (c.toNat)).toNat)))]) [1, 2, 3, 4, 5, 0] dX5_goOn_14 (Nat.le_of_ble_eq_true rfl) rfl rfl ?_
  refine j_aload_n (pc := 16) dX5_goOn_16 rfl rfl ?_
  refine j_getR (pc := 17) (r := 65) fl_X5_18 dX5_goOn_17 (a_60 hX) rfl ?_
  refine j_iload (pc := 20) dX5_goOn_20 rfl ?_
  refine j_iald (pc := 22) dX5_goOn_22 (a_65 hX) (by omega) (by omega) (by decide) ?_
  have f3 : (-2147483648 : Int) ≤ σ 65 ((σ 5 ((σ 66 (c.toNat)).toNat)).toNat) ∧ σ 65 ((σ 5 ((σ 66 (c.toNat)).toNat)).toNat) ≤ 2147483647 := hI 65 ((σ 5 ((σ 66 (c.toNat)).toNat)).toNat)
  refine j_ifR_le (pc := 23) (tgt := 89) ⟨by omega, by omega⟩ dX5_goOn_23 rfl (fun h4 => ?_) (fun h4 => ?_)
  · refine j_aload_n (pc := 89) dX5_goOn_89 rfl rfl ?_
    refine j_iload_n (pc := 90) dX5_goOn_90 rfl rfl ?_
    refine j_iconst (pc := 91) dX5_goOn_91 ?_
    refine j_iadd (pc := 92) dX5_goOn_92 ?_
    refine j_iload_n (pc := 93) dX5_goOn_93 rfl rfl ?_
    refine j_iload_n (pc := 94) dX5_goOn_94 rfl rfl ?_
    refine j_iload (pc := 95) dX5_goOn_95 rfl ?_
    refine j_callV (pc := 97) (As := [vI (c + 1), vI b, vI e, vI k]) (st := []) (hch (c + 1) ⟨by omega, by omega⟩ b ⟨by omega, by omega⟩ e ⟨by omega, by omega⟩ k ⟨by omega, by omega⟩ σ hI (by omega)) mv_X5_65 rfl rfl rfl (a_60 hX) dX5_goOn_97 ⟨(show (20 + 2 * N + 1) + 1 ≤ ((20 + 2 * (N + 1))) from by omega), (show 8 + (9 + 11) + 60 * (20 + 2 * N + 1) ≤ 60 * ((20 + 2 * (N + 1))) from by omega)⟩ ⟨Nat.le_refl _, Nat.le_refl _⟩ rfl (Nat.le_of_ble_eq_true rfl) rfl (fun z5 σ6 hz5 => ?_)
    obtain ⟨rfl, hIσ6, hGσ6, -⟩ := hz5
    have hFσ6 : tw_F (fun c j => (56 ≤ c ∧ c < 58) ∨ (60 ≤ c ∧ c < 71)) σ σ6 := tw_F_tr (tw_F_rf) hGσ6 (fun c j q => (show (56 ≤ c ∧ c < 58) ∨ (60 ≤ c ∧ c < 71) from by replace q : (56 ≤ c ∧ c < 58) ∨ (60 ≤ c ∧ c < 71) := q; omega))
    refine j_st (st' := []) rfl ?_
    exact j_vret (pc := 100) ⟨rfl, rfl⟩ dX5_goOn_100 rfl ⟨rfl, hIσ6, hFσ6, trivial⟩
  · refine j_aload_n (pc := 26) dX5_goOn_26 rfl rfl ?_
    refine j_getR (pc := 27) (r := 65) fl_X5_18 dX5_goOn_27 (a_60 hX) rfl ?_
    refine j_iload (pc := 30) dX5_goOn_30 rfl ?_
    refine j_dup2 (pc := 32) dX5_goOn_32 rfl rfl ?_
    refine j_iald (pc := 33) dX5_goOn_33 (a_65 hX) (by omega) (by omega) (by decide) ?_
    refine j_iconst (pc := 34) dX5_goOn_34 ?_
    refine j_isub (pc := 35) dX5_goOn_35 ?_
    refine j_iast (pc := 36) dX5_goOn_36 (a_65 hX) (by omega) (by omega) (by decide) (j_nm (fun σ9 (eσ9 : σ9 = tw_up σ 65 ((σ 5 ((σ 66 (c.toNat)).toNat)).toNat) ((σ 65 ((σ 5 ((σ 66 (c.toNat)).toNat)).toNat)) - 1)) => ?_))
    have hIσ9 : tw_I σ9 := tw_I_up hI eσ9 (show (-2147483648 : Int) ≤ (σ 65 ((σ 5 ((σ 66 (c.toNat)).toNat)).toNat)) - 1 ∧ (σ 65 ((σ 5 ((σ 66 (c.toNat)).toNat)).toNat)) - 1 ≤ 2147483647 from ⟨by omega, by omega⟩)
    have hFσ9 : tw_F (fun c j => (56 ≤ c ∧ c < 58) ∨ (60 ≤ c ∧ c < 71)) σ σ9 := tw_F_up (tw_F_rf) eσ9 (show (56 ≤ 65 ∧ 65 < 58) ∨ (60 ≤ 65 ∧ 65 < 71) from by omega)
    refine j_aload_n (pc := 37) dX5_goOn_37 rfl rfl ?_
    refine j_getR (pc := 38) (r := 61) fl_X5_12 dX5_goOn_38 (a_60 hX) rfl ?_
    refine j_aload_n (pc := 41) dX5_goOn_41 rfl rfl ?_
    refine j_getR (pc := 42) (r := 66) fl_X5_22 dX5_goOn_42 (a_60 hX) rfl ?_
    refine j_iload_n (pc := 45) dX5_goOn_45 rfl rfl ?_
    refine j_iald (pc := 46) dX5_goOn_46 (a_66 hX) (by omega) (by omega) (by decide) ?_
    refine j_topV (show σ9 66 (c.toNat) = σ 66 (c.toNat) from (tw_ne1 eσ9 (by omega))) ?_
    refine j_iload (pc := 47) dX5_goOn_47 rfl ?_
    refine j_callV (pc := 49) (As := [vI (σ 66 (c.toNat)), vI (σ 5 ((σ 66 (c.toNat)).toNat))]) (st := []) (c_X7_insert 61 (s_Row_61 hX) (σ 66 (c.toNat)) ⟨by omega, by omega⟩ (σ 5 ((σ 66 (c.toNat)).toNat)) ⟨by omega, by omega⟩ σ9 hIσ9) mv_X5_113 rfl rfl rfl (a_61 hX) dX5_goOn_49 ⟨(show (0) + 1 ≤ ((20 + 2 * (N + 1))) from by omega), (show 8 + (4 + 11) + 60 * (0) ≤ 60 * ((20 + 2 * (N + 1))) from by omega)⟩ ⟨Nat.le_refl _, Nat.le_refl _⟩ rfl (Nat.le_of_ble_eq_true rfl) rfl (fun z10 σ11 hz10 => ?_)
    obtain ⟨r13, rfl, hr13, hIσ11, hGσ11, -⟩ := hz10
    have hFσ11 : tw_F (fun c j => (56 ≤ c ∧ c < 58) ∨ (60 ≤ c ∧ c < 71)) σ σ11 := tw_F_tr hFσ9 hGσ11 (fun c j q => (show (56 ≤ c ∧ c < 58) ∨ (60 ≤ c ∧ c < 71) from by replace q : (61 ≤ c ∧ c < 65) := q; omega))
    refine j_st (st' := [vI r13]) rfl ?_
    refine j_istore (pc := 52) (i := 6) (ls' := [(0, vR 60), (1, vI c), (2, vI b), (3, vI e), (4, vI k), (5, vI (σ 5 ((σ 66 (c.toNat)).toNat))), (6, vI r13)]) [1, 2, 3, 4, 5, 6, 0] dX5_goOn_52 (Nat.le_of_ble_eq_true rfl) rfl rfl ?_
    refine j_aload_n (pc := 54) dX5_goOn_54 rfl rfl ?_
    refine j_iload_n (pc := 55) dX5_goOn_55 rfl rfl ?_
    refine j_iconst (pc := 56) dX5_goOn_56 ?_
    refine j_iadd (pc := 57) dX5_goOn_57 ?_
    refine j_iload_n (pc := 58) dX5_goOn_58 rfl rfl ?_
    refine j_iconst (pc := 59) dX5_goOn_59 ?_
    refine j_iload_n (pc := 60) dX5_goOn_60 rfl rfl ?_
    refine j_ishl (pc := 61) dX5_goOn_61 (fun z14 ez14 => ?_)
    have hz14 : (-2147483648 : Int) ≤ z14 ∧ z14 ≤ 2147483647 := by rw [ez14]; exact shl_in _ _
    refine j_ior (pc := 62) dX5_goOn_62 (fun z15 ez15 => ?_)
    have hz15 : (-2147483648 : Int) ≤ z15 ∧ z15 ≤ 2147483647 := by rw [ez15]; exact or_in _ _
    refine j_iload_n (pc := 63) dX5_goOn_63 rfl rfl ?_
    refine j_iload (pc := 64) dX5_goOn_64 rfl ?_
    refine j_callV (pc := 66) (As := [vI (c + 1), vI z15, vI e, vI k]) (st := []) (hch (c + 1) ⟨by omega, by omega⟩ z15 ⟨by omega, by omega⟩ e ⟨by omega, by omega⟩ k ⟨by omega, by omega⟩ σ11 hIσ11 (by omega)) mv_X5_65 rfl rfl rfl (a_60 hX) dX5_goOn_66 ⟨(show (20 + 2 * N + 1) + 1 ≤ ((20 + 2 * (N + 1))) from by omega), (show 8 + (9 + 11) + 60 * (20 + 2 * N + 1) ≤ 60 * ((20 + 2 * (N + 1))) from by omega)⟩ ⟨Nat.le_refl _, Nat.le_refl _⟩ rfl (Nat.le_of_ble_eq_true rfl) rfl (fun z16 σ17 hz16 => ?_)
    obtain ⟨rfl, hIσ17, hGσ17, -⟩ := hz16
    have hFσ17 : tw_F (fun c j => (56 ≤ c ∧ c < 58) ∨ (60 ≤ c ∧ c < 71)) σ σ17 := tw_F_tr hFσ11 hGσ17 (fun c j q => (show (56 ≤ c ∧ c < 58) ∨ (60 ≤ c ∧ c < 71) from by replace q : (56 ≤ c ∧ c < 58) ∨ (60 ≤ c ∧ c < 71) := q; omega))
    refine j_st (st' := []) rfl ?_
    refine j_aload_n (pc := 69) dX5_goOn_69 rfl rfl ?_
    refine j_getR (pc := 70) (r := 61) fl_X5_12 dX5_goOn_70 (a_60 hX) rfl ?_
    refine j_iload (pc := 73) dX5_goOn_73 rfl ?_
    refine j_callV (pc := 75) (As := [vI r13]) (st := []) (c_X7_remove 61 (s_Row_61 hX) r13 ⟨by omega, by omega⟩ σ17 hIσ17) mv_X5_117 rfl rfl rfl (a_61 hX) dX5_goOn_75 ⟨(show (0) + 1 ≤ ((20 + 2 * (N + 1))) from by omega), (show 8 + (3 + 11) + 60 * (0) ≤ 60 * ((20 + 2 * (N + 1))) from by omega)⟩ ⟨Nat.le_refl _, Nat.le_refl _⟩ rfl (Nat.le_of_ble_eq_true rfl) rfl (fun z20 σ21 hz20 => ?_)
    obtain ⟨rfl, hIσ21, hGσ21, -⟩ := hz20
    have hFσ21 : tw_F (fun c j => (56 ≤ c ∧ c < 58) ∨ (60 ≤ c ∧ c < 71)) σ σ21 := tw_F_tr hFσ17 hGσ21 (fun c j q => (show (56 ≤ c ∧ c < 58) ∨ (60 ≤ c ∧ c < 71) from by replace q : (61 ≤ c ∧ c < 65) := q; omega))
    refine j_st (st' := []) rfl ?_
    refine j_aload_n (pc := 78) dX5_goOn_78 rfl rfl ?_
    refine j_getR (pc := 79) (r := 65) fl_X5_18 dX5_goOn_79 (a_60 hX) rfl ?_
    refine j_iload (pc := 82) dX5_goOn_82 rfl ?_
    refine j_dup2 (pc := 84) dX5_goOn_84 rfl rfl ?_
    refine j_iald (pc := 85) dX5_goOn_85 (a_65 hX) (by omega) (by omega) (by decide) ?_
    refine j_topV (show σ21 65 ((σ 5 ((σ 66 (c.toNat)).toNat)).toNat) = σ17 65 ((σ 5 ((σ 66 (c.toNat)).toNat)).toNat) from (hGσ21 65 ((σ 5 ((σ 66 (c.toNat)).toNat)).toNat) (show ¬ ((61 ≤ 65 ∧ 65 < 65)) from by omega))) ?_
    have f24 : (-2147483648 : Int) ≤ σ17 65 ((σ 5 ((σ 66 (c.toNat)).toNat)).toNat) ∧ σ17 65 ((σ 5 ((σ 66 (c.toNat)).toNat)).toNat) ≤ 2147483647 := hIσ17 65 ((σ 5 ((σ 66 (c.toNat)).toNat)).toNat)
    refine j_iconst (pc := 86) dX5_goOn_86 ?_
    refine j_iadd (pc := 87) dX5_goOn_87 ?_
    refine j_top (fun z25 ez25 hz25 => ?_)
    refine j_iast (pc := 88) dX5_goOn_88 (a_65 hX) (by omega) (by omega) (by decide) (j_nm (fun σ26 (eσ26 : σ26 = tw_up σ21 65 ((σ 5 ((σ 66 (c.toNat)).toNat)).toNat) z25) => ?_))
    have hIσ26 : tw_I σ26 := tw_I_up hIσ21 eσ26 (show (-2147483648 : Int) ≤ z25 ∧ z25 ≤ 2147483647 from ⟨by omega, by omega⟩)
    have hFσ26 : tw_F (fun c j => (56 ≤ c ∧ c < 58) ∨ (60 ≤ c ∧ c < 71)) σ σ26 := tw_F_up hFσ21 eσ26 (show (56 ≤ 65 ∧ 65 < 58) ∨ (60 ≤ 65 ∧ 65 < 71) from by omega)
    refine j_aload_n (pc := 89) dX5_goOn_89 rfl rfl ?_
    refine j_iload_n (pc := 90) dX5_goOn_90 rfl rfl ?_
    refine j_iconst (pc := 91) dX5_goOn_91 ?_
    refine j_iadd (pc := 92) dX5_goOn_92 ?_
    refine j_iload_n (pc := 93) dX5_goOn_93 rfl rfl ?_
    refine j_iload_n (pc := 94) dX5_goOn_94 rfl rfl ?_
    refine j_iload (pc := 95) dX5_goOn_95 rfl ?_
    refine j_callV (pc := 97) (As := [vI (c + 1), vI b, vI e, vI k]) (st := []) (hch (c + 1) ⟨by omega, by omega⟩ b ⟨by omega, by omega⟩ e ⟨by omega, by omega⟩ k ⟨by omega, by omega⟩ σ26 hIσ26 (by omega)) mv_X5_65 rfl rfl rfl (a_60 hX) dX5_goOn_97 ⟨(show (20 + 2 * N + 1) + 1 ≤ ((20 + 2 * (N + 1))) from by omega), (show 8 + (9 + 11) + 60 * (20 + 2 * N + 1) ≤ 60 * ((20 + 2 * (N + 1))) from by omega)⟩ ⟨Nat.le_refl _, Nat.le_refl _⟩ rfl (Nat.le_of_ble_eq_true rfl) rfl (fun z27 σ28 hz27 => ?_)
    obtain ⟨rfl, hIσ28, hGσ28, -⟩ := hz27
    have hFσ28 : tw_F (fun c j => (56 ≤ c ∧ c < 58) ∨ (60 ≤ c ∧ c < 71)) σ σ28 := tw_F_tr hFσ26 hGσ28 (fun c j q => (show (56 ≤ c ∧ c < 58) ∨ (60 ≤ c ∧ c < 71) from by replace q : (56 ≤ c ∧ c < 58) ∨ (60 ≤ c ∧ c < 71) := q; omega))
    refine j_st (st' := []) rfl ?_
    exact j_vret (pc := 100) ⟨rfl, rfl⟩ dX5_goOn_100 rfl ⟨rfl, hIσ28, hFσ28, trivial⟩
set_option maxHeartbeats 4000000 in
set_option maxRecDepth 100000 in
theorem c_X5_choose_step {G : tw_G} (hX : tw_isX G) (N : Nat) (hgo : ∀ (c : Int) (hc : 0 ≤ c ∧ c ≤ 9) (b : Int) (hb : -2147483648 ≤ b ∧ b ≤ 2147483647) (e : Int) (he : -2147483648 ≤ e ∧ e ≤ 2147483647) (k : Int) (hk : -2147483648 ≤ k ∧ k ≤ 2147483647) (σ : tw_M) (hI : tw_I σ) (hq0 : 11 - c ≤ (N : Int)), tw_C G yX5_goOn cX5_goOn 7 none (20 + 2 * N) [vR 60, vI c, vI b, vI e, vI k] σ (q_X5_goOn c b e k σ)) (c : Int) (hc : 0 ≤ c ∧ c ≤ 11) (b : Int) (hb : -2147483648 ≤ b ∧ b ≤ 2147483647) (e : Int) (he : -2147483648 ≤ e ∧ e ≤ 2147483647) (k : Int) (hk : -2147483648 ≤ k ∧ k ≤ 2147483647) (σ : tw_M) (hI : tw_I σ) (hq0 : 11 - c ≤ (N : Int)) : tw_C G yX5_choose cX5_choose 9 none (20 + 2 * N + 1) [vR 60, vI c, vI b, vI e, vI k] σ (q_X5_choose c b e k σ) := by
  refine tw_met [(0, vR 60), (1, vI c), (2, vI b), (3, vI e), (4, vI k)] (by decide +kernel) rfl (Nat.le_of_ble_eq_true rfl) ?_
  refine j_iload_n (pc := 0) dX5_choose_0 rfl rfl ?_
  refine j_aload_n (pc := 1) dX5_choose_1 rfl rfl ?_
  refine j_getI (pc := 2) fl_X5_25 dX5_choose_2 (a_60 hX) rfl ?_
  have f1 : (0 : Int) ≤ σ 60 5 ∧ σ 60 5 ≤ 10 := hI 60 5
  refine j_icmpR_le (pc := 5) (tgt := 9) ⟨by omega, by omega⟩ ⟨by omega, by omega⟩ dX5_choose_5 rfl (fun h2 => ?_) (fun h2 => ?_)
  · refine j_iload_n (pc := 9) dX5_choose_9 rfl rfl ?_
    refine j_ifR_ne (pc := 10) (tgt := 17) ⟨by omega, by omega⟩ dX5_choose_10 rfl (fun h3 => ?_) (fun h3 => ?_)
    · refine j_aload_n (pc := 17) dX5_choose_17 rfl rfl ?_
      refine j_getR (pc := 18) (r := 66) fl_X5_22 dX5_choose_18 (a_60 hX) rfl ?_
      refine j_iload_n (pc := 21) dX5_choose_21 rfl rfl ?_
      refine j_iconst (pc := 22) dX5_choose_22 ?_
      refine j_isub (pc := 23) dX5_choose_23 ?_
      refine j_iald (pc := 24) dX5_choose_24 (a_66 hX) (by omega) (by omega) (by decide) ?_
      have f4 : (0 : Int) ≤ σ 66 ((c - 1).toNat) ∧ σ 66 ((c - 1).toNat) ≤ 40 := hI 66 ((c - 1).toNat)
      refine j_istore (pc := 25) (i := 5) (ls' := [(0, vR 60), (1, vI c), (2, vI b), (3, vI e), (4, vI k), (5, vI (σ 66 ((c - 1).toNat)))]) [1, 2, 3, 4, 5, 0] dX5_choose_25 (Nat.le_of_ble_eq_true rfl) rfl rfl ?_
      refine j_iload_n (pc := 27) dX5_choose_27 rfl rfl ?_
      refine j_aload_n (pc := 28) dX5_choose_28 rfl rfl ?_
      refine j_getI (pc := 29) fl_X5_25 dX5_choose_29 (a_60 hX) rfl ?_
      refine j_icmpR_ne (pc := 32) (tgt := 45) ⟨by omega, by omega⟩ ⟨by omega, by omega⟩ dX5_choose_32 rfl (fun h5 => ?_) (fun h5 => ?_)
      · refine j_aload_n (pc := 45) dX5_choose_45 rfl rfl ?_
        refine j_getR (pc := 46) (r := 66) fl_X5_22 dX5_choose_46 (a_60 hX) rfl ?_
        refine j_iload_n (pc := 49) dX5_choose_49 rfl rfl ?_
        refine j_iald (pc := 50) dX5_choose_50 (a_66 hX) (by omega) (by omega) (by decide) ?_
        have f6 : (0 : Int) ≤ σ 66 (c.toNat) ∧ σ 66 (c.toNat) ≤ 40 := hI 66 (c.toNat)
        refine j_iconst (pc := 51) dX5_choose_51 ?_
        refine j_isub (pc := 52) dX5_choose_52 ?_
        refine j_istore (pc := 53) (i := 6) (ls' := [(0, vR 60), (1, vI c), (2, vI b), (3, vI e), (4, vI k), (5, vI (σ 66 ((c - 1).toNat))), (6, vI ((σ 66 (c.toNat)) - 1))]) [1, 2, 3, 4, 5, 6, 0] dX5_choose_53 (Nat.le_of_ble_eq_true rfl) rfl rfl ?_
        refine j_aload_n (pc := 55) dX5_choose_55 rfl rfl ?_
        refine j_getR (pc := 56) (r := 56) fl_X5_58 dX5_choose_56 (a_60 hX) rfl ?_
        refine j_iload_n (pc := 59) dX5_choose_59 rfl rfl ?_
        refine j_callV (pc := 60) (As := [vI e]) (st := []) (c_X4_begin hX e ⟨by omega, by omega⟩ σ hI) mv_X5_84 rfl rfl rfl (a_56 hX) dX5_choose_60 ⟨(show (0) + 1 ≤ ((20 + 2 * N + 1)) from by omega), (show 8 + (2 + 11) + 60 * (0) ≤ 60 * ((20 + 2 * N + 1)) from by omega)⟩ ⟨Nat.le_refl _, Nat.le_refl _⟩ rfl (Nat.le_of_ble_eq_true rfl) rfl (fun z7 σ8 hz7 => ?_)
        obtain ⟨rfl, hIσ8, hGσ8, -⟩ := hz7
        have hFσ8 : tw_F (fun c j => (56 ≤ c ∧ c < 58) ∨ (60 ≤ c ∧ c < 71)) σ σ8 := tw_F_tr (tw_F_rf) hGσ8 (fun c j q => (show (56 ≤ c ∧ c < 58) ∨ (60 ≤ c ∧ c < 71) from by replace q : (c = 56 ∧ (j = 2 ∨ j = 3)) := q; omega))
        refine j_st (st' := []) rfl ?_
        refine j_aload_n (pc := 63) dX5_choose_63 rfl rfl ?_
        refine j_getR (pc := 64) (r := 56) fl_X5_58 dX5_choose_64 (a_60 hX) rfl ?_
        refine j_aload_n (pc := 67) dX5_choose_67 rfl rfl ?_
        refine j_getR (pc := 68) (r := 61) fl_X5_12 dX5_choose_68 (a_60 hX) rfl ?_
        refine j_iload (pc := 71) dX5_choose_71 rfl ?_
        refine j_iload (pc := 73) dX5_choose_73 rfl ?_
        refine j_callV (pc := 75) (As := [vR 61, vI (σ 66 ((c - 1).toNat)), vI ((σ 66 (c.toNat)) - 1)]) (st := []) (c_X4_climb hX 61 (s_Row_61 hX) (σ 66 ((c - 1).toNat)) ⟨by omega, by omega⟩ ((σ 66 (c.toNat)) - 1) ⟨by omega, by omega⟩ σ8 hIσ8) mv_X5_89 rfl rfl rfl (a_56 hX) dX5_choose_75 ⟨(show (1) + 1 ≤ ((20 + 2 * N + 1)) from by omega), (show 8 + (6 + 11) + 60 * (1) ≤ 60 * ((20 + 2 * N + 1)) from by omega)⟩ ⟨Nat.le_refl _, Nat.le_refl _⟩ rfl (Nat.le_of_ble_eq_true rfl) rfl (fun z11 σ12 hz11 => ?_)
        obtain ⟨rfl, hIσ12, hGσ12, -⟩ := hz11
        have hFσ12 : tw_F (fun c j => (56 ≤ c ∧ c < 58) ∨ (60 ≤ c ∧ c < 71)) σ σ12 := tw_F_tr hFσ8 hGσ12 (fun c j q => (show (56 ≤ c ∧ c < 58) ∨ (60 ≤ c ∧ c < 71) from by replace q : (c = 56 ∧ (j = 2 ∨ j = 3)) := q; omega))
        refine j_st (st' := []) rfl ?_
        refine j_aload_n (pc := 78) dX5_choose_78 rfl rfl ?_
        refine j_getR (pc := 79) (r := 56) fl_X5_58 dX5_choose_79 (a_60 hX) rfl ?_
        refine j_getI (pc := 82) fl_X5_93 dX5_choose_82 (a_56 hX) rfl ?_
        have f15 : (-2147483648 : Int) ≤ σ12 56 3 ∧ σ12 56 3 ≤ 2147483647 := hIσ12 56 3
        refine j_ifR_le (pc := 85) (tgt := 89) ⟨by omega, by omega⟩ dX5_choose_85 rfl (fun h16 => ?_) (fun h16 => ?_)
        · refine j_aload_n (pc := 89) dX5_choose_89 rfl rfl ?_
          refine j_getR (pc := 90) (r := 56) fl_X5_58 dX5_choose_90 (a_60 hX) rfl ?_
          refine j_getI (pc := 93) fl_X5_96 dX5_choose_93 (a_56 hX) rfl ?_
          have f17 : (-2147483648 : Int) ≤ σ12 56 2 ∧ σ12 56 2 ≤ 2147483647 := hIσ12 56 2
          refine j_istore (pc := 96) (i := 7) (ls' := [(0, vR 60), (1, vI c), (2, vI b), (4, vI k), (5, vI (σ 66 ((c - 1).toNat))), (6, vI ((σ 66 (c.toNat)) - 1)), (7, vI (σ12 56 2))]) [1, 2, 3, 5, 6, 7, 0] dX5_choose_96 (Nat.le_of_ble_eq_true rfl) rfl rfl ?_
          refine j_iload (pc := 98) dX5_choose_98 rfl ?_
          refine j_aload_n (pc := 100) dX5_choose_100 rfl rfl ?_
          refine j_getR (pc := 101) (r := 56) fl_X5_58 dX5_choose_101 (a_60 hX) rfl ?_
          refine j_aload_n (pc := 104) dX5_choose_104 rfl rfl ?_
          refine j_getR (pc := 105) (r := 61) fl_X5_12 dX5_choose_105 (a_60 hX) rfl ?_
          refine j_aload_n (pc := 108) dX5_choose_108 rfl rfl ?_
          refine j_getR (pc := 109) (r := 61) fl_X5_12 dX5_choose_109 (a_60 hX) rfl ?_
          refine j_callV (pc := 112) (As := []) (st := [vR 61, vR 56, vI k]) (c_X7_all 61 (s_Row_61 hX) σ12 hIσ12) mv_X5_99 rfl rfl rfl (a_61 hX) dX5_choose_112 ⟨(show (0) + 1 ≤ ((20 + 2 * N + 1)) from by omega), (show 8 + (1 + 11) + 60 * (0) ≤ 60 * ((20 + 2 * N + 1)) from by omega)⟩ ⟨Nat.le_refl _, Nat.le_refl _⟩ rfl (Nat.le_of_ble_eq_true rfl) rfl (fun z18 σ19 hz18 => ?_)
          obtain ⟨r21, rfl, hr21, rfl, -⟩ := hz18
          refine j_st (st' := [vI r21, vR 61, vR 56, vI k]) rfl ?_
          refine j_iload (pc := 115) dX5_choose_115 rfl ?_
          refine j_iload (pc := 117) dX5_choose_117 rfl ?_
          refine j_callV (pc := 119) (As := [vR 61, vI r21, vI (σ 66 ((c - 1).toNat)), vI ((σ 66 (c.toNat)) - 1)]) (st := [vI k]) (c_X4_riskOver hX 61 (s_Row_61 hX) r21 ⟨by omega, by omega⟩ (σ 66 ((c - 1).toNat)) ⟨by omega, by omega⟩ ((σ 66 (c.toNat)) - 1) ⟨by omega, by omega⟩ σ12 hIσ12) mv_X5_102 rfl rfl rfl (a_56 hX) dX5_choose_119 ⟨(show (2) + 1 ≤ ((20 + 2 * N + 1)) from by omega), (show 8 + (7 + 11) + 60 * (2) ≤ 60 * ((20 + 2 * N + 1)) from by omega)⟩ ⟨Nat.le_refl _, Nat.le_refl _⟩ rfl (Nat.le_of_ble_eq_true rfl) rfl (fun z22 σ23 hz22 => ?_)
          obtain ⟨r25, rfl, hr25, hIσ23, hGσ23, -⟩ := hz22
          have hFσ23 : tw_F (fun c j => (56 ≤ c ∧ c < 58) ∨ (60 ≤ c ∧ c < 71)) σ σ23 := tw_F_tr hFσ12 hGσ23 (fun c j q => (show (56 ≤ c ∧ c < 58) ∨ (60 ≤ c ∧ c < 71) from by replace q : c = 57 := q; omega))
          refine j_st (st' := [vI r25, vI k]) rfl ?_
          refine j_iadd (pc := 122) dX5_choose_122 ?_
          refine j_top (fun z26 ez26 hz26 => ?_)
          refine j_istore (pc := 123) (i := 8) (ls' := [(0, vR 60), (1, vI c), (2, vI b), (7, vI (σ12 56 2)), (8, vI z26)]) [1, 2, 3, 7, 0] dX5_choose_123 (Nat.le_of_ble_eq_true rfl) rfl rfl ?_
          refine j_aload_n (pc := 125) dX5_choose_125 rfl rfl ?_
          refine j_getI (pc := 126) fl_X5_42 dX5_choose_126 (a_60 hX) rfl ?_
          refine j_topV (show σ23 60 10 = σ 60 10 from (((hGσ23 60 10 (show ¬ (60 = 57) from by omega))).trans (hGσ12 60 10 (show ¬ ((60 = 56 ∧ (10 = 2 ∨ 10 = 3))) from by omega))).trans (hGσ8 60 10 (show ¬ ((60 = 56 ∧ (10 = 2 ∨ 10 = 3))) from by omega))) ?_
          have f27 : (0 : Int) ≤ σ 60 10 ∧ σ 60 10 ≤ 1 := hI 60 10
          refine j_ifR_eq (pc := 129) (tgt := 142) ⟨by omega, by omega⟩ dX5_choose_129 rfl (fun h28 => ?_) (fun h28 => ?_)
          · refine j_iload_n (pc := 142) dX5_choose_142 rfl rfl ?_
            refine j_aload_n (pc := 143) dX5_choose_143 rfl rfl ?_
            refine j_getI (pc := 144) fl_X5_25 dX5_choose_144 (a_60 hX) rfl ?_
            refine j_topV (show σ23 60 5 = σ 60 5 from (((hGσ23 60 5 (show ¬ (60 = 57) from by omega))).trans (hGσ12 60 5 (show ¬ ((60 = 56 ∧ (5 = 2 ∨ 5 = 3))) from by omega))).trans (hGσ8 60 5 (show ¬ ((60 = 56 ∧ (5 = 2 ∨ 5 = 3))) from by omega))) ?_
            refine j_icmpR_ne (pc := 147) (tgt := 160) ⟨by omega, by omega⟩ ⟨by omega, by omega⟩ dX5_choose_147 rfl (fun h29 => ?_) (fun h29 => ?_)
            · refine j_aload_n (pc := 160) dX5_choose_160 rfl rfl ?_
              refine j_iload_n (pc := 161) dX5_choose_161 rfl rfl ?_
              refine j_iload_n (pc := 162) dX5_choose_162 rfl rfl ?_
              refine j_iload (pc := 163) dX5_choose_163 rfl ?_
              refine j_iload (pc := 165) dX5_choose_165 rfl ?_
              refine j_callV (pc := 167) (As := [vI c, vI b, vI (σ12 56 2), vI z26]) (st := []) (hgo c ⟨by omega, by omega⟩ b ⟨by omega, by omega⟩ (σ12 56 2) ⟨by omega, by omega⟩ z26 ⟨by omega, by omega⟩ σ23 hIσ23 (by omega)) mv_X5_110 rfl rfl rfl (a_60 hX) dX5_choose_167 ⟨(show (20 + 2 * N) + 1 ≤ ((20 + 2 * N + 1)) from by omega), (show 8 + (7 + 11) + 60 * (20 + 2 * N) ≤ 60 * ((20 + 2 * N + 1)) from by omega)⟩ ⟨Nat.le_refl _, Nat.le_refl _⟩ rfl (Nat.le_of_ble_eq_true rfl) rfl (fun z30 σ31 hz30 => ?_)
              obtain ⟨rfl, hIσ31, hGσ31, -⟩ := hz30
              have hFσ31 : tw_F (fun c j => (56 ≤ c ∧ c < 58) ∨ (60 ≤ c ∧ c < 71)) σ σ31 := tw_F_tr hFσ23 hGσ31 (fun c j q => (show (56 ≤ c ∧ c < 58) ∨ (60 ≤ c ∧ c < 71) from by replace q : (56 ≤ c ∧ c < 58) ∨ (60 ≤ c ∧ c < 71) := q; omega))
              refine j_st (st' := []) rfl ?_
              exact j_vret (pc := 170) ⟨rfl, rfl⟩ dX5_choose_170 rfl ⟨rfl, hIσ31, hFσ31, trivial⟩
            · refine j_aload_n (pc := 150) dX5_choose_150 rfl rfl ?_
              refine j_iload_n (pc := 151) dX5_choose_151 rfl rfl ?_
              refine j_iload (pc := 152) dX5_choose_152 rfl ?_
              refine j_callV (pc := 154) (As := [vI b, vI z26]) (st := []) (c_X5_keepIfBetter hX b ⟨by omega, by omega⟩ z26 ⟨by omega, by omega⟩ σ23 hIσ23) mv_X5_106 rfl rfl rfl (a_60 hX) dX5_choose_154 ⟨(show (1) + 1 ≤ ((20 + 2 * N + 1)) from by omega), (show 8 + (4 + 11) + 60 * (1) ≤ 60 * ((20 + 2 * N + 1)) from by omega)⟩ ⟨Nat.le_refl _, Nat.le_refl _⟩ rfl (Nat.le_of_ble_eq_true rfl) rfl (fun z34 σ35 hz34 => ?_)
              obtain ⟨rfl, hIσ35, hGσ35, -⟩ := hz34
              have hFσ35 : tw_F (fun c j => (56 ≤ c ∧ c < 58) ∨ (60 ≤ c ∧ c < 71)) σ σ35 := tw_F_tr hFσ23 hGσ35 (fun c j q => (show (56 ≤ c ∧ c < 58) ∨ (60 ≤ c ∧ c < 71) from by replace q : (56 ≤ c ∧ c < 58) ∨ (60 ≤ c ∧ c < 71) := q; omega))
              refine j_st (st' := []) rfl ?_
              refine j_goto (pc := 157) (tgt := 170) dX5_choose_157 rfl ?_
              exact j_vret (pc := 170) ⟨rfl, rfl⟩ dX5_choose_170 rfl ⟨rfl, hIσ35, hFσ35, trivial⟩
          · refine j_iload (pc := 132) dX5_choose_132 rfl ?_
            refine j_aload_n (pc := 134) dX5_choose_134 rfl rfl ?_
            refine j_getI (pc := 135) fl_X5_45 dX5_choose_135 (a_60 hX) rfl ?_
            refine j_topV (show σ23 60 11 = σ 60 11 from (((hGσ23 60 11 (show ¬ (60 = 57) from by omega))).trans (hGσ12 60 11 (show ¬ ((60 = 56 ∧ (11 = 2 ∨ 11 = 3))) from by omega))).trans (hGσ8 60 11 (show ¬ ((60 = 56 ∧ (11 = 2 ∨ 11 = 3))) from by omega))) ?_
            have f38 : (-2147483648 : Int) ≤ σ 60 11 ∧ σ 60 11 ≤ 2147483647 := hI 60 11
            refine j_icmpR_le (pc := 138) (tgt := 142) ⟨by omega, by omega⟩ ⟨by omega, by omega⟩ dX5_choose_138 rfl (fun h39 => ?_) (fun h39 => ?_)
            · refine j_iload_n (pc := 142) dX5_choose_142 rfl rfl ?_
              refine j_aload_n (pc := 143) dX5_choose_143 rfl rfl ?_
              refine j_getI (pc := 144) fl_X5_25 dX5_choose_144 (a_60 hX) rfl ?_
              refine j_topV (show σ23 60 5 = σ 60 5 from (((hGσ23 60 5 (show ¬ (60 = 57) from by omega))).trans (hGσ12 60 5 (show ¬ ((60 = 56 ∧ (5 = 2 ∨ 5 = 3))) from by omega))).trans (hGσ8 60 5 (show ¬ ((60 = 56 ∧ (5 = 2 ∨ 5 = 3))) from by omega))) ?_
              refine j_icmpR_ne (pc := 147) (tgt := 160) ⟨by omega, by omega⟩ ⟨by omega, by omega⟩ dX5_choose_147 rfl (fun h40 => ?_) (fun h40 => ?_)
              · refine j_aload_n (pc := 160) dX5_choose_160 rfl rfl ?_
                refine j_iload_n (pc := 161) dX5_choose_161 rfl rfl ?_
                refine j_iload_n (pc := 162) dX5_choose_162 rfl rfl ?_
                refine j_iload (pc := 163) dX5_choose_163 rfl ?_
                refine j_iload (pc := 165) dX5_choose_165 rfl ?_
                refine j_callV (pc := 167) (As := [vI c, vI b, vI (σ12 56 2), vI z26]) (st := []) (hgo c ⟨by omega, by omega⟩ b ⟨by omega, by omega⟩ (σ12 56 2) ⟨by omega, by omega⟩ z26 ⟨by omega, by omega⟩ σ23 hIσ23 (by omega)) mv_X5_110 rfl rfl rfl (a_60 hX) dX5_choose_167 ⟨(show (20 + 2 * N) + 1 ≤ ((20 + 2 * N + 1)) from by omega), (show 8 + (7 + 11) + 60 * (20 + 2 * N) ≤ 60 * ((20 + 2 * N + 1)) from by omega)⟩ ⟨Nat.le_refl _, Nat.le_refl _⟩ rfl (Nat.le_of_ble_eq_true rfl) rfl (fun z41 σ42 hz41 => ?_)
                obtain ⟨rfl, hIσ42, hGσ42, -⟩ := hz41
                have hFσ42 : tw_F (fun c j => (56 ≤ c ∧ c < 58) ∨ (60 ≤ c ∧ c < 71)) σ σ42 := tw_F_tr hFσ23 hGσ42 (fun c j q => (show (56 ≤ c ∧ c < 58) ∨ (60 ≤ c ∧ c < 71) from by replace q : (56 ≤ c ∧ c < 58) ∨ (60 ≤ c ∧ c < 71) := q; omega))
                refine j_st (st' := []) rfl ?_
                exact j_vret (pc := 170) ⟨rfl, rfl⟩ dX5_choose_170 rfl ⟨rfl, hIσ42, hFσ42, trivial⟩
              · refine j_aload_n (pc := 150) dX5_choose_150 rfl rfl ?_
                refine j_iload_n (pc := 151) dX5_choose_151 rfl rfl ?_
                refine j_iload (pc := 152) dX5_choose_152 rfl ?_
                refine j_callV (pc := 154) (As := [vI b, vI z26]) (st := []) (c_X5_keepIfBetter hX b ⟨by omega, by omega⟩ z26 ⟨by omega, by omega⟩ σ23 hIσ23) mv_X5_106 rfl rfl rfl (a_60 hX) dX5_choose_154 ⟨(show (1) + 1 ≤ ((20 + 2 * N + 1)) from by omega), (show 8 + (4 + 11) + 60 * (1) ≤ 60 * ((20 + 2 * N + 1)) from by omega)⟩ ⟨Nat.le_refl _, Nat.le_refl _⟩ rfl (Nat.le_of_ble_eq_true rfl) rfl (fun z45 σ46 hz45 => ?_)
                obtain ⟨rfl, hIσ46, hGσ46, -⟩ := hz45
                have hFσ46 : tw_F (fun c j => (56 ≤ c ∧ c < 58) ∨ (60 ≤ c ∧ c < 71)) σ σ46 := tw_F_tr hFσ23 hGσ46 (fun c j q => (show (56 ≤ c ∧ c < 58) ∨ (60 ≤ c ∧ c < 71) from by replace q : (56 ≤ c ∧ c < 58) ∨ (60 ≤ c ∧ c < 71) := q; omega))
                refine j_st (st' := []) rfl ?_
                refine j_goto (pc := 157) (tgt := 170) dX5_choose_157 rfl ?_
                exact j_vret (pc := 170) ⟨rfl, rfl⟩ dX5_choose_170 rfl ⟨rfl, hIσ46, hFσ46, trivial⟩
            · exact j_vret (pc := 141) ⟨rfl, rfl⟩ dX5_choose_141 rfl ⟨rfl, hIσ23, hFσ23, trivial⟩
        · exact j_vret (pc := 88) ⟨rfl, rfl⟩ dX5_choose_88 rfl ⟨rfl, hIσ12, hFσ12, trivial⟩
      · refine j_aload_n (pc := 35) dX5_choose_35 rfl rfl ?_
        refine j_getR (pc := 36) (r := 1) fl_X5_54 dX5_choose_36 (a_60 hX) rfl ?_
        refine j_callV (pc := 39) (As := []) (st := []) (c_X10_top 1 (s_Wall_1 hX) σ hI) mv_X5_77 rfl rfl rfl (a_1 hX) dX5_choose_39 ⟨(show (0) + 1 ≤ ((20 + 2 * N + 1)) from by omega), (show 8 + (1 + 11) + 60 * (0) ≤ 60 * ((20 + 2 * N + 1)) from by omega)⟩ ⟨Nat.le_refl _, Nat.le_refl _⟩ rfl (Nat.le_of_ble_eq_true rfl) rfl (fun z49 σ50 hz49 => ?_)
        obtain ⟨r52, rfl, hr52, rfl, q51_0⟩ := hz49
        replace q51_0 : r52 = σ 2 0 := q51_0
        refine j_st (st' := [vI r52]) rfl ?_
        refine j_goto (pc := 42) (tgt := 53) dX5_choose_42 rfl ?_
        refine j_istore (pc := 53) (i := 6) (ls' := [(0, vR 60), (1, vI c), (2, vI b), (3, vI e), (4, vI k), (5, vI (σ 66 ((c - 1).toNat))), (6, vI r52)]) [1, 2, 3, 4, 5, 6, 0] dX5_choose_53 (Nat.le_of_ble_eq_true rfl) rfl rfl ?_
        refine j_aload_n (pc := 55) dX5_choose_55 rfl rfl ?_
        refine j_getR (pc := 56) (r := 56) fl_X5_58 dX5_choose_56 (a_60 hX) rfl ?_
        refine j_iload_n (pc := 59) dX5_choose_59 rfl rfl ?_
        refine j_callV (pc := 60) (As := [vI e]) (st := []) (c_X4_begin hX e ⟨by omega, by omega⟩ σ hI) mv_X5_84 rfl rfl rfl (a_56 hX) dX5_choose_60 ⟨(show (0) + 1 ≤ ((20 + 2 * N + 1)) from by omega), (show 8 + (2 + 11) + 60 * (0) ≤ 60 * ((20 + 2 * N + 1)) from by omega)⟩ ⟨Nat.le_refl _, Nat.le_refl _⟩ rfl (Nat.le_of_ble_eq_true rfl) rfl (fun z53 σ54 hz53 => ?_)
        obtain ⟨rfl, hIσ54, hGσ54, -⟩ := hz53
        have hFσ54 : tw_F (fun c j => (56 ≤ c ∧ c < 58) ∨ (60 ≤ c ∧ c < 71)) σ σ54 := tw_F_tr (tw_F_rf) hGσ54 (fun c j q => (show (56 ≤ c ∧ c < 58) ∨ (60 ≤ c ∧ c < 71) from by replace q : (c = 56 ∧ (j = 2 ∨ j = 3)) := q; omega))
        refine j_st (st' := []) rfl ?_
        refine j_aload_n (pc := 63) dX5_choose_63 rfl rfl ?_
        refine j_getR (pc := 64) (r := 56) fl_X5_58 dX5_choose_64 (a_60 hX) rfl ?_
        refine j_aload_n (pc := 67) dX5_choose_67 rfl rfl ?_
        refine j_getR (pc := 68) (r := 61) fl_X5_12 dX5_choose_68 (a_60 hX) rfl ?_
        refine j_iload (pc := 71) dX5_choose_71 rfl ?_
        refine j_iload (pc := 73) dX5_choose_73 rfl ?_
        refine j_callV (pc := 75) (As := [vR 61, vI (σ 66 ((c - 1).toNat)), vI r52]) (st := []) (c_X4_climb hX 61 (s_Row_61 hX) (σ 66 ((c - 1).toNat)) ⟨by omega, by omega⟩ r52 ⟨by omega, by omega⟩ σ54 hIσ54) mv_X5_89 rfl rfl rfl (a_56 hX) dX5_choose_75 ⟨(show (1) + 1 ≤ ((20 + 2 * N + 1)) from by omega), (show 8 + (6 + 11) + 60 * (1) ≤ 60 * ((20 + 2 * N + 1)) from by omega)⟩ ⟨Nat.le_refl _, Nat.le_refl _⟩ rfl (Nat.le_of_ble_eq_true rfl) rfl (fun z57 σ58 hz57 => ?_)
        obtain ⟨rfl, hIσ58, hGσ58, -⟩ := hz57
        have hFσ58 : tw_F (fun c j => (56 ≤ c ∧ c < 58) ∨ (60 ≤ c ∧ c < 71)) σ σ58 := tw_F_tr hFσ54 hGσ58 (fun c j q => (show (56 ≤ c ∧ c < 58) ∨ (60 ≤ c ∧ c < 71) from by replace q : (c = 56 ∧ (j = 2 ∨ j = 3)) := q; omega))
        refine j_st (st' := []) rfl ?_
        refine j_aload_n (pc := 78) dX5_choose_78 rfl rfl ?_
        refine j_getR (pc := 79) (r := 56) fl_X5_58 dX5_choose_79 (a_60 hX) rfl ?_
        refine j_getI (pc := 82) fl_X5_93 dX5_choose_82 (a_56 hX) rfl ?_
        have f61 : (-2147483648 : Int) ≤ σ58 56 3 ∧ σ58 56 3 ≤ 2147483647 := hIσ58 56 3
        refine j_ifR_le (pc := 85) (tgt := 89) ⟨by omega, by omega⟩ dX5_choose_85 rfl (fun h62 => ?_) (fun h62 => ?_)
        · refine j_aload_n (pc := 89) dX5_choose_89 rfl rfl ?_
          refine j_getR (pc := 90) (r := 56) fl_X5_58 dX5_choose_90 (a_60 hX) rfl ?_
          refine j_getI (pc := 93) fl_X5_96 dX5_choose_93 (a_56 hX) rfl ?_
          have f63 : (-2147483648 : Int) ≤ σ58 56 2 ∧ σ58 56 2 ≤ 2147483647 := hIσ58 56 2
          refine j_istore (pc := 96) (i := 7) (ls' := [(0, vR 60), (1, vI c), (2, vI b), (4, vI k), (5, vI (σ 66 ((c - 1).toNat))), (6, vI r52), (7, vI (σ58 56 2))]) [1, 2, 3, 5, 6, 7, 0] dX5_choose_96 (Nat.le_of_ble_eq_true rfl) rfl rfl ?_
          refine j_iload (pc := 98) dX5_choose_98 rfl ?_
          refine j_aload_n (pc := 100) dX5_choose_100 rfl rfl ?_
          refine j_getR (pc := 101) (r := 56) fl_X5_58 dX5_choose_101 (a_60 hX) rfl ?_
          refine j_aload_n (pc := 104) dX5_choose_104 rfl rfl ?_
          refine j_getR (pc := 105) (r := 61) fl_X5_12 dX5_choose_105 (a_60 hX) rfl ?_
          refine j_aload_n (pc := 108) dX5_choose_108 rfl rfl ?_
          refine j_getR (pc := 109) (r := 61) fl_X5_12 dX5_choose_109 (a_60 hX) rfl ?_
          refine j_callV (pc := 112) (As := []) (st := [vR 61, vR 56, vI k]) (c_X7_all 61 (s_Row_61 hX) σ58 hIσ58) mv_X5_99 rfl rfl rfl (a_61 hX) dX5_choose_112 ⟨(show (0) + 1 ≤ ((20 + 2 * N + 1)) from by omega), (show 8 + (1 + 11) + 60 * (0) ≤ 60 * ((20 + 2 * N + 1)) from by omega)⟩ ⟨Nat.le_refl _, Nat.le_refl _⟩ rfl (Nat.le_of_ble_eq_true rfl) rfl (fun z64 σ65 hz64 => ?_)
          obtain ⟨r67, rfl, hr67, rfl, -⟩ := hz64
          refine j_st (st' := [vI r67, vR 61, vR 56, vI k]) rfl ?_
          refine j_iload (pc := 115) dX5_choose_115 rfl ?_
          refine j_iload (pc := 117) dX5_choose_117 rfl ?_
          refine j_callV (pc := 119) (As := [vR 61, vI r67, vI (σ 66 ((c - 1).toNat)), vI r52]) (st := [vI k]) (c_X4_riskOver hX 61 (s_Row_61 hX) r67 ⟨by omega, by omega⟩ (σ 66 ((c - 1).toNat)) ⟨by omega, by omega⟩ r52 ⟨by omega, by omega⟩ σ58 hIσ58) mv_X5_102 rfl rfl rfl (a_56 hX) dX5_choose_119 ⟨(show (2) + 1 ≤ ((20 + 2 * N + 1)) from by omega), (show 8 + (7 + 11) + 60 * (2) ≤ 60 * ((20 + 2 * N + 1)) from by omega)⟩ ⟨Nat.le_refl _, Nat.le_refl _⟩ rfl (Nat.le_of_ble_eq_true rfl) rfl (fun z68 σ69 hz68 => ?_)
          obtain ⟨r71, rfl, hr71, hIσ69, hGσ69, -⟩ := hz68
          have hFσ69 : tw_F (fun c j => (56 ≤ c ∧ c < 58) ∨ (60 ≤ c ∧ c < 71)) σ σ69 := tw_F_tr hFσ58 hGσ69 (fun c j q => (show (56 ≤ c ∧ c < 58) ∨ (60 ≤ c ∧ c < 71) from by replace q : c = 57 := q; omega))
          refine j_st (st' := [vI r71, vI k]) rfl ?_
          refine j_iadd (pc := 122) dX5_choose_122 ?_
          refine j_top (fun z72 ez72 hz72 => ?_)
          refine j_istore (pc := 123) (i := 8) (ls' := [(0, vR 60), (1, vI c), (2, vI b), (7, vI (σ58 56 2)), (8, vI z72)]) [1, 2, 3, 7, 0] dX5_choose_123 (Nat.le_of_ble_eq_true rfl) rfl rfl ?_
          refine j_aload_n (pc := 125) dX5_choose_125 rfl rfl ?_
          refine j_getI (pc := 126) fl_X5_42 dX5_choose_126 (a_60 hX) rfl ?_
          refine j_topV (show σ69 60 10 = σ 60 10 from (((hGσ69 60 10 (show ¬ (60 = 57) from by omega))).trans (hGσ58 60 10 (show ¬ ((60 = 56 ∧ (10 = 2 ∨ 10 = 3))) from by omega))).trans (hGσ54 60 10 (show ¬ ((60 = 56 ∧ (10 = 2 ∨ 10 = 3))) from by omega))) ?_
          have f73 : (0 : Int) ≤ σ 60 10 ∧ σ 60 10 ≤ 1 := hI 60 10
          refine j_ifR_eq (pc := 129) (tgt := 142) ⟨by omega, by omega⟩ dX5_choose_129 rfl (fun h74 => ?_) (fun h74 => ?_)
          · refine j_iload_n (pc := 142) dX5_choose_142 rfl rfl ?_
            refine j_aload_n (pc := 143) dX5_choose_143 rfl rfl ?_
            refine j_getI (pc := 144) fl_X5_25 dX5_choose_144 (a_60 hX) rfl ?_
            refine j_topV (show σ69 60 5 = σ 60 5 from (((hGσ69 60 5 (show ¬ (60 = 57) from by omega))).trans (hGσ58 60 5 (show ¬ ((60 = 56 ∧ (5 = 2 ∨ 5 = 3))) from by omega))).trans (hGσ54 60 5 (show ¬ ((60 = 56 ∧ (5 = 2 ∨ 5 = 3))) from by omega))) ?_
            refine j_icmpR_ne (pc := 147) (tgt := 160) ⟨by omega, by omega⟩ ⟨by omega, by omega⟩ dX5_choose_147 rfl (fun h75 => ?_) (fun h75 => ?_)
            · refine j_aload_n (pc := 160) dX5_choose_160 rfl rfl ?_
              refine j_iload_n (pc := 161) dX5_choose_161 rfl rfl ?_
              refine j_iload_n (pc := 162) dX5_choose_162 rfl rfl ?_
              refine j_iload (pc := 163) dX5_choose_163 rfl ?_
              refine j_iload (pc := 165) dX5_choose_165 rfl ?_
              refine j_callV (pc := 167) (As := [vI c, vI b, vI (σ58 56 2), vI z72]) (st := []) (hgo c ⟨by omega, by omega⟩ b ⟨by omega, by omega⟩ (σ58 56 2) ⟨by omega, by omega⟩ z72 ⟨by omega, by omega⟩ σ69 hIσ69 (by omega)) mv_X5_110 rfl rfl rfl (a_60 hX) dX5_choose_167 ⟨(show (20 + 2 * N) + 1 ≤ ((20 + 2 * N + 1)) from by omega), (show 8 + (7 + 11) + 60 * (20 + 2 * N) ≤ 60 * ((20 + 2 * N + 1)) from by omega)⟩ ⟨Nat.le_refl _, Nat.le_refl _⟩ rfl (Nat.le_of_ble_eq_true rfl) rfl (fun z76 σ77 hz76 => ?_)
              obtain ⟨rfl, hIσ77, hGσ77, -⟩ := hz76
              have hFσ77 : tw_F (fun c j => (56 ≤ c ∧ c < 58) ∨ (60 ≤ c ∧ c < 71)) σ σ77 := tw_F_tr hFσ69 hGσ77 (fun c j q => (show (56 ≤ c ∧ c < 58) ∨ (60 ≤ c ∧ c < 71) from by replace q : (56 ≤ c ∧ c < 58) ∨ (60 ≤ c ∧ c < 71) := q; omega))
              refine j_st (st' := []) rfl ?_
              exact j_vret (pc := 170) ⟨rfl, rfl⟩ dX5_choose_170 rfl ⟨rfl, hIσ77, hFσ77, trivial⟩
            · refine j_aload_n (pc := 150) dX5_choose_150 rfl rfl ?_
              refine j_iload_n (pc := 151) dX5_choose_151 rfl rfl ?_
              refine j_iload (pc := 152) dX5_choose_152 rfl ?_
              refine j_callV (pc := 154) (As := [vI b, vI z72]) (st := []) (c_X5_keepIfBetter hX b ⟨by omega, by omega⟩ z72 ⟨by omega, by omega⟩ σ69 hIσ69) mv_X5_106 rfl rfl rfl (a_60 hX) dX5_choose_154 ⟨(show (1) + 1 ≤ ((20 + 2 * N + 1)) from by omega), (show 8 + (4 + 11) + 60 * (1) ≤ 60 * ((20 + 2 * N + 1)) from by omega)⟩ ⟨Nat.le_refl _, Nat.le_refl _⟩ rfl (Nat.le_of_ble_eq_true rfl) rfl (fun z80 σ81 hz80 => ?_)
              obtain ⟨rfl, hIσ81, hGσ81, -⟩ := hz80
              have hFσ81 : tw_F (fun c j => (56 ≤ c ∧ c < 58) ∨ (60 ≤ c ∧ c < 71)) σ σ81 := tw_F_tr hFσ69 hGσ81 (fun c j q => (show (56 ≤ c ∧ c < 58) ∨ (60 ≤ c ∧ c < 71) from by replace q : (56 ≤ c ∧ c < 58) ∨ (60 ≤ c ∧ c < 71) := q; omega))
              refine j_st (st' := []) rfl ?_
              refine j_goto (pc := 157) (tgt := 170) dX5_choose_157 rfl ?_
              exact j_vret (pc := 170) ⟨rfl, rfl⟩ dX5_choose_170 rfl ⟨rfl, hIσ81, hFσ81, trivial⟩
          · refine j_iload (pc := 132) dX5_choose_132 rfl ?_
            refine j_aload_n (pc := 134) dX5_choose_134 rfl rfl ?_
            refine j_getI (pc := 135) fl_X5_45 dX5_choose_135 (a_60 hX) rfl ?_
            refine j_topV (show σ69 60 11 = σ 60 11 from (((hGσ69 60 11 (show ¬ (60 = 57) from by omega))).trans (hGσ58 60 11 (show ¬ ((60 = 56 ∧ (11 = 2 ∨ 11 = 3))) from by omega))).trans (hGσ54 60 11 (show ¬ ((60 = 56 ∧ (11 = 2 ∨ 11 = 3))) from by omega))) ?_
            have f84 : (-2147483648 : Int) ≤ σ 60 11 ∧ σ 60 11 ≤ 2147483647 := hI 60 11
            refine j_icmpR_le (pc := 138) (tgt := 142) ⟨by omega, by omega⟩ ⟨by omega, by omega⟩ dX5_choose_138 rfl (fun h85 => ?_) (fun h85 => ?_)
            · refine j_iload_n (pc := 142) dX5_choose_142 rfl rfl ?_
              refine j_aload_n (pc := 143) dX5_choose_143 rfl rfl ?_
              refine j_getI (pc := 144) fl_X5_25 dX5_choose_144 (a_60 hX) rfl ?_
              refine j_topV (show σ69 60 5 = σ 60 5 from (((hGσ69 60 5 (show ¬ (60 = 57) from by omega))).trans (hGσ58 60 5 (show ¬ ((60 = 56 ∧ (5 = 2 ∨ 5 = 3))) from by omega))).trans (hGσ54 60 5 (show ¬ ((60 = 56 ∧ (5 = 2 ∨ 5 = 3))) from by omega))) ?_
              refine j_icmpR_ne (pc := 147) (tgt := 160) ⟨by omega, by omega⟩ ⟨by omega, by omega⟩ dX5_choose_147 rfl (fun h86 => ?_) (fun h86 => ?_)
              · refine j_aload_n (pc := 160) dX5_choose_160 rfl rfl ?_
                refine j_iload_n (pc := 161) dX5_choose_161 rfl rfl ?_
                refine j_iload_n (pc := 162) dX5_choose_162 rfl rfl ?_
                refine j_iload (pc := 163) dX5_choose_163 rfl ?_
                refine j_iload (pc := 165) dX5_choose_165 rfl ?_
                refine j_callV (pc := 167) (As := [vI c, vI b, vI (σ58 56 2), vI z72]) (st := []) (hgo c ⟨by omega, by omega⟩ b ⟨by omega, by omega⟩ (σ58 56 2) ⟨by omega, by omega⟩ z72 ⟨by omega, by omega⟩ σ69 hIσ69 (by omega)) mv_X5_110 rfl rfl rfl (a_60 hX) dX5_choose_167 ⟨(show (20 + 2 * N) + 1 ≤ ((20 + 2 * N + 1)) from by omega), (show 8 + (7 + 11) + 60 * (20 + 2 * N) ≤ 60 * ((20 + 2 * N + 1)) from by omega)⟩ ⟨Nat.le_refl _, Nat.le_refl _⟩ rfl (Nat.le_of_ble_eq_true rfl) rfl (fun z87 σ88 hz87 => ?_)
                obtain ⟨rfl, hIσ88, hGσ88, -⟩ := hz87
                have hFσ88 : tw_F (fun c j => (56 ≤ c ∧ c < 58) ∨ (60 ≤ c ∧ c < 71)) σ σ88 := tw_F_tr hFσ69 hGσ88 (fun c j q => (show (56 ≤ c ∧ c < 58) ∨ (60 ≤ c ∧ c < 71) from by replace q : (56 ≤ c ∧ c < 58) ∨ (60 ≤ c ∧ c < 71) := q; omega))
                refine j_st (st' := []) rfl ?_
                exact j_vret (pc := 170) ⟨rfl, rfl⟩ dX5_choose_170 rfl ⟨rfl, hIσ88, hFσ88, trivial⟩
              · refine j_aload_n (pc := 150) dX5_choose_150 rfl rfl ?_
                refine j_iload_n (pc := 151) dX5_choose_151 rfl rfl ?_
                refine j_iload (pc := 152) dX5_choose_152 rfl ?_
                refine j_callV (pc := 154) (As := [vI b, vI z72]) (st := []) (c_X5_keepIfBetter hX b ⟨by omega, by omega⟩ z72 ⟨by omega, by omega⟩ σ69 hIσ69) mv_X5_106 rfl rfl rfl (a_60 hX) dX5_choose_154 ⟨(show (1) + 1 ≤ ((20 + 2 * N + 1)) from by omega), (show 8 + (4 + 11) + 60 * (1) ≤ 60 * ((20 + 2 * N + 1)) from by omega)⟩ ⟨Nat.le_refl _, Nat.le_refl _⟩ rfl (Nat.le_of_ble_eq_true rfl) rfl (fun z91 σ92 hz91 => ?_)
                obtain ⟨rfl, hIσ92, hGσ92, -⟩ := hz91
                have hFσ92 : tw_F (fun c j => (56 ≤ c ∧ c < 58) ∨ (60 ≤ c ∧ c < 71)) σ σ92 := tw_F_tr hFσ69 hGσ92 (fun c j q => (show (56 ≤ c ∧ c < 58) ∨ (60 ≤ c ∧ c < 71) from by replace q : (56 ≤ c ∧ c < 58) ∨ (60 ≤ c ∧ c < 71) := q; omega))
                refine j_st (st' := []) rfl ?_
                refine j_goto (pc := 157) (tgt := 170) dX5_choose_157 rfl ?_
                exact j_vret (pc := 170) ⟨rfl, rfl⟩ dX5_choose_170 rfl ⟨rfl, hIσ92, hFσ92, trivial⟩
            · exact j_vret (pc := 141) ⟨rfl, rfl⟩ dX5_choose_141 rfl ⟨rfl, hIσ69, hFσ69, trivial⟩
        · exact j_vret (pc := 88) ⟨rfl, rfl⟩ dX5_choose_88 rfl ⟨rfl, hIσ58, hFσ58, trivial⟩
    · refine j_iconst (pc := 13) dX5_choose_13 ?_
      refine j_goto (pc := 14) (tgt := 25) dX5_choose_14 rfl ?_
      refine j_istore (pc := 25) (i := 5) (ls' := [(0, vR 60), (1, vI c), (2, vI b), (3, vI e), (4, vI k), (5, vI 1)]) [1, 2, 3, 4, 5, 0] dX5_choose_25 (Nat.le_of_ble_eq_true rfl) rfl rfl ?_
      refine j_iload_n (pc := 27) dX5_choose_27 rfl rfl ?_
      refine j_aload_n (pc := 28) dX5_choose_28 rfl rfl ?_
      refine j_getI (pc := 29) fl_X5_25 dX5_choose_29 (a_60 hX) rfl ?_
      refine j_icmpR_ne (pc := 32) (tgt := 45) ⟨by omega, by omega⟩ ⟨by omega, by omega⟩ dX5_choose_32 rfl (fun h95 => ?_) (fun h95 => ?_)
      · refine j_aload_n (pc := 45) dX5_choose_45 rfl rfl ?_
        refine j_getR (pc := 46) (r := 66) fl_X5_22 dX5_choose_46 (a_60 hX) rfl ?_
        refine j_iload_n (pc := 49) dX5_choose_49 rfl rfl ?_
        refine j_iald (pc := 50) dX5_choose_50 (a_66 hX) (by omega) (by omega) (by decide) ?_
        have f96 : (0 : Int) ≤ σ 66 (c.toNat) ∧ σ 66 (c.toNat) ≤ 40 := hI 66 (c.toNat)
        refine j_iconst (pc := 51) dX5_choose_51 ?_
        refine j_isub (pc := 52) dX5_choose_52 ?_
        refine j_istore (pc := 53) (i := 6) (ls' := [(0, vR 60), (1, vI c), (2, vI b), (3, vI e), (4, vI k), (5, vI 1), (6, vI ((σ 66 (c.toNat)) - 1))]) [1, 2, 3, 4, 5, 6, 0] dX5_choose_53 (Nat.le_of_ble_eq_true rfl) rfl rfl ?_
        refine j_aload_n (pc := 55) dX5_choose_55 rfl rfl ?_
        refine j_getR (pc := 56) (r := 56) fl_X5_58 dX5_choose_56 (a_60 hX) rfl ?_
        refine j_iload_n (pc := 59) dX5_choose_59 rfl rfl ?_
        refine j_callV (pc := 60) (As := [vI e]) (st := []) (c_X4_begin hX e ⟨by omega, by omega⟩ σ hI) mv_X5_84 rfl rfl rfl (a_56 hX) dX5_choose_60 ⟨(show (0) + 1 ≤ ((20 + 2 * N + 1)) from by omega), (show 8 + (2 + 11) + 60 * (0) ≤ 60 * ((20 + 2 * N + 1)) from by omega)⟩ ⟨Nat.le_refl _, Nat.le_refl _⟩ rfl (Nat.le_of_ble_eq_true rfl) rfl (fun z97 σ98 hz97 => ?_)
        obtain ⟨rfl, hIσ98, hGσ98, -⟩ := hz97
        have hFσ98 : tw_F (fun c j => (56 ≤ c ∧ c < 58) ∨ (60 ≤ c ∧ c < 71)) σ σ98 := tw_F_tr (tw_F_rf) hGσ98 (fun c j q => (show (56 ≤ c ∧ c < 58) ∨ (60 ≤ c ∧ c < 71) from by replace q : (c = 56 ∧ (j = 2 ∨ j = 3)) := q; omega))
        refine j_st (st' := []) rfl ?_
        refine j_aload_n (pc := 63) dX5_choose_63 rfl rfl ?_
        refine j_getR (pc := 64) (r := 56) fl_X5_58 dX5_choose_64 (a_60 hX) rfl ?_
        refine j_aload_n (pc := 67) dX5_choose_67 rfl rfl ?_
        refine j_getR (pc := 68) (r := 61) fl_X5_12 dX5_choose_68 (a_60 hX) rfl ?_
        refine j_iload (pc := 71) dX5_choose_71 rfl ?_
        refine j_iload (pc := 73) dX5_choose_73 rfl ?_
        refine j_callV (pc := 75) (As := [vR 61, vI 1, vI ((σ 66 (c.toNat)) - 1)]) (st := []) (c_X4_climb hX 61 (s_Row_61 hX) 1 ⟨by omega, by omega⟩ ((σ 66 (c.toNat)) - 1) ⟨by omega, by omega⟩ σ98 hIσ98) mv_X5_89 rfl rfl rfl (a_56 hX) dX5_choose_75 ⟨(show (1) + 1 ≤ ((20 + 2 * N + 1)) from by omega), (show 8 + (6 + 11) + 60 * (1) ≤ 60 * ((20 + 2 * N + 1)) from by omega)⟩ ⟨Nat.le_refl _, Nat.le_refl _⟩ rfl (Nat.le_of_ble_eq_true rfl) rfl (fun z101 σ102 hz101 => ?_)
        obtain ⟨rfl, hIσ102, hGσ102, -⟩ := hz101
        have hFσ102 : tw_F (fun c j => (56 ≤ c ∧ c < 58) ∨ (60 ≤ c ∧ c < 71)) σ σ102 := tw_F_tr hFσ98 hGσ102 (fun c j q => (show (56 ≤ c ∧ c < 58) ∨ (60 ≤ c ∧ c < 71) from by replace q : (c = 56 ∧ (j = 2 ∨ j = 3)) := q; omega))
        refine j_st (st' := []) rfl ?_
        refine j_aload_n (pc := 78) dX5_choose_78 rfl rfl ?_
        refine j_getR (pc := 79) (r := 56) fl_X5_58 dX5_choose_79 (a_60 hX) rfl ?_
        refine j_getI (pc := 82) fl_X5_93 dX5_choose_82 (a_56 hX) rfl ?_
        have f105 : (-2147483648 : Int) ≤ σ102 56 3 ∧ σ102 56 3 ≤ 2147483647 := hIσ102 56 3
        refine j_ifR_le (pc := 85) (tgt := 89) ⟨by omega, by omega⟩ dX5_choose_85 rfl (fun h106 => ?_) (fun h106 => ?_)
        · refine j_aload_n (pc := 89) dX5_choose_89 rfl rfl ?_
          refine j_getR (pc := 90) (r := 56) fl_X5_58 dX5_choose_90 (a_60 hX) rfl ?_
          refine j_getI (pc := 93) fl_X5_96 dX5_choose_93 (a_56 hX) rfl ?_
          have f107 : (-2147483648 : Int) ≤ σ102 56 2 ∧ σ102 56 2 ≤ 2147483647 := hIσ102 56 2
          refine j_istore (pc := 96) (i := 7) (ls' := [(0, vR 60), (1, vI c), (2, vI b), (4, vI k), (5, vI 1), (6, vI ((σ 66 (c.toNat)) - 1)), (7, vI (σ102 56 2))]) [1, 2, 3, 5, 6, 7, 0] dX5_choose_96 (Nat.le_of_ble_eq_true rfl) rfl rfl ?_
          refine j_iload (pc := 98) dX5_choose_98 rfl ?_
          refine j_aload_n (pc := 100) dX5_choose_100 rfl rfl ?_
          refine j_getR (pc := 101) (r := 56) fl_X5_58 dX5_choose_101 (a_60 hX) rfl ?_
          refine j_aload_n (pc := 104) dX5_choose_104 rfl rfl ?_
          refine j_getR (pc := 105) (r := 61) fl_X5_12 dX5_choose_105 (a_60 hX) rfl ?_
          refine j_aload_n (pc := 108) dX5_choose_108 rfl rfl ?_
          refine j_getR (pc := 109) (r := 61) fl_X5_12 dX5_choose_109 (a_60 hX) rfl ?_
          refine j_callV (pc := 112) (As := []) (st := [vR 61, vR 56, vI k]) (c_X7_all 61 (s_Row_61 hX) σ102 hIσ102) mv_X5_99 rfl rfl rfl (a_61 hX) dX5_choose_112 ⟨(show (0) + 1 ≤ ((20 + 2 * N + 1)) from by omega), (show 8 + (1 + 11) + 60 * (0) ≤ 60 * ((20 + 2 * N + 1)) from by omega)⟩ ⟨Nat.le_refl _, Nat.le_refl _⟩ rfl (Nat.le_of_ble_eq_true rfl) rfl (fun z108 σ109 hz108 => ?_)
          obtain ⟨r111, rfl, hr111, rfl, -⟩ := hz108
          refine j_st (st' := [vI r111, vR 61, vR 56, vI k]) rfl ?_
          refine j_iload (pc := 115) dX5_choose_115 rfl ?_
          refine j_iload (pc := 117) dX5_choose_117 rfl ?_
          refine j_callV (pc := 119) (As := [vR 61, vI r111, vI 1, vI ((σ 66 (c.toNat)) - 1)]) (st := [vI k]) (c_X4_riskOver hX 61 (s_Row_61 hX) r111 ⟨by omega, by omega⟩ 1 ⟨by omega, by omega⟩ ((σ 66 (c.toNat)) - 1) ⟨by omega, by omega⟩ σ102 hIσ102) mv_X5_102 rfl rfl rfl (a_56 hX) dX5_choose_119 ⟨(show (2) + 1 ≤ ((20 + 2 * N + 1)) from by omega), (show 8 + (7 + 11) + 60 * (2) ≤ 60 * ((20 + 2 * N + 1)) from by omega)⟩ ⟨Nat.le_refl _, Nat.le_refl _⟩ rfl (Nat.le_of_ble_eq_true rfl) rfl (fun z112 σ113 hz112 => ?_)
          obtain ⟨r115, rfl, hr115, hIσ113, hGσ113, -⟩ := hz112
          have hFσ113 : tw_F (fun c j => (56 ≤ c ∧ c < 58) ∨ (60 ≤ c ∧ c < 71)) σ σ113 := tw_F_tr hFσ102 hGσ113 (fun c j q => (show (56 ≤ c ∧ c < 58) ∨ (60 ≤ c ∧ c < 71) from by replace q : c = 57 := q; omega))
          refine j_st (st' := [vI r115, vI k]) rfl ?_
          refine j_iadd (pc := 122) dX5_choose_122 ?_
          refine j_top (fun z116 ez116 hz116 => ?_)
          refine j_istore (pc := 123) (i := 8) (ls' := [(0, vR 60), (1, vI c), (2, vI b), (7, vI (σ102 56 2)), (8, vI z116)]) [1, 2, 3, 7, 0] dX5_choose_123 (Nat.le_of_ble_eq_true rfl) rfl rfl ?_
          refine j_aload_n (pc := 125) dX5_choose_125 rfl rfl ?_
          refine j_getI (pc := 126) fl_X5_42 dX5_choose_126 (a_60 hX) rfl ?_
          refine j_topV (show σ113 60 10 = σ 60 10 from (((hGσ113 60 10 (show ¬ (60 = 57) from by omega))).trans (hGσ102 60 10 (show ¬ ((60 = 56 ∧ (10 = 2 ∨ 10 = 3))) from by omega))).trans (hGσ98 60 10 (show ¬ ((60 = 56 ∧ (10 = 2 ∨ 10 = 3))) from by omega))) ?_
          have f117 : (0 : Int) ≤ σ 60 10 ∧ σ 60 10 ≤ 1 := hI 60 10
          refine j_ifR_eq (pc := 129) (tgt := 142) ⟨by omega, by omega⟩ dX5_choose_129 rfl (fun h118 => ?_) (fun h118 => ?_)
          · refine j_iload_n (pc := 142) dX5_choose_142 rfl rfl ?_
            refine j_aload_n (pc := 143) dX5_choose_143 rfl rfl ?_
            refine j_getI (pc := 144) fl_X5_25 dX5_choose_144 (a_60 hX) rfl ?_
            refine j_topV (show σ113 60 5 = σ 60 5 from (((hGσ113 60 5 (show ¬ (60 = 57) from by omega))).trans (hGσ102 60 5 (show ¬ ((60 = 56 ∧ (5 = 2 ∨ 5 = 3))) from by omega))).trans (hGσ98 60 5 (show ¬ ((60 = 56 ∧ (5 = 2 ∨ 5 = 3))) from by omega))) ?_
            refine j_icmpR_ne (pc := 147) (tgt := 160) ⟨by omega, by omega⟩ ⟨by omega, by omega⟩ dX5_choose_147 rfl (fun h119 => ?_) (fun h119 => by exfalso; omega)
            refine j_aload_n (pc := 160) dX5_choose_160 rfl rfl ?_
            refine j_iload_n (pc := 161) dX5_choose_161 rfl rfl ?_
            refine j_iload_n (pc := 162) dX5_choose_162 rfl rfl ?_
            refine j_iload (pc := 163) dX5_choose_163 rfl ?_
            refine j_iload (pc := 165) dX5_choose_165 rfl ?_
            refine j_callV (pc := 167) (As := [vI c, vI b, vI (σ102 56 2), vI z116]) (st := []) (hgo c ⟨by omega, by omega⟩ b ⟨by omega, by omega⟩ (σ102 56 2) ⟨by omega, by omega⟩ z116 ⟨by omega, by omega⟩ σ113 hIσ113 (by omega)) mv_X5_110 rfl rfl rfl (a_60 hX) dX5_choose_167 ⟨(show (20 + 2 * N) + 1 ≤ ((20 + 2 * N + 1)) from by omega), (show 8 + (7 + 11) + 60 * (20 + 2 * N) ≤ 60 * ((20 + 2 * N + 1)) from by omega)⟩ ⟨Nat.le_refl _, Nat.le_refl _⟩ rfl (Nat.le_of_ble_eq_true rfl) rfl (fun z120 σ121 hz120 => ?_)
            obtain ⟨rfl, hIσ121, hGσ121, -⟩ := hz120
            have hFσ121 : tw_F (fun c j => (56 ≤ c ∧ c < 58) ∨ (60 ≤ c ∧ c < 71)) σ σ121 := tw_F_tr hFσ113 hGσ121 (fun c j q => (show (56 ≤ c ∧ c < 58) ∨ (60 ≤ c ∧ c < 71) from by replace q : (56 ≤ c ∧ c < 58) ∨ (60 ≤ c ∧ c < 71) := q; omega))
            refine j_st (st' := []) rfl ?_
            exact j_vret (pc := 170) ⟨rfl, rfl⟩ dX5_choose_170 rfl ⟨rfl, hIσ121, hFσ121, trivial⟩
          · refine j_iload (pc := 132) dX5_choose_132 rfl ?_
            refine j_aload_n (pc := 134) dX5_choose_134 rfl rfl ?_
            refine j_getI (pc := 135) fl_X5_45 dX5_choose_135 (a_60 hX) rfl ?_
            refine j_topV (show σ113 60 11 = σ 60 11 from (((hGσ113 60 11 (show ¬ (60 = 57) from by omega))).trans (hGσ102 60 11 (show ¬ ((60 = 56 ∧ (11 = 2 ∨ 11 = 3))) from by omega))).trans (hGσ98 60 11 (show ¬ ((60 = 56 ∧ (11 = 2 ∨ 11 = 3))) from by omega))) ?_
            have f124 : (-2147483648 : Int) ≤ σ 60 11 ∧ σ 60 11 ≤ 2147483647 := hI 60 11
            refine j_icmpR_le (pc := 138) (tgt := 142) ⟨by omega, by omega⟩ ⟨by omega, by omega⟩ dX5_choose_138 rfl (fun h125 => ?_) (fun h125 => ?_)
            · refine j_iload_n (pc := 142) dX5_choose_142 rfl rfl ?_
              refine j_aload_n (pc := 143) dX5_choose_143 rfl rfl ?_
              refine j_getI (pc := 144) fl_X5_25 dX5_choose_144 (a_60 hX) rfl ?_
              refine j_topV (show σ113 60 5 = σ 60 5 from (((hGσ113 60 5 (show ¬ (60 = 57) from by omega))).trans (hGσ102 60 5 (show ¬ ((60 = 56 ∧ (5 = 2 ∨ 5 = 3))) from by omega))).trans (hGσ98 60 5 (show ¬ ((60 = 56 ∧ (5 = 2 ∨ 5 = 3))) from by omega))) ?_
              refine j_icmpR_ne (pc := 147) (tgt := 160) ⟨by omega, by omega⟩ ⟨by omega, by omega⟩ dX5_choose_147 rfl (fun h126 => ?_) (fun h126 => by exfalso; omega)
              refine j_aload_n (pc := 160) dX5_choose_160 rfl rfl ?_
              refine j_iload_n (pc := 161) dX5_choose_161 rfl rfl ?_
              refine j_iload_n (pc := 162) dX5_choose_162 rfl rfl ?_
              refine j_iload (pc := 163) dX5_choose_163 rfl ?_
              refine j_iload (pc := 165) dX5_choose_165 rfl ?_
              refine j_callV (pc := 167) (As := [vI c, vI b, vI (σ102 56 2), vI z116]) (st := []) (hgo c ⟨by omega, by omega⟩ b ⟨by omega, by omega⟩ (σ102 56 2) ⟨by omega, by omega⟩ z116 ⟨by omega, by omega⟩ σ113 hIσ113 (by omega)) mv_X5_110 rfl rfl rfl (a_60 hX) dX5_choose_167 ⟨(show (20 + 2 * N) + 1 ≤ ((20 + 2 * N + 1)) from by omega), (show 8 + (7 + 11) + 60 * (20 + 2 * N) ≤ 60 * ((20 + 2 * N + 1)) from by omega)⟩ ⟨Nat.le_refl _, Nat.le_refl _⟩ rfl (Nat.le_of_ble_eq_true rfl) rfl (fun z127 σ128 hz127 => ?_)
              obtain ⟨rfl, hIσ128, hGσ128, -⟩ := hz127
              have hFσ128 : tw_F (fun c j => (56 ≤ c ∧ c < 58) ∨ (60 ≤ c ∧ c < 71)) σ σ128 := tw_F_tr hFσ113 hGσ128 (fun c j q => (show (56 ≤ c ∧ c < 58) ∨ (60 ≤ c ∧ c < 71) from by replace q : (56 ≤ c ∧ c < 58) ∨ (60 ≤ c ∧ c < 71) := q; omega))
              refine j_st (st' := []) rfl ?_
              exact j_vret (pc := 170) ⟨rfl, rfl⟩ dX5_choose_170 rfl ⟨rfl, hIσ128, hFσ128, trivial⟩
            · exact j_vret (pc := 141) ⟨rfl, rfl⟩ dX5_choose_141 rfl ⟨rfl, hIσ113, hFσ113, trivial⟩
        · exact j_vret (pc := 88) ⟨rfl, rfl⟩ dX5_choose_88 rfl ⟨rfl, hIσ102, hFσ102, trivial⟩
      · refine j_aload_n (pc := 35) dX5_choose_35 rfl rfl ?_
        refine j_getR (pc := 36) (r := 1) fl_X5_54 dX5_choose_36 (a_60 hX) rfl ?_
        refine j_callV (pc := 39) (As := []) (st := []) (c_X10_top 1 (s_Wall_1 hX) σ hI) mv_X5_77 rfl rfl rfl (a_1 hX) dX5_choose_39 ⟨(show (0) + 1 ≤ ((20 + 2 * N + 1)) from by omega), (show 8 + (1 + 11) + 60 * (0) ≤ 60 * ((20 + 2 * N + 1)) from by omega)⟩ ⟨Nat.le_refl _, Nat.le_refl _⟩ rfl (Nat.le_of_ble_eq_true rfl) rfl (fun z131 σ132 hz131 => ?_)
        obtain ⟨r134, rfl, hr134, rfl, q133_0⟩ := hz131
        replace q133_0 : r134 = σ 2 0 := q133_0
        refine j_st (st' := [vI r134]) rfl ?_
        refine j_goto (pc := 42) (tgt := 53) dX5_choose_42 rfl ?_
        refine j_istore (pc := 53) (i := 6) (ls' := [(0, vR 60), (1, vI c), (2, vI b), (3, vI e), (4, vI k), (5, vI 1), (6, vI r134)]) [1, 2, 3, 4, 5, 6, 0] dX5_choose_53 (Nat.le_of_ble_eq_true rfl) rfl rfl ?_
        refine j_aload_n (pc := 55) dX5_choose_55 rfl rfl ?_
        refine j_getR (pc := 56) (r := 56) fl_X5_58 dX5_choose_56 (a_60 hX) rfl ?_
        refine j_iload_n (pc := 59) dX5_choose_59 rfl rfl ?_
        refine j_callV (pc := 60) (As := [vI e]) (st := []) (c_X4_begin hX e ⟨by omega, by omega⟩ σ hI) mv_X5_84 rfl rfl rfl (a_56 hX) dX5_choose_60 ⟨(show (0) + 1 ≤ ((20 + 2 * N + 1)) from by omega), (show 8 + (2 + 11) + 60 * (0) ≤ 60 * ((20 + 2 * N + 1)) from by omega)⟩ ⟨Nat.le_refl _, Nat.le_refl _⟩ rfl (Nat.le_of_ble_eq_true rfl) rfl (fun z135 σ136 hz135 => ?_)
        obtain ⟨rfl, hIσ136, hGσ136, -⟩ := hz135
        have hFσ136 : tw_F (fun c j => (56 ≤ c ∧ c < 58) ∨ (60 ≤ c ∧ c < 71)) σ σ136 := tw_F_tr (tw_F_rf) hGσ136 (fun c j q => (show (56 ≤ c ∧ c < 58) ∨ (60 ≤ c ∧ c < 71) from by replace q : (c = 56 ∧ (j = 2 ∨ j = 3)) := q; omega))
        refine j_st (st' := []) rfl ?_
        refine j_aload_n (pc := 63) dX5_choose_63 rfl rfl ?_
        refine j_getR (pc := 64) (r := 56) fl_X5_58 dX5_choose_64 (a_60 hX) rfl ?_
        refine j_aload_n (pc := 67) dX5_choose_67 rfl rfl ?_
        refine j_getR (pc := 68) (r := 61) fl_X5_12 dX5_choose_68 (a_60 hX) rfl ?_
        refine j_iload (pc := 71) dX5_choose_71 rfl ?_
        refine j_iload (pc := 73) dX5_choose_73 rfl ?_
        refine j_callV (pc := 75) (As := [vR 61, vI 1, vI r134]) (st := []) (c_X4_climb hX 61 (s_Row_61 hX) 1 ⟨by omega, by omega⟩ r134 ⟨by omega, by omega⟩ σ136 hIσ136) mv_X5_89 rfl rfl rfl (a_56 hX) dX5_choose_75 ⟨(show (1) + 1 ≤ ((20 + 2 * N + 1)) from by omega), (show 8 + (6 + 11) + 60 * (1) ≤ 60 * ((20 + 2 * N + 1)) from by omega)⟩ ⟨Nat.le_refl _, Nat.le_refl _⟩ rfl (Nat.le_of_ble_eq_true rfl) rfl (fun z139 σ140 hz139 => ?_)
        obtain ⟨rfl, hIσ140, hGσ140, -⟩ := hz139
        have hFσ140 : tw_F (fun c j => (56 ≤ c ∧ c < 58) ∨ (60 ≤ c ∧ c < 71)) σ σ140 := tw_F_tr hFσ136 hGσ140 (fun c j q => (show (56 ≤ c ∧ c < 58) ∨ (60 ≤ c ∧ c < 71) from by replace q : (c = 56 ∧ (j = 2 ∨ j = 3)) := q; omega))
        refine j_st (st' := []) rfl ?_
        refine j_aload_n (pc := 78) dX5_choose_78 rfl rfl ?_
        refine j_getR (pc := 79) (r := 56) fl_X5_58 dX5_choose_79 (a_60 hX) rfl ?_
        refine j_getI (pc := 82) fl_X5_93 dX5_choose_82 (a_56 hX) rfl ?_
        have f143 : (-2147483648 : Int) ≤ σ140 56 3 ∧ σ140 56 3 ≤ 2147483647 := hIσ140 56 3
        refine j_ifR_le (pc := 85) (tgt := 89) ⟨by omega, by omega⟩ dX5_choose_85 rfl (fun h144 => ?_) (fun h144 => ?_)
        · refine j_aload_n (pc := 89) dX5_choose_89 rfl rfl ?_
          refine j_getR (pc := 90) (r := 56) fl_X5_58 dX5_choose_90 (a_60 hX) rfl ?_
          refine j_getI (pc := 93) fl_X5_96 dX5_choose_93 (a_56 hX) rfl ?_
          have f145 : (-2147483648 : Int) ≤ σ140 56 2 ∧ σ140 56 2 ≤ 2147483647 := hIσ140 56 2
          refine j_istore (pc := 96) (i := 7) (ls' := [(0, vR 60), (1, vI c), (2, vI b), (4, vI k), (5, vI 1), (6, vI r134), (7, vI (σ140 56 2))]) [1, 2, 3, 5, 6, 7, 0] dX5_choose_96 (Nat.le_of_ble_eq_true rfl) rfl rfl ?_
          refine j_iload (pc := 98) dX5_choose_98 rfl ?_
          refine j_aload_n (pc := 100) dX5_choose_100 rfl rfl ?_
          refine j_getR (pc := 101) (r := 56) fl_X5_58 dX5_choose_101 (a_60 hX) rfl ?_
          refine j_aload_n (pc := 104) dX5_choose_104 rfl rfl ?_
          refine j_getR (pc := 105) (r := 61) fl_X5_12 dX5_choose_105 (a_60 hX) rfl ?_
          refine j_aload_n (pc := 108) dX5_choose_108 rfl rfl ?_
          refine j_getR (pc := 109) (r := 61) fl_X5_12 dX5_choose_109 (a_60 hX) rfl ?_
          refine j_callV (pc := 112) (As := []) (st := [vR 61, vR 56, vI k]) (c_X7_all 61 (s_Row_61 hX) σ140 hIσ140) mv_X5_99 rfl rfl rfl (a_61 hX) dX5_choose_112 ⟨(show (0) + 1 ≤ ((20 + 2 * N + 1)) from by omega), (show 8 + (1 + 11) + 60 * (0) ≤ 60 * ((20 + 2 * N + 1)) from by omega)⟩ ⟨Nat.le_refl _, Nat.le_refl _⟩ rfl (Nat.le_of_ble_eq_true rfl) rfl (fun z146 σ147 hz146 => ?_)
          obtain ⟨r149, rfl, hr149, rfl, -⟩ := hz146
          refine j_st (st' := [vI r149, vR 61, vR 56, vI k]) rfl ?_
          refine j_iload (pc := 115) dX5_choose_115 rfl ?_
          refine j_iload (pc := 117) dX5_choose_117 rfl ?_
          refine j_callV (pc := 119) (As := [vR 61, vI r149, vI 1, vI r134]) (st := [vI k]) (c_X4_riskOver hX 61 (s_Row_61 hX) r149 ⟨by omega, by omega⟩ 1 ⟨by omega, by omega⟩ r134 ⟨by omega, by omega⟩ σ140 hIσ140) mv_X5_102 rfl rfl rfl (a_56 hX) dX5_choose_119 ⟨(show (2) + 1 ≤ ((20 + 2 * N + 1)) from by omega), (show 8 + (7 + 11) + 60 * (2) ≤ 60 * ((20 + 2 * N + 1)) from by omega)⟩ ⟨Nat.le_refl _, Nat.le_refl _⟩ rfl (Nat.le_of_ble_eq_true rfl) rfl (fun z150 σ151 hz150 => ?_)
          obtain ⟨r153, rfl, hr153, hIσ151, hGσ151, -⟩ := hz150
          have hFσ151 : tw_F (fun c j => (56 ≤ c ∧ c < 58) ∨ (60 ≤ c ∧ c < 71)) σ σ151 := tw_F_tr hFσ140 hGσ151 (fun c j q => (show (56 ≤ c ∧ c < 58) ∨ (60 ≤ c ∧ c < 71) from by replace q : c = 57 := q; omega))
          refine j_st (st' := [vI r153, vI k]) rfl ?_
          refine j_iadd (pc := 122) dX5_choose_122 ?_
          refine j_top (fun z154 ez154 hz154 => ?_)
          refine j_istore (pc := 123) (i := 8) (ls' := [(0, vR 60), (1, vI c), (2, vI b), (7, vI (σ140 56 2)), (8, vI z154)]) [1, 2, 3, 7, 0] dX5_choose_123 (Nat.le_of_ble_eq_true rfl) rfl rfl ?_
          refine j_aload_n (pc := 125) dX5_choose_125 rfl rfl ?_
          refine j_getI (pc := 126) fl_X5_42 dX5_choose_126 (a_60 hX) rfl ?_
          refine j_topV (show σ151 60 10 = σ 60 10 from (((hGσ151 60 10 (show ¬ (60 = 57) from by omega))).trans (hGσ140 60 10 (show ¬ ((60 = 56 ∧ (10 = 2 ∨ 10 = 3))) from by omega))).trans (hGσ136 60 10 (show ¬ ((60 = 56 ∧ (10 = 2 ∨ 10 = 3))) from by omega))) ?_
          have f155 : (0 : Int) ≤ σ 60 10 ∧ σ 60 10 ≤ 1 := hI 60 10
          refine j_ifR_eq (pc := 129) (tgt := 142) ⟨by omega, by omega⟩ dX5_choose_129 rfl (fun h156 => ?_) (fun h156 => ?_)
          · refine j_iload_n (pc := 142) dX5_choose_142 rfl rfl ?_
            refine j_aload_n (pc := 143) dX5_choose_143 rfl rfl ?_
            refine j_getI (pc := 144) fl_X5_25 dX5_choose_144 (a_60 hX) rfl ?_
            refine j_topV (show σ151 60 5 = σ 60 5 from (((hGσ151 60 5 (show ¬ (60 = 57) from by omega))).trans (hGσ140 60 5 (show ¬ ((60 = 56 ∧ (5 = 2 ∨ 5 = 3))) from by omega))).trans (hGσ136 60 5 (show ¬ ((60 = 56 ∧ (5 = 2 ∨ 5 = 3))) from by omega))) ?_
            refine j_icmpR_ne (pc := 147) (tgt := 160) ⟨by omega, by omega⟩ ⟨by omega, by omega⟩ dX5_choose_147 rfl (fun h157 => by exfalso; omega) (fun h157 => ?_)
            refine j_aload_n (pc := 150) dX5_choose_150 rfl rfl ?_
            refine j_iload_n (pc := 151) dX5_choose_151 rfl rfl ?_
            refine j_iload (pc := 152) dX5_choose_152 rfl ?_
            refine j_callV (pc := 154) (As := [vI b, vI z154]) (st := []) (c_X5_keepIfBetter hX b ⟨by omega, by omega⟩ z154 ⟨by omega, by omega⟩ σ151 hIσ151) mv_X5_106 rfl rfl rfl (a_60 hX) dX5_choose_154 ⟨(show (1) + 1 ≤ ((20 + 2 * N + 1)) from by omega), (show 8 + (4 + 11) + 60 * (1) ≤ 60 * ((20 + 2 * N + 1)) from by omega)⟩ ⟨Nat.le_refl _, Nat.le_refl _⟩ rfl (Nat.le_of_ble_eq_true rfl) rfl (fun z158 σ159 hz158 => ?_)
            obtain ⟨rfl, hIσ159, hGσ159, -⟩ := hz158
            have hFσ159 : tw_F (fun c j => (56 ≤ c ∧ c < 58) ∨ (60 ≤ c ∧ c < 71)) σ σ159 := tw_F_tr hFσ151 hGσ159 (fun c j q => (show (56 ≤ c ∧ c < 58) ∨ (60 ≤ c ∧ c < 71) from by replace q : (56 ≤ c ∧ c < 58) ∨ (60 ≤ c ∧ c < 71) := q; omega))
            refine j_st (st' := []) rfl ?_
            refine j_goto (pc := 157) (tgt := 170) dX5_choose_157 rfl ?_
            exact j_vret (pc := 170) ⟨rfl, rfl⟩ dX5_choose_170 rfl ⟨rfl, hIσ159, hFσ159, trivial⟩
          · refine j_iload (pc := 132) dX5_choose_132 rfl ?_
            refine j_aload_n (pc := 134) dX5_choose_134 rfl rfl ?_
            refine j_getI (pc := 135) fl_X5_45 dX5_choose_135 (a_60 hX) rfl ?_
            refine j_topV (show σ151 60 11 = σ 60 11 from (((hGσ151 60 11 (show ¬ (60 = 57) from by omega))).trans (hGσ140 60 11 (show ¬ ((60 = 56 ∧ (11 = 2 ∨ 11 = 3))) from by omega))).trans (hGσ136 60 11 (show ¬ ((60 = 56 ∧ (11 = 2 ∨ 11 = 3))) from by omega))) ?_
            have f162 : (-2147483648 : Int) ≤ σ 60 11 ∧ σ 60 11 ≤ 2147483647 := hI 60 11
            refine j_icmpR_le (pc := 138) (tgt := 142) ⟨by omega, by omega⟩ ⟨by omega, by omega⟩ dX5_choose_138 rfl (fun h163 => ?_) (fun h163 => ?_)
            · refine j_iload_n (pc := 142) dX5_choose_142 rfl rfl ?_
              refine j_aload_n (pc := 143) dX5_choose_143 rfl rfl ?_
              refine j_getI (pc := 144) fl_X5_25 dX5_choose_144 (a_60 hX) rfl ?_
              refine j_topV (show σ151 60 5 = σ 60 5 from (((hGσ151 60 5 (show ¬ (60 = 57) from by omega))).trans (hGσ140 60 5 (show ¬ ((60 = 56 ∧ (5 = 2 ∨ 5 = 3))) from by omega))).trans (hGσ136 60 5 (show ¬ ((60 = 56 ∧ (5 = 2 ∨ 5 = 3))) from by omega))) ?_
              refine j_icmpR_ne (pc := 147) (tgt := 160) ⟨by omega, by omega⟩ ⟨by omega, by omega⟩ dX5_choose_147 rfl (fun h164 => by exfalso; omega) (fun h164 => ?_)
              refine j_aload_n (pc := 150) dX5_choose_150 rfl rfl ?_
              refine j_iload_n (pc := 151) dX5_choose_151 rfl rfl ?_
              refine j_iload (pc := 152) dX5_choose_152 rfl ?_
              refine j_callV (pc := 154) (As := [vI b, vI z154]) (st := []) (c_X5_keepIfBetter hX b ⟨by omega, by omega⟩ z154 ⟨by omega, by omega⟩ σ151 hIσ151) mv_X5_106 rfl rfl rfl (a_60 hX) dX5_choose_154 ⟨(show (1) + 1 ≤ ((20 + 2 * N + 1)) from by omega), (show 8 + (4 + 11) + 60 * (1) ≤ 60 * ((20 + 2 * N + 1)) from by omega)⟩ ⟨Nat.le_refl _, Nat.le_refl _⟩ rfl (Nat.le_of_ble_eq_true rfl) rfl (fun z165 σ166 hz165 => ?_)
              obtain ⟨rfl, hIσ166, hGσ166, -⟩ := hz165
              have hFσ166 : tw_F (fun c j => (56 ≤ c ∧ c < 58) ∨ (60 ≤ c ∧ c < 71)) σ σ166 := tw_F_tr hFσ151 hGσ166 (fun c j q => (show (56 ≤ c ∧ c < 58) ∨ (60 ≤ c ∧ c < 71) from by replace q : (56 ≤ c ∧ c < 58) ∨ (60 ≤ c ∧ c < 71) := q; omega))
              refine j_st (st' := []) rfl ?_
              refine j_goto (pc := 157) (tgt := 170) dX5_choose_157 rfl ?_
              exact j_vret (pc := 170) ⟨rfl, rfl⟩ dX5_choose_170 rfl ⟨rfl, hIσ166, hFσ166, trivial⟩
            · exact j_vret (pc := 141) ⟨rfl, rfl⟩ dX5_choose_141 rfl ⟨rfl, hIσ151, hFσ151, trivial⟩
        · exact j_vret (pc := 88) ⟨rfl, rfl⟩ dX5_choose_88 rfl ⟨rfl, hIσ140, hFσ140, trivial⟩
  · exact j_vret (pc := 8) ⟨rfl, rfl⟩ dX5_choose_8 rfl ⟨rfl, hI, (tw_F_rf), trivial⟩
theorem c_X5_choose_all {G : tw_G} (hX : tw_isX G) : ∀ N : Nat, ∀ (c : Int) (hc : 0 ≤ c ∧ c ≤ 11) (b : Int) (hb : -2147483648 ≤ b ∧ b ≤ 2147483647) (e : Int) (he : -2147483648 ≤ e ∧ e ≤ 2147483647) (k : Int) (hk : -2147483648 ≤ k ∧ k ≤ 2147483647) (σ : tw_M) (hI : tw_I σ) (hq0 : 11 - c ≤ (N : Int)), tw_C G yX5_choose cX5_choose 9 none (20 + 2 * N + 1) [vR 60, vI c, vI b, vI e, vI k] σ (q_X5_choose c b e k σ) := by
  intro N
  induction N with
  | zero => exact c_X5_choose_step hX 0 (fun c hc b hb e he k hk σ hI hq => by exfalso; omega)
  | succ N ih => exact c_X5_choose_step hX (N + 1) (fun c hc b hb e he k hk σ hI hq => c_X5_goOn_step hX N ih c hc b hb e he k hk σ hI (by omega))
theorem c_X5_choose {G : tw_G} (hX : tw_isX G) (c : Int) (hc : 0 ≤ c ∧ c ≤ 11) (b : Int) (hb : -2147483648 ≤ b ∧ b ≤ 2147483647) (e : Int) (he : -2147483648 ≤ e ∧ e ≤ 2147483647) (k : Int) (hk : -2147483648 ≤ k ∧ k ≤ 2147483647) (σ : tw_M) (hI : tw_I σ) (hq0 : 11 - c ≤ 11) : tw_C G yX5_choose cX5_choose 9 none 43 [vR 60, vI c, vI b, vI e, vI k] σ (q_X5_choose c b e k σ) := c_X5_choose_all hX 11 c hc b hb e he k hk σ hI (by omega)
abbrev q_X5_findPlan  (σ : tw_M) : Option tw_V → tw_M → Prop := fun z τ => z = none ∧ tw_I τ ∧ tw_F (fun c j => (56 ≤ c ∧ c < 58) ∨ (60 ≤ c ∧ c < 71)) σ τ ∧ True
set_option maxHeartbeats 4000000 in
set_option maxRecDepth 100000 in
theorem c_X5_findPlan {G : tw_G} (hX : tw_isX G) (σ : tw_M) (hI : tw_I σ) : tw_C G yX5_findPlan cX5_findPlan 1 none 44 [vR 60] σ (q_X5_findPlan σ) := by
  refine tw_met [(0, vR 60)] (by decide +kernel) rfl (Nat.le_of_ble_eq_true rfl) ?_
  refine j_aload_n (pc := 0) dX5_findPlan_0 rfl rfl ?_
  refine j_getI (pc := 1) fl_X5_29 dX5_findPlan_1 (a_60 hX) rfl ?_
  have f1 : (0 : Int) ≤ σ 60 6 ∧ σ 60 6 ≤ 1 := hI 60 6
  refine j_ifR_eq (pc := 4) (tgt := 8) ⟨by omega, by omega⟩ dX5_findPlan_4 rfl (fun h2 => ?_) (fun h2 => ?_)
  · refine j_aload_n (pc := 8) dX5_findPlan_8 rfl rfl ?_
    refine j_iconst (pc := 9) dX5_findPlan_9 ?_
    refine j_putZ (pc := 10) (by omega) fl_X5_29 fp_X5_6 dX5_findPlan_10 (a_60 hX) rfl (j_nm (fun σ3 (eσ3 : σ3 = tw_up σ 60 6 1) => ?_))
    have hIσ3 : tw_I σ3 := tw_I_up hI eσ3 (show (0 : Int) ≤ 1 ∧ 1 ≤ 1 from ⟨by omega, by omega⟩)
    have hFσ3 : tw_F (fun c j => (56 ≤ c ∧ c < 58) ∨ (60 ≤ c ∧ c < 71)) σ σ3 := tw_F_up (tw_F_rf) eσ3 (show (56 ≤ 60 ∧ 60 < 58) ∨ (60 ≤ 60 ∧ 60 < 71) from by omega)
    refine j_aload_n (pc := 13) dX5_findPlan_13 rfl rfl ?_
    refine j_iconst (pc := 14) dX5_findPlan_14 ?_
    refine j_putZ (pc := 15) (by omega) fl_X5_42 fp_X5_10 dX5_findPlan_15 (a_60 hX) rfl (j_nm (fun σ4 (eσ4 : σ4 = tw_up σ3 60 10 0) => ?_))
    have hIσ4 : tw_I σ4 := tw_I_up hIσ3 eσ4 (show (0 : Int) ≤ 0 ∧ 0 ≤ 1 from ⟨by omega, by omega⟩)
    have hFσ4 : tw_F (fun c j => (56 ≤ c ∧ c < 58) ∨ (60 ≤ c ∧ c < 71)) σ σ4 := tw_F_up hFσ3 eσ4 (show (56 ≤ 60 ∧ 60 < 58) ∨ (60 ≤ 60 ∧ 60 < 71) from by omega)
    refine j_aload_n (pc := 18) dX5_findPlan_18 rfl rfl ?_
    refine j_callV (pc := 19) (As := []) (st := []) (c_X5_begin hX σ4 hIσ4) mv_X5_62 rfl rfl rfl (a_60 hX) dX5_findPlan_19 ⟨Nat.le_of_ble_eq_true rfl, Nat.le_of_ble_eq_true rfl⟩ ⟨Nat.le_refl _, Nat.le_refl _⟩ rfl (Nat.le_of_ble_eq_true rfl) rfl (fun z5 σ6 hz5 => ?_)
    obtain ⟨rfl, hIσ6, hGσ6, -⟩ := hz5
    have hFσ6 : tw_F (fun c j => (56 ≤ c ∧ c < 58) ∨ (60 ≤ c ∧ c < 71)) σ σ6 := tw_F_tr hFσ4 hGσ6 (fun c j q => (show (56 ≤ c ∧ c < 58) ∨ (60 ≤ c ∧ c < 71) from by replace q : (56 ≤ c ∧ c < 58) ∨ (60 ≤ c ∧ c < 71) := q; omega))
    refine j_st (st' := []) rfl ?_
    refine j_aload_n (pc := 22) dX5_findPlan_22 rfl rfl ?_
    refine j_iconst (pc := 23) dX5_findPlan_23 ?_
    refine j_iconst (pc := 24) dX5_findPlan_24 ?_
    refine j_iconst (pc := 25) dX5_findPlan_25 ?_
    refine j_iconst (pc := 26) dX5_findPlan_26 ?_
    refine j_callV (pc := 27) (As := [vI 0, vI 0, vI 0, vI 0]) (st := []) (c_X5_choose hX 0 ⟨by omega, by omega⟩ 0 ⟨by omega, by omega⟩ 0 ⟨by omega, by omega⟩ 0 ⟨by omega, by omega⟩ σ6 hIσ6 (by omega)) mv_X5_65 rfl rfl rfl (a_60 hX) dX5_findPlan_27 ⟨Nat.le_of_ble_eq_true rfl, Nat.le_of_ble_eq_true rfl⟩ ⟨Nat.le_refl _, Nat.le_refl _⟩ rfl (Nat.le_of_ble_eq_true rfl) rfl (fun z9 σ10 hz9 => ?_)
    obtain ⟨rfl, hIσ10, hGσ10, -⟩ := hz9
    have hFσ10 : tw_F (fun c j => (56 ≤ c ∧ c < 58) ∨ (60 ≤ c ∧ c < 71)) σ σ10 := tw_F_tr hFσ6 hGσ10 (fun c j q => (show (56 ≤ c ∧ c < 58) ∨ (60 ≤ c ∧ c < 71) from by replace q : (56 ≤ c ∧ c < 58) ∨ (60 ≤ c ∧ c < 71) := q; omega))
    refine j_st (st' := []) rfl ?_
    exact j_vret (pc := 30) ⟨rfl, rfl⟩ dX5_findPlan_30 rfl ⟨rfl, hIσ10, hFσ10, trivial⟩
  · exact j_vret (pc := 7) ⟨rfl, rfl⟩ dX5_findPlan_7 rfl ⟨rfl, hI, (tw_F_rf), trivial⟩
abbrev q_X5_follow (r0 : Int) (σ : tw_M) : Option tw_V → tw_M → Prop := fun z τ => z = none ∧ tw_I τ ∧ tw_F (fun c j => (56 ≤ c ∧ c < 58) ∨ (60 ≤ c ∧ c < 71)) σ τ ∧ True
set_option maxHeartbeats 4000000 in
set_option maxRecDepth 100000 in
theorem l_X5_follow {G : tw_G} (hX : tw_isX G) (r0 : Int) (hr0 : -2147483648 ≤ r0 ∧ r0 ≤ 2147483647) (σ : tw_M) (hI : tw_I σ) : ∀ N_ : Nat, (∀ (l : Int) (hl : 0 ≤ l ∧ l ≤ 40) (c : Int) (hc : 0 ≤ c ∧ c ≤ 10) (τ : tw_M) (hIτ : tw_I τ) (hFτ : tw_F (fun c j => (56 ≤ c ∧ c < 58) ∨ (60 ≤ c ∧ c < 71)) σ τ)  (hm : (10 - c).toNat < N_), tw_J G (tw_mt RX5 cX5_follow 6 none 2) (tw_E G (q_X5_follow r0 σ)) 8 [(0, vR 60), (1, vI r0), (2, vI l), (3, vI c)] [] τ) := by
  intro N_
  induction N_ with
  | zero => exact fun l hl c hc τ hIτ hFτ hm => absurd hm (Nat.not_lt_zero _)
  | succ N_ ih =>
    intro l hl c hc τ hIτ hFτ hm
    refine j_iload_n (pc := 8) dX5_follow_8 rfl rfl ?_
    refine j_aload_n (pc := 9) dX5_follow_9 rfl rfl ?_
    refine j_getI (pc := 10) fl_X5_25 dX5_follow_10 (a_60 hX) rfl ?_
    have f1 : (0 : Int) ≤ τ 60 5 ∧ τ 60 5 ≤ 10 := hIτ 60 5
    refine j_icmpR_ge (pc := 13) (tgt := 86) ⟨by omega, by omega⟩ ⟨by omega, by omega⟩ dX5_follow_13 rfl (fun h2 => ?_) (fun h2 => ?_)
    · exact j_vret (pc := 86) ⟨rfl, rfl⟩ dX5_follow_86 rfl ⟨rfl, hIτ, hFτ, trivial⟩
    · refine j_aload_n (pc := 16) dX5_follow_16 rfl rfl ?_
      refine j_getR (pc := 17) (r := 66) fl_X5_22 dX5_follow_17 (a_60 hX) rfl ?_
      refine j_iload_n (pc := 20) dX5_follow_20 rfl rfl ?_
      refine j_iald (pc := 21) dX5_follow_21 (a_66 hX) (by omega) (by omega) (by decide) ?_
      have f3 : (0 : Int) ≤ τ 66 (c.toNat) ∧ τ 66 (c.toNat) ≤ 40 := hIτ 66 (c.toNat)
      refine j_istore (pc := 22) (i := 4) (ls' := [(0, vR 60), (1, vI r0), (2, vI l), (3, vI c), (4, vI (τ 66 (c.toNat)))]) [1, 2, 3, 4, 0] dX5_follow_22 (Nat.le_of_ble_eq_true rfl) rfl rfl ?_
      refine j_aload_n (pc := 24) dX5_follow_24 rfl rfl ?_
      refine j_getR (pc := 25) (r := 1) fl_X5_54 dX5_follow_25 (a_60 hX) rfl ?_
      refine j_getR (pc := 28) (r := 5) fl_X5_81 dX5_follow_28 (a_1 hX) rfl ?_
      refine j_iload (pc := 31) dX5_follow_31 rfl ?_
      refine j_iald (pc := 33) dX5_follow_33 (a_5 hX) (by omega) (by omega) (by decide) ?_
      have f4 : (0 : Int) ≤ τ 5 ((τ 66 (c.toNat)).toNat) ∧ τ 5 ((τ 66 (c.toNat)).toNat) ≤ 10 := hIτ 5 ((τ 66 (c.toNat)).toNat)
      refine j_istore (pc := 34) (i := 5) (ls' := [(0, vR 60), (1, vI r0), (2, vI l), (3, vI c), (4, vI (τ 66 (c.toNat))), (5, vI (τ 5 ((τ 66 (c.toNat)).toNat)))]) [1, 2, 3, 4, 5, 0] dX5_follow_34 (Nat.le_of_ble_eq_true rfl) rfl rfl ?_
      refine j_iload (pc := 36) dX5_follow_36 rfl ?_
      refine j_iload_n (pc := 38) dX5_follow_38 rfl rfl ?_
      refine j_isub (pc := 39) dX5_follow_39 ?_
      refine j_iload_n (pc := 40) dX5_follow_40 rfl rfl ?_
      refine j_icmpR_lt (pc := 41) (tgt := 80) ⟨by omega, by omega⟩ ⟨by omega, by omega⟩ dX5_follow_41 rfl (fun h5 => ?_) (fun h5 => ?_)
      · refine j_iinc (pc := 80) (i := 3) (n := 1) (ls' := [(0, vR 60), (1, vI r0), (2, vI l), (3, vI (c + 1))]) [1, 2, 3, 0] dX5_follow_80 rfl (Nat.le_of_ble_eq_true rfl) rfl rfl ?_
        refine j_goto (pc := 83) (tgt := 8) dX5_follow_83 rfl ?_
        refine j_ls (ls' := [(0, vR 60), (1, vI r0), (2, vI l), (3, vI (c + 1))]) [0, 1, 2, 3] rfl ?_
        exact ih l ⟨by omega, by omega⟩ (c + 1) ⟨by omega, by omega⟩ τ hIτ hFτ (show (10 - (c + 1)).toNat < N_ from by omega)
      · refine j_aload_n (pc := 44) dX5_follow_44 rfl rfl ?_
        refine j_getR (pc := 45) (r := 65) fl_X5_18 dX5_follow_45 (a_60 hX) rfl ?_
        refine j_iload (pc := 48) dX5_follow_48 rfl ?_
        refine j_iald (pc := 50) dX5_follow_50 (a_65 hX) (by omega) (by omega) (by decide) ?_
        have f6 : (-2147483648 : Int) ≤ τ 65 ((τ 5 ((τ 66 (c.toNat)).toNat)).toNat) ∧ τ 65 ((τ 5 ((τ 66 (c.toNat)).toNat)).toNat) ≤ 2147483647 := hIτ 65 ((τ 5 ((τ 66 (c.toNat)).toNat)).toNat)
        refine j_ifR_le (pc := 51) (tgt := 80) ⟨by omega, by omega⟩ dX5_follow_51 rfl (fun h7 => ?_) (fun h7 => ?_)
        · refine j_iinc (pc := 80) (i := 3) (n := 1) (ls' := [(0, vR 60), (1, vI r0), (2, vI l), (3, vI (c + 1))]) [1, 2, 3, 0] dX5_follow_80 rfl (Nat.le_of_ble_eq_true rfl) rfl rfl ?_
          refine j_goto (pc := 83) (tgt := 8) dX5_follow_83 rfl ?_
          refine j_ls (ls' := [(0, vR 60), (1, vI r0), (2, vI l), (3, vI (c + 1))]) [0, 1, 2, 3] rfl ?_
          exact ih l ⟨by omega, by omega⟩ (c + 1) ⟨by omega, by omega⟩ τ hIτ hFτ (show (10 - (c + 1)).toNat < N_ from by omega)
        · refine j_aload_n (pc := 54) dX5_follow_54 rfl rfl ?_
          refine j_getR (pc := 55) (r := 65) fl_X5_18 dX5_follow_55 (a_60 hX) rfl ?_
          refine j_iload (pc := 58) dX5_follow_58 rfl ?_
          refine j_dup2 (pc := 60) dX5_follow_60 rfl rfl ?_
          refine j_iald (pc := 61) dX5_follow_61 (a_65 hX) (by omega) (by omega) (by decide) ?_
          refine j_iconst (pc := 62) dX5_follow_62 ?_
          refine j_isub (pc := 63) dX5_follow_63 ?_
          refine j_iast (pc := 64) dX5_follow_64 (a_65 hX) (by omega) (by omega) (by decide) (j_nm (fun σ8 (eσ8 : σ8 = tw_up τ 65 ((τ 5 ((τ 66 (c.toNat)).toNat)).toNat) ((τ 65 ((τ 5 ((τ 66 (c.toNat)).toNat)).toNat)) - 1)) => ?_))
          have hIσ8 : tw_I σ8 := tw_I_up hIτ eσ8 (show (-2147483648 : Int) ≤ (τ 65 ((τ 5 ((τ 66 (c.toNat)).toNat)).toNat)) - 1 ∧ (τ 65 ((τ 5 ((τ 66 (c.toNat)).toNat)).toNat)) - 1 ≤ 2147483647 from ⟨by omega, by omega⟩)
          have hFσ8 : tw_F (fun c j => (56 ≤ c ∧ c < 58) ∨ (60 ≤ c ∧ c < 71)) σ σ8 := tw_F_up hFτ eσ8 (show (56 ≤ 65 ∧ 65 < 58) ∨ (60 ≤ 65 ∧ 65 < 71) from by omega)
          refine j_aload_n (pc := 65) dX5_follow_65 rfl rfl ?_
          refine j_getR (pc := 66) (r := 61) fl_X5_12 dX5_follow_66 (a_60 hX) rfl ?_
          refine j_iload (pc := 69) dX5_follow_69 rfl ?_
          refine j_iload (pc := 71) dX5_follow_71 rfl ?_
          refine j_callV (pc := 73) (As := [vI (τ 66 (c.toNat)), vI (τ 5 ((τ 66 (c.toNat)).toNat))]) (st := []) (c_X7_insert 61 (s_Row_61 hX) (τ 66 (c.toNat)) ⟨by omega, by omega⟩ (τ 5 ((τ 66 (c.toNat)).toNat)) ⟨by omega, by omega⟩ σ8 hIσ8) mv_X5_113 rfl rfl rfl (a_61 hX) dX5_follow_73 ⟨Nat.le_of_ble_eq_true rfl, Nat.le_of_ble_eq_true rfl⟩ ⟨Nat.le_refl _, Nat.le_refl _⟩ rfl (Nat.le_of_ble_eq_true rfl) rfl (fun z9 σ10 hz9 => ?_)
          obtain ⟨r12, rfl, hr12, hIσ10, hGσ10, -⟩ := hz9
          have hFσ10 : tw_F (fun c j => (56 ≤ c ∧ c < 58) ∨ (60 ≤ c ∧ c < 71)) σ σ10 := tw_F_tr hFσ8 hGσ10 (fun c j q => (show (56 ≤ c ∧ c < 58) ∨ (60 ≤ c ∧ c < 71) from by replace q : (61 ≤ c ∧ c < 65) := q; omega))
          refine j_st (st' := [vI r12]) rfl ?_
          refine j_pop (pc := 76) dX5_follow_76 rfl ?_
          refine j_iload (pc := 77) dX5_follow_77 rfl ?_
          refine j_istore_n (pc := 79) (i := 2) (ls' := [(0, vR 60), (1, vI r0), (2, vI (τ 66 (c.toNat))), (3, vI c)]) [1, 2, 0, 3] dX5_follow_79 rfl (Nat.le_of_ble_eq_true rfl) rfl rfl ?_
          refine j_iinc (pc := 80) (i := 3) (n := 1) (ls' := [(0, vR 60), (1, vI r0), (2, vI (τ 66 (c.toNat))), (3, vI (c + 1))]) [1, 2, 3, 0] dX5_follow_80 rfl (Nat.le_of_ble_eq_true rfl) rfl rfl ?_
          refine j_goto (pc := 83) (tgt := 8) dX5_follow_83 rfl ?_
          refine j_ls (ls' := [(0, vR 60), (1, vI r0), (2, vI (τ 66 (c.toNat))), (3, vI (c + 1))]) [0, 1, 2, 3] rfl ?_
          exact ih (τ 66 (c.toNat)) ⟨by omega, by omega⟩ (c + 1) ⟨by omega, by omega⟩ σ10 hIσ10 hFσ10 (show (10 - (c + 1)).toNat < N_ from by omega)
set_option maxHeartbeats 4000000 in
set_option maxRecDepth 100000 in
theorem c_X5_follow {G : tw_G} (hX : tw_isX G) (r0 : Int) (hr0 : -2147483648 ≤ r0 ∧ r0 ≤ 2147483647) (σ : tw_M) (hI : tw_I σ) : tw_C G yX5_follow cX5_follow 6 none 2 [vR 60, vI r0] σ (q_X5_follow r0 σ) := by
  refine tw_met [(0, vR 60), (1, vI r0)] (by decide +kernel) rfl (Nat.le_of_ble_eq_true rfl) ?_
  refine j_aload_n (pc := 0) dX5_follow_0 rfl rfl ?_
  refine j_callV (pc := 1) (As := []) (st := []) (c_X5_begin hX σ hI) mv_X5_62 rfl rfl rfl (a_60 hX) dX5_follow_1 ⟨Nat.le_of_ble_eq_true rfl, Nat.le_of_ble_eq_true rfl⟩ ⟨Nat.le_refl _, Nat.le_refl _⟩ rfl (Nat.le_of_ble_eq_true rfl) rfl (fun z13 σ14 hz13 => ?_)
  obtain ⟨rfl, hIσ14, hGσ14, -⟩ := hz13
  have hFσ14 : tw_F (fun c j => (56 ≤ c ∧ c < 58) ∨ (60 ≤ c ∧ c < 71)) σ σ14 := tw_F_tr (tw_F_rf) hGσ14 (fun c j q => (show (56 ≤ c ∧ c < 58) ∨ (60 ≤ c ∧ c < 71) from by replace q : (56 ≤ c ∧ c < 58) ∨ (60 ≤ c ∧ c < 71) := q; omega))
  refine j_st (st' := []) rfl ?_
  refine j_iconst (pc := 4) dX5_follow_4 ?_
  refine j_istore_n (pc := 5) (i := 2) (ls' := [(0, vR 60), (1, vI r0), (2, vI 0)]) [1, 2, 0] dX5_follow_5 rfl (Nat.le_of_ble_eq_true rfl) rfl rfl ?_
  refine j_iconst (pc := 6) dX5_follow_6 ?_
  refine j_istore_n (pc := 7) (i := 3) (ls' := [(0, vR 60), (1, vI r0), (2, vI 0), (3, vI 0)]) [1, 2, 3, 0] dX5_follow_7 rfl (Nat.le_of_ble_eq_true rfl) rfl rfl ?_
  refine j_ls (ls' := [(0, vR 60), (1, vI r0), (2, vI 0), (3, vI 0)]) [0, 1, 2, 3] rfl ?_
  exact (l_X5_follow hX r0 hr0 σ hI (((10 - (0 : Int)).toNat) + 1)) 0 ⟨by omega, by omega⟩ 0 ⟨by omega, by omega⟩ σ14 hIσ14 hFσ14 (Nat.lt_succ_self _)
abbrev q_X5_ruleRisk  (σ : tw_M) : Option tw_V → tw_M → Prop := fun z τ => ∃ r : Int, z = some (vI r) ∧ (-2147483648 ≤ r ∧ r ≤ 2147483647) ∧ tw_I τ ∧ tw_F (fun c j => (56 ≤ c ∧ c < 58) ∨ (60 ≤ c ∧ c < 71)) σ τ ∧ True
set_option maxHeartbeats 4000000 in
set_option maxRecDepth 100000 in
theorem c_X5_ruleRisk {G : tw_G} (hX : tw_isX G) (σ : tw_M) (hI : tw_I σ) : tw_C G yX5_ruleRisk cX5_ruleRisk 1 (some .int) 4 [vR 60] σ (q_X5_ruleRisk σ) := by
  refine tw_met [(0, vR 60)] (by decide +kernel) rfl (Nat.le_of_ble_eq_true rfl) ?_
  refine j_aload_n (pc := 0) dX5_ruleRisk_0 rfl rfl ?_
  refine j_getR (pc := 1) (r := 56) fl_X5_58 dX5_ruleRisk_1 (a_60 hX) rfl ?_
  refine j_aload_n (pc := 4) dX5_ruleRisk_4 rfl rfl ?_
  refine j_getR (pc := 5) (r := 61) fl_X5_12 dX5_ruleRisk_5 (a_60 hX) rfl ?_
  refine j_aload_n (pc := 8) dX5_ruleRisk_8 rfl rfl ?_
  refine j_getR (pc := 9) (r := 61) fl_X5_12 dX5_ruleRisk_9 (a_60 hX) rfl ?_
  refine j_callV (pc := 12) (As := []) (st := [vR 61, vR 56]) (c_X7_all 61 (s_Row_61 hX) σ hI) mv_X5_99 rfl rfl rfl (a_61 hX) dX5_ruleRisk_12 ⟨Nat.le_of_ble_eq_true rfl, Nat.le_of_ble_eq_true rfl⟩ ⟨Nat.le_refl _, Nat.le_refl _⟩ rfl (Nat.le_of_ble_eq_true rfl) rfl (fun z1 σ2 hz1 => ?_)
  obtain ⟨r4, rfl, hr4, rfl, -⟩ := hz1
  refine j_st (st' := [vI r4, vR 61, vR 56]) rfl ?_
  refine j_callV (pc := 15) (As := [vR 61, vI r4]) (st := []) (c_X4_riskOf hX 61 (s_Row_61 hX) r4 ⟨by omega, by omega⟩ σ hI) mv_X5_124 rfl rfl rfl (a_56 hX) dX5_ruleRisk_15 ⟨Nat.le_of_ble_eq_true rfl, Nat.le_of_ble_eq_true rfl⟩ ⟨Nat.le_refl _, Nat.le_refl _⟩ rfl (Nat.le_of_ble_eq_true rfl) rfl (fun z5 σ6 hz5 => ?_)
  obtain ⟨r8, rfl, hr8, hIσ6, hGσ6, -⟩ := hz5
  have hFσ6 : tw_F (fun c j => (56 ≤ c ∧ c < 58) ∨ (60 ≤ c ∧ c < 71)) σ σ6 := tw_F_tr (tw_F_rf) hGσ6 (fun c j q => (show (56 ≤ c ∧ c < 58) ∨ (60 ≤ c ∧ c < 71) from by replace q : c = 57 := q; omega))
  refine j_st (st' := [vI r8]) rfl ?_
  exact j_iret (pc := 18) ⟨rfl, rfl⟩ dX5_ruleRisk_18 rfl ⟨_, rfl, ⟨by omega, by omega⟩, hIσ6, hFσ6, trivial⟩
abbrev q_X5_ruleSize  (σ : tw_M) : Option tw_V → tw_M → Prop := fun z τ => ∃ r : Int, z = some (vI r) ∧ (0 ≤ r ∧ r ≤ 10) ∧ σ = τ ∧ True
set_option maxHeartbeats 4000000 in
set_option maxRecDepth 100000 in
theorem c_X5_ruleSize {G : tw_G} (hX : tw_isX G) (σ : tw_M) (hI : tw_I σ) : tw_C G yX5_ruleSize cX5_ruleSize 1 (some .int) 0 [vR 60] σ (q_X5_ruleSize σ) := by
  refine tw_met [(0, vR 60)] (by decide +kernel) rfl (Nat.le_of_ble_eq_true rfl) ?_
  refine j_aload_n (pc := 0) dX5_ruleSize_0 rfl rfl ?_
  refine j_getR (pc := 1) (r := 61) fl_X5_12 dX5_ruleSize_1 (a_60 hX) rfl ?_
  refine j_getI (pc := 4) fl_X5_69 dX5_ruleSize_4 (a_61 hX) rfl ?_
  have f1 : (0 : Int) ≤ σ 61 0 ∧ σ 61 0 ≤ 10 := hI 61 0
  exact j_iret (pc := 7) ⟨rfl, rfl⟩ dX5_ruleSize_7 rfl ⟨_, rfl, ⟨by omega, by omega⟩, rfl, trivial⟩
abbrev q_X5_ruleIsTooMuch  (σ : tw_M) : Option tw_V → tw_M → Prop := fun z τ => ∃ r : Int, z = some (vI r) ∧ (0 ≤ r ∧ r ≤ 1) ∧ tw_I τ ∧ tw_F (fun c j => (56 ≤ c ∧ c < 58) ∨ (60 ≤ c ∧ c < 71)) σ τ ∧ True
set_option maxHeartbeats 4000000 in
set_option maxRecDepth 100000 in
theorem c_X5_ruleIsTooMuch {G : tw_G} (hX : tw_isX G) (σ : tw_M) (hI : tw_I σ) : tw_C G yX5_ruleIsTooMuch cX5_ruleIsTooMuch 1 (some .boolean) 3 [vR 60] σ (q_X5_ruleIsTooMuch σ) := by
  refine tw_met [(0, vR 60)] (by decide +kernel) rfl (Nat.le_of_ble_eq_true rfl) ?_
  refine j_aload_n (pc := 0) dX5_ruleIsTooMuch_0 rfl rfl ?_
  refine j_getR (pc := 1) (r := 56) fl_X5_58 dX5_ruleIsTooMuch_1 (a_60 hX) rfl ?_
  refine j_aload_n (pc := 4) dX5_ruleIsTooMuch_4 rfl rfl ?_
  refine j_getR (pc := 5) (r := 61) fl_X5_12 dX5_ruleIsTooMuch_5 (a_60 hX) rfl ?_
  refine j_callV (pc := 8) (As := [vR 61]) (st := []) (c_X4_climbAll hX 61 (s_Row_61 hX) σ hI) mv_X5_128 rfl rfl rfl (a_56 hX) dX5_ruleIsTooMuch_8 ⟨Nat.le_of_ble_eq_true rfl, Nat.le_of_ble_eq_true rfl⟩ ⟨Nat.le_refl _, Nat.le_refl _⟩ rfl (Nat.le_of_ble_eq_true rfl) rfl (fun z1 σ2 hz1 => ?_)
  obtain ⟨rfl, hIσ2, hGσ2, -⟩ := hz1
  have hFσ2 : tw_F (fun c j => (56 ≤ c ∧ c < 58) ∨ (60 ≤ c ∧ c < 71)) σ σ2 := tw_F_tr (tw_F_rf) hGσ2 (fun c j q => (show (56 ≤ c ∧ c < 58) ∨ (60 ≤ c ∧ c < 71) from by replace q : (c = 56 ∧ (j = 2 ∨ j = 3)) := q; omega))
  refine j_st (st' := []) rfl ?_
  refine j_aload_n (pc := 11) dX5_ruleIsTooMuch_11 rfl rfl ?_
  refine j_getR (pc := 12) (r := 56) fl_X5_58 dX5_ruleIsTooMuch_12 (a_60 hX) rfl ?_
  refine j_getI (pc := 15) fl_X5_93 dX5_ruleIsTooMuch_15 (a_56 hX) rfl ?_
  have f5 : (-2147483648 : Int) ≤ σ2 56 3 ∧ σ2 56 3 ≤ 2147483647 := hIσ2 56 3
  refine j_ifR_le (pc := 18) (tgt := 25) ⟨by omega, by omega⟩ dX5_ruleIsTooMuch_18 rfl (fun h6 => ?_) (fun h6 => ?_)
  · refine j_iconst (pc := 25) dX5_ruleIsTooMuch_25 ?_
    exact j_zret (pc := 26) ⟨rfl, rfl⟩ dX5_ruleIsTooMuch_26 rfl (nar_bool (by omega) (by omega)) ⟨_, rfl, ⟨by omega, by omega⟩, hIσ2, hFσ2, trivial⟩
  · refine j_iconst (pc := 21) dX5_ruleIsTooMuch_21 ?_
    refine j_goto (pc := 22) (tgt := 26) dX5_ruleIsTooMuch_22 rfl ?_
    exact j_zret (pc := 26) ⟨rfl, rfl⟩ dX5_ruleIsTooMuch_26 rfl (nar_bool (by omega) (by omega)) ⟨_, rfl, ⟨by omega, by omega⟩, hIσ2, hFσ2, trivial⟩
abbrev q_X5_findBest  (σ : tw_M) : Option tw_V → tw_M → Prop := fun z τ => z = none ∧ tw_I τ ∧ tw_F (fun c j => (56 ≤ c ∧ c < 58) ∨ (60 ≤ c ∧ c < 71)) σ τ ∧ True
set_option maxHeartbeats 4000000 in
set_option maxRecDepth 100000 in
theorem l_X5_findBest {G : tw_G} (hX : tw_isX G) (σ : tw_M) (hI : tw_I σ) : ∀ N_ : Nat, (∀ (i : Int) (hi : 1 ≤ i ∧ i ≤ 41) (τ : tw_M) (hIτ : tw_I τ) (hFτ : tw_F (fun c j => (56 ≤ c ∧ c < 58) ∨ (60 ≤ c ∧ c < 71)) σ τ)  (hm : (41 - i).toNat < N_), tw_J G (tw_mt RX5 cX5_findBest 3 none 45) (tw_E G (q_X5_findBest σ)) 29 [(0, vR 60), (1, vI i)] [] τ) := by
  intro N_
  induction N_ with
  | zero => exact fun i hi τ hIτ hFτ hm => absurd hm (Nat.not_lt_zero _)
  | succ N_ ih =>
    intro i hi τ hIτ hFτ hm
    refine j_iload_n (pc := 29) dX5_findBest_29 rfl rfl ?_
    refine j_bipush (pc := 30) dX5_findBest_30 rfl ?_
    refine j_icmpR_gt (pc := 32) (tgt := 86) ⟨by omega, by omega⟩ ⟨by omega, by omega⟩ dX5_findBest_32 rfl (fun h1 => ?_) (fun h1 => ?_)
    · exact j_vret (pc := 86) ⟨rfl, rfl⟩ dX5_findBest_86 rfl ⟨rfl, hIτ, hFτ, trivial⟩
    · refine j_aload_n (pc := 35) dX5_findBest_35 rfl rfl ?_
      refine j_iload_n (pc := 36) dX5_findBest_36 rfl rfl ?_
      refine j_callV (pc := 37) (As := [vI i]) (st := []) (c_X5_follow hX i ⟨by omega, by omega⟩ τ hIτ) mv_X5_134 rfl rfl rfl (a_60 hX) dX5_findBest_37 ⟨Nat.le_of_ble_eq_true rfl, Nat.le_of_ble_eq_true rfl⟩ ⟨Nat.le_refl _, Nat.le_refl _⟩ rfl (Nat.le_of_ble_eq_true rfl) rfl (fun z2 σ3 hz2 => ?_)
      obtain ⟨rfl, hIσ3, hGσ3, -⟩ := hz2
      have hFσ3 : tw_F (fun c j => (56 ≤ c ∧ c < 58) ∨ (60 ≤ c ∧ c < 71)) σ σ3 := tw_F_tr hFτ hGσ3 (fun c j q => (show (56 ≤ c ∧ c < 58) ∨ (60 ≤ c ∧ c < 71) from by replace q : (56 ≤ c ∧ c < 58) ∨ (60 ≤ c ∧ c < 71) := q; omega))
      refine j_st (st' := []) rfl ?_
      refine j_aload_n (pc := 40) dX5_findBest_40 rfl rfl ?_
      refine j_callV (pc := 41) (As := []) (st := []) (c_X5_ruleIsTooMuch hX σ3 hIσ3) mv_X5_137 rfl rfl rfl (a_60 hX) dX5_findBest_41 ⟨Nat.le_of_ble_eq_true rfl, Nat.le_of_ble_eq_true rfl⟩ ⟨Nat.le_refl _, Nat.le_refl _⟩ rfl (Nat.le_of_ble_eq_true rfl) rfl (fun z6 σ7 hz6 => ?_)
      obtain ⟨r9, rfl, hr9, hIσ7, hGσ7, -⟩ := hz6
      have hFσ7 : tw_F (fun c j => (56 ≤ c ∧ c < 58) ∨ (60 ≤ c ∧ c < 71)) σ σ7 := tw_F_tr hFσ3 hGσ7 (fun c j q => (show (56 ≤ c ∧ c < 58) ∨ (60 ≤ c ∧ c < 71) from by replace q : (56 ≤ c ∧ c < 58) ∨ (60 ≤ c ∧ c < 71) := q; omega))
      refine j_st (st' := [vI r9]) rfl ?_
      refine j_ifR_eq (pc := 44) (tgt := 50) ⟨by omega, by omega⟩ dX5_findBest_44 rfl (fun h10 => ?_) (fun h10 => ?_)
      · refine j_aload_n (pc := 50) dX5_findBest_50 rfl rfl ?_
        refine j_callV (pc := 51) (As := []) (st := []) (c_X5_ruleRisk hX σ7 hIσ7) mv_X5_141 rfl rfl rfl (a_60 hX) dX5_findBest_51 ⟨Nat.le_of_ble_eq_true rfl, Nat.le_of_ble_eq_true rfl⟩ ⟨Nat.le_refl _, Nat.le_refl _⟩ rfl (Nat.le_of_ble_eq_true rfl) rfl (fun z11 σ12 hz11 => ?_)
        obtain ⟨r14, rfl, hr14, hIσ12, hGσ12, -⟩ := hz11
        have hFσ12 : tw_F (fun c j => (56 ≤ c ∧ c < 58) ∨ (60 ≤ c ∧ c < 71)) σ σ12 := tw_F_tr hFσ7 hGσ12 (fun c j q => (show (56 ≤ c ∧ c < 58) ∨ (60 ≤ c ∧ c < 71) from by replace q : (56 ≤ c ∧ c < 58) ∨ (60 ≤ c ∧ c < 71) := q; omega))
        refine j_st (st' := [vI r14]) rfl ?_
        refine j_istore_n (pc := 54) (i := 2) (ls' := [(0, vR 60), (1, vI i), (2, vI r14)]) [1, 2, 0] dX5_findBest_54 rfl (Nat.le_of_ble_eq_true rfl) rfl rfl ?_
        refine j_aload_n (pc := 55) dX5_findBest_55 rfl rfl ?_
        refine j_getI (pc := 56) fl_X5_48 dX5_findBest_56 (a_60 hX) rfl ?_
        have f15 : (0 : Int) ≤ σ12 60 12 ∧ σ12 60 12 ≤ 40 := hIσ12 60 12
        refine j_ifR_eq (pc := 59) (tgt := 70) ⟨by omega, by omega⟩ dX5_findBest_59 rfl (fun h16 => ?_) (fun h16 => ?_)
        · refine j_aload_n (pc := 70) dX5_findBest_70 rfl rfl ?_
          refine j_iload_n (pc := 71) dX5_findBest_71 rfl rfl ?_
          refine j_putI (pc := 72) fl_X5_48 fp_X5_12 dX5_findBest_72 (a_60 hX) rfl (j_nm (fun σ17 (eσ17 : σ17 = tw_up σ12 60 12 i) => ?_))
          have hIσ17 : tw_I σ17 := tw_I_up hIσ12 eσ17 (show (0 : Int) ≤ i ∧ i ≤ 40 from ⟨by omega, by omega⟩)
          have hFσ17 : tw_F (fun c j => (56 ≤ c ∧ c < 58) ∨ (60 ≤ c ∧ c < 71)) σ σ17 := tw_F_up hFσ12 eσ17 (show (56 ≤ 60 ∧ 60 < 58) ∨ (60 ≤ 60 ∧ 60 < 71) from by omega)
          refine j_aload_n (pc := 75) dX5_findBest_75 rfl rfl ?_
          refine j_iload_n (pc := 76) dX5_findBest_76 rfl rfl ?_
          refine j_putI (pc := 77) fl_X5_51 fp_X5_13 dX5_findBest_77 (a_60 hX) rfl (j_nm (fun σ18 (eσ18 : σ18 = tw_up σ17 60 13 r14) => ?_))
          have hIσ18 : tw_I σ18 := tw_I_up hIσ17 eσ18 (show (-2147483648 : Int) ≤ r14 ∧ r14 ≤ 2147483647 from ⟨by omega, by omega⟩)
          have hFσ18 : tw_F (fun c j => (56 ≤ c ∧ c < 58) ∨ (60 ≤ c ∧ c < 71)) σ σ18 := tw_F_up hFσ17 eσ18 (show (56 ≤ 60 ∧ 60 < 58) ∨ (60 ≤ 60 ∧ 60 < 71) from by omega)
          refine j_iinc (pc := 80) (i := 1) (n := 1) (ls' := [(0, vR 60), (1, vI (i + 1))]) [1, 0] dX5_findBest_80 rfl (Nat.le_of_ble_eq_true rfl) rfl rfl ?_
          refine j_goto (pc := 83) (tgt := 29) dX5_findBest_83 rfl ?_
          refine j_ls (ls' := [(0, vR 60), (1, vI (i + 1))]) [0, 1] rfl ?_
          exact ih (i + 1) ⟨by omega, by omega⟩ σ18 hIσ18 hFσ18 (show (41 - (i + 1)).toNat < N_ from by omega)
        · refine j_iload_n (pc := 62) dX5_findBest_62 rfl rfl ?_
          refine j_aload_n (pc := 63) dX5_findBest_63 rfl rfl ?_
          refine j_getI (pc := 64) fl_X5_51 dX5_findBest_64 (a_60 hX) rfl ?_
          have f19 : (-2147483648 : Int) ≤ σ12 60 13 ∧ σ12 60 13 ≤ 2147483647 := hIσ12 60 13
          refine j_icmpR_gt (pc := 67) (tgt := 80) ⟨by omega, by omega⟩ ⟨by omega, by omega⟩ dX5_findBest_67 rfl (fun h20 => ?_) (fun h20 => ?_)
          · refine j_iinc (pc := 80) (i := 1) (n := 1) (ls' := [(0, vR 60), (1, vI (i + 1))]) [1, 0] dX5_findBest_80 rfl (Nat.le_of_ble_eq_true rfl) rfl rfl ?_
            refine j_goto (pc := 83) (tgt := 29) dX5_findBest_83 rfl ?_
            refine j_ls (ls' := [(0, vR 60), (1, vI (i + 1))]) [0, 1] rfl ?_
            exact ih (i + 1) ⟨by omega, by omega⟩ σ12 hIσ12 hFσ12 (show (41 - (i + 1)).toNat < N_ from by omega)
          · refine j_aload_n (pc := 70) dX5_findBest_70 rfl rfl ?_
            refine j_iload_n (pc := 71) dX5_findBest_71 rfl rfl ?_
            refine j_putI (pc := 72) fl_X5_48 fp_X5_12 dX5_findBest_72 (a_60 hX) rfl (j_nm (fun σ21 (eσ21 : σ21 = tw_up σ12 60 12 i) => ?_))
            have hIσ21 : tw_I σ21 := tw_I_up hIσ12 eσ21 (show (0 : Int) ≤ i ∧ i ≤ 40 from ⟨by omega, by omega⟩)
            have hFσ21 : tw_F (fun c j => (56 ≤ c ∧ c < 58) ∨ (60 ≤ c ∧ c < 71)) σ σ21 := tw_F_up hFσ12 eσ21 (show (56 ≤ 60 ∧ 60 < 58) ∨ (60 ≤ 60 ∧ 60 < 71) from by omega)
            refine j_aload_n (pc := 75) dX5_findBest_75 rfl rfl ?_
            refine j_iload_n (pc := 76) dX5_findBest_76 rfl rfl ?_
            refine j_putI (pc := 77) fl_X5_51 fp_X5_13 dX5_findBest_77 (a_60 hX) rfl (j_nm (fun σ22 (eσ22 : σ22 = tw_up σ21 60 13 r14) => ?_))
            have hIσ22 : tw_I σ22 := tw_I_up hIσ21 eσ22 (show (-2147483648 : Int) ≤ r14 ∧ r14 ≤ 2147483647 from ⟨by omega, by omega⟩)
            have hFσ22 : tw_F (fun c j => (56 ≤ c ∧ c < 58) ∨ (60 ≤ c ∧ c < 71)) σ σ22 := tw_F_up hFσ21 eσ22 (show (56 ≤ 60 ∧ 60 < 58) ∨ (60 ≤ 60 ∧ 60 < 71) from by omega)
            refine j_iinc (pc := 80) (i := 1) (n := 1) (ls' := [(0, vR 60), (1, vI (i + 1))]) [1, 0] dX5_findBest_80 rfl (Nat.le_of_ble_eq_true rfl) rfl rfl ?_
            refine j_goto (pc := 83) (tgt := 29) dX5_findBest_83 rfl ?_
            refine j_ls (ls' := [(0, vR 60), (1, vI (i + 1))]) [0, 1] rfl ?_
            exact ih (i + 1) ⟨by omega, by omega⟩ σ22 hIσ22 hFσ22 (show (41 - (i + 1)).toNat < N_ from by omega)
      · refine j_goto (pc := 47) (tgt := 80) dX5_findBest_47 rfl ?_
        refine j_iinc (pc := 80) (i := 1) (n := 1) (ls' := [(0, vR 60), (1, vI (i + 1))]) [1, 0] dX5_findBest_80 rfl (Nat.le_of_ble_eq_true rfl) rfl rfl ?_
        refine j_goto (pc := 83) (tgt := 29) dX5_findBest_83 rfl ?_
        refine j_ls (ls' := [(0, vR 60), (1, vI (i + 1))]) [0, 1] rfl ?_
        exact ih (i + 1) ⟨by omega, by omega⟩ σ7 hIσ7 hFσ7 (show (41 - (i + 1)).toNat < N_ from by omega)
set_option maxHeartbeats 4000000 in
set_option maxRecDepth 100000 in
theorem c_X5_findBest {G : tw_G} (hX : tw_isX G) (σ : tw_M) (hI : tw_I σ) : tw_C G yX5_findBest cX5_findBest 3 none 45 [vR 60] σ (q_X5_findBest σ) := by
  refine tw_met [(0, vR 60)] (by decide +kernel) rfl (Nat.le_of_ble_eq_true rfl) ?_
  refine j_aload_n (pc := 0) dX5_findBest_0 rfl rfl ?_
  refine j_callV (pc := 1) (As := []) (st := []) (c_X5_findPlan hX σ hI) mv_X5_131 rfl rfl rfl (a_60 hX) dX5_findBest_1 ⟨Nat.le_of_ble_eq_true rfl, Nat.le_of_ble_eq_true rfl⟩ ⟨Nat.le_refl _, Nat.le_refl _⟩ rfl (Nat.le_of_ble_eq_true rfl) rfl (fun z23 σ24 hz23 => ?_)
  obtain ⟨rfl, hIσ24, hGσ24, -⟩ := hz23
  have hFσ24 : tw_F (fun c j => (56 ≤ c ∧ c < 58) ∨ (60 ≤ c ∧ c < 71)) σ σ24 := tw_F_tr (tw_F_rf) hGσ24 (fun c j q => (show (56 ≤ c ∧ c < 58) ∨ (60 ≤ c ∧ c < 71) from by replace q : (56 ≤ c ∧ c < 58) ∨ (60 ≤ c ∧ c < 71) := q; omega))
  refine j_st (st' := []) rfl ?_
  refine j_aload_n (pc := 4) dX5_findBest_4 rfl rfl ?_
  refine j_getI (pc := 5) fl_X5_33 dX5_findBest_5 (a_60 hX) rfl ?_
  have f27 : (0 : Int) ≤ σ24 60 7 ∧ σ24 60 7 ≤ 1 := hIσ24 60 7
  refine j_ifR_eq (pc := 8) (tgt := 12) ⟨by omega, by omega⟩ dX5_findBest_8 rfl (fun h28 => ?_) (fun h28 => ?_)
  · refine j_aload_n (pc := 12) dX5_findBest_12 rfl rfl ?_
    refine j_iconst (pc := 13) dX5_findBest_13 ?_
    refine j_putZ (pc := 14) (by omega) fl_X5_33 fp_X5_7 dX5_findBest_14 (a_60 hX) rfl (j_nm (fun σ29 (eσ29 : σ29 = tw_up σ24 60 7 1) => ?_))
    have hIσ29 : tw_I σ29 := tw_I_up hIσ24 eσ29 (show (0 : Int) ≤ 1 ∧ 1 ≤ 1 from ⟨by omega, by omega⟩)
    have hFσ29 : tw_F (fun c j => (56 ≤ c ∧ c < 58) ∨ (60 ≤ c ∧ c < 71)) σ σ29 := tw_F_up hFσ24 eσ29 (show (56 ≤ 60 ∧ 60 < 58) ∨ (60 ≤ 60 ∧ 60 < 71) from by omega)
    refine j_aload_n (pc := 17) dX5_findBest_17 rfl rfl ?_
    refine j_iconst (pc := 18) dX5_findBest_18 ?_
    refine j_putI (pc := 19) fl_X5_48 fp_X5_12 dX5_findBest_19 (a_60 hX) rfl (j_nm (fun σ30 (eσ30 : σ30 = tw_up σ29 60 12 0) => ?_))
    have hIσ30 : tw_I σ30 := tw_I_up hIσ29 eσ30 (show (0 : Int) ≤ 0 ∧ 0 ≤ 40 from ⟨by omega, by omega⟩)
    have hFσ30 : tw_F (fun c j => (56 ≤ c ∧ c < 58) ∨ (60 ≤ c ∧ c < 71)) σ σ30 := tw_F_up hFσ29 eσ30 (show (56 ≤ 60 ∧ 60 < 58) ∨ (60 ≤ 60 ∧ 60 < 71) from by omega)
    refine j_aload_n (pc := 22) dX5_findBest_22 rfl rfl ?_
    refine j_iconst (pc := 23) dX5_findBest_23 ?_
    refine j_putI (pc := 24) fl_X5_51 fp_X5_13 dX5_findBest_24 (a_60 hX) rfl (j_nm (fun σ31 (eσ31 : σ31 = tw_up σ30 60 13 0) => ?_))
    have hIσ31 : tw_I σ31 := tw_I_up hIσ30 eσ31 (show (-2147483648 : Int) ≤ 0 ∧ 0 ≤ 2147483647 from ⟨by omega, by omega⟩)
    have hFσ31 : tw_F (fun c j => (56 ≤ c ∧ c < 58) ∨ (60 ≤ c ∧ c < 71)) σ σ31 := tw_F_up hFσ30 eσ31 (show (56 ≤ 60 ∧ 60 < 58) ∨ (60 ≤ 60 ∧ 60 < 71) from by omega)
    refine j_iconst (pc := 27) dX5_findBest_27 ?_
    refine j_istore_n (pc := 28) (i := 1) (ls' := [(0, vR 60), (1, vI 1)]) [1, 0] dX5_findBest_28 rfl (Nat.le_of_ble_eq_true rfl) rfl rfl ?_
    refine j_ls (ls' := [(0, vR 60), (1, vI 1)]) [0, 1] rfl ?_
    exact (l_X5_findBest hX σ hI (((41 - (1 : Int)).toNat) + 1)) 1 ⟨by omega, by omega⟩ σ31 hIσ31 hFσ31 (Nat.lt_succ_self _)
  · exact j_vret (pc := 11) ⟨rfl, rfl⟩ dX5_findBest_11 rfl ⟨rfl, hIσ24, hFσ24, trivial⟩
