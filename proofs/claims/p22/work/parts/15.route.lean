/-! 15.route -/
theorem dX6_forget_0 : decode cX6_forget 0 = .ok (.aload_n 0, 1) := by decide +kernel
theorem dX6_forget_1 : decode cX6_forget 1 = .ok (.iconst 0, 1) := by decide +kernel
theorem dX6_forget_2 : decode cX6_forget 2 = .ok (.putfield 9, 3) := by decide +kernel
theorem dX6_forget_5 : decode cX6_forget 5 = .ok (.return_, 1) := by decide +kernel
theorem dX6_pitchesFrom_0 : decode cX6_pitchesFrom 0 = .ok (.iconst (-1), 1) := by decide +kernel
theorem dX6_pitchesFrom_1 : decode cX6_pitchesFrom 1 = .ok (.istore_n 2, 1) := by decide +kernel
theorem dX6_pitchesFrom_2 : decode cX6_pitchesFrom 2 = .ok (.aload_n 0, 1) := by decide +kernel
theorem dX6_pitchesFrom_3 : decode cX6_pitchesFrom 3 = .ok (.getfield 35, 3) := by decide +kernel
theorem dX6_pitchesFrom_6 : decode cX6_pitchesFrom 6 = .ok (.invokevirtual 39, 3) := by decide +kernel
theorem dX6_pitchesFrom_9 : decode cX6_pitchesFrom 9 = .ok (.iload_n 1, 1) := by decide +kernel
theorem dX6_pitchesFrom_10 : decode cX6_pitchesFrom 10 = .ok (.aload_n 0, 1) := by decide +kernel
theorem dX6_pitchesFrom_11 : decode cX6_pitchesFrom 11 = .ok (.getfield 35, 3) := by decide +kernel
theorem dX6_pitchesFrom_14 : decode cX6_pitchesFrom 14 = .ok (.getfield 58, 3) := by decide +kernel
theorem dX6_pitchesFrom_17 : decode cX6_pitchesFrom 17 = .ok (.iconst 3, 1) := by decide +kernel
theorem dX6_pitchesFrom_18 : decode cX6_pitchesFrom 18 = .ok (.iaload, 1) := by decide +kernel
theorem dX6_pitchesFrom_19 : decode cX6_pitchesFrom 19 = .ok (.iadd, 1) := by decide +kernel
theorem dX6_pitchesFrom_20 : decode cX6_pitchesFrom 20 = .ok (.invokestatic 61, 3) := by decide +kernel
theorem dX6_pitchesFrom_23 : decode cX6_pitchesFrom 23 = .ok (.istore_n 3, 1) := by decide +kernel
theorem dX6_pitchesFrom_24 : decode cX6_pitchesFrom 24 = .ok (.iload_n 1, 1) := by decide +kernel
theorem dX6_pitchesFrom_25 : decode cX6_pitchesFrom 25 = .ok (.iconst 1, 1) := by decide +kernel
theorem dX6_pitchesFrom_26 : decode cX6_pitchesFrom 26 = .ok (.iadd, 1) := by decide +kernel
theorem dX6_pitchesFrom_27 : decode cX6_pitchesFrom 27 = .ok (.istore 4, 2) := by decide +kernel
theorem dX6_pitchesFrom_29 : decode cX6_pitchesFrom 29 = .ok (.iload 4, 2) := by decide +kernel
theorem dX6_pitchesFrom_31 : decode cX6_pitchesFrom 31 = .ok (.iload_n 3, 1) := by decide +kernel
theorem dX6_pitchesFrom_32 : decode cX6_pitchesFrom 32 = .ok (.if_icmp .gt 61, 3) := by decide +kernel
theorem dX6_pitchesFrom_35 : decode cX6_pitchesFrom 35 = .ok (.aload_n 0, 1) := by decide +kernel
theorem dX6_pitchesFrom_36 : decode cX6_pitchesFrom 36 = .ok (.getfield 35, 3) := by decide +kernel
theorem dX6_pitchesFrom_39 : decode cX6_pitchesFrom 39 = .ok (.iload 4, 2) := by decide +kernel
theorem dX6_pitchesFrom_41 : decode cX6_pitchesFrom 41 = .ok (.invokevirtual 64, 3) := by decide +kernel
theorem dX6_pitchesFrom_44 : decode cX6_pitchesFrom 44 = .ok (.ifCond .eq 43, 3) := by decide +kernel
theorem dX6_pitchesFrom_47 : decode cX6_pitchesFrom 47 = .ok (.aload_n 0, 1) := by decide +kernel
theorem dX6_pitchesFrom_48 : decode cX6_pitchesFrom 48 = .ok (.getfield 15, 3) := by decide +kernel
theorem dX6_pitchesFrom_51 : decode cX6_pitchesFrom 51 = .ok (.iload 4, 2) := by decide +kernel
theorem dX6_pitchesFrom_53 : decode cX6_pitchesFrom 53 = .ok (.iaload, 1) := by decide +kernel
theorem dX6_pitchesFrom_54 : decode cX6_pitchesFrom 54 = .ok (.ifCond .ge 6, 3) := by decide +kernel
theorem dX6_pitchesFrom_57 : decode cX6_pitchesFrom 57 = .ok (.goto 30, 3) := by decide +kernel
theorem dX6_pitchesFrom_60 : decode cX6_pitchesFrom 60 = .ok (.iload_n 2, 1) := by decide +kernel
theorem dX6_pitchesFrom_61 : decode cX6_pitchesFrom 61 = .ok (.ifCond .lt 16, 3) := by decide +kernel
theorem dX6_pitchesFrom_64 : decode cX6_pitchesFrom 64 = .ok (.aload_n 0, 1) := by decide +kernel
theorem dX6_pitchesFrom_65 : decode cX6_pitchesFrom 65 = .ok (.getfield 15, 3) := by decide +kernel
theorem dX6_pitchesFrom_68 : decode cX6_pitchesFrom 68 = .ok (.iload 4, 2) := by decide +kernel
theorem dX6_pitchesFrom_70 : decode cX6_pitchesFrom 70 = .ok (.iaload, 1) := by decide +kernel
theorem dX6_pitchesFrom_71 : decode cX6_pitchesFrom 71 = .ok (.iconst 1, 1) := by decide +kernel
theorem dX6_pitchesFrom_72 : decode cX6_pitchesFrom 72 = .ok (.iadd, 1) := by decide +kernel
theorem dX6_pitchesFrom_73 : decode cX6_pitchesFrom 73 = .ok (.iload_n 2, 1) := by decide +kernel
theorem dX6_pitchesFrom_74 : decode cX6_pitchesFrom 74 = .ok (.if_icmp .ge 13, 3) := by decide +kernel
theorem dX6_pitchesFrom_77 : decode cX6_pitchesFrom 77 = .ok (.aload_n 0, 1) := by decide +kernel
theorem dX6_pitchesFrom_78 : decode cX6_pitchesFrom 78 = .ok (.getfield 15, 3) := by decide +kernel
theorem dX6_pitchesFrom_81 : decode cX6_pitchesFrom 81 = .ok (.iload 4, 2) := by decide +kernel
theorem dX6_pitchesFrom_83 : decode cX6_pitchesFrom 83 = .ok (.iaload, 1) := by decide +kernel
theorem dX6_pitchesFrom_84 : decode cX6_pitchesFrom 84 = .ok (.iconst 1, 1) := by decide +kernel
theorem dX6_pitchesFrom_85 : decode cX6_pitchesFrom 85 = .ok (.iadd, 1) := by decide +kernel
theorem dX6_pitchesFrom_86 : decode cX6_pitchesFrom 86 = .ok (.istore_n 2, 1) := by decide +kernel
theorem dX6_pitchesFrom_87 : decode cX6_pitchesFrom 87 = .ok (.iinc 4 1, 3) := by decide +kernel
theorem dX6_pitchesFrom_90 : decode cX6_pitchesFrom 90 = .ok (.goto (-61), 3) := by decide +kernel
theorem dX6_pitchesFrom_93 : decode cX6_pitchesFrom 93 = .ok (.iload_n 2, 1) := by decide +kernel
theorem dX6_pitchesFrom_94 : decode cX6_pitchesFrom 94 = .ok (.ireturn, 1) := by decide +kernel
theorem dX6_nextStance_0 : decode cX6_nextStance 0 = .ok (.aload_n 0, 1) := by decide +kernel
theorem dX6_nextStance_1 : decode cX6_nextStance 1 = .ok (.getfield 35, 3) := by decide +kernel
theorem dX6_nextStance_4 : decode cX6_nextStance 4 = .ok (.invokevirtual 39, 3) := by decide +kernel
theorem dX6_nextStance_7 : decode cX6_nextStance 7 = .ok (.iload_n 1, 1) := by decide +kernel
theorem dX6_nextStance_8 : decode cX6_nextStance 8 = .ok (.aload_n 0, 1) := by decide +kernel
theorem dX6_nextStance_9 : decode cX6_nextStance 9 = .ok (.getfield 35, 3) := by decide +kernel
theorem dX6_nextStance_12 : decode cX6_nextStance 12 = .ok (.getfield 58, 3) := by decide +kernel
theorem dX6_nextStance_15 : decode cX6_nextStance 15 = .ok (.iconst 3, 1) := by decide +kernel
theorem dX6_nextStance_16 : decode cX6_nextStance 16 = .ok (.iaload, 1) := by decide +kernel
theorem dX6_nextStance_17 : decode cX6_nextStance 17 = .ok (.iadd, 1) := by decide +kernel
theorem dX6_nextStance_18 : decode cX6_nextStance 18 = .ok (.invokestatic 61, 3) := by decide +kernel
theorem dX6_nextStance_21 : decode cX6_nextStance 21 = .ok (.istore_n 2, 1) := by decide +kernel
theorem dX6_nextStance_22 : decode cX6_nextStance 22 = .ok (.iload_n 1, 1) := by decide +kernel
theorem dX6_nextStance_23 : decode cX6_nextStance 23 = .ok (.iconst 1, 1) := by decide +kernel
theorem dX6_nextStance_24 : decode cX6_nextStance 24 = .ok (.iadd, 1) := by decide +kernel
theorem dX6_nextStance_25 : decode cX6_nextStance 25 = .ok (.istore_n 3, 1) := by decide +kernel
theorem dX6_nextStance_26 : decode cX6_nextStance 26 = .ok (.iload_n 3, 1) := by decide +kernel
theorem dX6_nextStance_27 : decode cX6_nextStance 27 = .ok (.iload_n 2, 1) := by decide +kernel
theorem dX6_nextStance_28 : decode cX6_nextStance 28 = .ok (.if_icmp .gt 39, 3) := by decide +kernel
theorem dX6_nextStance_31 : decode cX6_nextStance 31 = .ok (.aload_n 0, 1) := by decide +kernel
theorem dX6_nextStance_32 : decode cX6_nextStance 32 = .ok (.getfield 35, 3) := by decide +kernel
theorem dX6_nextStance_35 : decode cX6_nextStance 35 = .ok (.iload_n 3, 1) := by decide +kernel
theorem dX6_nextStance_36 : decode cX6_nextStance 36 = .ok (.invokevirtual 64, 3) := by decide +kernel
theorem dX6_nextStance_39 : decode cX6_nextStance 39 = .ok (.ifCond .eq 22, 3) := by decide +kernel
theorem dX6_nextStance_42 : decode cX6_nextStance 42 = .ok (.aload_n 0, 1) := by decide +kernel
theorem dX6_nextStance_43 : decode cX6_nextStance 43 = .ok (.getfield 15, 3) := by decide +kernel
theorem dX6_nextStance_46 : decode cX6_nextStance 46 = .ok (.iload_n 3, 1) := by decide +kernel
theorem dX6_nextStance_47 : decode cX6_nextStance 47 = .ok (.iaload, 1) := by decide +kernel
theorem dX6_nextStance_48 : decode cX6_nextStance 48 = .ok (.aload_n 0, 1) := by decide +kernel
theorem dX6_nextStance_49 : decode cX6_nextStance 49 = .ok (.getfield 15, 3) := by decide +kernel
theorem dX6_nextStance_52 : decode cX6_nextStance 52 = .ok (.iload_n 1, 1) := by decide +kernel
theorem dX6_nextStance_53 : decode cX6_nextStance 53 = .ok (.iaload, 1) := by decide +kernel
theorem dX6_nextStance_54 : decode cX6_nextStance 54 = .ok (.iconst 1, 1) := by decide +kernel
theorem dX6_nextStance_55 : decode cX6_nextStance 55 = .ok (.isub, 1) := by decide +kernel
theorem dX6_nextStance_56 : decode cX6_nextStance 56 = .ok (.if_icmp .ne 5, 3) := by decide +kernel
theorem dX6_nextStance_59 : decode cX6_nextStance 59 = .ok (.iload_n 3, 1) := by decide +kernel
theorem dX6_nextStance_60 : decode cX6_nextStance 60 = .ok (.ireturn, 1) := by decide +kernel
theorem dX6_nextStance_61 : decode cX6_nextStance 61 = .ok (.iinc 3 1, 3) := by decide +kernel
theorem dX6_nextStance_64 : decode cX6_nextStance 64 = .ok (.goto (-38), 3) := by decide +kernel
theorem dX6_nextStance_67 : decode cX6_nextStance 67 = .ok (.iload_n 1, 1) := by decide +kernel
theorem dX6_nextStance_68 : decode cX6_nextStance 68 = .ok (.ireturn, 1) := by decide +kernel
theorem dX6_findPitches_0 : decode cX6_findPitches 0 = .ok (.aload_n 0, 1) := by decide +kernel
theorem dX6_findPitches_1 : decode cX6_findPitches 1 = .ok (.getfield 9, 3) := by decide +kernel
theorem dX6_findPitches_4 : decode cX6_findPitches 4 = .ok (.ifCond .eq 4, 3) := by decide +kernel
theorem dX6_findPitches_7 : decode cX6_findPitches 7 = .ok (.return_, 1) := by decide +kernel
theorem dX6_findPitches_8 : decode cX6_findPitches 8 = .ok (.aload_n 0, 1) := by decide +kernel
theorem dX6_findPitches_9 : decode cX6_findPitches 9 = .ok (.iconst 1, 1) := by decide +kernel
theorem dX6_findPitches_10 : decode cX6_findPitches 10 = .ok (.putfield 9, 3) := by decide +kernel
theorem dX6_findPitches_13 : decode cX6_findPitches 13 = .ok (.aload_n 0, 1) := by decide +kernel
theorem dX6_findPitches_14 : decode cX6_findPitches 14 = .ok (.getfield 35, 3) := by decide +kernel
theorem dX6_findPitches_17 : decode cX6_findPitches 17 = .ok (.invokevirtual 39, 3) := by decide +kernel
theorem dX6_findPitches_20 : decode cX6_findPitches 20 = .ok (.istore_n 1, 1) := by decide +kernel
theorem dX6_findPitches_21 : decode cX6_findPitches 21 = .ok (.aload_n 0, 1) := by decide +kernel
theorem dX6_findPitches_22 : decode cX6_findPitches 22 = .ok (.getfield 15, 3) := by decide +kernel
theorem dX6_findPitches_25 : decode cX6_findPitches 25 = .ok (.iload_n 1, 1) := by decide +kernel
theorem dX6_findPitches_26 : decode cX6_findPitches 26 = .ok (.iconst 0, 1) := by decide +kernel
theorem dX6_findPitches_27 : decode cX6_findPitches 27 = .ok (.iastore, 1) := by decide +kernel
theorem dX6_findPitches_28 : decode cX6_findPitches 28 = .ok (.iload_n 1, 1) := by decide +kernel
theorem dX6_findPitches_29 : decode cX6_findPitches 29 = .ok (.iconst 1, 1) := by decide +kernel
theorem dX6_findPitches_30 : decode cX6_findPitches 30 = .ok (.isub, 1) := by decide +kernel
theorem dX6_findPitches_31 : decode cX6_findPitches 31 = .ok (.istore_n 2, 1) := by decide +kernel
theorem dX6_findPitches_32 : decode cX6_findPitches 32 = .ok (.iload_n 2, 1) := by decide +kernel
theorem dX6_findPitches_33 : decode cX6_findPitches 33 = .ok (.ifCond .lt 20, 3) := by decide +kernel
theorem dX6_findPitches_36 : decode cX6_findPitches 36 = .ok (.aload_n 0, 1) := by decide +kernel
theorem dX6_findPitches_37 : decode cX6_findPitches 37 = .ok (.getfield 15, 3) := by decide +kernel
theorem dX6_findPitches_40 : decode cX6_findPitches 40 = .ok (.iload_n 2, 1) := by decide +kernel
theorem dX6_findPitches_41 : decode cX6_findPitches 41 = .ok (.aload_n 0, 1) := by decide +kernel
theorem dX6_findPitches_42 : decode cX6_findPitches 42 = .ok (.iload_n 2, 1) := by decide +kernel
theorem dX6_findPitches_43 : decode cX6_findPitches 43 = .ok (.invokevirtual 45, 3) := by decide +kernel
theorem dX6_findPitches_46 : decode cX6_findPitches 46 = .ok (.iastore, 1) := by decide +kernel
theorem dX6_findPitches_47 : decode cX6_findPitches 47 = .ok (.iinc 2 (-1), 3) := by decide +kernel
theorem dX6_findPitches_50 : decode cX6_findPitches 50 = .ok (.goto (-18), 3) := by decide +kernel
theorem dX6_findPitches_53 : decode cX6_findPitches 53 = .ok (.aload_n 0, 1) := by decide +kernel
theorem dX6_findPitches_54 : decode cX6_findPitches 54 = .ok (.iconst 0, 1) := by decide +kernel
theorem dX6_findPitches_55 : decode cX6_findPitches 55 = .ok (.aload_n 0, 1) := by decide +kernel
theorem dX6_findPitches_56 : decode cX6_findPitches 56 = .ok (.getfield 15, 3) := by decide +kernel
theorem dX6_findPitches_59 : decode cX6_findPitches 59 = .ok (.iconst 0, 1) := by decide +kernel
theorem dX6_findPitches_60 : decode cX6_findPitches 60 = .ok (.iaload, 1) := by decide +kernel
theorem dX6_findPitches_61 : decode cX6_findPitches 61 = .ok (.invokestatic 49, 3) := by decide +kernel
theorem dX6_findPitches_64 : decode cX6_findPitches 64 = .ok (.putfield 28, 3) := by decide +kernel
theorem dX6_findPitches_67 : decode cX6_findPitches 67 = .ok (.iconst 0, 1) := by decide +kernel
theorem dX6_findPitches_68 : decode cX6_findPitches 68 = .ok (.istore_n 2, 1) := by decide +kernel
theorem dX6_findPitches_69 : decode cX6_findPitches 69 = .ok (.iconst 0, 1) := by decide +kernel
theorem dX6_findPitches_70 : decode cX6_findPitches 70 = .ok (.istore_n 3, 1) := by decide +kernel
theorem dX6_findPitches_71 : decode cX6_findPitches 71 = .ok (.iload_n 3, 1) := by decide +kernel
theorem dX6_findPitches_72 : decode cX6_findPitches 72 = .ok (.aload_n 0, 1) := by decide +kernel
theorem dX6_findPitches_73 : decode cX6_findPitches 73 = .ok (.getfield 28, 3) := by decide +kernel
theorem dX6_findPitches_76 : decode cX6_findPitches 76 = .ok (.if_icmp .ge 22, 3) := by decide +kernel
theorem dX6_findPitches_79 : decode cX6_findPitches 79 = .ok (.aload_n 0, 1) := by decide +kernel
theorem dX6_findPitches_80 : decode cX6_findPitches 80 = .ok (.iload_n 2, 1) := by decide +kernel
theorem dX6_findPitches_81 : decode cX6_findPitches 81 = .ok (.invokevirtual 55, 3) := by decide +kernel
theorem dX6_findPitches_84 : decode cX6_findPitches 84 = .ok (.istore_n 2, 1) := by decide +kernel
theorem dX6_findPitches_85 : decode cX6_findPitches 85 = .ok (.aload_n 0, 1) := by decide +kernel
theorem dX6_findPitches_86 : decode cX6_findPitches 86 = .ok (.getfield 22, 3) := by decide +kernel
theorem dX6_findPitches_89 : decode cX6_findPitches 89 = .ok (.iload_n 3, 1) := by decide +kernel
theorem dX6_findPitches_90 : decode cX6_findPitches 90 = .ok (.iload_n 2, 1) := by decide +kernel
theorem dX6_findPitches_91 : decode cX6_findPitches 91 = .ok (.iastore, 1) := by decide +kernel
theorem dX6_findPitches_92 : decode cX6_findPitches 92 = .ok (.iinc 3 1, 3) := by decide +kernel
theorem dX6_findPitches_95 : decode cX6_findPitches 95 = .ok (.goto (-24), 3) := by decide +kernel
theorem dX6_findPitches_98 : decode cX6_findPitches 98 = .ok (.return_, 1) := by decide +kernel
theorem dX6_costOf_0 : decode cX6_costOf 0 = .ok (.iconst 0, 1) := by decide +kernel
theorem dX6_costOf_1 : decode cX6_costOf 1 = .ok (.istore_n 3, 1) := by decide +kernel
theorem dX6_costOf_2 : decode cX6_costOf 2 = .ok (.iload_n 1, 1) := by decide +kernel
theorem dX6_costOf_3 : decode cX6_costOf 3 = .ok (.ifCond .ne 7, 3) := by decide +kernel
theorem dX6_costOf_6 : decode cX6_costOf 6 = .ok (.iconst 1, 1) := by decide +kernel
theorem dX6_costOf_7 : decode cX6_costOf 7 = .ok (.goto 13, 3) := by decide +kernel
theorem dX6_costOf_10 : decode cX6_costOf 10 = .ok (.aload_n 0, 1) := by decide +kernel
theorem dX6_costOf_11 : decode cX6_costOf 11 = .ok (.getfield 22, 3) := by decide +kernel
theorem dX6_costOf_14 : decode cX6_costOf 14 = .ok (.iload_n 1, 1) := by decide +kernel
theorem dX6_costOf_15 : decode cX6_costOf 15 = .ok (.iconst 1, 1) := by decide +kernel
theorem dX6_costOf_16 : decode cX6_costOf 16 = .ok (.isub, 1) := by decide +kernel
theorem dX6_costOf_17 : decode cX6_costOf 17 = .ok (.iaload, 1) := by decide +kernel
theorem dX6_costOf_18 : decode cX6_costOf 18 = .ok (.iconst 1, 1) := by decide +kernel
theorem dX6_costOf_19 : decode cX6_costOf 19 = .ok (.iadd, 1) := by decide +kernel
theorem dX6_costOf_20 : decode cX6_costOf 20 = .ok (.istore 4, 2) := by decide +kernel
theorem dX6_costOf_22 : decode cX6_costOf 22 = .ok (.iload 4, 2) := by decide +kernel
theorem dX6_costOf_24 : decode cX6_costOf 24 = .ok (.aload_n 0, 1) := by decide +kernel
theorem dX6_costOf_25 : decode cX6_costOf 25 = .ok (.getfield 22, 3) := by decide +kernel
theorem dX6_costOf_28 : decode cX6_costOf 28 = .ok (.iload_n 1, 1) := by decide +kernel
theorem dX6_costOf_29 : decode cX6_costOf 29 = .ok (.iaload, 1) := by decide +kernel
theorem dX6_costOf_30 : decode cX6_costOf 30 = .ok (.if_icmp .gt 22, 3) := by decide +kernel
theorem dX6_costOf_33 : decode cX6_costOf 33 = .ok (.iload_n 3, 1) := by decide +kernel
theorem dX6_costOf_34 : decode cX6_costOf 34 = .ok (.aload_n 0, 1) := by decide +kernel
theorem dX6_costOf_35 : decode cX6_costOf 35 = .ok (.getfield 35, 3) := by decide +kernel
theorem dX6_costOf_38 : decode cX6_costOf 38 = .ok (.getfield 68, 3) := by decide +kernel
theorem dX6_costOf_41 : decode cX6_costOf 41 = .ok (.iload 4, 2) := by decide +kernel
theorem dX6_costOf_43 : decode cX6_costOf 43 = .ok (.iaload, 1) := by decide +kernel
theorem dX6_costOf_44 : decode cX6_costOf 44 = .ok (.iadd, 1) := by decide +kernel
theorem dX6_costOf_45 : decode cX6_costOf 45 = .ok (.istore_n 3, 1) := by decide +kernel
theorem dX6_costOf_46 : decode cX6_costOf 46 = .ok (.iinc 4 1, 3) := by decide +kernel
theorem dX6_costOf_49 : decode cX6_costOf 49 = .ok (.goto (-27), 3) := by decide +kernel
theorem dX6_costOf_52 : decode cX6_costOf 52 = .ok (.iload_n 2, 1) := by decide +kernel
theorem dX6_costOf_53 : decode cX6_costOf 53 = .ok (.iconst 1, 1) := by decide +kernel
theorem dX6_costOf_54 : decode cX6_costOf 54 = .ok (.if_icmp .ge 7, 3) := by decide +kernel
theorem dX6_costOf_57 : decode cX6_costOf 57 = .ok (.iload_n 3, 1) := by decide +kernel
theorem dX6_costOf_58 : decode cX6_costOf 58 = .ok (.goto 10, 3) := by decide +kernel
theorem dX6_costOf_61 : decode cX6_costOf 61 = .ok (.iload_n 3, 1) := by decide +kernel
theorem dX6_costOf_62 : decode cX6_costOf 62 = .ok (.iload_n 2, 1) := by decide +kernel
theorem dX6_costOf_63 : decode cX6_costOf 63 = .ok (.iadd, 1) := by decide +kernel
theorem dX6_costOf_64 : decode cX6_costOf 64 = .ok (.iconst 1, 1) := by decide +kernel
theorem dX6_costOf_65 : decode cX6_costOf 65 = .ok (.isub, 1) := by decide +kernel
theorem dX6_costOf_66 : decode cX6_costOf 66 = .ok (.iload_n 2, 1) := by decide +kernel
theorem dX6_costOf_67 : decode cX6_costOf 67 = .ok (.idiv, 1) := by decide +kernel
theorem dX6_costOf_68 : decode cX6_costOf 68 = .ok (.ireturn, 1) := by decide +kernel
theorem dX6_costOfTurns_0 : decode cX6_costOfTurns 0 = .ok (.iconst 0, 1) := by decide +kernel
theorem dX6_costOfTurns_1 : decode cX6_costOfTurns 1 = .ok (.istore 4, 2) := by decide +kernel
theorem dX6_costOfTurns_3 : decode cX6_costOfTurns 3 = .ok (.iconst 0, 1) := by decide +kernel
theorem dX6_costOfTurns_4 : decode cX6_costOfTurns 4 = .ok (.istore 5, 2) := by decide +kernel
theorem dX6_costOfTurns_6 : decode cX6_costOfTurns 6 = .ok (.iload 5, 2) := by decide +kernel
theorem dX6_costOfTurns_8 : decode cX6_costOfTurns 8 = .ok (.aload_n 0, 1) := by decide +kernel
theorem dX6_costOfTurns_9 : decode cX6_costOfTurns 9 = .ok (.getfield 28, 3) := by decide +kernel
theorem dX6_costOfTurns_12 : decode cX6_costOfTurns 12 = .ok (.if_icmp .ge 34, 3) := by decide +kernel
theorem dX6_costOfTurns_15 : decode cX6_costOfTurns 15 = .ok (.iload 4, 2) := by decide +kernel
theorem dX6_costOfTurns_17 : decode cX6_costOfTurns 17 = .ok (.aload_n 0, 1) := by decide +kernel
theorem dX6_costOfTurns_18 : decode cX6_costOfTurns 18 = .ok (.iload 5, 2) := by decide +kernel
theorem dX6_costOfTurns_20 : decode cX6_costOfTurns 20 = .ok (.iload 5, 2) := by decide +kernel
theorem dX6_costOfTurns_22 : decode cX6_costOfTurns 22 = .ok (.iload_n 3, 1) := by decide +kernel
theorem dX6_costOfTurns_23 : decode cX6_costOfTurns 23 = .ok (.iadd, 1) := by decide +kernel
theorem dX6_costOfTurns_24 : decode cX6_costOfTurns 24 = .ok (.iconst 2, 1) := by decide +kernel
theorem dX6_costOfTurns_25 : decode cX6_costOfTurns 25 = .ok (.irem, 1) := by decide +kernel
theorem dX6_costOfTurns_26 : decode cX6_costOfTurns 26 = .ok (.ifCond .ne 7, 3) := by decide +kernel
theorem dX6_costOfTurns_29 : decode cX6_costOfTurns 29 = .ok (.iload_n 1, 1) := by decide +kernel
theorem dX6_costOfTurns_30 : decode cX6_costOfTurns 30 = .ok (.goto 4, 3) := by decide +kernel
theorem dX6_costOfTurns_33 : decode cX6_costOfTurns 33 = .ok (.iload_n 2, 1) := by decide +kernel
theorem dX6_costOfTurns_34 : decode cX6_costOfTurns 34 = .ok (.invokevirtual 71, 3) := by decide +kernel
theorem dX6_costOfTurns_37 : decode cX6_costOfTurns 37 = .ok (.iadd, 1) := by decide +kernel
theorem dX6_costOfTurns_38 : decode cX6_costOfTurns 38 = .ok (.istore 4, 2) := by decide +kernel
theorem dX6_costOfTurns_40 : decode cX6_costOfTurns 40 = .ok (.iinc 5 1, 3) := by decide +kernel
theorem dX6_costOfTurns_43 : decode cX6_costOfTurns 43 = .ok (.goto (-37), 3) := by decide +kernel
theorem dX6_costOfTurns_46 : decode cX6_costOfTurns 46 = .ok (.iload 4, 2) := by decide +kernel
theorem dX6_costOfTurns_48 : decode cX6_costOfTurns 48 = .ok (.ireturn, 1) := by decide +kernel
theorem dX6_takeTurns_0 : decode cX6_takeTurns 0 = .ok (.aload_n 0, 1) := by decide +kernel
theorem dX6_takeTurns_1 : decode cX6_takeTurns 1 = .ok (.iload_n 1, 1) := by decide +kernel
theorem dX6_takeTurns_2 : decode cX6_takeTurns 2 = .ok (.iload_n 2, 1) := by decide +kernel
theorem dX6_takeTurns_3 : decode cX6_takeTurns 3 = .ok (.iconst 0, 1) := by decide +kernel
theorem dX6_takeTurns_4 : decode cX6_takeTurns 4 = .ok (.invokevirtual 74, 3) := by decide +kernel
theorem dX6_takeTurns_7 : decode cX6_takeTurns 7 = .ok (.istore_n 3, 1) := by decide +kernel
theorem dX6_takeTurns_8 : decode cX6_takeTurns 8 = .ok (.aload_n 0, 1) := by decide +kernel
theorem dX6_takeTurns_9 : decode cX6_takeTurns 9 = .ok (.iload_n 1, 1) := by decide +kernel
theorem dX6_takeTurns_10 : decode cX6_takeTurns 10 = .ok (.iload_n 2, 1) := by decide +kernel
theorem dX6_takeTurns_11 : decode cX6_takeTurns 11 = .ok (.iconst 1, 1) := by decide +kernel
theorem dX6_takeTurns_12 : decode cX6_takeTurns 12 = .ok (.invokevirtual 74, 3) := by decide +kernel
theorem dX6_takeTurns_15 : decode cX6_takeTurns 15 = .ok (.istore 4, 2) := by decide +kernel
theorem dX6_takeTurns_17 : decode cX6_takeTurns 17 = .ok (.iload_n 3, 1) := by decide +kernel
theorem dX6_takeTurns_18 : decode cX6_takeTurns 18 = .ok (.iload 4, 2) := by decide +kernel
theorem dX6_takeTurns_20 : decode cX6_takeTurns 20 = .ok (.if_icmp .gt 7, 3) := by decide +kernel
theorem dX6_takeTurns_23 : decode cX6_takeTurns 23 = .ok (.iconst 0, 1) := by decide +kernel
theorem dX6_takeTurns_24 : decode cX6_takeTurns 24 = .ok (.goto 4, 3) := by decide +kernel
theorem dX6_takeTurns_27 : decode cX6_takeTurns 27 = .ok (.iconst 1, 1) := by decide +kernel
theorem dX6_takeTurns_28 : decode cX6_takeTurns 28 = .ok (.istore 5, 2) := by decide +kernel
theorem dX6_takeTurns_30 : decode cX6_takeTurns 30 = .ok (.aload_n 0, 1) := by decide +kernel
theorem dX6_takeTurns_31 : decode cX6_takeTurns 31 = .ok (.iload_n 3, 1) := by decide +kernel
theorem dX6_takeTurns_32 : decode cX6_takeTurns 32 = .ok (.iload 4, 2) := by decide +kernel
theorem dX6_takeTurns_34 : decode cX6_takeTurns 34 = .ok (.invokestatic 61, 3) := by decide +kernel
theorem dX6_takeTurns_37 : decode cX6_takeTurns 37 = .ok (.putfield 32, 3) := by decide +kernel
theorem dX6_takeTurns_40 : decode cX6_takeTurns 40 = .ok (.iconst 0, 1) := by decide +kernel
theorem dX6_takeTurns_41 : decode cX6_takeTurns 41 = .ok (.istore 6, 2) := by decide +kernel
theorem dX6_takeTurns_43 : decode cX6_takeTurns 43 = .ok (.iload 6, 2) := by decide +kernel
theorem dX6_takeTurns_45 : decode cX6_takeTurns 45 = .ok (.aload_n 0, 1) := by decide +kernel
theorem dX6_takeTurns_46 : decode cX6_takeTurns 46 = .ok (.getfield 28, 3) := by decide +kernel
theorem dX6_takeTurns_49 : decode cX6_takeTurns 49 = .ok (.if_icmp .ge 23, 3) := by decide +kernel
theorem dX6_takeTurns_52 : decode cX6_takeTurns 52 = .ok (.aload_n 0, 1) := by decide +kernel
theorem dX6_takeTurns_53 : decode cX6_takeTurns 53 = .ok (.getfield 25, 3) := by decide +kernel
theorem dX6_takeTurns_56 : decode cX6_takeTurns 56 = .ok (.iload 6, 2) := by decide +kernel
theorem dX6_takeTurns_58 : decode cX6_takeTurns 58 = .ok (.iload 6, 2) := by decide +kernel
theorem dX6_takeTurns_60 : decode cX6_takeTurns 60 = .ok (.iload 5, 2) := by decide +kernel
theorem dX6_takeTurns_62 : decode cX6_takeTurns 62 = .ok (.iadd, 1) := by decide +kernel
theorem dX6_takeTurns_63 : decode cX6_takeTurns 63 = .ok (.iconst 2, 1) := by decide +kernel
theorem dX6_takeTurns_64 : decode cX6_takeTurns 64 = .ok (.irem, 1) := by decide +kernel
theorem dX6_takeTurns_65 : decode cX6_takeTurns 65 = .ok (.iastore, 1) := by decide +kernel
theorem dX6_takeTurns_66 : decode cX6_takeTurns 66 = .ok (.iinc 6 1, 3) := by decide +kernel
theorem dX6_takeTurns_69 : decode cX6_takeTurns 69 = .ok (.goto (-26), 3) := by decide +kernel
theorem dX6_takeTurns_72 : decode cX6_takeTurns 72 = .ok (.return_, 1) := by decide +kernel
theorem dX6_leadFreely_0 : decode cX6_leadFreely 0 = .ok (.aload_n 0, 1) := by decide +kernel
theorem dX6_leadFreely_1 : decode cX6_leadFreely 1 = .ok (.iconst 0, 1) := by decide +kernel
theorem dX6_leadFreely_2 : decode cX6_leadFreely 2 = .ok (.putfield 32, 3) := by decide +kernel
theorem dX6_leadFreely_5 : decode cX6_leadFreely 5 = .ok (.iconst 0, 1) := by decide +kernel
theorem dX6_leadFreely_6 : decode cX6_leadFreely 6 = .ok (.istore_n 3, 1) := by decide +kernel
theorem dX6_leadFreely_7 : decode cX6_leadFreely 7 = .ok (.iload_n 3, 1) := by decide +kernel
theorem dX6_leadFreely_8 : decode cX6_leadFreely 8 = .ok (.aload_n 0, 1) := by decide +kernel
theorem dX6_leadFreely_9 : decode cX6_leadFreely 9 = .ok (.getfield 28, 3) := by decide +kernel
theorem dX6_leadFreely_12 : decode cX6_leadFreely 12 = .ok (.if_icmp .ge 59, 3) := by decide +kernel
theorem dX6_leadFreely_15 : decode cX6_leadFreely 15 = .ok (.aload_n 0, 1) := by decide +kernel
theorem dX6_leadFreely_16 : decode cX6_leadFreely 16 = .ok (.iload_n 3, 1) := by decide +kernel
theorem dX6_leadFreely_17 : decode cX6_leadFreely 17 = .ok (.iload_n 1, 1) := by decide +kernel
theorem dX6_leadFreely_18 : decode cX6_leadFreely 18 = .ok (.invokevirtual 71, 3) := by decide +kernel
theorem dX6_leadFreely_21 : decode cX6_leadFreely 21 = .ok (.istore 4, 2) := by decide +kernel
theorem dX6_leadFreely_23 : decode cX6_leadFreely 23 = .ok (.aload_n 0, 1) := by decide +kernel
theorem dX6_leadFreely_24 : decode cX6_leadFreely 24 = .ok (.iload_n 3, 1) := by decide +kernel
theorem dX6_leadFreely_25 : decode cX6_leadFreely 25 = .ok (.iload_n 2, 1) := by decide +kernel
theorem dX6_leadFreely_26 : decode cX6_leadFreely 26 = .ok (.invokevirtual 71, 3) := by decide +kernel
theorem dX6_leadFreely_29 : decode cX6_leadFreely 29 = .ok (.istore 5, 2) := by decide +kernel
theorem dX6_leadFreely_31 : decode cX6_leadFreely 31 = .ok (.aload_n 0, 1) := by decide +kernel
theorem dX6_leadFreely_32 : decode cX6_leadFreely 32 = .ok (.getfield 25, 3) := by decide +kernel
theorem dX6_leadFreely_35 : decode cX6_leadFreely 35 = .ok (.iload_n 3, 1) := by decide +kernel
theorem dX6_leadFreely_36 : decode cX6_leadFreely 36 = .ok (.iload 4, 2) := by decide +kernel
theorem dX6_leadFreely_38 : decode cX6_leadFreely 38 = .ok (.iload 5, 2) := by decide +kernel
theorem dX6_leadFreely_40 : decode cX6_leadFreely 40 = .ok (.if_icmp .gt 7, 3) := by decide +kernel
theorem dX6_leadFreely_43 : decode cX6_leadFreely 43 = .ok (.iconst 0, 1) := by decide +kernel
theorem dX6_leadFreely_44 : decode cX6_leadFreely 44 = .ok (.goto 4, 3) := by decide +kernel
theorem dX6_leadFreely_47 : decode cX6_leadFreely 47 = .ok (.iconst 1, 1) := by decide +kernel
theorem dX6_leadFreely_48 : decode cX6_leadFreely 48 = .ok (.iastore, 1) := by decide +kernel
theorem dX6_leadFreely_49 : decode cX6_leadFreely 49 = .ok (.aload_n 0, 1) := by decide +kernel
theorem dX6_leadFreely_50 : decode cX6_leadFreely 50 = .ok (.dup, 1) := by decide +kernel
theorem dX6_leadFreely_51 : decode cX6_leadFreely 51 = .ok (.getfield 32, 3) := by decide +kernel
theorem dX6_leadFreely_54 : decode cX6_leadFreely 54 = .ok (.iload 4, 2) := by decide +kernel
theorem dX6_leadFreely_56 : decode cX6_leadFreely 56 = .ok (.iload 5, 2) := by decide +kernel
theorem dX6_leadFreely_58 : decode cX6_leadFreely 58 = .ok (.invokestatic 61, 3) := by decide +kernel
theorem dX6_leadFreely_61 : decode cX6_leadFreely 61 = .ok (.iadd, 1) := by decide +kernel
theorem dX6_leadFreely_62 : decode cX6_leadFreely 62 = .ok (.putfield 32, 3) := by decide +kernel
theorem dX6_leadFreely_65 : decode cX6_leadFreely 65 = .ok (.iinc 3 1, 3) := by decide +kernel
theorem dX6_leadFreely_68 : decode cX6_leadFreely 68 = .ok (.goto (-61), 3) := by decide +kernel
theorem dX6_leadFreely_71 : decode cX6_leadFreely 71 = .ok (.return_, 1) := by decide +kernel
theorem dX6_leastLeft_0 : decode cX6_leastLeft 0 = .ok (.iconst (-1), 1) := by decide +kernel
theorem dX6_leastLeft_1 : decode cX6_leastLeft 1 = .ok (.istore_n 2, 1) := by decide +kernel
theorem dX6_leastLeft_2 : decode cX6_leastLeft 2 = .ok (.aload_n 0, 1) := by decide +kernel
theorem dX6_leastLeft_3 : decode cX6_leastLeft 3 = .ok (.getfield 35, 3) := by decide +kernel
theorem dX6_leastLeft_6 : decode cX6_leastLeft 6 = .ok (.iload_n 1, 1) := by decide +kernel
theorem dX6_leastLeft_7 : decode cX6_leastLeft 7 = .ok (.invokevirtual 64, 3) := by decide +kernel
theorem dX6_leastLeft_10 : decode cX6_leastLeft 10 = .ok (.ifCond .eq 7, 3) := by decide +kernel
theorem dX6_leastLeft_13 : decode cX6_leastLeft 13 = .ok (.iconst 1, 1) := by decide +kernel
theorem dX6_leastLeft_14 : decode cX6_leastLeft 14 = .ok (.goto 4, 3) := by decide +kernel
theorem dX6_leastLeft_17 : decode cX6_leastLeft 17 = .ok (.iconst 2, 1) := by decide +kernel
theorem dX6_leastLeft_18 : decode cX6_leastLeft 18 = .ok (.istore_n 3, 1) := by decide +kernel
theorem dX6_leastLeft_19 : decode cX6_leastLeft 19 = .ok (.iconst 0, 1) := by decide +kernel
theorem dX6_leastLeft_20 : decode cX6_leastLeft 20 = .ok (.iload_n 1, 1) := by decide +kernel
theorem dX6_leastLeft_21 : decode cX6_leastLeft 21 = .ok (.aload_n 0, 1) := by decide +kernel
theorem dX6_leastLeft_22 : decode cX6_leastLeft 22 = .ok (.getfield 35, 3) := by decide +kernel
theorem dX6_leastLeft_25 : decode cX6_leastLeft 25 = .ok (.getfield 58, 3) := by decide +kernel
theorem dX6_leastLeft_28 : decode cX6_leastLeft 28 = .ok (.iconst 3, 1) := by decide +kernel
theorem dX6_leastLeft_29 : decode cX6_leastLeft 29 = .ok (.iaload, 1) := by decide +kernel
theorem dX6_leastLeft_30 : decode cX6_leastLeft 30 = .ok (.iconst 2, 1) := by decide +kernel
theorem dX6_leastLeft_31 : decode cX6_leastLeft 31 = .ok (.idiv, 1) := by decide +kernel
theorem dX6_leastLeft_32 : decode cX6_leastLeft 32 = .ok (.isub, 1) := by decide +kernel
theorem dX6_leastLeft_33 : decode cX6_leastLeft 33 = .ok (.invokestatic 49, 3) := by decide +kernel
theorem dX6_leastLeft_36 : decode cX6_leastLeft 36 = .ok (.istore 4, 2) := by decide +kernel
theorem dX6_leastLeft_38 : decode cX6_leastLeft 38 = .ok (.iload 4, 2) := by decide +kernel
theorem dX6_leastLeft_40 : decode cX6_leastLeft 40 = .ok (.iload_n 1, 1) := by decide +kernel
theorem dX6_leastLeft_41 : decode cX6_leastLeft 41 = .ok (.if_icmp .ge 49, 3) := by decide +kernel
theorem dX6_leastLeft_44 : decode cX6_leastLeft 44 = .ok (.aload_n 0, 1) := by decide +kernel
theorem dX6_leastLeft_45 : decode cX6_leastLeft 45 = .ok (.getfield 19, 3) := by decide +kernel
theorem dX6_leastLeft_48 : decode cX6_leastLeft 48 = .ok (.iload 4, 2) := by decide +kernel
theorem dX6_leastLeft_50 : decode cX6_leastLeft 50 = .ok (.iaload, 1) := by decide +kernel
theorem dX6_leastLeft_51 : decode cX6_leastLeft 51 = .ok (.ifCond .ge 6, 3) := by decide +kernel
theorem dX6_leastLeft_54 : decode cX6_leastLeft 54 = .ok (.goto 30, 3) := by decide +kernel
theorem dX6_leastLeft_57 : decode cX6_leastLeft 57 = .ok (.iload_n 2, 1) := by decide +kernel
theorem dX6_leastLeft_58 : decode cX6_leastLeft 58 = .ok (.ifCond .lt 16, 3) := by decide +kernel
theorem dX6_leastLeft_61 : decode cX6_leastLeft 61 = .ok (.aload_n 0, 1) := by decide +kernel
theorem dX6_leastLeft_62 : decode cX6_leastLeft 62 = .ok (.getfield 19, 3) := by decide +kernel
theorem dX6_leastLeft_65 : decode cX6_leastLeft 65 = .ok (.iload 4, 2) := by decide +kernel
theorem dX6_leastLeft_67 : decode cX6_leastLeft 67 = .ok (.iaload, 1) := by decide +kernel
theorem dX6_leastLeft_68 : decode cX6_leastLeft 68 = .ok (.iload_n 3, 1) := by decide +kernel
theorem dX6_leastLeft_69 : decode cX6_leastLeft 69 = .ok (.iadd, 1) := by decide +kernel
theorem dX6_leastLeft_70 : decode cX6_leastLeft 70 = .ok (.iload_n 2, 1) := by decide +kernel
theorem dX6_leastLeft_71 : decode cX6_leastLeft 71 = .ok (.if_icmp .ge 13, 3) := by decide +kernel
theorem dX6_leastLeft_74 : decode cX6_leastLeft 74 = .ok (.aload_n 0, 1) := by decide +kernel
theorem dX6_leastLeft_75 : decode cX6_leastLeft 75 = .ok (.getfield 19, 3) := by decide +kernel
theorem dX6_leastLeft_78 : decode cX6_leastLeft 78 = .ok (.iload 4, 2) := by decide +kernel
theorem dX6_leastLeft_80 : decode cX6_leastLeft 80 = .ok (.iaload, 1) := by decide +kernel
theorem dX6_leastLeft_81 : decode cX6_leastLeft 81 = .ok (.iload_n 3, 1) := by decide +kernel
theorem dX6_leastLeft_82 : decode cX6_leastLeft 82 = .ok (.iadd, 1) := by decide +kernel
theorem dX6_leastLeft_83 : decode cX6_leastLeft 83 = .ok (.istore_n 2, 1) := by decide +kernel
theorem dX6_leastLeft_84 : decode cX6_leastLeft 84 = .ok (.iinc 4 1, 3) := by decide +kernel
theorem dX6_leastLeft_87 : decode cX6_leastLeft 87 = .ok (.goto (-49), 3) := by decide +kernel
theorem dX6_leastLeft_90 : decode cX6_leastLeft 90 = .ok (.iload_n 2, 1) := by decide +kernel
theorem dX6_leastLeft_91 : decode cX6_leastLeft 91 = .ok (.ireturn, 1) := by decide +kernel
theorem dX6_leftFrom_0 : decode cX6_leftFrom 0 = .ok (.aload_n 0, 1) := by decide +kernel
theorem dX6_leftFrom_1 : decode cX6_leftFrom 1 = .ok (.getfield 19, 3) := by decide +kernel
theorem dX6_leftFrom_4 : decode cX6_leftFrom 4 = .ok (.iconst 0, 1) := by decide +kernel
theorem dX6_leftFrom_5 : decode cX6_leftFrom 5 = .ok (.iconst 0, 1) := by decide +kernel
theorem dX6_leftFrom_6 : decode cX6_leftFrom 6 = .ok (.iastore, 1) := by decide +kernel
theorem dX6_leftFrom_7 : decode cX6_leftFrom 7 = .ok (.iconst 1, 1) := by decide +kernel
theorem dX6_leftFrom_8 : decode cX6_leftFrom 8 = .ok (.istore_n 2, 1) := by decide +kernel
theorem dX6_leftFrom_9 : decode cX6_leftFrom 9 = .ok (.iload_n 2, 1) := by decide +kernel
theorem dX6_leftFrom_10 : decode cX6_leftFrom 10 = .ok (.iload_n 1, 1) := by decide +kernel
theorem dX6_leftFrom_11 : decode cX6_leftFrom 11 = .ok (.if_icmp .gt 40, 3) := by decide +kernel
theorem dX6_leftFrom_14 : decode cX6_leftFrom 14 = .ok (.aload_n 0, 1) := by decide +kernel
theorem dX6_leftFrom_15 : decode cX6_leftFrom 15 = .ok (.getfield 19, 3) := by decide +kernel
theorem dX6_leftFrom_18 : decode cX6_leftFrom 18 = .ok (.iload_n 2, 1) := by decide +kernel
theorem dX6_leftFrom_19 : decode cX6_leftFrom 19 = .ok (.iload_n 2, 1) := by decide +kernel
theorem dX6_leftFrom_20 : decode cX6_leftFrom 20 = .ok (.iload_n 1, 1) := by decide +kernel
theorem dX6_leftFrom_21 : decode cX6_leftFrom 21 = .ok (.if_icmp .eq 14, 3) := by decide +kernel
theorem dX6_leftFrom_24 : decode cX6_leftFrom 24 = .ok (.aload_n 0, 1) := by decide +kernel
theorem dX6_leftFrom_25 : decode cX6_leftFrom 25 = .ok (.getfield 35, 3) := by decide +kernel
theorem dX6_leftFrom_28 : decode cX6_leftFrom 28 = .ok (.iload_n 2, 1) := by decide +kernel
theorem dX6_leftFrom_29 : decode cX6_leftFrom 29 = .ok (.invokevirtual 64, 3) := by decide +kernel
theorem dX6_leftFrom_32 : decode cX6_leftFrom 32 = .ok (.ifCond .eq 11, 3) := by decide +kernel
theorem dX6_leftFrom_35 : decode cX6_leftFrom 35 = .ok (.aload_n 0, 1) := by decide +kernel
theorem dX6_leftFrom_36 : decode cX6_leftFrom 36 = .ok (.iload_n 2, 1) := by decide +kernel
theorem dX6_leftFrom_37 : decode cX6_leftFrom 37 = .ok (.invokevirtual 78, 3) := by decide +kernel
theorem dX6_leftFrom_40 : decode cX6_leftFrom 40 = .ok (.goto 4, 3) := by decide +kernel
theorem dX6_leftFrom_43 : decode cX6_leftFrom 43 = .ok (.iconst (-1), 1) := by decide +kernel
theorem dX6_leftFrom_44 : decode cX6_leftFrom 44 = .ok (.iastore, 1) := by decide +kernel
theorem dX6_leftFrom_45 : decode cX6_leftFrom 45 = .ok (.iinc 2 1, 3) := by decide +kernel
theorem dX6_leftFrom_48 : decode cX6_leftFrom 48 = .ok (.goto (-39), 3) := by decide +kernel
theorem dX6_leftFrom_51 : decode cX6_leftFrom 51 = .ok (.aload_n 0, 1) := by decide +kernel
theorem dX6_leftFrom_52 : decode cX6_leftFrom 52 = .ok (.getfield 19, 3) := by decide +kernel
theorem dX6_leftFrom_55 : decode cX6_leftFrom 55 = .ok (.iload_n 1, 1) := by decide +kernel
theorem dX6_leftFrom_56 : decode cX6_leftFrom 56 = .ok (.iaload, 1) := by decide +kernel
theorem dX6_leftFrom_57 : decode cX6_leftFrom 57 = .ok (.ireturn, 1) := by decide +kernel
abbrev q_X6_forget  (σ : tw_M) : Option tw_V → tw_M → Prop := fun z τ => z = none ∧ tw_I τ ∧ tw_F (fun c j => (c = 71 ∧ (j = 1))) σ τ ∧ True
set_option maxHeartbeats 4000000 in
set_option maxRecDepth 100000 in
theorem c_X6_forget {G : tw_G} (hX : tw_isX G) (σ : tw_M) (hI : tw_I σ) : tw_C G yX6_forget cX6_forget 1 none 0 [vR 71] σ (q_X6_forget σ) := by
  refine tw_met [(0, vR 71)] (by decide +kernel) rfl (Nat.le_of_ble_eq_true rfl) ?_
  refine j_aload_n (pc := 0) dX6_forget_0 rfl rfl ?_
  refine j_iconst (pc := 1) dX6_forget_1 ?_
  refine j_putZ (pc := 2) (by omega) fl_X6_9 fp_X6_1 dX6_forget_2 (a_71 hX) rfl (j_nm (fun σ1 (eσ1 : σ1 = tw_up σ 71 1 0) => ?_))
  have hIσ1 : tw_I σ1 := tw_I_up hI eσ1 (show (0 : Int) ≤ 0 ∧ 0 ≤ 1 from by decide)
  have hFσ1 : tw_F (fun c j => (c = 71 ∧ (j = 1))) σ σ1 := tw_F_up (tw_F_rf) eσ1 (show (71 = 71 ∧ (1 = 1)) from ⟨rfl, rfl⟩)
  exact j_vret (pc := 5) ⟨rfl, rfl⟩ dX6_forget_5 rfl ⟨rfl, hIσ1, hFσ1, trivial⟩
abbrev q_X6_pitchesFrom (h : Int) (σ : tw_M) : Option tw_V → tw_M → Prop := fun z τ => ∃ r : Int, z = some (vI r) ∧ (-1 ≤ r ∧ r ≤ 40) ∧ σ = τ ∧ (r ≤ σ 2 0 - h)
set_option maxHeartbeats 4000000 in
set_option maxRecDepth 100000 in
theorem l_X6_pitchesFrom {G : tw_G} (hX : tw_isX G) (h : Int) (hh : 0 ≤ h ∧ h ≤ 39) (σ : tw_M) (hI : tw_I σ) (hq0 : h < σ 2 0) (hq1 : ∀ j : Nat, h < (j : Int) → (j : Int) ≤ σ 2 0 → σ 72 j ≤ σ 2 0 - (j : Int)) : ∀ N_ : Nat, (∀ (l : Int) (hl : -1 ≤ l ∧ l ≤ 40) (m : Int) (hm : 0 ≤ m ∧ m ≤ 40) (s : Int) (hs : 1 ≤ s ∧ s ≤ 41) (i0 : l ≤ σ 2 0 - h) (i1 : h < s) (i2 : m ≤ σ 2 0) (hm : (41 - s).toNat < N_), tw_J G (tw_mt RX6 cX6_pitchesFrom 5 (some .int) 2) (tw_E G (q_X6_pitchesFrom h σ)) 29 [(0, vR 71), (2, vI l), (3, vI m), (4, vI s)] [] σ) := by
  intro N_
  induction N_ with
  | zero => exact fun l hl m hm s hs i0 i1 i2 hm => absurd hm (Nat.not_lt_zero _)
  | succ N_ ih =>
    intro l hl m hm s hs i0 i1 i2 hm
    have ft : (1 : Int) ≤ σ 2 0 ∧ σ 2 0 ≤ 40 := hI 2 0
    refine j_iload (pc := 29) dX6_pitchesFrom_29 rfl ?_
    refine j_iload_n (pc := 31) dX6_pitchesFrom_31 rfl rfl ?_
    refine j_icmpR_gt (pc := 32) (tgt := 93) ⟨by omega, by omega⟩ ⟨by omega, by omega⟩ dX6_pitchesFrom_32 rfl (fun h1 => ?_) (fun h1 => ?_)
    · refine j_iload_n (pc := 93) dX6_pitchesFrom_93 rfl rfl ?_
      exact j_iret (pc := 94) ⟨rfl, rfl⟩ dX6_pitchesFrom_94 rfl ⟨_, rfl, ⟨by omega, by omega⟩, rfl, by omega⟩
    · refine j_aload_n (pc := 35) dX6_pitchesFrom_35 rfl rfl ?_
      refine j_getR (pc := 36) (r := 1) fl_X6_35 dX6_pitchesFrom_36 (a_71 hX) rfl ?_
      refine j_iload (pc := 39) dX6_pitchesFrom_39 rfl ?_
      refine j_callV (pc := 41) (As := [vI s]) (st := []) (c_X10_isStance 1 (s_Wall_1 hX) s ⟨by omega, by omega⟩ σ hI) mv_X6_64 rfl rfl rfl (a_1 hX) dX6_pitchesFrom_41 ⟨Nat.le_of_ble_eq_true rfl, Nat.le_of_ble_eq_true rfl⟩ ⟨Nat.le_refl _, Nat.le_refl _⟩ rfl (Nat.le_of_ble_eq_true rfl) rfl (fun z2 σ3 hz2 => ?_)
      obtain ⟨r5, rfl, hr5, rfl, q4_0⟩ := hz2
      replace q4_0 : r5 = 0 ∨ (r5 = 1 ∧ 1 ≤ s ∧ s ≤ σ 2 0 ∧ s ≤ 40) := q4_0
      refine j_st (st' := [vI r5]) rfl ?_
      refine j_ifR_eq (pc := 44) (tgt := 87) ⟨by omega, by omega⟩ dX6_pitchesFrom_44 rfl (fun h6 => ?_) (fun h6 => ?_)
      · refine j_iinc (pc := 87) (i := 4) (n := 1) (ls' := [(0, vR 71), (2, vI l), (3, vI m), (4, vI (s + 1))]) [1, 2, 3, 0] dX6_pitchesFrom_87 rfl (Nat.le_of_ble_eq_true rfl) rfl rfl ?_
        refine j_goto (pc := 90) (tgt := 29) dX6_pitchesFrom_90 rfl ?_
        refine j_ls (ls' := [(0, vR 71), (2, vI l), (3, vI m), (4, vI (s + 1))]) [0, 1, 2, 3] rfl ?_
        exact ih l ⟨by omega, by omega⟩ m ⟨by omega, by omega⟩ (s + 1) ⟨by omega, by omega⟩ (show l ≤ σ 2 0 - h from by omega) (show h < (s + 1) from by omega) (show m ≤ σ 2 0 from by omega) (show (41 - (s + 1)).toNat < N_ from by omega)
      · refine j_aload_n (pc := 47) dX6_pitchesFrom_47 rfl rfl ?_
        refine j_getR (pc := 48) (r := 72) fl_X6_15 dX6_pitchesFrom_48 (a_71 hX) rfl ?_
        refine j_iload (pc := 51) dX6_pitchesFrom_51 rfl ?_
        refine j_iald (pc := 53) dX6_pitchesFrom_53 (a_72 hX) (by omega) (by omega) (by decide) ?_
        have f7 : (-1 : Int) ≤ σ 72 (s.toNat) ∧ σ 72 (s.toNat) ≤ 40 := hI 72 (s.toNat)
        refine j_ifR_ge (pc := 54) (tgt := 60) ⟨by omega, by omega⟩ dX6_pitchesFrom_54 rfl (fun h8 => ?_) (fun h8 => ?_)
        · refine j_iload_n (pc := 60) dX6_pitchesFrom_60 rfl rfl ?_
          refine j_ifR_lt (pc := 61) (tgt := 77) ⟨by omega, by omega⟩ dX6_pitchesFrom_61 rfl (fun h9 => ?_) (fun h9 => ?_)
          · have x9 := hq1 s.toNat (by omega) (by omega)
            refine j_aload_n (pc := 77) dX6_pitchesFrom_77 rfl rfl ?_
            refine j_getR (pc := 78) (r := 72) fl_X6_15 dX6_pitchesFrom_78 (a_71 hX) rfl ?_
            refine j_iload (pc := 81) dX6_pitchesFrom_81 rfl ?_
            refine j_iald (pc := 83) dX6_pitchesFrom_83 (a_72 hX) (by omega) (by omega) (by decide) ?_
            refine j_iconst (pc := 84) dX6_pitchesFrom_84 ?_
            refine j_iadd (pc := 85) dX6_pitchesFrom_85 ?_
            refine j_istore_n (pc := 86) (i := 2) (ls' := [(0, vR 71), (2, vI ((σ 72 (s.toNat)) + 1)), (3, vI m), (4, vI s)]) [1, 0, 2, 3] dX6_pitchesFrom_86 rfl (Nat.le_of_ble_eq_true rfl) rfl rfl ?_
            refine j_iinc (pc := 87) (i := 4) (n := 1) (ls' := [(0, vR 71), (2, vI ((σ 72 (s.toNat)) + 1)), (3, vI m), (4, vI (s + 1))]) [1, 2, 3, 0] dX6_pitchesFrom_87 rfl (Nat.le_of_ble_eq_true rfl) rfl rfl ?_
            refine j_goto (pc := 90) (tgt := 29) dX6_pitchesFrom_90 rfl ?_
            refine j_ls (ls' := [(0, vR 71), (2, vI ((σ 72 (s.toNat)) + 1)), (3, vI m), (4, vI (s + 1))]) [0, 1, 2, 3] rfl ?_
            exact ih ((σ 72 (s.toNat)) + 1) ⟨by omega, by omega⟩ m ⟨by omega, by omega⟩ (s + 1) ⟨by omega, by omega⟩ (show ((σ 72 (s.toNat)) + 1) ≤ σ 2 0 - h from by omega) (show h < (s + 1) from by omega) (show m ≤ σ 2 0 from by omega) (show (41 - (s + 1)).toNat < N_ from by omega)
          · refine j_aload_n (pc := 64) dX6_pitchesFrom_64 rfl rfl ?_
            refine j_getR (pc := 65) (r := 72) fl_X6_15 dX6_pitchesFrom_65 (a_71 hX) rfl ?_
            refine j_iload (pc := 68) dX6_pitchesFrom_68 rfl ?_
            refine j_iald (pc := 70) dX6_pitchesFrom_70 (a_72 hX) (by omega) (by omega) (by decide) ?_
            refine j_iconst (pc := 71) dX6_pitchesFrom_71 ?_
            refine j_iadd (pc := 72) dX6_pitchesFrom_72 ?_
            refine j_iload_n (pc := 73) dX6_pitchesFrom_73 rfl rfl ?_
            refine j_icmpR_ge (pc := 74) (tgt := 87) ⟨by omega, by omega⟩ ⟨by omega, by omega⟩ dX6_pitchesFrom_74 rfl (fun h10 => ?_) (fun h10 => ?_)
            · refine j_iinc (pc := 87) (i := 4) (n := 1) (ls' := [(0, vR 71), (2, vI l), (3, vI m), (4, vI (s + 1))]) [1, 2, 3, 0] dX6_pitchesFrom_87 rfl (Nat.le_of_ble_eq_true rfl) rfl rfl ?_
              refine j_goto (pc := 90) (tgt := 29) dX6_pitchesFrom_90 rfl ?_
              refine j_ls (ls' := [(0, vR 71), (2, vI l), (3, vI m), (4, vI (s + 1))]) [0, 1, 2, 3] rfl ?_
              exact ih l ⟨by omega, by omega⟩ m ⟨by omega, by omega⟩ (s + 1) ⟨by omega, by omega⟩ (show l ≤ σ 2 0 - h from by omega) (show h < (s + 1) from by omega) (show m ≤ σ 2 0 from by omega) (show (41 - (s + 1)).toNat < N_ from by omega)
            · have x9 := hq1 s.toNat (by omega) (by omega)
              refine j_aload_n (pc := 77) dX6_pitchesFrom_77 rfl rfl ?_
              refine j_getR (pc := 78) (r := 72) fl_X6_15 dX6_pitchesFrom_78 (a_71 hX) rfl ?_
              refine j_iload (pc := 81) dX6_pitchesFrom_81 rfl ?_
              refine j_iald (pc := 83) dX6_pitchesFrom_83 (a_72 hX) (by omega) (by omega) (by decide) ?_
              refine j_iconst (pc := 84) dX6_pitchesFrom_84 ?_
              refine j_iadd (pc := 85) dX6_pitchesFrom_85 ?_
              refine j_istore_n (pc := 86) (i := 2) (ls' := [(0, vR 71), (2, vI ((σ 72 (s.toNat)) + 1)), (3, vI m), (4, vI s)]) [1, 0, 2, 3] dX6_pitchesFrom_86 rfl (Nat.le_of_ble_eq_true rfl) rfl rfl ?_
              refine j_iinc (pc := 87) (i := 4) (n := 1) (ls' := [(0, vR 71), (2, vI ((σ 72 (s.toNat)) + 1)), (3, vI m), (4, vI (s + 1))]) [1, 2, 3, 0] dX6_pitchesFrom_87 rfl (Nat.le_of_ble_eq_true rfl) rfl rfl ?_
              refine j_goto (pc := 90) (tgt := 29) dX6_pitchesFrom_90 rfl ?_
              refine j_ls (ls' := [(0, vR 71), (2, vI ((σ 72 (s.toNat)) + 1)), (3, vI m), (4, vI (s + 1))]) [0, 1, 2, 3] rfl ?_
              exact ih ((σ 72 (s.toNat)) + 1) ⟨by omega, by omega⟩ m ⟨by omega, by omega⟩ (s + 1) ⟨by omega, by omega⟩ (show ((σ 72 (s.toNat)) + 1) ≤ σ 2 0 - h from by omega) (show h < (s + 1) from by omega) (show m ≤ σ 2 0 from by omega) (show (41 - (s + 1)).toNat < N_ from by omega)
        · refine j_goto (pc := 57) (tgt := 87) dX6_pitchesFrom_57 rfl ?_
          refine j_iinc (pc := 87) (i := 4) (n := 1) (ls' := [(0, vR 71), (2, vI l), (3, vI m), (4, vI (s + 1))]) [1, 2, 3, 0] dX6_pitchesFrom_87 rfl (Nat.le_of_ble_eq_true rfl) rfl rfl ?_
          refine j_goto (pc := 90) (tgt := 29) dX6_pitchesFrom_90 rfl ?_
          refine j_ls (ls' := [(0, vR 71), (2, vI l), (3, vI m), (4, vI (s + 1))]) [0, 1, 2, 3] rfl ?_
          exact ih l ⟨by omega, by omega⟩ m ⟨by omega, by omega⟩ (s + 1) ⟨by omega, by omega⟩ (show l ≤ σ 2 0 - h from by omega) (show h < (s + 1) from by omega) (show m ≤ σ 2 0 from by omega) (show (41 - (s + 1)).toNat < N_ from by omega)
set_option maxHeartbeats 4000000 in
set_option maxRecDepth 100000 in
theorem c_X6_pitchesFrom {G : tw_G} (hX : tw_isX G) (h : Int) (hh : 0 ≤ h ∧ h ≤ 39) (σ : tw_M) (hI : tw_I σ) (hq0 : h < σ 2 0) (hq1 : ∀ j : Nat, h < (j : Int) → (j : Int) ≤ σ 2 0 → σ 72 j ≤ σ 2 0 - (j : Int)) : tw_C G yX6_pitchesFrom cX6_pitchesFrom 5 (some .int) 2 [vR 71, vI h] σ (q_X6_pitchesFrom h σ) := by
  refine tw_met [(0, vR 71), (1, vI h)] (by decide +kernel) rfl (Nat.le_of_ble_eq_true rfl) ?_
  have ft : (1 : Int) ≤ σ 2 0 ∧ σ 2 0 ≤ 40 := hI 2 0
  refine j_iconst (pc := 0) dX6_pitchesFrom_0 ?_
  refine j_istore_n (pc := 1) (i := 2) (ls' := [(0, vR 71), (1, vI h), (2, vI (-1))]) [1, 2, 0] dX6_pitchesFrom_1 rfl (Nat.le_of_ble_eq_true rfl) rfl rfl ?_
  refine j_aload_n (pc := 2) dX6_pitchesFrom_2 rfl rfl ?_
  refine j_getR (pc := 3) (r := 1) fl_X6_35 dX6_pitchesFrom_3 (a_71 hX) rfl ?_
  refine j_callV (pc := 6) (As := []) (st := []) (c_X10_top 1 (s_Wall_1 hX) σ hI) mv_X6_39 rfl rfl rfl (a_1 hX) dX6_pitchesFrom_6 ⟨Nat.le_of_ble_eq_true rfl, Nat.le_of_ble_eq_true rfl⟩ ⟨Nat.le_refl _, Nat.le_refl _⟩ rfl (Nat.le_of_ble_eq_true rfl) rfl (fun z11 σ12 hz11 => ?_)
  obtain ⟨r14, rfl, hr14, rfl, q13_0⟩ := hz11
  replace q13_0 : r14 = σ 2 0 := q13_0
  refine j_st (st' := [vI r14]) rfl ?_
  refine j_iload_n (pc := 9) dX6_pitchesFrom_9 rfl rfl ?_
  refine j_aload_n (pc := 10) dX6_pitchesFrom_10 rfl rfl ?_
  refine j_getR (pc := 11) (r := 1) fl_X6_35 dX6_pitchesFrom_11 (a_71 hX) rfl ?_
  refine j_getR (pc := 14) (r := 2) fl_X6_58 dX6_pitchesFrom_14 (a_1 hX) rfl ?_
  refine j_iconst (pc := 17) dX6_pitchesFrom_17 ?_
  refine j_iald (pc := 18) dX6_pitchesFrom_18 (a_2 hX) (by omega) (by omega) (by decide) ?_
  refine j_topV (show σ 2 (Int.toNat 3) = σ 2 3 from rfl) ?_
  have f15 : (1 : Int) ≤ σ 2 3 ∧ σ 2 3 ≤ 60 := hI 2 3
  refine j_iadd (pc := 19) dX6_pitchesFrom_19 ?_
  refine j_mmin (pc := 20) mm_X6_61 dX6_pitchesFrom_20 ⟨Nat.le_of_ble_eq_true rfl, Nat.le_of_ble_eq_true rfl⟩ ⟨Nat.le_refl _, Nat.le_refl _⟩ rfl (fun z16 ez16 => ?_)
  have hz16 := tw_min_eq (a := r14) (b := h + (σ 2 3)) ⟨by omega, by omega⟩ ⟨by omega, by omega⟩ ez16
  refine j_istore_n (pc := 23) (i := 3) (ls' := [(0, vR 71), (1, vI h), (2, vI (-1)), (3, vI z16)]) [1, 2, 3, 0] dX6_pitchesFrom_23 rfl (Nat.le_of_ble_eq_true rfl) rfl rfl ?_
  refine j_iload_n (pc := 24) dX6_pitchesFrom_24 rfl rfl ?_
  refine j_iconst (pc := 25) dX6_pitchesFrom_25 ?_
  refine j_iadd (pc := 26) dX6_pitchesFrom_26 ?_
  refine j_istore (pc := 27) (i := 4) (ls' := [(0, vR 71), (2, vI (-1)), (3, vI z16), (4, vI (h + 1))]) [1, 3, 4, 0] dX6_pitchesFrom_27 (Nat.le_of_ble_eq_true rfl) rfl rfl ?_
  refine j_ls (ls' := [(0, vR 71), (2, vI (-1)), (3, vI z16), (4, vI (h + 1))]) [0, 1, 2, 3] rfl ?_
  exact (l_X6_pitchesFrom hX h hh σ hI hq0 hq1 (((41 - (h + 1)).toNat) + 1)) (-1) (by (first | decide | exact ⟨by omega, by omega⟩)) z16 ⟨by omega, by omega⟩ (h + 1) ⟨by omega, by omega⟩ (show (-1 : Int) ≤ σ 2 0 - h from by omega) (show h < (h + 1) from by omega) (show z16 ≤ σ 2 0 from by omega) (Nat.lt_succ_self _)
abbrev q_X6_nextStance (a : Int) (σ : tw_M) : Option tw_V → tw_M → Prop := fun z τ => ∃ r : Int, z = some (vI r) ∧ (0 ≤ r ∧ r ≤ 40) ∧ σ = τ ∧ True
set_option maxHeartbeats 4000000 in
set_option maxRecDepth 100000 in
theorem l_X6_nextStance {G : tw_G} (hX : tw_isX G) (a : Int) (ha : 0 ≤ a ∧ a ≤ 40) (σ : tw_M) (hI : tw_I σ) : ∀ N_ : Nat, (∀ (m : Int) (hm : -1 ≤ m ∧ m ≤ 40) (s : Int) (hs : 1 ≤ s ∧ s ≤ 41)  (hm : (41 - s).toNat < N_), tw_J G (tw_mt RX6 cX6_nextStance 4 (some .int) 2) (tw_E G (q_X6_nextStance a σ)) 26 [(0, vR 71), (1, vI a), (2, vI m), (3, vI s)] [] σ) := by
  intro N_
  induction N_ with
  | zero => exact fun m hm s hs hm => absurd hm (Nat.not_lt_zero _)
  | succ N_ ih =>
    intro m hm s hs hm
    refine j_iload_n (pc := 26) dX6_nextStance_26 rfl rfl ?_
    refine j_iload_n (pc := 27) dX6_nextStance_27 rfl rfl ?_
    refine j_icmpR_gt (pc := 28) (tgt := 67) ⟨by omega, by omega⟩ ⟨by omega, by omega⟩ dX6_nextStance_28 rfl (fun h1 => ?_) (fun h1 => ?_)
    · refine j_iload_n (pc := 67) dX6_nextStance_67 rfl rfl ?_
      exact j_iret (pc := 68) ⟨rfl, rfl⟩ dX6_nextStance_68 rfl ⟨_, rfl, ⟨by omega, by omega⟩, rfl, trivial⟩
    · refine j_aload_n (pc := 31) dX6_nextStance_31 rfl rfl ?_
      refine j_getR (pc := 32) (r := 1) fl_X6_35 dX6_nextStance_32 (a_71 hX) rfl ?_
      refine j_iload_n (pc := 35) dX6_nextStance_35 rfl rfl ?_
      refine j_callV (pc := 36) (As := [vI s]) (st := []) (c_X10_isStance 1 (s_Wall_1 hX) s ⟨by omega, by omega⟩ σ hI) mv_X6_64 rfl rfl rfl (a_1 hX) dX6_nextStance_36 ⟨Nat.le_of_ble_eq_true rfl, Nat.le_of_ble_eq_true rfl⟩ ⟨Nat.le_refl _, Nat.le_refl _⟩ rfl (Nat.le_of_ble_eq_true rfl) rfl (fun z2 σ3 hz2 => ?_)
      obtain ⟨r5, rfl, hr5, rfl, q4_0⟩ := hz2
      replace q4_0 : r5 = 0 ∨ (r5 = 1 ∧ 1 ≤ s ∧ s ≤ σ 2 0 ∧ s ≤ 40) := q4_0
      refine j_st (st' := [vI r5]) rfl ?_
      refine j_ifR_eq (pc := 39) (tgt := 61) ⟨by omega, by omega⟩ dX6_nextStance_39 rfl (fun h6 => ?_) (fun h6 => ?_)
      · refine j_iinc (pc := 61) (i := 3) (n := 1) (ls' := [(0, vR 71), (1, vI a), (2, vI m), (3, vI (s + 1))]) [1, 2, 3, 0] dX6_nextStance_61 rfl (Nat.le_of_ble_eq_true rfl) rfl rfl ?_
        refine j_goto (pc := 64) (tgt := 26) dX6_nextStance_64 rfl ?_
        refine j_ls (ls' := [(0, vR 71), (1, vI a), (2, vI m), (3, vI (s + 1))]) [0, 1, 2, 3] rfl ?_
        exact ih m ⟨by omega, by omega⟩ (s + 1) ⟨by omega, by omega⟩ (show (41 - (s + 1)).toNat < N_ from by omega)
      · refine j_aload_n (pc := 42) dX6_nextStance_42 rfl rfl ?_
        refine j_getR (pc := 43) (r := 72) fl_X6_15 dX6_nextStance_43 (a_71 hX) rfl ?_
        refine j_iload_n (pc := 46) dX6_nextStance_46 rfl rfl ?_
        refine j_iald (pc := 47) dX6_nextStance_47 (a_72 hX) (by omega) (by omega) (by decide) ?_
        have f7 : (-1 : Int) ≤ σ 72 (s.toNat) ∧ σ 72 (s.toNat) ≤ 40 := hI 72 (s.toNat)
        refine j_aload_n (pc := 48) dX6_nextStance_48 rfl rfl ?_
        refine j_getR (pc := 49) (r := 72) fl_X6_15 dX6_nextStance_49 (a_71 hX) rfl ?_
        refine j_iload_n (pc := 52) dX6_nextStance_52 rfl rfl ?_
        refine j_iald (pc := 53) dX6_nextStance_53 (a_72 hX) (by omega) (by omega) (by decide) ?_
        have f8 : (-1 : Int) ≤ σ 72 (a.toNat) ∧ σ 72 (a.toNat) ≤ 40 := hI 72 (a.toNat)
        refine j_iconst (pc := 54) dX6_nextStance_54 ?_
        refine j_isub (pc := 55) dX6_nextStance_55 ?_
        refine j_icmpR_ne (pc := 56) (tgt := 61) ⟨by omega, by omega⟩ ⟨by omega, by omega⟩ dX6_nextStance_56 rfl (fun h9 => ?_) (fun h9 => ?_)
        · refine j_iinc (pc := 61) (i := 3) (n := 1) (ls' := [(0, vR 71), (1, vI a), (2, vI m), (3, vI (s + 1))]) [1, 2, 3, 0] dX6_nextStance_61 rfl (Nat.le_of_ble_eq_true rfl) rfl rfl ?_
          refine j_goto (pc := 64) (tgt := 26) dX6_nextStance_64 rfl ?_
          refine j_ls (ls' := [(0, vR 71), (1, vI a), (2, vI m), (3, vI (s + 1))]) [0, 1, 2, 3] rfl ?_
          exact ih m ⟨by omega, by omega⟩ (s + 1) ⟨by omega, by omega⟩ (show (41 - (s + 1)).toNat < N_ from by omega)
        · refine j_iload_n (pc := 59) dX6_nextStance_59 rfl rfl ?_
          exact j_iret (pc := 60) ⟨rfl, rfl⟩ dX6_nextStance_60 rfl ⟨_, rfl, ⟨by omega, by omega⟩, rfl, trivial⟩
set_option maxHeartbeats 4000000 in
set_option maxRecDepth 100000 in
theorem c_X6_nextStance {G : tw_G} (hX : tw_isX G) (a : Int) (ha : 0 ≤ a ∧ a ≤ 40) (σ : tw_M) (hI : tw_I σ) : tw_C G yX6_nextStance cX6_nextStance 4 (some .int) 2 [vR 71, vI a] σ (q_X6_nextStance a σ) := by
  refine tw_met [(0, vR 71), (1, vI a)] (by decide +kernel) rfl (Nat.le_of_ble_eq_true rfl) ?_
  refine j_aload_n (pc := 0) dX6_nextStance_0 rfl rfl ?_
  refine j_getR (pc := 1) (r := 1) fl_X6_35 dX6_nextStance_1 (a_71 hX) rfl ?_
  refine j_callV (pc := 4) (As := []) (st := []) (c_X10_top 1 (s_Wall_1 hX) σ hI) mv_X6_39 rfl rfl rfl (a_1 hX) dX6_nextStance_4 ⟨Nat.le_of_ble_eq_true rfl, Nat.le_of_ble_eq_true rfl⟩ ⟨Nat.le_refl _, Nat.le_refl _⟩ rfl (Nat.le_of_ble_eq_true rfl) rfl (fun z10 σ11 hz10 => ?_)
  obtain ⟨r13, rfl, hr13, rfl, q12_0⟩ := hz10
  replace q12_0 : r13 = σ 2 0 := q12_0
  refine j_st (st' := [vI r13]) rfl ?_
  refine j_iload_n (pc := 7) dX6_nextStance_7 rfl rfl ?_
  refine j_aload_n (pc := 8) dX6_nextStance_8 rfl rfl ?_
  refine j_getR (pc := 9) (r := 1) fl_X6_35 dX6_nextStance_9 (a_71 hX) rfl ?_
  refine j_getR (pc := 12) (r := 2) fl_X6_58 dX6_nextStance_12 (a_1 hX) rfl ?_
  refine j_iconst (pc := 15) dX6_nextStance_15 ?_
  refine j_iald (pc := 16) dX6_nextStance_16 (a_2 hX) (by omega) (by omega) (by decide) ?_
  refine j_topV (show σ 2 (Int.toNat 3) = σ 2 3 from rfl) ?_
  have f14 : (1 : Int) ≤ σ 2 3 ∧ σ 2 3 ≤ 60 := hI 2 3
  refine j_iadd (pc := 17) dX6_nextStance_17 ?_
  refine j_mmin (pc := 18) mm_X6_61 dX6_nextStance_18 ⟨Nat.le_of_ble_eq_true rfl, Nat.le_of_ble_eq_true rfl⟩ ⟨Nat.le_refl _, Nat.le_refl _⟩ rfl (fun z15 ez15 => ?_)
  have hz15 := tw_min_eq (a := r13) (b := a + (σ 2 3)) ⟨by omega, by omega⟩ ⟨by omega, by omega⟩ ez15
  refine j_istore_n (pc := 21) (i := 2) (ls' := [(0, vR 71), (1, vI a), (2, vI z15)]) [1, 2, 0] dX6_nextStance_21 rfl (Nat.le_of_ble_eq_true rfl) rfl rfl ?_
  refine j_iload_n (pc := 22) dX6_nextStance_22 rfl rfl ?_
  refine j_iconst (pc := 23) dX6_nextStance_23 ?_
  refine j_iadd (pc := 24) dX6_nextStance_24 ?_
  refine j_istore_n (pc := 25) (i := 3) (ls' := [(0, vR 71), (1, vI a), (2, vI z15), (3, vI (a + 1))]) [1, 2, 3, 0] dX6_nextStance_25 rfl (Nat.le_of_ble_eq_true rfl) rfl rfl ?_
  refine j_ls (ls' := [(0, vR 71), (1, vI a), (2, vI z15), (3, vI (a + 1))]) [0, 1, 2, 3] rfl ?_
  exact (l_X6_nextStance hX a ha σ hI (((41 - (a + 1)).toNat) + 1)) z15 ⟨by omega, by omega⟩ (a + 1) ⟨by omega, by omega⟩ (Nat.lt_succ_self _)
abbrev q_X6_findPitches  (σ : tw_M) : Option tw_V → tw_M → Prop := fun z τ => z = none ∧ tw_I τ ∧ tw_F (fun c j => (c = 71 ∧ (j = 1 ∨ j = 6)) ∨ c = 72 ∨ c = 74) σ τ ∧ True
set_option maxHeartbeats 4000000 in
set_option maxRecDepth 100000 in
theorem l_X6_findPitches {G : tw_G} (hX : tw_isX G) (σ : tw_M) (hI : tw_I σ) : ∀ N_ : Nat, (∀ (h : Int) (hh : -1 ≤ h ∧ h ≤ 39) (τ : tw_M) (hIτ : tw_I τ) (hFτ : tw_F (fun c j => (c = 71 ∧ (j = 1 ∨ j = 6)) ∨ c = 72 ∨ c = 74) σ τ) (i0 : τ 2 0 = σ 2 0) (i1 : h < τ 2 0) (i2 : ∀ j : Nat, h < (j : Int) → (j : Int) ≤ τ 2 0 → τ 72 j ≤ τ 2 0 - (j : Int)) (hm : (1000 + h).toNat < N_), tw_J G (tw_mt RX6 cX6_findPitches 4 none 3) (tw_E G (q_X6_findPitches σ)) 32 [(0, vR 71), (2, vI h)] [] τ) ∧ (∀ (a : Int) (ha : 0 ≤ a ∧ a ≤ 40) (i : Int) (hi : 0 ≤ i ∧ i ≤ 40) (τ : tw_M) (hIτ : tw_I τ) (hFτ : tw_F (fun c j => (c = 71 ∧ (j = 1 ∨ j = 6)) ∨ c = 72 ∨ c = 74) σ τ)  (hm : (40 - i).toNat < N_), tw_J G (tw_mt RX6 cX6_findPitches 4 none 3) (tw_E G (q_X6_findPitches σ)) 71 [(0, vR 71), (2, vI a), (3, vI i)] [] τ) := by
  intro N_
  induction N_ with
  | zero => exact ⟨fun h hh τ hIτ hFτ i0 i1 i2 hm => absurd hm (Nat.not_lt_zero _), fun a ha i hi τ hIτ hFτ hm => absurd hm (Nat.not_lt_zero _)⟩
  | succ N_ ih =>
    refine ⟨?_, ?_⟩
    · intro h hh τ hIτ hFτ i0 i1 i2 hm
      refine j_iload_n (pc := 32) dX6_findPitches_32 rfl rfl ?_
      refine j_ifR_lt (pc := 33) (tgt := 53) ⟨by omega, by omega⟩ dX6_findPitches_33 rfl (fun h1 => ?_) (fun h1 => ?_)
      · refine j_aload_n (pc := 53) dX6_findPitches_53 rfl rfl ?_
        refine j_iconst (pc := 54) dX6_findPitches_54 ?_
        refine j_aload_n (pc := 55) dX6_findPitches_55 rfl rfl ?_
        refine j_getR (pc := 56) (r := 72) fl_X6_15 dX6_findPitches_56 (a_71 hX) rfl ?_
        refine j_iconst (pc := 59) dX6_findPitches_59 ?_
        refine j_iald (pc := 60) dX6_findPitches_60 (a_72 hX) (by omega) (by omega) (by decide) ?_
        refine j_topV (show τ 72 (Int.toNat 0) = τ 72 0 from rfl) ?_
        have f2 : (-1 : Int) ≤ τ 72 0 ∧ τ 72 0 ≤ 40 := hIτ 72 0
        refine j_mmax (pc := 61) mm_X6_49 dX6_findPitches_61 ⟨Nat.le_of_ble_eq_true rfl, Nat.le_of_ble_eq_true rfl⟩ ⟨Nat.le_refl _, Nat.le_refl _⟩ rfl (fun z3 ez3 => ?_)
        have hz3 := tw_max_eq (a := 0) (b := τ 72 0) ⟨by omega, by omega⟩ ⟨by omega, by omega⟩ ez3
        refine j_putI (pc := 64) fl_X6_28 fp_X6_6 dX6_findPitches_64 (a_71 hX) rfl (j_nm (fun σ4 (eσ4 : σ4 = tw_up τ 71 6 z3) => ?_))
        have hIσ4 : tw_I σ4 := tw_I_up hIτ eσ4 (show (0 : Int) ≤ z3 ∧ z3 ≤ 40 from ⟨by omega, by omega⟩)
        have hFσ4 : tw_F (fun c j => (c = 71 ∧ (j = 1 ∨ j = 6)) ∨ c = 72 ∨ c = 74) σ σ4 := tw_F_up hFτ eσ4 (show (71 = 71 ∧ (6 = 1 ∨ 6 = 6)) ∨ 71 = 72 ∨ 71 = 74 from (Or.inl ⟨rfl, (Or.inr rfl)⟩))
        refine j_iconst (pc := 67) dX6_findPitches_67 ?_
        refine j_istore_n (pc := 68) (i := 2) (ls' := [(0, vR 71), (2, vI 0)]) [1, 0] dX6_findPitches_68 rfl (Nat.le_of_ble_eq_true rfl) rfl rfl ?_
        refine j_iconst (pc := 69) dX6_findPitches_69 ?_
        refine j_istore_n (pc := 70) (i := 3) (ls' := [(0, vR 71), (2, vI 0), (3, vI 0)]) [1, 2, 0] dX6_findPitches_70 rfl (Nat.le_of_ble_eq_true rfl) rfl rfl ?_
        refine j_ls (ls' := [(0, vR 71), (2, vI 0), (3, vI 0)]) [0, 1, 2] rfl ?_
        exact ih.2 0 (by (first | decide | exact ⟨by omega, by omega⟩)) 0 (by (first | decide | exact ⟨by omega, by omega⟩)) σ4 hIσ4 hFσ4 (show (40 - (0 : Int)).toNat < N_ from by omega)
      · refine j_aload_n (pc := 36) dX6_findPitches_36 rfl rfl ?_
        refine j_getR (pc := 37) (r := 72) fl_X6_15 dX6_findPitches_37 (a_71 hX) rfl ?_
        refine j_iload_n (pc := 40) dX6_findPitches_40 rfl rfl ?_
        refine j_aload_n (pc := 41) dX6_findPitches_41 rfl rfl ?_
        refine j_iload_n (pc := 42) dX6_findPitches_42 rfl rfl ?_
        refine j_callV (pc := 43) (As := [vI h]) (st := [vI h, vR 72]) (c_X6_pitchesFrom hX h ⟨by omega, by omega⟩ τ hIτ (by omega) i2) mv_X6_45 rfl rfl rfl (a_71 hX) dX6_findPitches_43 ⟨Nat.le_of_ble_eq_true rfl, Nat.le_of_ble_eq_true rfl⟩ ⟨Nat.le_refl _, Nat.le_refl _⟩ rfl (Nat.le_of_ble_eq_true rfl) rfl (fun z5 σ6 hz5 => ?_)
        obtain ⟨r8, rfl, hr8, rfl, q7_0⟩ := hz5
        replace q7_0 : r8 ≤ τ 2 0 - h := q7_0
        refine j_st (st' := [vI r8, vI h, vR 72]) rfl ?_
        refine j_iast (pc := 46) dX6_findPitches_46 (a_72 hX) (by omega) (by omega) (by decide) (j_nm (fun σ9 (eσ9 : σ9 = tw_up τ 72 (h.toNat) r8) => ?_))
        have hIσ9 : tw_I σ9 := tw_I_up hIτ eσ9 (show (-1 : Int) ≤ r8 ∧ r8 ≤ 40 from ⟨by omega, by omega⟩)
        have hFσ9 : tw_F (fun c j => (c = 71 ∧ (j = 1 ∨ j = 6)) ∨ c = 72 ∨ c = 74) σ σ9 := tw_F_up hFτ eσ9 (show (72 = 71 ∧ (h.toNat = 1 ∨ h.toNat = 6)) ∨ 72 = 72 ∨ 72 = 74 from (Or.inr (Or.inl rfl)))
        refine j_iinc (pc := 47) (i := 2) (n := -1) (ls' := [(0, vR 71), (2, vI (h + (-1)))]) [1, 0] dX6_findPitches_47 rfl (Nat.le_of_ble_eq_true rfl) rfl rfl ?_
        refine j_goto (pc := 50) (tgt := 32) dX6_findPitches_50 rfl ?_
        refine j_ls (ls' := [(0, vR 71), (2, vI (h + (-1)))]) [0, 1] rfl ?_
        have y10 : σ9 2 0 = τ 2 0 := (tw_ne1 eσ9 (by (first | decide | omega)))
        have f11 : (1 : Int) ≤ τ 2 0 ∧ τ 2 0 ≤ 40 := hIτ 2 0
        have y12 : σ9 2 0 = τ 2 0 := (tw_ne1 eσ9 (by (first | decide | omega)))
        have y13 : σ9 2 0 = τ 2 0 := (tw_ne1 eσ9 (by (first | decide | omega)))
        exact ih.1 (h + (-1)) ⟨by omega, by omega⟩ σ9 hIσ9 hFσ9 (show σ9 2 0 = σ 2 0 from by omega) (show (h + (-1)) < σ9 2 0 from by omega) (show ∀ j : Nat, (h + (-1)) < (j : Int) → (j : Int) ≤ σ9 2 0 → σ9 72 j ≤ σ9 2 0 - (j : Int) from (fun j hj1 hj2 => by by_cases hj : j = h.toNat; (rw [tw_eq2 eσ9 hj]; omega); (rw [tw_ne1 eσ9 (by (first | decide | omega))]; have x := i2 j (by omega) (by omega); omega))) (show (1000 + (h + (-1))).toNat < N_ from by omega)
    · intro a ha i hi τ hIτ hFτ hm
      refine j_iload_n (pc := 71) dX6_findPitches_71 rfl rfl ?_
      refine j_aload_n (pc := 72) dX6_findPitches_72 rfl rfl ?_
      refine j_getI (pc := 73) fl_X6_28 dX6_findPitches_73 (a_71 hX) rfl ?_
      have f14 : (0 : Int) ≤ τ 71 6 ∧ τ 71 6 ≤ 40 := hIτ 71 6
      refine j_icmpR_ge (pc := 76) (tgt := 98) ⟨by omega, by omega⟩ ⟨by omega, by omega⟩ dX6_findPitches_76 rfl (fun h15 => ?_) (fun h15 => ?_)
      · exact j_vret (pc := 98) ⟨rfl, rfl⟩ dX6_findPitches_98 rfl ⟨rfl, hIτ, hFτ, trivial⟩
      · refine j_aload_n (pc := 79) dX6_findPitches_79 rfl rfl ?_
        refine j_iload_n (pc := 80) dX6_findPitches_80 rfl rfl ?_
        refine j_callV (pc := 81) (As := [vI a]) (st := []) (c_X6_nextStance hX a ⟨by omega, by omega⟩ τ hIτ) mv_X6_55 rfl rfl rfl (a_71 hX) dX6_findPitches_81 ⟨Nat.le_of_ble_eq_true rfl, Nat.le_of_ble_eq_true rfl⟩ ⟨Nat.le_refl _, Nat.le_refl _⟩ rfl (Nat.le_of_ble_eq_true rfl) rfl (fun z16 σ17 hz16 => ?_)
        obtain ⟨r19, rfl, hr19, rfl, -⟩ := hz16
        refine j_st (st' := [vI r19]) rfl ?_
        refine j_istore_n (pc := 84) (i := 2) (ls' := [(0, vR 71), (2, vI r19), (3, vI i)]) [1, 0, 2] dX6_findPitches_84 rfl (Nat.le_of_ble_eq_true rfl) rfl rfl ?_
        refine j_aload_n (pc := 85) dX6_findPitches_85 rfl rfl ?_
        refine j_getR (pc := 86) (r := 74) fl_X6_22 dX6_findPitches_86 (a_71 hX) rfl ?_
        refine j_iload_n (pc := 89) dX6_findPitches_89 rfl rfl ?_
        refine j_iload_n (pc := 90) dX6_findPitches_90 rfl rfl ?_
        refine j_iast (pc := 91) dX6_findPitches_91 (a_74 hX) (by omega) (by omega) (by decide) (j_nm (fun σ20 (eσ20 : σ20 = tw_up τ 74 (i.toNat) r19) => ?_))
        have hIσ20 : tw_I σ20 := tw_I_up hIτ eσ20 (show (0 : Int) ≤ r19 ∧ r19 ≤ 40 from ⟨by omega, by omega⟩)
        have hFσ20 : tw_F (fun c j => (c = 71 ∧ (j = 1 ∨ j = 6)) ∨ c = 72 ∨ c = 74) σ σ20 := tw_F_up hFτ eσ20 (show (74 = 71 ∧ (i.toNat = 1 ∨ i.toNat = 6)) ∨ 74 = 72 ∨ 74 = 74 from (Or.inr (Or.inr rfl)))
        refine j_iinc (pc := 92) (i := 3) (n := 1) (ls' := [(0, vR 71), (2, vI r19), (3, vI (i + 1))]) [1, 2, 0] dX6_findPitches_92 rfl (Nat.le_of_ble_eq_true rfl) rfl rfl ?_
        refine j_goto (pc := 95) (tgt := 71) dX6_findPitches_95 rfl ?_
        refine j_ls (ls' := [(0, vR 71), (2, vI r19), (3, vI (i + 1))]) [0, 1, 2] rfl ?_
        exact ih.2 r19 ⟨by omega, by omega⟩ (i + 1) ⟨by omega, by omega⟩ σ20 hIσ20 hFσ20 (show (40 - (i + 1)).toNat < N_ from by omega)
set_option maxHeartbeats 4000000 in
set_option maxRecDepth 100000 in
theorem c_X6_findPitches {G : tw_G} (hX : tw_isX G) (σ : tw_M) (hI : tw_I σ) : tw_C G yX6_findPitches cX6_findPitches 4 none 3 [vR 71] σ (q_X6_findPitches σ) := by
  refine tw_met [(0, vR 71)] (by decide +kernel) rfl (Nat.le_of_ble_eq_true rfl) ?_
  refine j_aload_n (pc := 0) dX6_findPitches_0 rfl rfl ?_
  refine j_getI (pc := 1) fl_X6_9 dX6_findPitches_1 (a_71 hX) rfl ?_
  have f21 : (0 : Int) ≤ σ 71 1 ∧ σ 71 1 ≤ 1 := hI 71 1
  refine j_ifR_eq (pc := 4) (tgt := 8) ⟨by omega, by omega⟩ dX6_findPitches_4 rfl (fun h22 => ?_) (fun h22 => ?_)
  · refine j_aload_n (pc := 8) dX6_findPitches_8 rfl rfl ?_
    refine j_iconst (pc := 9) dX6_findPitches_9 ?_
    refine j_putZ (pc := 10) (by omega) fl_X6_9 fp_X6_1 dX6_findPitches_10 (a_71 hX) rfl (j_nm (fun σ23 (eσ23 : σ23 = tw_up σ 71 1 1) => ?_))
    have hIσ23 : tw_I σ23 := tw_I_up hI eσ23 (show (0 : Int) ≤ 1 ∧ 1 ≤ 1 from by decide)
    have hFσ23 : tw_F (fun c j => (c = 71 ∧ (j = 1 ∨ j = 6)) ∨ c = 72 ∨ c = 74) σ σ23 := tw_F_up (tw_F_rf) eσ23 (show (71 = 71 ∧ (1 = 1 ∨ 1 = 6)) ∨ 71 = 72 ∨ 71 = 74 from (Or.inl ⟨rfl, (Or.inl rfl)⟩))
    refine j_aload_n (pc := 13) dX6_findPitches_13 rfl rfl ?_
    refine j_getR (pc := 14) (r := 1) fl_X6_35 dX6_findPitches_14 (a_71 hX) rfl ?_
    refine j_callV (pc := 17) (As := []) (st := []) (c_X10_top 1 (s_Wall_1 hX) σ23 hIσ23) mv_X6_39 rfl rfl rfl (a_1 hX) dX6_findPitches_17 ⟨Nat.le_of_ble_eq_true rfl, Nat.le_of_ble_eq_true rfl⟩ ⟨Nat.le_refl _, Nat.le_refl _⟩ rfl (Nat.le_of_ble_eq_true rfl) rfl (fun z24 σ25 hz24 => ?_)
    obtain ⟨r27, rfl, hr27, rfl, q26_0⟩ := hz24
    replace q26_0 : r27 = σ23 2 0 := q26_0
    have y28 : σ23 2 0 = σ 2 0 := (tw_ne1 eσ23 (by (first | decide | omega)))
    have f29 : (1 : Int) ≤ σ 2 0 ∧ σ 2 0 ≤ 40 := hI 2 0
    refine j_st (st' := [vI r27]) rfl ?_
    refine j_istore_n (pc := 20) (i := 1) (ls' := [(0, vR 71), (1, vI r27)]) [1, 0] dX6_findPitches_20 rfl (Nat.le_of_ble_eq_true rfl) rfl rfl ?_
    refine j_aload_n (pc := 21) dX6_findPitches_21 rfl rfl ?_
    refine j_getR (pc := 22) (r := 72) fl_X6_15 dX6_findPitches_22 (a_71 hX) rfl ?_
    refine j_iload_n (pc := 25) dX6_findPitches_25 rfl rfl ?_
    refine j_iconst (pc := 26) dX6_findPitches_26 ?_
    refine j_iast (pc := 27) dX6_findPitches_27 (a_72 hX) (by omega) (by omega) (by decide) (j_nm (fun σ30 (eσ30 : σ30 = tw_up σ23 72 (r27.toNat) 0) => ?_))
    have hIσ30 : tw_I σ30 := tw_I_up hIσ23 eσ30 (show (-1 : Int) ≤ 0 ∧ 0 ≤ 40 from by decide)
    have hFσ30 : tw_F (fun c j => (c = 71 ∧ (j = 1 ∨ j = 6)) ∨ c = 72 ∨ c = 74) σ σ30 := tw_F_up hFσ23 eσ30 (show (72 = 71 ∧ (r27.toNat = 1 ∨ r27.toNat = 6)) ∨ 72 = 72 ∨ 72 = 74 from (Or.inr (Or.inl rfl)))
    refine j_iload_n (pc := 28) dX6_findPitches_28 rfl rfl ?_
    refine j_iconst (pc := 29) dX6_findPitches_29 ?_
    refine j_isub (pc := 30) dX6_findPitches_30 ?_
    refine j_istore_n (pc := 31) (i := 2) (ls' := [(0, vR 71), (2, vI (r27 - 1))]) [1, 0] dX6_findPitches_31 rfl (Nat.le_of_ble_eq_true rfl) rfl rfl ?_
    refine j_ls (ls' := [(0, vR 71), (2, vI (r27 - 1))]) [0, 1] rfl ?_
    have y31 : σ30 2 0 = σ 2 0 := ((tw_ne1 eσ30 (by (first | decide | omega)))).trans (tw_ne1 eσ23 (by (first | decide | omega)))
    have y32 : σ30 2 0 = σ 2 0 := ((tw_ne1 eσ30 (by (first | decide | omega)))).trans (tw_ne1 eσ23 (by (first | decide | omega)))
    have y33 : σ30 2 0 = σ 2 0 := ((tw_ne1 eσ30 (by (first | decide | omega)))).trans (tw_ne1 eσ23 (by (first | decide | omega)))
    exact (l_X6_findPitches hX σ hI (((1000 + (r27 - 1)).toNat) + 1)).1 (r27 - 1) ⟨by omega, by omega⟩ σ30 hIσ30 hFσ30 (show σ30 2 0 = σ 2 0 from by omega) (show (r27 - 1) < σ30 2 0 from by omega) (show ∀ j : Nat, (r27 - 1) < (j : Int) → (j : Int) ≤ σ30 2 0 → σ30 72 j ≤ σ30 2 0 - (j : Int) from (fun j hj1 hj2 => by rw [tw_eq2 eσ30 (by omega)]; omega)) (Nat.lt_succ_self _)
  · exact j_vret (pc := 7) ⟨rfl, rfl⟩ dX6_findPitches_7 rfl ⟨rfl, hI, (tw_F_rf), trivial⟩
abbrev q_X6_costOf (i : Int) (g : Int) (σ : tw_M) : Option tw_V → tw_M → Prop := fun z τ => ∃ r : Int, z = some (vI r) ∧ (-2147483648 ≤ r ∧ r ≤ 2147483647) ∧ σ = τ ∧ True
set_option maxHeartbeats 4000000 in
set_option maxRecDepth 100000 in
theorem l_X6_costOf {G : tw_G} (hX : tw_isX G) (i : Int) (hi : 0 ≤ i ∧ i ≤ 39) (g : Int) (hg : -2147483648 ≤ g ∧ g ≤ 2147483647) (σ : tw_M) (hI : tw_I σ) : ∀ N_ : Nat, (∀ (s : Int) (hs : -2147483648 ≤ s ∧ s ≤ 2147483647) (h : Int) (hh : 1 ≤ h ∧ h ≤ 41)  (hm : (41 - h).toNat < N_), tw_J G (tw_mt RX6 cX6_costOf 5 (some .int) 0) (tw_E G (q_X6_costOf i g σ)) 22 [(0, vR 71), (1, vI i), (2, vI g), (3, vI s), (4, vI h)] [] σ) := by
  intro N_
  induction N_ with
  | zero => exact fun s hs h hh hm => absurd hm (Nat.not_lt_zero _)
  | succ N_ ih =>
    intro s hs h hh hm
    refine j_iload (pc := 22) dX6_costOf_22 rfl ?_
    refine j_aload_n (pc := 24) dX6_costOf_24 rfl rfl ?_
    refine j_getR (pc := 25) (r := 74) fl_X6_22 dX6_costOf_25 (a_71 hX) rfl ?_
    refine j_iload_n (pc := 28) dX6_costOf_28 rfl rfl ?_
    refine j_iald (pc := 29) dX6_costOf_29 (a_74 hX) (by omega) (by omega) (by decide) ?_
    have f1 : (0 : Int) ≤ σ 74 (i.toNat) ∧ σ 74 (i.toNat) ≤ 40 := hI 74 (i.toNat)
    refine j_icmpR_gt (pc := 30) (tgt := 52) ⟨by omega, by omega⟩ ⟨by omega, by omega⟩ dX6_costOf_30 rfl (fun h2 => ?_) (fun h2 => ?_)
    · refine j_iload_n (pc := 52) dX6_costOf_52 rfl rfl ?_
      refine j_iconst (pc := 53) dX6_costOf_53 ?_
      refine j_icmpR_ge (pc := 54) (tgt := 61) ⟨by omega, by omega⟩ ⟨by omega, by omega⟩ dX6_costOf_54 rfl (fun h3 => ?_) (fun h3 => ?_)
      · refine j_iload_n (pc := 61) dX6_costOf_61 rfl rfl ?_
        refine j_iload_n (pc := 62) dX6_costOf_62 rfl rfl ?_
        refine j_iadd (pc := 63) dX6_costOf_63 ?_
        refine j_top (fun z4 ez4 hz4 => ?_)
        refine j_iconst (pc := 64) dX6_costOf_64 ?_
        refine j_isub (pc := 65) dX6_costOf_65 ?_
        refine j_top (fun z5 ez5 hz5 => ?_)
        refine j_iload_n (pc := 66) dX6_costOf_66 rfl rfl ?_
        refine j_idiv (pc := 67) dX6_costOf_67 (tw_nz ⟨by omega, by omega⟩ (by omega)) (fun z6 ez6 => ?_)
        have hz6 : (-2147483648 : Int) ≤ z6 ∧ z6 ≤ 2147483647 := by rw [ez6]; exact div_in _ _
        exact j_iret (pc := 68) ⟨rfl, rfl⟩ dX6_costOf_68 rfl ⟨_, rfl, ⟨by omega, by omega⟩, rfl, trivial⟩
      · refine j_iload_n (pc := 57) dX6_costOf_57 rfl rfl ?_
        refine j_goto (pc := 58) (tgt := 68) dX6_costOf_58 rfl ?_
        exact j_iret (pc := 68) ⟨rfl, rfl⟩ dX6_costOf_68 rfl ⟨_, rfl, ⟨by omega, by omega⟩, rfl, trivial⟩
    · refine j_iload_n (pc := 33) dX6_costOf_33 rfl rfl ?_
      refine j_aload_n (pc := 34) dX6_costOf_34 rfl rfl ?_
      refine j_getR (pc := 35) (r := 1) fl_X6_35 dX6_costOf_35 (a_71 hX) rfl ?_
      refine j_getR (pc := 38) (r := 4) fl_X6_68 dX6_costOf_38 (a_1 hX) rfl ?_
      refine j_iload (pc := 41) dX6_costOf_41 rfl ?_
      refine j_iald (pc := 43) dX6_costOf_43 (a_4 hX) (by omega) (by omega) (by decide) ?_
      have f7 : (0 : Int) ≤ σ 4 (h.toNat) ∧ σ 4 (h.toNat) ≤ 9 := hI 4 (h.toNat)
      refine j_iadd (pc := 44) dX6_costOf_44 ?_
      refine j_top (fun z8 ez8 hz8 => ?_)
      refine j_istore_n (pc := 45) (i := 3) (ls' := [(0, vR 71), (1, vI i), (2, vI g), (3, vI z8), (4, vI h)]) [1, 2, 3, 0, 4] dX6_costOf_45 rfl (Nat.le_of_ble_eq_true rfl) rfl rfl ?_
      refine j_iinc (pc := 46) (i := 4) (n := 1) (ls' := [(0, vR 71), (1, vI i), (2, vI g), (3, vI z8), (4, vI (h + 1))]) [1, 2, 3, 4, 0] dX6_costOf_46 rfl (Nat.le_of_ble_eq_true rfl) rfl rfl ?_
      refine j_goto (pc := 49) (tgt := 22) dX6_costOf_49 rfl ?_
      refine j_ls (ls' := [(0, vR 71), (1, vI i), (2, vI g), (3, vI z8), (4, vI (h + 1))]) [0, 1, 2, 3, 4] rfl ?_
      exact ih z8 ⟨by omega, by omega⟩ (h + 1) ⟨by omega, by omega⟩ (show (41 - (h + 1)).toNat < N_ from by omega)
set_option maxHeartbeats 4000000 in
set_option maxRecDepth 100000 in
theorem c_X6_costOf {G : tw_G} (hX : tw_isX G) (i : Int) (hi : 0 ≤ i ∧ i ≤ 39) (g : Int) (hg : -2147483648 ≤ g ∧ g ≤ 2147483647) (σ : tw_M) (hI : tw_I σ) : tw_C G yX6_costOf cX6_costOf 5 (some .int) 0 [vR 71, vI i, vI g] σ (q_X6_costOf i g σ) := by
  refine tw_met [(0, vR 71), (1, vI i), (2, vI g)] (by decide +kernel) rfl (Nat.le_of_ble_eq_true rfl) ?_
  refine j_iconst (pc := 0) dX6_costOf_0 ?_
  refine j_istore_n (pc := 1) (i := 3) (ls' := [(0, vR 71), (1, vI i), (2, vI g), (3, vI 0)]) [1, 2, 3, 0] dX6_costOf_1 rfl (Nat.le_of_ble_eq_true rfl) rfl rfl ?_
  refine j_iload_n (pc := 2) dX6_costOf_2 rfl rfl ?_
  refine j_ifR_ne (pc := 3) (tgt := 10) ⟨by omega, by omega⟩ dX6_costOf_3 rfl (fun h9 => ?_) (fun h9 => ?_)
  · refine j_aload_n (pc := 10) dX6_costOf_10 rfl rfl ?_
    refine j_getR (pc := 11) (r := 74) fl_X6_22 dX6_costOf_11 (a_71 hX) rfl ?_
    refine j_iload_n (pc := 14) dX6_costOf_14 rfl rfl ?_
    refine j_iconst (pc := 15) dX6_costOf_15 ?_
    refine j_isub (pc := 16) dX6_costOf_16 ?_
    refine j_iald (pc := 17) dX6_costOf_17 (a_74 hX) (by omega) (by omega) (by decide) ?_
    have f10 : (0 : Int) ≤ σ 74 ((i - 1).toNat) ∧ σ 74 ((i - 1).toNat) ≤ 40 := hI 74 ((i - 1).toNat)
    refine j_iconst (pc := 18) dX6_costOf_18 ?_
    refine j_iadd (pc := 19) dX6_costOf_19 ?_
    refine j_istore (pc := 20) (i := 4) (ls' := [(0, vR 71), (1, vI i), (2, vI g), (3, vI 0), (4, vI ((σ 74 ((i - 1).toNat)) + 1))]) [1, 2, 3, 4, 0] dX6_costOf_20 (Nat.le_of_ble_eq_true rfl) rfl rfl ?_
    refine j_ls (ls' := [(0, vR 71), (1, vI i), (2, vI g), (3, vI 0), (4, vI ((σ 74 ((i - 1).toNat)) + 1))]) [0, 1, 2, 3, 4] rfl ?_
    exact (l_X6_costOf hX i hi g hg σ hI (((41 - ((σ 74 ((i - 1).toNat)) + 1)).toNat) + 1)) 0 (by (first | decide | exact ⟨by omega, by omega⟩)) ((σ 74 ((i - 1).toNat)) + 1) ⟨by omega, by omega⟩ (Nat.lt_succ_self _)
  · refine j_iconst (pc := 6) dX6_costOf_6 ?_
    refine j_goto (pc := 7) (tgt := 20) dX6_costOf_7 rfl ?_
    refine j_istore (pc := 20) (i := 4) (ls' := [(0, vR 71), (1, vI i), (2, vI g), (3, vI 0), (4, vI 1)]) [1, 2, 3, 4, 0] dX6_costOf_20 (Nat.le_of_ble_eq_true rfl) rfl rfl ?_
    refine j_ls (ls' := [(0, vR 71), (1, vI i), (2, vI g), (3, vI 0), (4, vI 1)]) [0, 1, 2, 3, 4] rfl ?_
    exact (l_X6_costOf hX i hi g hg σ hI (((41 - (1 : Int)).toNat) + 1)) 0 (by (first | decide | exact ⟨by omega, by omega⟩)) 1 (by (first | decide | exact ⟨by omega, by omega⟩)) (Nat.lt_succ_self _)
abbrev q_X6_costOfTurns (a : Int) (b : Int) (f : Int) (σ : tw_M) : Option tw_V → tw_M → Prop := fun z τ => ∃ r : Int, z = some (vI r) ∧ (-2147483648 ≤ r ∧ r ≤ 2147483647) ∧ σ = τ ∧ True
set_option maxHeartbeats 4000000 in
set_option maxRecDepth 100000 in
theorem l_X6_costOfTurns {G : tw_G} (hX : tw_isX G) (a : Int) (ha : -2147483648 ≤ a ∧ a ≤ 2147483647) (b : Int) (hb : -2147483648 ≤ b ∧ b ≤ 2147483647) (f : Int) (hf : 0 ≤ f ∧ f ≤ 1) (σ : tw_M) (hI : tw_I σ) : ∀ N_ : Nat, (∀ (s : Int) (hs : -2147483648 ≤ s ∧ s ≤ 2147483647) (i : Int) (hi : 0 ≤ i ∧ i ≤ 40)  (hm : (40 - i).toNat < N_), tw_J G (tw_mt RX6 cX6_costOfTurns 6 (some .int) 1) (tw_E G (q_X6_costOfTurns a b f σ)) 6 [(0, vR 71), (1, vI a), (2, vI b), (3, vI f), (4, vI s), (5, vI i)] [] σ) := by
  intro N_
  induction N_ with
  | zero => exact fun s hs i hi hm => absurd hm (Nat.not_lt_zero _)
  | succ N_ ih =>
    intro s hs i hi hm
    refine j_iload (pc := 6) dX6_costOfTurns_6 rfl ?_
    refine j_aload_n (pc := 8) dX6_costOfTurns_8 rfl rfl ?_
    refine j_getI (pc := 9) fl_X6_28 dX6_costOfTurns_9 (a_71 hX) rfl ?_
    have f1 : (0 : Int) ≤ σ 71 6 ∧ σ 71 6 ≤ 40 := hI 71 6
    refine j_icmpR_ge (pc := 12) (tgt := 46) ⟨by omega, by omega⟩ ⟨by omega, by omega⟩ dX6_costOfTurns_12 rfl (fun h2 => ?_) (fun h2 => ?_)
    · refine j_iload (pc := 46) dX6_costOfTurns_46 rfl ?_
      exact j_iret (pc := 48) ⟨rfl, rfl⟩ dX6_costOfTurns_48 rfl ⟨_, rfl, ⟨by omega, by omega⟩, rfl, trivial⟩
    · refine j_iload (pc := 15) dX6_costOfTurns_15 rfl ?_
      refine j_aload_n (pc := 17) dX6_costOfTurns_17 rfl rfl ?_
      refine j_iload (pc := 18) dX6_costOfTurns_18 rfl ?_
      refine j_iload (pc := 20) dX6_costOfTurns_20 rfl ?_
      refine j_iload_n (pc := 22) dX6_costOfTurns_22 rfl rfl ?_
      refine j_iadd (pc := 23) dX6_costOfTurns_23 ?_
      refine j_iconst (pc := 24) dX6_costOfTurns_24 ?_
      refine j_irem (pc := 25) dX6_costOfTurns_25 (tw_nz ⟨by omega, by omega⟩ (by omega)) (fun z3 ez3 => ?_)
      have hz3 : (-2147483648 : Int) ≤ z3 ∧ z3 ≤ 2147483647 := by rw [ez3]; exact rem_in _ _
      refine j_ifR_ne (pc := 26) (tgt := 33) ⟨by omega, by omega⟩ dX6_costOfTurns_26 rfl (fun h4 => ?_) (fun h4 => ?_)
      · refine j_iload_n (pc := 33) dX6_costOfTurns_33 rfl rfl ?_
        refine j_callV (pc := 34) (As := [vI i, vI b]) (st := [vI s]) (c_X6_costOf hX i ⟨by omega, by omega⟩ b ⟨by omega, by omega⟩ σ hI) mv_X6_71 rfl rfl rfl (a_71 hX) dX6_costOfTurns_34 ⟨Nat.le_of_ble_eq_true rfl, Nat.le_of_ble_eq_true rfl⟩ ⟨Nat.le_refl _, Nat.le_refl _⟩ rfl (Nat.le_of_ble_eq_true rfl) rfl (fun z5 σ6 hz5 => ?_)
        obtain ⟨r8, rfl, hr8, rfl, -⟩ := hz5
        refine j_st (st' := [vI r8, vI s]) rfl ?_
        refine j_iadd (pc := 37) dX6_costOfTurns_37 ?_
        refine j_top (fun z9 ez9 hz9 => ?_)
        refine j_istore (pc := 38) (i := 4) (ls' := [(0, vR 71), (1, vI a), (2, vI b), (3, vI f), (4, vI z9), (5, vI i)]) [1, 2, 3, 4, 0, 5] dX6_costOfTurns_38 (Nat.le_of_ble_eq_true rfl) rfl rfl ?_
        refine j_iinc (pc := 40) (i := 5) (n := 1) (ls' := [(0, vR 71), (1, vI a), (2, vI b), (3, vI f), (4, vI z9), (5, vI (i + 1))]) [1, 2, 3, 4, 5, 0] dX6_costOfTurns_40 rfl (Nat.le_of_ble_eq_true rfl) rfl rfl ?_
        refine j_goto (pc := 43) (tgt := 6) dX6_costOfTurns_43 rfl ?_
        refine j_ls (ls' := [(0, vR 71), (1, vI a), (2, vI b), (3, vI f), (4, vI z9), (5, vI (i + 1))]) [0, 1, 2, 3, 4, 5] rfl ?_
        exact ih z9 ⟨by omega, by omega⟩ (i + 1) ⟨by omega, by omega⟩ (show (40 - (i + 1)).toNat < N_ from by omega)
      · refine j_iload_n (pc := 29) dX6_costOfTurns_29 rfl rfl ?_
        refine j_goto (pc := 30) (tgt := 34) dX6_costOfTurns_30 rfl ?_
        refine j_callV (pc := 34) (As := [vI i, vI a]) (st := [vI s]) (c_X6_costOf hX i ⟨by omega, by omega⟩ a ⟨by omega, by omega⟩ σ hI) mv_X6_71 rfl rfl rfl (a_71 hX) dX6_costOfTurns_34 ⟨Nat.le_of_ble_eq_true rfl, Nat.le_of_ble_eq_true rfl⟩ ⟨Nat.le_refl _, Nat.le_refl _⟩ rfl (Nat.le_of_ble_eq_true rfl) rfl (fun z10 σ11 hz10 => ?_)
        obtain ⟨r13, rfl, hr13, rfl, -⟩ := hz10
        refine j_st (st' := [vI r13, vI s]) rfl ?_
        refine j_iadd (pc := 37) dX6_costOfTurns_37 ?_
        refine j_top (fun z14 ez14 hz14 => ?_)
        refine j_istore (pc := 38) (i := 4) (ls' := [(0, vR 71), (1, vI a), (2, vI b), (3, vI f), (4, vI z14), (5, vI i)]) [1, 2, 3, 4, 0, 5] dX6_costOfTurns_38 (Nat.le_of_ble_eq_true rfl) rfl rfl ?_
        refine j_iinc (pc := 40) (i := 5) (n := 1) (ls' := [(0, vR 71), (1, vI a), (2, vI b), (3, vI f), (4, vI z14), (5, vI (i + 1))]) [1, 2, 3, 4, 5, 0] dX6_costOfTurns_40 rfl (Nat.le_of_ble_eq_true rfl) rfl rfl ?_
        refine j_goto (pc := 43) (tgt := 6) dX6_costOfTurns_43 rfl ?_
        refine j_ls (ls' := [(0, vR 71), (1, vI a), (2, vI b), (3, vI f), (4, vI z14), (5, vI (i + 1))]) [0, 1, 2, 3, 4, 5] rfl ?_
        exact ih z14 ⟨by omega, by omega⟩ (i + 1) ⟨by omega, by omega⟩ (show (40 - (i + 1)).toNat < N_ from by omega)
set_option maxHeartbeats 4000000 in
set_option maxRecDepth 100000 in
theorem c_X6_costOfTurns {G : tw_G} (hX : tw_isX G) (a : Int) (ha : -2147483648 ≤ a ∧ a ≤ 2147483647) (b : Int) (hb : -2147483648 ≤ b ∧ b ≤ 2147483647) (f : Int) (hf : 0 ≤ f ∧ f ≤ 1) (σ : tw_M) (hI : tw_I σ) : tw_C G yX6_costOfTurns cX6_costOfTurns 6 (some .int) 1 [vR 71, vI a, vI b, vI f] σ (q_X6_costOfTurns a b f σ) := by
  refine tw_met [(0, vR 71), (1, vI a), (2, vI b), (3, vI f)] (by decide +kernel) rfl (Nat.le_of_ble_eq_true rfl) ?_
  refine j_iconst (pc := 0) dX6_costOfTurns_0 ?_
  refine j_istore (pc := 1) (i := 4) (ls' := [(0, vR 71), (1, vI a), (2, vI b), (3, vI f), (4, vI 0)]) [1, 2, 3, 4, 0] dX6_costOfTurns_1 (Nat.le_of_ble_eq_true rfl) rfl rfl ?_
  refine j_iconst (pc := 3) dX6_costOfTurns_3 ?_
  refine j_istore (pc := 4) (i := 5) (ls' := [(0, vR 71), (1, vI a), (2, vI b), (3, vI f), (4, vI 0), (5, vI 0)]) [1, 2, 3, 4, 5, 0] dX6_costOfTurns_4 (Nat.le_of_ble_eq_true rfl) rfl rfl ?_
  refine j_ls (ls' := [(0, vR 71), (1, vI a), (2, vI b), (3, vI f), (4, vI 0), (5, vI 0)]) [0, 1, 2, 3, 4, 5] rfl ?_
  exact (l_X6_costOfTurns hX a ha b hb f hf σ hI (((40 - (0 : Int)).toNat) + 1)) 0 (by (first | decide | exact ⟨by omega, by omega⟩)) 0 (by (first | decide | exact ⟨by omega, by omega⟩)) (Nat.lt_succ_self _)
abbrev q_X6_takeTurns (a : Int) (b : Int) (σ : tw_M) : Option tw_V → tw_M → Prop := fun z τ => z = none ∧ tw_I τ ∧ tw_F (fun c j => (c = 71 ∧ (j = 7)) ∨ c = 75) σ τ ∧ True
set_option maxHeartbeats 4000000 in
set_option maxRecDepth 100000 in
theorem l_X6_takeTurns {G : tw_G} (hX : tw_isX G) (a : Int) (ha : -2147483648 ≤ a ∧ a ≤ 2147483647) (b : Int) (hb : -2147483648 ≤ b ∧ b ≤ 2147483647) (σ : tw_M) (hI : tw_I σ) : ∀ N_ : Nat, (∀ (f : Int) (hf : 0 ≤ f ∧ f ≤ 1) (i : Int) (hi : 0 ≤ i ∧ i ≤ 40) (τ : tw_M) (hIτ : tw_I τ) (hFτ : tw_F (fun c j => (c = 71 ∧ (j = 7)) ∨ c = 75) σ τ)  (hm : (40 - i).toNat < N_), tw_J G (tw_mt RX6 cX6_takeTurns 7 none 2) (tw_E G (q_X6_takeTurns a b σ)) 43 [(0, vR 71), (5, vI f), (6, vI i)] [] τ) := by
  intro N_
  induction N_ with
  | zero => exact fun f hf i hi τ hIτ hFτ hm => absurd hm (Nat.not_lt_zero _)
  | succ N_ ih =>
    intro f hf i hi τ hIτ hFτ hm
    refine j_iload (pc := 43) dX6_takeTurns_43 rfl ?_
    refine j_aload_n (pc := 45) dX6_takeTurns_45 rfl rfl ?_
    refine j_getI (pc := 46) fl_X6_28 dX6_takeTurns_46 (a_71 hX) rfl ?_
    have f1 : (0 : Int) ≤ τ 71 6 ∧ τ 71 6 ≤ 40 := hIτ 71 6
    refine j_icmpR_ge (pc := 49) (tgt := 72) ⟨by omega, by omega⟩ ⟨by omega, by omega⟩ dX6_takeTurns_49 rfl (fun h2 => ?_) (fun h2 => ?_)
    · exact j_vret (pc := 72) ⟨rfl, rfl⟩ dX6_takeTurns_72 rfl ⟨rfl, hIτ, hFτ, trivial⟩
    · refine j_aload_n (pc := 52) dX6_takeTurns_52 rfl rfl ?_
      refine j_getR (pc := 53) (r := 75) fl_X6_25 dX6_takeTurns_53 (a_71 hX) rfl ?_
      refine j_iload (pc := 56) dX6_takeTurns_56 rfl ?_
      refine j_iload (pc := 58) dX6_takeTurns_58 rfl ?_
      refine j_iload (pc := 60) dX6_takeTurns_60 rfl ?_
      refine j_iadd (pc := 62) dX6_takeTurns_62 ?_
      refine j_iconst (pc := 63) dX6_takeTurns_63 ?_
      refine j_irem (pc := 64) dX6_takeTurns_64 (tw_nz ⟨by omega, by omega⟩ (by omega)) (fun z3 ez3 => ?_)
      have hz3 : (-2147483648 : Int) ≤ z3 ∧ z3 ≤ 2147483647 := by rw [ez3]; exact rem_in _ _
      refine j_iast (pc := 65) dX6_takeTurns_65 (a_75 hX) (by omega) (by omega) (by decide) (j_nm (fun σ4 (eσ4 : σ4 = tw_up τ 75 (i.toNat) z3) => ?_))
      have hIσ4 : tw_I σ4 := tw_I_up hIτ eσ4 (show (-2147483648 : Int) ≤ z3 ∧ z3 ≤ 2147483647 from ⟨by omega, by omega⟩)
      have hFσ4 : tw_F (fun c j => (c = 71 ∧ (j = 7)) ∨ c = 75) σ σ4 := tw_F_up hFτ eσ4 (show (75 = 71 ∧ (i.toNat = 7)) ∨ 75 = 75 from (Or.inr rfl))
      refine j_iinc (pc := 66) (i := 6) (n := 1) (ls' := [(0, vR 71), (5, vI f), (6, vI (i + 1))]) [1, 2, 0] dX6_takeTurns_66 rfl (Nat.le_of_ble_eq_true rfl) rfl rfl ?_
      refine j_goto (pc := 69) (tgt := 43) dX6_takeTurns_69 rfl ?_
      refine j_ls (ls' := [(0, vR 71), (5, vI f), (6, vI (i + 1))]) [0, 1, 2] rfl ?_
      exact ih f ⟨by omega, by omega⟩ (i + 1) ⟨by omega, by omega⟩ σ4 hIσ4 hFσ4 (show (40 - (i + 1)).toNat < N_ from by omega)
set_option maxHeartbeats 4000000 in
set_option maxRecDepth 100000 in
theorem c_X6_takeTurns {G : tw_G} (hX : tw_isX G) (a : Int) (ha : -2147483648 ≤ a ∧ a ≤ 2147483647) (b : Int) (hb : -2147483648 ≤ b ∧ b ≤ 2147483647) (σ : tw_M) (hI : tw_I σ) : tw_C G yX6_takeTurns cX6_takeTurns 7 none 2 [vR 71, vI a, vI b] σ (q_X6_takeTurns a b σ) := by
  refine tw_met [(0, vR 71), (1, vI a), (2, vI b)] (by decide +kernel) rfl (Nat.le_of_ble_eq_true rfl) ?_
  refine j_aload_n (pc := 0) dX6_takeTurns_0 rfl rfl ?_
  refine j_iload_n (pc := 1) dX6_takeTurns_1 rfl rfl ?_
  refine j_iload_n (pc := 2) dX6_takeTurns_2 rfl rfl ?_
  refine j_iconst (pc := 3) dX6_takeTurns_3 ?_
  refine j_callV (pc := 4) (As := [vI a, vI b, vI 0]) (st := []) (c_X6_costOfTurns hX a ⟨by omega, by omega⟩ b ⟨by omega, by omega⟩ 0 (by (first | decide | exact ⟨by omega, by omega⟩)) σ hI) mv_X6_74 rfl rfl rfl (a_71 hX) dX6_takeTurns_4 ⟨Nat.le_of_ble_eq_true rfl, Nat.le_of_ble_eq_true rfl⟩ ⟨Nat.le_refl _, Nat.le_refl _⟩ rfl (Nat.le_of_ble_eq_true rfl) rfl (fun z5 σ6 hz5 => ?_)
  obtain ⟨r8, rfl, hr8, rfl, -⟩ := hz5
  refine j_st (st' := [vI r8]) rfl ?_
  refine j_istore_n (pc := 7) (i := 3) (ls' := [(0, vR 71), (1, vI a), (2, vI b), (3, vI r8)]) [1, 2, 3, 0] dX6_takeTurns_7 rfl (Nat.le_of_ble_eq_true rfl) rfl rfl ?_
  refine j_aload_n (pc := 8) dX6_takeTurns_8 rfl rfl ?_
  refine j_iload_n (pc := 9) dX6_takeTurns_9 rfl rfl ?_
  refine j_iload_n (pc := 10) dX6_takeTurns_10 rfl rfl ?_
  refine j_iconst (pc := 11) dX6_takeTurns_11 ?_
  refine j_callV (pc := 12) (As := [vI a, vI b, vI 1]) (st := []) (c_X6_costOfTurns hX a ⟨by omega, by omega⟩ b ⟨by omega, by omega⟩ 1 (by (first | decide | exact ⟨by omega, by omega⟩)) σ hI) mv_X6_74 rfl rfl rfl (a_71 hX) dX6_takeTurns_12 ⟨Nat.le_of_ble_eq_true rfl, Nat.le_of_ble_eq_true rfl⟩ ⟨Nat.le_refl _, Nat.le_refl _⟩ rfl (Nat.le_of_ble_eq_true rfl) rfl (fun z9 σ10 hz9 => ?_)
  obtain ⟨r12, rfl, hr12, rfl, -⟩ := hz9
  refine j_st (st' := [vI r12]) rfl ?_
  refine j_istore (pc := 15) (i := 4) (ls' := [(0, vR 71), (3, vI r8), (4, vI r12)]) [1, 4, 0] dX6_takeTurns_15 (Nat.le_of_ble_eq_true rfl) rfl rfl ?_
  refine j_iload_n (pc := 17) dX6_takeTurns_17 rfl rfl ?_
  refine j_iload (pc := 18) dX6_takeTurns_18 rfl ?_
  refine j_icmpR_gt (pc := 20) (tgt := 27) ⟨by omega, by omega⟩ ⟨by omega, by omega⟩ dX6_takeTurns_20 rfl (fun h13 => ?_) (fun h13 => ?_)
  · refine j_iconst (pc := 27) dX6_takeTurns_27 ?_
    refine j_istore (pc := 28) (i := 5) (ls' := [(0, vR 71), (3, vI r8), (4, vI r12), (5, vI 1)]) [1, 2, 3, 0] dX6_takeTurns_28 (Nat.le_of_ble_eq_true rfl) rfl rfl ?_
    refine j_aload_n (pc := 30) dX6_takeTurns_30 rfl rfl ?_
    refine j_iload_n (pc := 31) dX6_takeTurns_31 rfl rfl ?_
    refine j_iload (pc := 32) dX6_takeTurns_32 rfl ?_
    refine j_mmin (pc := 34) mm_X6_61 dX6_takeTurns_34 ⟨Nat.le_of_ble_eq_true rfl, Nat.le_of_ble_eq_true rfl⟩ ⟨Nat.le_refl _, Nat.le_refl _⟩ rfl (fun z14 ez14 => ?_)
    have hz14 := tw_min_eq (a := r8) (b := r12) ⟨by omega, by omega⟩ ⟨by omega, by omega⟩ ez14
    refine j_putI (pc := 37) fl_X6_32 fp_X6_7 dX6_takeTurns_37 (a_71 hX) rfl (j_nm (fun σ15 (eσ15 : σ15 = tw_up σ 71 7 z14) => ?_))
    have hIσ15 : tw_I σ15 := tw_I_up hI eσ15 (show (-2147483648 : Int) ≤ z14 ∧ z14 ≤ 2147483647 from ⟨by omega, by omega⟩)
    have hFσ15 : tw_F (fun c j => (c = 71 ∧ (j = 7)) ∨ c = 75) σ σ15 := tw_F_up (tw_F_rf) eσ15 (show (71 = 71 ∧ (7 = 7)) ∨ 71 = 75 from (Or.inl ⟨rfl, rfl⟩))
    refine j_iconst (pc := 40) dX6_takeTurns_40 ?_
    refine j_istore (pc := 41) (i := 6) (ls' := [(0, vR 71), (5, vI 1), (6, vI 0)]) [1, 4, 0] dX6_takeTurns_41 (Nat.le_of_ble_eq_true rfl) rfl rfl ?_
    refine j_ls (ls' := [(0, vR 71), (5, vI 1), (6, vI 0)]) [0, 1, 2] rfl ?_
    exact (l_X6_takeTurns hX a ha b hb σ hI (((40 - (0 : Int)).toNat) + 1)) 1 (by (first | decide | exact ⟨by omega, by omega⟩)) 0 (by (first | decide | exact ⟨by omega, by omega⟩)) σ15 hIσ15 hFσ15 (Nat.lt_succ_self _)
  · refine j_iconst (pc := 23) dX6_takeTurns_23 ?_
    refine j_goto (pc := 24) (tgt := 28) dX6_takeTurns_24 rfl ?_
    refine j_istore (pc := 28) (i := 5) (ls' := [(0, vR 71), (3, vI r8), (4, vI r12), (5, vI 0)]) [1, 2, 3, 0] dX6_takeTurns_28 (Nat.le_of_ble_eq_true rfl) rfl rfl ?_
    refine j_aload_n (pc := 30) dX6_takeTurns_30 rfl rfl ?_
    refine j_iload_n (pc := 31) dX6_takeTurns_31 rfl rfl ?_
    refine j_iload (pc := 32) dX6_takeTurns_32 rfl ?_
    refine j_mmin (pc := 34) mm_X6_61 dX6_takeTurns_34 ⟨Nat.le_of_ble_eq_true rfl, Nat.le_of_ble_eq_true rfl⟩ ⟨Nat.le_refl _, Nat.le_refl _⟩ rfl (fun z16 ez16 => ?_)
    have hz16 := tw_min_eq (a := r8) (b := r12) ⟨by omega, by omega⟩ ⟨by omega, by omega⟩ ez16
    refine j_putI (pc := 37) fl_X6_32 fp_X6_7 dX6_takeTurns_37 (a_71 hX) rfl (j_nm (fun σ17 (eσ17 : σ17 = tw_up σ 71 7 z16) => ?_))
    have hIσ17 : tw_I σ17 := tw_I_up hI eσ17 (show (-2147483648 : Int) ≤ z16 ∧ z16 ≤ 2147483647 from ⟨by omega, by omega⟩)
    have hFσ17 : tw_F (fun c j => (c = 71 ∧ (j = 7)) ∨ c = 75) σ σ17 := tw_F_up (tw_F_rf) eσ17 (show (71 = 71 ∧ (7 = 7)) ∨ 71 = 75 from (Or.inl ⟨rfl, rfl⟩))
    refine j_iconst (pc := 40) dX6_takeTurns_40 ?_
    refine j_istore (pc := 41) (i := 6) (ls' := [(0, vR 71), (5, vI 0), (6, vI 0)]) [1, 4, 0] dX6_takeTurns_41 (Nat.le_of_ble_eq_true rfl) rfl rfl ?_
    refine j_ls (ls' := [(0, vR 71), (5, vI 0), (6, vI 0)]) [0, 1, 2] rfl ?_
    exact (l_X6_takeTurns hX a ha b hb σ hI (((40 - (0 : Int)).toNat) + 1)) 0 (by (first | decide | exact ⟨by omega, by omega⟩)) 0 (by (first | decide | exact ⟨by omega, by omega⟩)) σ17 hIσ17 hFσ17 (Nat.lt_succ_self _)
abbrev q_X6_leadFreely (a : Int) (b : Int) (σ : tw_M) : Option tw_V → tw_M → Prop := fun z τ => z = none ∧ tw_I τ ∧ tw_F (fun c j => (c = 71 ∧ (j = 7)) ∨ c = 75) σ τ ∧ True
set_option maxHeartbeats 4000000 in
set_option maxRecDepth 100000 in
theorem l_X6_leadFreely {G : tw_G} (hX : tw_isX G) (a : Int) (ha : -2147483648 ≤ a ∧ a ≤ 2147483647) (b : Int) (hb : -2147483648 ≤ b ∧ b ≤ 2147483647) (σ : tw_M) (hI : tw_I σ) : ∀ N_ : Nat, (∀ (i : Int) (hi : 0 ≤ i ∧ i ≤ 40) (τ : tw_M) (hIτ : tw_I τ) (hFτ : tw_F (fun c j => (c = 71 ∧ (j = 7)) ∨ c = 75) σ τ)  (hm : (40 - i).toNat < N_), tw_J G (tw_mt RX6 cX6_leadFreely 6 none 1) (tw_E G (q_X6_leadFreely a b σ)) 7 [(0, vR 71), (1, vI a), (2, vI b), (3, vI i)] [] τ) := by
  intro N_
  induction N_ with
  | zero => exact fun i hi τ hIτ hFτ hm => absurd hm (Nat.not_lt_zero _)
  | succ N_ ih =>
    intro i hi τ hIτ hFτ hm
    refine j_iload_n (pc := 7) dX6_leadFreely_7 rfl rfl ?_
    refine j_aload_n (pc := 8) dX6_leadFreely_8 rfl rfl ?_
    refine j_getI (pc := 9) fl_X6_28 dX6_leadFreely_9 (a_71 hX) rfl ?_
    have f1 : (0 : Int) ≤ τ 71 6 ∧ τ 71 6 ≤ 40 := hIτ 71 6
    refine j_icmpR_ge (pc := 12) (tgt := 71) ⟨by omega, by omega⟩ ⟨by omega, by omega⟩ dX6_leadFreely_12 rfl (fun h2 => ?_) (fun h2 => ?_)
    · exact j_vret (pc := 71) ⟨rfl, rfl⟩ dX6_leadFreely_71 rfl ⟨rfl, hIτ, hFτ, trivial⟩
    · refine j_aload_n (pc := 15) dX6_leadFreely_15 rfl rfl ?_
      refine j_iload_n (pc := 16) dX6_leadFreely_16 rfl rfl ?_
      refine j_iload_n (pc := 17) dX6_leadFreely_17 rfl rfl ?_
      refine j_callV (pc := 18) (As := [vI i, vI a]) (st := []) (c_X6_costOf hX i ⟨by omega, by omega⟩ a ⟨by omega, by omega⟩ τ hIτ) mv_X6_71 rfl rfl rfl (a_71 hX) dX6_leadFreely_18 ⟨Nat.le_of_ble_eq_true rfl, Nat.le_of_ble_eq_true rfl⟩ ⟨Nat.le_refl _, Nat.le_refl _⟩ rfl (Nat.le_of_ble_eq_true rfl) rfl (fun z3 σ4 hz3 => ?_)
      obtain ⟨r6, rfl, hr6, rfl, -⟩ := hz3
      refine j_st (st' := [vI r6]) rfl ?_
      refine j_istore (pc := 21) (i := 4) (ls' := [(0, vR 71), (1, vI a), (2, vI b), (3, vI i), (4, vI r6)]) [1, 2, 3, 4, 0] dX6_leadFreely_21 (Nat.le_of_ble_eq_true rfl) rfl rfl ?_
      refine j_aload_n (pc := 23) dX6_leadFreely_23 rfl rfl ?_
      refine j_iload_n (pc := 24) dX6_leadFreely_24 rfl rfl ?_
      refine j_iload_n (pc := 25) dX6_leadFreely_25 rfl rfl ?_
      refine j_callV (pc := 26) (As := [vI i, vI b]) (st := []) (c_X6_costOf hX i ⟨by omega, by omega⟩ b ⟨by omega, by omega⟩ τ hIτ) mv_X6_71 rfl rfl rfl (a_71 hX) dX6_leadFreely_26 ⟨Nat.le_of_ble_eq_true rfl, Nat.le_of_ble_eq_true rfl⟩ ⟨Nat.le_refl _, Nat.le_refl _⟩ rfl (Nat.le_of_ble_eq_true rfl) rfl (fun z7 σ8 hz7 => ?_)
      obtain ⟨r10, rfl, hr10, rfl, -⟩ := hz7
      refine j_st (st' := [vI r10]) rfl ?_
      refine j_istore (pc := 29) (i := 5) (ls' := [(0, vR 71), (1, vI a), (2, vI b), (3, vI i), (4, vI r6), (5, vI r10)]) [1, 2, 3, 4, 5, 0] dX6_leadFreely_29 (Nat.le_of_ble_eq_true rfl) rfl rfl ?_
      refine j_aload_n (pc := 31) dX6_leadFreely_31 rfl rfl ?_
      refine j_getR (pc := 32) (r := 75) fl_X6_25 dX6_leadFreely_32 (a_71 hX) rfl ?_
      refine j_iload_n (pc := 35) dX6_leadFreely_35 rfl rfl ?_
      refine j_iload (pc := 36) dX6_leadFreely_36 rfl ?_
      refine j_iload (pc := 38) dX6_leadFreely_38 rfl ?_
      refine j_icmpR_gt (pc := 40) (tgt := 47) ⟨by omega, by omega⟩ ⟨by omega, by omega⟩ dX6_leadFreely_40 rfl (fun h11 => ?_) (fun h11 => ?_)
      · refine j_iconst (pc := 47) dX6_leadFreely_47 ?_
        refine j_iast (pc := 48) dX6_leadFreely_48 (a_75 hX) (by omega) (by omega) (by decide) (j_nm (fun σ12 (eσ12 : σ12 = tw_up τ 75 (i.toNat) 1) => ?_))
        have hIσ12 : tw_I σ12 := tw_I_up hIτ eσ12 (show (-2147483648 : Int) ≤ 1 ∧ 1 ≤ 2147483647 from by decide)
        have hFσ12 : tw_F (fun c j => (c = 71 ∧ (j = 7)) ∨ c = 75) σ σ12 := tw_F_up hFτ eσ12 (show (75 = 71 ∧ (i.toNat = 7)) ∨ 75 = 75 from (Or.inr rfl))
        refine j_aload_n (pc := 49) dX6_leadFreely_49 rfl rfl ?_
        refine j_dup (pc := 50) dX6_leadFreely_50 rfl ?_
        refine j_getI (pc := 51) fl_X6_32 dX6_leadFreely_51 (a_71 hX) rfl ?_
        refine j_topV (show σ12 71 7 = τ 71 7 from (tw_ne1 eσ12 (by (first | decide | omega)))) ?_
        have f13 : (-2147483648 : Int) ≤ τ 71 7 ∧ τ 71 7 ≤ 2147483647 := hIτ 71 7
        refine j_iload (pc := 54) dX6_leadFreely_54 rfl ?_
        refine j_iload (pc := 56) dX6_leadFreely_56 rfl ?_
        refine j_mmin (pc := 58) mm_X6_61 dX6_leadFreely_58 ⟨Nat.le_of_ble_eq_true rfl, Nat.le_of_ble_eq_true rfl⟩ ⟨Nat.le_refl _, Nat.le_refl _⟩ rfl (fun z14 ez14 => ?_)
        have hz14 := tw_min_eq (a := r6) (b := r10) ⟨by omega, by omega⟩ ⟨by omega, by omega⟩ ez14
        refine j_iadd (pc := 61) dX6_leadFreely_61 ?_
        refine j_top (fun z15 ez15 hz15 => ?_)
        refine j_putI (pc := 62) fl_X6_32 fp_X6_7 dX6_leadFreely_62 (a_71 hX) rfl (j_nm (fun σ16 (eσ16 : σ16 = tw_up σ12 71 7 z15) => ?_))
        have hIσ16 : tw_I σ16 := tw_I_up hIσ12 eσ16 (show (-2147483648 : Int) ≤ z15 ∧ z15 ≤ 2147483647 from ⟨by omega, by omega⟩)
        have hFσ16 : tw_F (fun c j => (c = 71 ∧ (j = 7)) ∨ c = 75) σ σ16 := tw_F_up hFσ12 eσ16 (show (71 = 71 ∧ (7 = 7)) ∨ 71 = 75 from (Or.inl ⟨rfl, rfl⟩))
        refine j_iinc (pc := 65) (i := 3) (n := 1) (ls' := [(0, vR 71), (1, vI a), (2, vI b), (3, vI (i + 1))]) [1, 2, 3, 0] dX6_leadFreely_65 rfl (Nat.le_of_ble_eq_true rfl) rfl rfl ?_
        refine j_goto (pc := 68) (tgt := 7) dX6_leadFreely_68 rfl ?_
        refine j_ls (ls' := [(0, vR 71), (1, vI a), (2, vI b), (3, vI (i + 1))]) [0, 1, 2, 3] rfl ?_
        exact ih (i + 1) ⟨by omega, by omega⟩ σ16 hIσ16 hFσ16 (show (40 - (i + 1)).toNat < N_ from by omega)
      · refine j_iconst (pc := 43) dX6_leadFreely_43 ?_
        refine j_goto (pc := 44) (tgt := 48) dX6_leadFreely_44 rfl ?_
        refine j_iast (pc := 48) dX6_leadFreely_48 (a_75 hX) (by omega) (by omega) (by decide) (j_nm (fun σ17 (eσ17 : σ17 = tw_up τ 75 (i.toNat) 0) => ?_))
        have hIσ17 : tw_I σ17 := tw_I_up hIτ eσ17 (show (-2147483648 : Int) ≤ 0 ∧ 0 ≤ 2147483647 from by decide)
        have hFσ17 : tw_F (fun c j => (c = 71 ∧ (j = 7)) ∨ c = 75) σ σ17 := tw_F_up hFτ eσ17 (show (75 = 71 ∧ (i.toNat = 7)) ∨ 75 = 75 from (Or.inr rfl))
        refine j_aload_n (pc := 49) dX6_leadFreely_49 rfl rfl ?_
        refine j_dup (pc := 50) dX6_leadFreely_50 rfl ?_
        refine j_getI (pc := 51) fl_X6_32 dX6_leadFreely_51 (a_71 hX) rfl ?_
        refine j_topV (show σ17 71 7 = τ 71 7 from (tw_ne1 eσ17 (by (first | decide | omega)))) ?_
        have f18 : (-2147483648 : Int) ≤ τ 71 7 ∧ τ 71 7 ≤ 2147483647 := hIτ 71 7
        refine j_iload (pc := 54) dX6_leadFreely_54 rfl ?_
        refine j_iload (pc := 56) dX6_leadFreely_56 rfl ?_
        refine j_mmin (pc := 58) mm_X6_61 dX6_leadFreely_58 ⟨Nat.le_of_ble_eq_true rfl, Nat.le_of_ble_eq_true rfl⟩ ⟨Nat.le_refl _, Nat.le_refl _⟩ rfl (fun z19 ez19 => ?_)
        have hz19 := tw_min_eq (a := r6) (b := r10) ⟨by omega, by omega⟩ ⟨by omega, by omega⟩ ez19
        refine j_iadd (pc := 61) dX6_leadFreely_61 ?_
        refine j_top (fun z20 ez20 hz20 => ?_)
        refine j_putI (pc := 62) fl_X6_32 fp_X6_7 dX6_leadFreely_62 (a_71 hX) rfl (j_nm (fun σ21 (eσ21 : σ21 = tw_up σ17 71 7 z20) => ?_))
        have hIσ21 : tw_I σ21 := tw_I_up hIσ17 eσ21 (show (-2147483648 : Int) ≤ z20 ∧ z20 ≤ 2147483647 from ⟨by omega, by omega⟩)
        have hFσ21 : tw_F (fun c j => (c = 71 ∧ (j = 7)) ∨ c = 75) σ σ21 := tw_F_up hFσ17 eσ21 (show (71 = 71 ∧ (7 = 7)) ∨ 71 = 75 from (Or.inl ⟨rfl, rfl⟩))
        refine j_iinc (pc := 65) (i := 3) (n := 1) (ls' := [(0, vR 71), (1, vI a), (2, vI b), (3, vI (i + 1))]) [1, 2, 3, 0] dX6_leadFreely_65 rfl (Nat.le_of_ble_eq_true rfl) rfl rfl ?_
        refine j_goto (pc := 68) (tgt := 7) dX6_leadFreely_68 rfl ?_
        refine j_ls (ls' := [(0, vR 71), (1, vI a), (2, vI b), (3, vI (i + 1))]) [0, 1, 2, 3] rfl ?_
        exact ih (i + 1) ⟨by omega, by omega⟩ σ21 hIσ21 hFσ21 (show (40 - (i + 1)).toNat < N_ from by omega)
set_option maxHeartbeats 4000000 in
set_option maxRecDepth 100000 in
theorem c_X6_leadFreely {G : tw_G} (hX : tw_isX G) (a : Int) (ha : -2147483648 ≤ a ∧ a ≤ 2147483647) (b : Int) (hb : -2147483648 ≤ b ∧ b ≤ 2147483647) (σ : tw_M) (hI : tw_I σ) : tw_C G yX6_leadFreely cX6_leadFreely 6 none 1 [vR 71, vI a, vI b] σ (q_X6_leadFreely a b σ) := by
  refine tw_met [(0, vR 71), (1, vI a), (2, vI b)] (by decide +kernel) rfl (Nat.le_of_ble_eq_true rfl) ?_
  refine j_aload_n (pc := 0) dX6_leadFreely_0 rfl rfl ?_
  refine j_iconst (pc := 1) dX6_leadFreely_1 ?_
  refine j_putI (pc := 2) fl_X6_32 fp_X6_7 dX6_leadFreely_2 (a_71 hX) rfl (j_nm (fun σ22 (eσ22 : σ22 = tw_up σ 71 7 0) => ?_))
  have hIσ22 : tw_I σ22 := tw_I_up hI eσ22 (show (-2147483648 : Int) ≤ 0 ∧ 0 ≤ 2147483647 from by decide)
  have hFσ22 : tw_F (fun c j => (c = 71 ∧ (j = 7)) ∨ c = 75) σ σ22 := tw_F_up (tw_F_rf) eσ22 (show (71 = 71 ∧ (7 = 7)) ∨ 71 = 75 from (Or.inl ⟨rfl, rfl⟩))
  refine j_iconst (pc := 5) dX6_leadFreely_5 ?_
  refine j_istore_n (pc := 6) (i := 3) (ls' := [(0, vR 71), (1, vI a), (2, vI b), (3, vI 0)]) [1, 2, 3, 0] dX6_leadFreely_6 rfl (Nat.le_of_ble_eq_true rfl) rfl rfl ?_
  refine j_ls (ls' := [(0, vR 71), (1, vI a), (2, vI b), (3, vI 0)]) [0, 1, 2, 3] rfl ?_
  exact (l_X6_leadFreely hX a ha b hb σ hI (((40 - (0 : Int)).toNat) + 1)) 0 (by (first | decide | exact ⟨by omega, by omega⟩)) σ22 hIσ22 hFσ22 (Nat.lt_succ_self _)
abbrev q_X6_leastLeft (f : Int) (σ : tw_M) : Option tw_V → tw_M → Prop := fun z τ => ∃ r : Int, z = some (vI r) ∧ (-2147483648 ≤ r ∧ r ≤ 2147483647) ∧ σ = τ ∧ True
set_option maxHeartbeats 4000000 in
set_option maxRecDepth 100000 in
theorem l_X6_leastLeft {G : tw_G} (hX : tw_isX G) (f : Int) (hf : 1 ≤ f ∧ f ≤ 40) (σ : tw_M) (hI : tw_I σ) : ∀ N_ : Nat, (∀ (l : Int) (hl : -2147483648 ≤ l ∧ l ≤ 2147483647) (b : Int) (hb : 1 ≤ b ∧ b ≤ 2) (g : Int) (hg : 0 ≤ g ∧ g ≤ 40) (i0 : g ≤ f) (hm : (40 - g).toNat < N_), tw_J G (tw_mt RX6 cX6_leastLeft 5 (some .int) 2) (tw_E G (q_X6_leastLeft f σ)) 38 [(0, vR 71), (1, vI f), (2, vI l), (3, vI b), (4, vI g)] [] σ) := by
  intro N_
  induction N_ with
  | zero => exact fun l hl b hb g hg i0 hm => absurd hm (Nat.not_lt_zero _)
  | succ N_ ih =>
    intro l hl b hb g hg i0 hm
    refine j_iload (pc := 38) dX6_leastLeft_38 rfl ?_
    refine j_iload_n (pc := 40) dX6_leastLeft_40 rfl rfl ?_
    refine j_icmpR_ge (pc := 41) (tgt := 90) ⟨by omega, by omega⟩ ⟨by omega, by omega⟩ dX6_leastLeft_41 rfl (fun h1 => ?_) (fun h1 => ?_)
    · refine j_iload_n (pc := 90) dX6_leastLeft_90 rfl rfl ?_
      exact j_iret (pc := 91) ⟨rfl, rfl⟩ dX6_leastLeft_91 rfl ⟨_, rfl, ⟨by omega, by omega⟩, rfl, trivial⟩
    · refine j_aload_n (pc := 44) dX6_leastLeft_44 rfl rfl ?_
      refine j_getR (pc := 45) (r := 73) fl_X6_19 dX6_leastLeft_45 (a_71 hX) rfl ?_
      refine j_iload (pc := 48) dX6_leastLeft_48 rfl ?_
      refine j_iald (pc := 50) dX6_leastLeft_50 (a_73 hX) (by omega) (by omega) (by decide) ?_
      have f2 : (-2147483648 : Int) ≤ σ 73 (g.toNat) ∧ σ 73 (g.toNat) ≤ 2147483647 := hI 73 (g.toNat)
      refine j_ifR_ge (pc := 51) (tgt := 57) ⟨by omega, by omega⟩ dX6_leastLeft_51 rfl (fun h3 => ?_) (fun h3 => ?_)
      · refine j_iload_n (pc := 57) dX6_leastLeft_57 rfl rfl ?_
        refine j_ifR_lt (pc := 58) (tgt := 74) ⟨by omega, by omega⟩ dX6_leastLeft_58 rfl (fun h4 => ?_) (fun h4 => ?_)
        · refine j_aload_n (pc := 74) dX6_leastLeft_74 rfl rfl ?_
          refine j_getR (pc := 75) (r := 73) fl_X6_19 dX6_leastLeft_75 (a_71 hX) rfl ?_
          refine j_iload (pc := 78) dX6_leastLeft_78 rfl ?_
          refine j_iald (pc := 80) dX6_leastLeft_80 (a_73 hX) (by omega) (by omega) (by decide) ?_
          refine j_iload_n (pc := 81) dX6_leastLeft_81 rfl rfl ?_
          refine j_iadd (pc := 82) dX6_leastLeft_82 ?_
          refine j_top (fun z5 ez5 hz5 => ?_)
          refine j_istore_n (pc := 83) (i := 2) (ls' := [(0, vR 71), (1, vI f), (2, vI z5), (3, vI b), (4, vI g)]) [1, 2, 0, 3, 4] dX6_leastLeft_83 rfl (Nat.le_of_ble_eq_true rfl) rfl rfl ?_
          refine j_iinc (pc := 84) (i := 4) (n := 1) (ls' := [(0, vR 71), (1, vI f), (2, vI z5), (3, vI b), (4, vI (g + 1))]) [1, 2, 3, 4, 0] dX6_leastLeft_84 rfl (Nat.le_of_ble_eq_true rfl) rfl rfl ?_
          refine j_goto (pc := 87) (tgt := 38) dX6_leastLeft_87 rfl ?_
          refine j_ls (ls' := [(0, vR 71), (1, vI f), (2, vI z5), (3, vI b), (4, vI (g + 1))]) [0, 1, 2, 3, 4] rfl ?_
          exact ih z5 ⟨by omega, by omega⟩ b ⟨by omega, by omega⟩ (g + 1) ⟨by omega, by omega⟩ (show (g + 1) ≤ f from by omega) (show (40 - (g + 1)).toNat < N_ from by omega)
        · refine j_aload_n (pc := 61) dX6_leastLeft_61 rfl rfl ?_
          refine j_getR (pc := 62) (r := 73) fl_X6_19 dX6_leastLeft_62 (a_71 hX) rfl ?_
          refine j_iload (pc := 65) dX6_leastLeft_65 rfl ?_
          refine j_iald (pc := 67) dX6_leastLeft_67 (a_73 hX) (by omega) (by omega) (by decide) ?_
          refine j_iload_n (pc := 68) dX6_leastLeft_68 rfl rfl ?_
          refine j_iadd (pc := 69) dX6_leastLeft_69 ?_
          refine j_top (fun z6 ez6 hz6 => ?_)
          refine j_iload_n (pc := 70) dX6_leastLeft_70 rfl rfl ?_
          refine j_icmpR_ge (pc := 71) (tgt := 84) ⟨by omega, by omega⟩ ⟨by omega, by omega⟩ dX6_leastLeft_71 rfl (fun h7 => ?_) (fun h7 => ?_)
          · refine j_iinc (pc := 84) (i := 4) (n := 1) (ls' := [(0, vR 71), (1, vI f), (2, vI l), (3, vI b), (4, vI (g + 1))]) [1, 2, 3, 4, 0] dX6_leastLeft_84 rfl (Nat.le_of_ble_eq_true rfl) rfl rfl ?_
            refine j_goto (pc := 87) (tgt := 38) dX6_leastLeft_87 rfl ?_
            refine j_ls (ls' := [(0, vR 71), (1, vI f), (2, vI l), (3, vI b), (4, vI (g + 1))]) [0, 1, 2, 3, 4] rfl ?_
            exact ih l ⟨by omega, by omega⟩ b ⟨by omega, by omega⟩ (g + 1) ⟨by omega, by omega⟩ (show (g + 1) ≤ f from by omega) (show (40 - (g + 1)).toNat < N_ from by omega)
          · refine j_aload_n (pc := 74) dX6_leastLeft_74 rfl rfl ?_
            refine j_getR (pc := 75) (r := 73) fl_X6_19 dX6_leastLeft_75 (a_71 hX) rfl ?_
            refine j_iload (pc := 78) dX6_leastLeft_78 rfl ?_
            refine j_iald (pc := 80) dX6_leastLeft_80 (a_73 hX) (by omega) (by omega) (by decide) ?_
            refine j_iload_n (pc := 81) dX6_leastLeft_81 rfl rfl ?_
            refine j_iadd (pc := 82) dX6_leastLeft_82 ?_
            refine j_top (fun z8 ez8 hz8 => ?_)
            refine j_istore_n (pc := 83) (i := 2) (ls' := [(0, vR 71), (1, vI f), (2, vI z8), (3, vI b), (4, vI g)]) [1, 2, 0, 3, 4] dX6_leastLeft_83 rfl (Nat.le_of_ble_eq_true rfl) rfl rfl ?_
            refine j_iinc (pc := 84) (i := 4) (n := 1) (ls' := [(0, vR 71), (1, vI f), (2, vI z8), (3, vI b), (4, vI (g + 1))]) [1, 2, 3, 4, 0] dX6_leastLeft_84 rfl (Nat.le_of_ble_eq_true rfl) rfl rfl ?_
            refine j_goto (pc := 87) (tgt := 38) dX6_leastLeft_87 rfl ?_
            refine j_ls (ls' := [(0, vR 71), (1, vI f), (2, vI z8), (3, vI b), (4, vI (g + 1))]) [0, 1, 2, 3, 4] rfl ?_
            exact ih z8 ⟨by omega, by omega⟩ b ⟨by omega, by omega⟩ (g + 1) ⟨by omega, by omega⟩ (show (g + 1) ≤ f from by omega) (show (40 - (g + 1)).toNat < N_ from by omega)
      · refine j_goto (pc := 54) (tgt := 84) dX6_leastLeft_54 rfl ?_
        refine j_iinc (pc := 84) (i := 4) (n := 1) (ls' := [(0, vR 71), (1, vI f), (2, vI l), (3, vI b), (4, vI (g + 1))]) [1, 2, 3, 4, 0] dX6_leastLeft_84 rfl (Nat.le_of_ble_eq_true rfl) rfl rfl ?_
        refine j_goto (pc := 87) (tgt := 38) dX6_leastLeft_87 rfl ?_
        refine j_ls (ls' := [(0, vR 71), (1, vI f), (2, vI l), (3, vI b), (4, vI (g + 1))]) [0, 1, 2, 3, 4] rfl ?_
        exact ih l ⟨by omega, by omega⟩ b ⟨by omega, by omega⟩ (g + 1) ⟨by omega, by omega⟩ (show (g + 1) ≤ f from by omega) (show (40 - (g + 1)).toNat < N_ from by omega)
set_option maxHeartbeats 4000000 in
set_option maxRecDepth 100000 in
theorem c_X6_leastLeft {G : tw_G} (hX : tw_isX G) (f : Int) (hf : 1 ≤ f ∧ f ≤ 40) (σ : tw_M) (hI : tw_I σ) : tw_C G yX6_leastLeft cX6_leastLeft 5 (some .int) 2 [vR 71, vI f] σ (q_X6_leastLeft f σ) := by
  refine tw_met [(0, vR 71), (1, vI f)] (by decide +kernel) rfl (Nat.le_of_ble_eq_true rfl) ?_
  refine j_iconst (pc := 0) dX6_leastLeft_0 ?_
  refine j_istore_n (pc := 1) (i := 2) (ls' := [(0, vR 71), (1, vI f), (2, vI (-1))]) [1, 2, 0] dX6_leastLeft_1 rfl (Nat.le_of_ble_eq_true rfl) rfl rfl ?_
  refine j_aload_n (pc := 2) dX6_leastLeft_2 rfl rfl ?_
  refine j_getR (pc := 3) (r := 1) fl_X6_35 dX6_leastLeft_3 (a_71 hX) rfl ?_
  refine j_iload_n (pc := 6) dX6_leastLeft_6 rfl rfl ?_
  refine j_callV (pc := 7) (As := [vI f]) (st := []) (c_X10_isStance 1 (s_Wall_1 hX) f ⟨by omega, by omega⟩ σ hI) mv_X6_64 rfl rfl rfl (a_1 hX) dX6_leastLeft_7 ⟨Nat.le_of_ble_eq_true rfl, Nat.le_of_ble_eq_true rfl⟩ ⟨Nat.le_refl _, Nat.le_refl _⟩ rfl (Nat.le_of_ble_eq_true rfl) rfl (fun z9 σ10 hz9 => ?_)
  obtain ⟨r12, rfl, hr12, rfl, q11_0⟩ := hz9
  replace q11_0 : r12 = 0 ∨ (r12 = 1 ∧ 1 ≤ f ∧ f ≤ σ 2 0 ∧ f ≤ 40) := q11_0
  refine j_st (st' := [vI r12]) rfl ?_
  refine j_ifR_eq (pc := 10) (tgt := 17) ⟨by omega, by omega⟩ dX6_leastLeft_10 rfl (fun h13 => ?_) (fun h13 => ?_)
  · refine j_iconst (pc := 17) dX6_leastLeft_17 ?_
    refine j_istore_n (pc := 18) (i := 3) (ls' := [(0, vR 71), (1, vI f), (2, vI (-1)), (3, vI 2)]) [1, 2, 3, 0] dX6_leastLeft_18 rfl (Nat.le_of_ble_eq_true rfl) rfl rfl ?_
    refine j_iconst (pc := 19) dX6_leastLeft_19 ?_
    refine j_iload_n (pc := 20) dX6_leastLeft_20 rfl rfl ?_
    refine j_aload_n (pc := 21) dX6_leastLeft_21 rfl rfl ?_
    refine j_getR (pc := 22) (r := 1) fl_X6_35 dX6_leastLeft_22 (a_71 hX) rfl ?_
    refine j_getR (pc := 25) (r := 2) fl_X6_58 dX6_leastLeft_25 (a_1 hX) rfl ?_
    refine j_iconst (pc := 28) dX6_leastLeft_28 ?_
    refine j_iald (pc := 29) dX6_leastLeft_29 (a_2 hX) (by omega) (by omega) (by decide) ?_
    refine j_topV (show σ 2 (Int.toNat 3) = σ 2 3 from rfl) ?_
    have f14 : (1 : Int) ≤ σ 2 3 ∧ σ 2 3 ≤ 60 := hI 2 3
    refine j_iconst (pc := 30) dX6_leastLeft_30 ?_
    refine j_idiv (pc := 31) dX6_leastLeft_31 (tw_nz ⟨by omega, by omega⟩ (by omega)) (fun z15 ez15 => ?_)
    have hz15 : (-2147483648 : Int) ≤ z15 ∧ z15 ≤ 2147483647 := by rw [ez15]; exact div_in _ _
    have gz15 : z15 = (σ 2 3) / 2 := by rw [ez15]; exact div_pos_eq (by omega) (by omega) (by omega) (by omega)
    refine j_isub (pc := 32) dX6_leastLeft_32 ?_
    refine j_mmax (pc := 33) mm_X6_49 dX6_leastLeft_33 ⟨Nat.le_of_ble_eq_true rfl, Nat.le_of_ble_eq_true rfl⟩ ⟨Nat.le_refl _, Nat.le_refl _⟩ rfl (fun z16 ez16 => ?_)
    have hz16 := tw_max_eq (a := 0) (b := f - z15) ⟨by omega, by omega⟩ ⟨by omega, by omega⟩ ez16
    refine j_istore (pc := 36) (i := 4) (ls' := [(0, vR 71), (1, vI f), (2, vI (-1)), (3, vI 2), (4, vI z16)]) [1, 2, 3, 4, 0] dX6_leastLeft_36 (Nat.le_of_ble_eq_true rfl) rfl rfl ?_
    refine j_ls (ls' := [(0, vR 71), (1, vI f), (2, vI (-1)), (3, vI 2), (4, vI z16)]) [0, 1, 2, 3, 4] rfl ?_
    exact (l_X6_leastLeft hX f hf σ hI (((40 - z16).toNat) + 1)) (-1) (by (first | decide | exact ⟨by omega, by omega⟩)) 2 (by (first | decide | exact ⟨by omega, by omega⟩)) z16 ⟨by omega, by omega⟩ (show z16 ≤ f from by omega) (Nat.lt_succ_self _)
  · refine j_iconst (pc := 13) dX6_leastLeft_13 ?_
    refine j_goto (pc := 14) (tgt := 18) dX6_leastLeft_14 rfl ?_
    refine j_istore_n (pc := 18) (i := 3) (ls' := [(0, vR 71), (1, vI f), (2, vI (-1)), (3, vI 1)]) [1, 2, 3, 0] dX6_leastLeft_18 rfl (Nat.le_of_ble_eq_true rfl) rfl rfl ?_
    refine j_iconst (pc := 19) dX6_leastLeft_19 ?_
    refine j_iload_n (pc := 20) dX6_leastLeft_20 rfl rfl ?_
    refine j_aload_n (pc := 21) dX6_leastLeft_21 rfl rfl ?_
    refine j_getR (pc := 22) (r := 1) fl_X6_35 dX6_leastLeft_22 (a_71 hX) rfl ?_
    refine j_getR (pc := 25) (r := 2) fl_X6_58 dX6_leastLeft_25 (a_1 hX) rfl ?_
    refine j_iconst (pc := 28) dX6_leastLeft_28 ?_
    refine j_iald (pc := 29) dX6_leastLeft_29 (a_2 hX) (by omega) (by omega) (by decide) ?_
    refine j_topV (show σ 2 (Int.toNat 3) = σ 2 3 from rfl) ?_
    have f17 : (1 : Int) ≤ σ 2 3 ∧ σ 2 3 ≤ 60 := hI 2 3
    refine j_iconst (pc := 30) dX6_leastLeft_30 ?_
    refine j_idiv (pc := 31) dX6_leastLeft_31 (tw_nz ⟨by omega, by omega⟩ (by omega)) (fun z18 ez18 => ?_)
    have hz18 : (-2147483648 : Int) ≤ z18 ∧ z18 ≤ 2147483647 := by rw [ez18]; exact div_in _ _
    have gz18 : z18 = (σ 2 3) / 2 := by rw [ez18]; exact div_pos_eq (by omega) (by omega) (by omega) (by omega)
    refine j_isub (pc := 32) dX6_leastLeft_32 ?_
    refine j_mmax (pc := 33) mm_X6_49 dX6_leastLeft_33 ⟨Nat.le_of_ble_eq_true rfl, Nat.le_of_ble_eq_true rfl⟩ ⟨Nat.le_refl _, Nat.le_refl _⟩ rfl (fun z19 ez19 => ?_)
    have hz19 := tw_max_eq (a := 0) (b := f - z18) ⟨by omega, by omega⟩ ⟨by omega, by omega⟩ ez19
    refine j_istore (pc := 36) (i := 4) (ls' := [(0, vR 71), (1, vI f), (2, vI (-1)), (3, vI 1), (4, vI z19)]) [1, 2, 3, 4, 0] dX6_leastLeft_36 (Nat.le_of_ble_eq_true rfl) rfl rfl ?_
    refine j_ls (ls' := [(0, vR 71), (1, vI f), (2, vI (-1)), (3, vI 1), (4, vI z19)]) [0, 1, 2, 3, 4] rfl ?_
    exact (l_X6_leastLeft hX f hf σ hI (((40 - z19).toNat) + 1)) (-1) (by (first | decide | exact ⟨by omega, by omega⟩)) 1 (by (first | decide | exact ⟨by omega, by omega⟩)) z19 ⟨by omega, by omega⟩ (show z19 ≤ f from by omega) (Nat.lt_succ_self _)
abbrev q_X6_leftFrom (h : Int) (σ : tw_M) : Option tw_V → tw_M → Prop := fun z τ => ∃ r : Int, z = some (vI r) ∧ (-2147483648 ≤ r ∧ r ≤ 2147483647) ∧ tw_I τ ∧ tw_F (fun c j => c = 73) σ τ ∧ True
set_option maxHeartbeats 4000000 in
set_option maxRecDepth 100000 in
theorem l_X6_leftFrom {G : tw_G} (hX : tw_isX G) (h : Int) (hh : 0 ≤ h ∧ h ≤ 40) (σ : tw_M) (hI : tw_I σ) : ∀ N_ : Nat, (∀ (f : Int) (hf : 1 ≤ f ∧ f ≤ 41) (τ : tw_M) (hIτ : tw_I τ) (hFτ : tw_F (fun c j => c = 73) σ τ)  (hm : (41 - f).toNat < N_), tw_J G (tw_mt RX6 cX6_leftFrom 3 (some .int) 3) (tw_E G (q_X6_leftFrom h σ)) 9 [(0, vR 71), (1, vI h), (2, vI f)] [] τ) := by
  intro N_
  induction N_ with
  | zero => exact fun f hf τ hIτ hFτ hm => absurd hm (Nat.not_lt_zero _)
  | succ N_ ih =>
    intro f hf τ hIτ hFτ hm
    refine j_iload_n (pc := 9) dX6_leftFrom_9 rfl rfl ?_
    refine j_iload_n (pc := 10) dX6_leftFrom_10 rfl rfl ?_
    refine j_icmpR_gt (pc := 11) (tgt := 51) ⟨by omega, by omega⟩ ⟨by omega, by omega⟩ dX6_leftFrom_11 rfl (fun h1 => ?_) (fun h1 => ?_)
    · refine j_aload_n (pc := 51) dX6_leftFrom_51 rfl rfl ?_
      refine j_getR (pc := 52) (r := 73) fl_X6_19 dX6_leftFrom_52 (a_71 hX) rfl ?_
      refine j_iload_n (pc := 55) dX6_leftFrom_55 rfl rfl ?_
      refine j_iald (pc := 56) dX6_leftFrom_56 (a_73 hX) (by omega) (by omega) (by decide) ?_
      have f2 : (-2147483648 : Int) ≤ τ 73 (h.toNat) ∧ τ 73 (h.toNat) ≤ 2147483647 := hIτ 73 (h.toNat)
      exact j_iret (pc := 57) ⟨rfl, rfl⟩ dX6_leftFrom_57 rfl ⟨_, rfl, ⟨by omega, by omega⟩, hIτ, hFτ, trivial⟩
    · refine j_aload_n (pc := 14) dX6_leftFrom_14 rfl rfl ?_
      refine j_getR (pc := 15) (r := 73) fl_X6_19 dX6_leftFrom_15 (a_71 hX) rfl ?_
      refine j_iload_n (pc := 18) dX6_leftFrom_18 rfl rfl ?_
      refine j_iload_n (pc := 19) dX6_leftFrom_19 rfl rfl ?_
      refine j_iload_n (pc := 20) dX6_leftFrom_20 rfl rfl ?_
      refine j_icmpR_eq (pc := 21) (tgt := 35) ⟨by omega, by omega⟩ ⟨by omega, by omega⟩ dX6_leftFrom_21 rfl (fun h3 => ?_) (fun h3 => ?_)
      · refine j_aload_n (pc := 35) dX6_leftFrom_35 rfl rfl ?_
        refine j_iload_n (pc := 36) dX6_leftFrom_36 rfl rfl ?_
        refine j_callV (pc := 37) (As := [vI f]) (st := [vI f, vR 73]) (c_X6_leastLeft hX f ⟨by omega, by omega⟩ τ hIτ) mv_X6_78 rfl rfl rfl (a_71 hX) dX6_leftFrom_37 ⟨Nat.le_of_ble_eq_true rfl, Nat.le_of_ble_eq_true rfl⟩ ⟨Nat.le_refl _, Nat.le_refl _⟩ rfl (Nat.le_of_ble_eq_true rfl) rfl (fun z4 σ5 hz4 => ?_)
        obtain ⟨r7, rfl, hr7, rfl, -⟩ := hz4
        refine j_st (st' := [vI r7, vI f, vR 73]) rfl ?_
        refine j_goto (pc := 40) (tgt := 44) dX6_leftFrom_40 rfl ?_
        refine j_iast (pc := 44) dX6_leftFrom_44 (a_73 hX) (by omega) (by omega) (by decide) (j_nm (fun σ8 (eσ8 : σ8 = tw_up τ 73 (f.toNat) r7) => ?_))
        have hIσ8 : tw_I σ8 := tw_I_up hIτ eσ8 (show (-2147483648 : Int) ≤ r7 ∧ r7 ≤ 2147483647 from ⟨by omega, by omega⟩)
        have hFσ8 : tw_F (fun c j => c = 73) σ σ8 := tw_F_up hFτ eσ8 (show 73 = 73 from rfl)
        refine j_iinc (pc := 45) (i := 2) (n := 1) (ls' := [(0, vR 71), (1, vI h), (2, vI (f + 1))]) [1, 2, 0] dX6_leftFrom_45 rfl (Nat.le_of_ble_eq_true rfl) rfl rfl ?_
        refine j_goto (pc := 48) (tgt := 9) dX6_leftFrom_48 rfl ?_
        refine j_ls (ls' := [(0, vR 71), (1, vI h), (2, vI (f + 1))]) [0, 1, 2] rfl ?_
        exact ih (f + 1) ⟨by omega, by omega⟩ σ8 hIσ8 hFσ8 (show (41 - (f + 1)).toNat < N_ from by omega)
      · refine j_aload_n (pc := 24) dX6_leftFrom_24 rfl rfl ?_
        refine j_getR (pc := 25) (r := 1) fl_X6_35 dX6_leftFrom_25 (a_71 hX) rfl ?_
        refine j_iload_n (pc := 28) dX6_leftFrom_28 rfl rfl ?_
        refine j_callV (pc := 29) (As := [vI f]) (st := [vI f, vR 73]) (c_X10_isStance 1 (s_Wall_1 hX) f ⟨by omega, by omega⟩ τ hIτ) mv_X6_64 rfl rfl rfl (a_1 hX) dX6_leftFrom_29 ⟨Nat.le_of_ble_eq_true rfl, Nat.le_of_ble_eq_true rfl⟩ ⟨Nat.le_refl _, Nat.le_refl _⟩ rfl (Nat.le_of_ble_eq_true rfl) rfl (fun z9 σ10 hz9 => ?_)
        obtain ⟨r12, rfl, hr12, rfl, q11_0⟩ := hz9
        replace q11_0 : r12 = 0 ∨ (r12 = 1 ∧ 1 ≤ f ∧ f ≤ τ 2 0 ∧ f ≤ 40) := q11_0
        refine j_st (st' := [vI r12, vI f, vR 73]) rfl ?_
        refine j_ifR_eq (pc := 32) (tgt := 43) ⟨by omega, by omega⟩ dX6_leftFrom_32 rfl (fun h13 => ?_) (fun h13 => ?_)
        · refine j_iconst (pc := 43) dX6_leftFrom_43 ?_
          refine j_iast (pc := 44) dX6_leftFrom_44 (a_73 hX) (by omega) (by omega) (by decide) (j_nm (fun σ14 (eσ14 : σ14 = tw_up τ 73 (f.toNat) (-1)) => ?_))
          have hIσ14 : tw_I σ14 := tw_I_up hIτ eσ14 (show (-2147483648 : Int) ≤ -1 ∧ -1 ≤ 2147483647 from by decide)
          have hFσ14 : tw_F (fun c j => c = 73) σ σ14 := tw_F_up hFτ eσ14 (show 73 = 73 from rfl)
          refine j_iinc (pc := 45) (i := 2) (n := 1) (ls' := [(0, vR 71), (1, vI h), (2, vI (f + 1))]) [1, 2, 0] dX6_leftFrom_45 rfl (Nat.le_of_ble_eq_true rfl) rfl rfl ?_
          refine j_goto (pc := 48) (tgt := 9) dX6_leftFrom_48 rfl ?_
          refine j_ls (ls' := [(0, vR 71), (1, vI h), (2, vI (f + 1))]) [0, 1, 2] rfl ?_
          exact ih (f + 1) ⟨by omega, by omega⟩ σ14 hIσ14 hFσ14 (show (41 - (f + 1)).toNat < N_ from by omega)
        · refine j_aload_n (pc := 35) dX6_leftFrom_35 rfl rfl ?_
          refine j_iload_n (pc := 36) dX6_leftFrom_36 rfl rfl ?_
          refine j_callV (pc := 37) (As := [vI f]) (st := [vI f, vR 73]) (c_X6_leastLeft hX f ⟨by omega, by omega⟩ τ hIτ) mv_X6_78 rfl rfl rfl (a_71 hX) dX6_leftFrom_37 ⟨Nat.le_of_ble_eq_true rfl, Nat.le_of_ble_eq_true rfl⟩ ⟨Nat.le_refl _, Nat.le_refl _⟩ rfl (Nat.le_of_ble_eq_true rfl) rfl (fun z15 σ16 hz15 => ?_)
          obtain ⟨r18, rfl, hr18, rfl, -⟩ := hz15
          refine j_st (st' := [vI r18, vI f, vR 73]) rfl ?_
          refine j_goto (pc := 40) (tgt := 44) dX6_leftFrom_40 rfl ?_
          refine j_iast (pc := 44) dX6_leftFrom_44 (a_73 hX) (by omega) (by omega) (by decide) (j_nm (fun σ19 (eσ19 : σ19 = tw_up τ 73 (f.toNat) r18) => ?_))
          have hIσ19 : tw_I σ19 := tw_I_up hIτ eσ19 (show (-2147483648 : Int) ≤ r18 ∧ r18 ≤ 2147483647 from ⟨by omega, by omega⟩)
          have hFσ19 : tw_F (fun c j => c = 73) σ σ19 := tw_F_up hFτ eσ19 (show 73 = 73 from rfl)
          refine j_iinc (pc := 45) (i := 2) (n := 1) (ls' := [(0, vR 71), (1, vI h), (2, vI (f + 1))]) [1, 2, 0] dX6_leftFrom_45 rfl (Nat.le_of_ble_eq_true rfl) rfl rfl ?_
          refine j_goto (pc := 48) (tgt := 9) dX6_leftFrom_48 rfl ?_
          refine j_ls (ls' := [(0, vR 71), (1, vI h), (2, vI (f + 1))]) [0, 1, 2] rfl ?_
          exact ih (f + 1) ⟨by omega, by omega⟩ σ19 hIσ19 hFσ19 (show (41 - (f + 1)).toNat < N_ from by omega)
set_option maxHeartbeats 4000000 in
set_option maxRecDepth 100000 in
theorem c_X6_leftFrom {G : tw_G} (hX : tw_isX G) (h : Int) (hh : 0 ≤ h ∧ h ≤ 40) (σ : tw_M) (hI : tw_I σ) : tw_C G yX6_leftFrom cX6_leftFrom 3 (some .int) 3 [vR 71, vI h] σ (q_X6_leftFrom h σ) := by
  refine tw_met [(0, vR 71), (1, vI h)] (by decide +kernel) rfl (Nat.le_of_ble_eq_true rfl) ?_
  refine j_aload_n (pc := 0) dX6_leftFrom_0 rfl rfl ?_
  refine j_getR (pc := 1) (r := 73) fl_X6_19 dX6_leftFrom_1 (a_71 hX) rfl ?_
  refine j_iconst (pc := 4) dX6_leftFrom_4 ?_
  refine j_iconst (pc := 5) dX6_leftFrom_5 ?_
  refine j_iast (pc := 6) dX6_leftFrom_6 (a_73 hX) (by omega) (by omega) (by decide) (j_nm (fun σ20 (eσ20 : σ20 = tw_up σ 73 0 0) => ?_))
  have hIσ20 : tw_I σ20 := tw_I_up hI eσ20 (show (-2147483648 : Int) ≤ 0 ∧ 0 ≤ 2147483647 from by decide)
  have hFσ20 : tw_F (fun c j => c = 73) σ σ20 := tw_F_up (tw_F_rf) eσ20 (show 73 = 73 from rfl)
  refine j_iconst (pc := 7) dX6_leftFrom_7 ?_
  refine j_istore_n (pc := 8) (i := 2) (ls' := [(0, vR 71), (1, vI h), (2, vI 1)]) [1, 2, 0] dX6_leftFrom_8 rfl (Nat.le_of_ble_eq_true rfl) rfl rfl ?_
  refine j_ls (ls' := [(0, vR 71), (1, vI h), (2, vI 1)]) [0, 1, 2] rfl ?_
  exact (l_X6_leftFrom hX h hh σ hI (((41 - (1 : Int)).toNat) + 1)) 1 (by (first | decide | exact ⟨by omega, by omega⟩)) σ20 hIσ20 hFσ20 (Nat.lt_succ_self _)
