/-! 11.row -/
theorem dX7_copyOf_0 : decode cX7_copyOf 0 = .ok (.aload_n 0, 1) := by decide +kernel
theorem dX7_copyOf_1 : decode cX7_copyOf 1 = .ok (.aload_n 1, 1) := by decide +kernel
theorem dX7_copyOf_2 : decode cX7_copyOf 2 = .ok (.getfield 9, 3) := by decide +kernel
theorem dX7_copyOf_5 : decode cX7_copyOf 5 = .ok (.putfield 9, 3) := by decide +kernel
theorem dX7_copyOf_8 : decode cX7_copyOf 8 = .ok (.iconst 0, 1) := by decide +kernel
theorem dX7_copyOf_9 : decode cX7_copyOf 9 = .ok (.istore_n 2, 1) := by decide +kernel
theorem dX7_copyOf_10 : decode cX7_copyOf 10 = .ok (.iload_n 2, 1) := by decide +kernel
theorem dX7_copyOf_11 : decode cX7_copyOf 11 = .ok (.bipush 10, 2) := by decide +kernel
theorem dX7_copyOf_13 : decode cX7_copyOf 13 = .ok (.if_icmp .ge 45, 3) := by decide +kernel
theorem dX7_copyOf_16 : decode cX7_copyOf 16 = .ok (.aload_n 0, 1) := by decide +kernel
theorem dX7_copyOf_17 : decode cX7_copyOf 17 = .ok (.getfield 15, 3) := by decide +kernel
theorem dX7_copyOf_20 : decode cX7_copyOf 20 = .ok (.iload_n 2, 1) := by decide +kernel
theorem dX7_copyOf_21 : decode cX7_copyOf 21 = .ok (.aload_n 1, 1) := by decide +kernel
theorem dX7_copyOf_22 : decode cX7_copyOf 22 = .ok (.getfield 15, 3) := by decide +kernel
theorem dX7_copyOf_25 : decode cX7_copyOf 25 = .ok (.iload_n 2, 1) := by decide +kernel
theorem dX7_copyOf_26 : decode cX7_copyOf 26 = .ok (.iaload, 1) := by decide +kernel
theorem dX7_copyOf_27 : decode cX7_copyOf 27 = .ok (.iastore, 1) := by decide +kernel
theorem dX7_copyOf_28 : decode cX7_copyOf 28 = .ok (.aload_n 0, 1) := by decide +kernel
theorem dX7_copyOf_29 : decode cX7_copyOf 29 = .ok (.getfield 19, 3) := by decide +kernel
theorem dX7_copyOf_32 : decode cX7_copyOf 32 = .ok (.iload_n 2, 1) := by decide +kernel
theorem dX7_copyOf_33 : decode cX7_copyOf 33 = .ok (.aload_n 1, 1) := by decide +kernel
theorem dX7_copyOf_34 : decode cX7_copyOf 34 = .ok (.getfield 19, 3) := by decide +kernel
theorem dX7_copyOf_37 : decode cX7_copyOf 37 = .ok (.iload_n 2, 1) := by decide +kernel
theorem dX7_copyOf_38 : decode cX7_copyOf 38 = .ok (.iaload, 1) := by decide +kernel
theorem dX7_copyOf_39 : decode cX7_copyOf 39 = .ok (.iastore, 1) := by decide +kernel
theorem dX7_copyOf_40 : decode cX7_copyOf 40 = .ok (.aload_n 0, 1) := by decide +kernel
theorem dX7_copyOf_41 : decode cX7_copyOf 41 = .ok (.getfield 22, 3) := by decide +kernel
theorem dX7_copyOf_44 : decode cX7_copyOf 44 = .ok (.iload_n 2, 1) := by decide +kernel
theorem dX7_copyOf_45 : decode cX7_copyOf 45 = .ok (.aload_n 1, 1) := by decide +kernel
theorem dX7_copyOf_46 : decode cX7_copyOf 46 = .ok (.getfield 22, 3) := by decide +kernel
theorem dX7_copyOf_49 : decode cX7_copyOf 49 = .ok (.iload_n 2, 1) := by decide +kernel
theorem dX7_copyOf_50 : decode cX7_copyOf 50 = .ok (.iaload, 1) := by decide +kernel
theorem dX7_copyOf_51 : decode cX7_copyOf 51 = .ok (.iastore, 1) := by decide +kernel
theorem dX7_copyOf_52 : decode cX7_copyOf 52 = .ok (.iinc 2 1, 3) := by decide +kernel
theorem dX7_copyOf_55 : decode cX7_copyOf 55 = .ok (.goto (-45), 3) := by decide +kernel
theorem dX7_copyOf_58 : decode cX7_copyOf 58 = .ok (.return_, 1) := by decide +kernel
theorem dX7_all_0 : decode cX7_all 0 = .ok (.iconst 1, 1) := by decide +kernel
theorem dX7_all_1 : decode cX7_all 1 = .ok (.aload_n 0, 1) := by decide +kernel
theorem dX7_all_2 : decode cX7_all 2 = .ok (.getfield 9, 3) := by decide +kernel
theorem dX7_all_5 : decode cX7_all 5 = .ok (.ishl, 1) := by decide +kernel
theorem dX7_all_6 : decode cX7_all 6 = .ok (.iconst 1, 1) := by decide +kernel
theorem dX7_all_7 : decode cX7_all 7 = .ok (.isub, 1) := by decide +kernel
theorem dX7_all_8 : decode cX7_all 8 = .ok (.ireturn, 1) := by decide +kernel
theorem dX7_has_0 : decode cX7_has 0 = .ok (.iload_n 1, 1) := by decide +kernel
theorem dX7_has_1 : decode cX7_has 1 = .ok (.aload_n 0, 1) := by decide +kernel
theorem dX7_has_2 : decode cX7_has 2 = .ok (.invokevirtual 25, 3) := by decide +kernel
theorem dX7_has_5 : decode cX7_has 5 = .ok (.iconst (-1), 1) := by decide +kernel
theorem dX7_has_6 : decode cX7_has 6 = .ok (.ixor, 1) := by decide +kernel
theorem dX7_has_7 : decode cX7_has 7 = .ok (.iand, 1) := by decide +kernel
theorem dX7_has_8 : decode cX7_has 8 = .ok (.ifCond .ne 7, 3) := by decide +kernel
theorem dX7_has_11 : decode cX7_has 11 = .ok (.iconst 1, 1) := by decide +kernel
theorem dX7_has_12 : decode cX7_has 12 = .ok (.goto 4, 3) := by decide +kernel
theorem dX7_has_15 : decode cX7_has 15 = .ok (.iconst 0, 1) := by decide +kernel
theorem dX7_has_16 : decode cX7_has 16 = .ok (.ireturn, 1) := by decide +kernel
theorem dX7_at_0 : decode cX7_at 0 = .ok (.iconst 0, 1) := by decide +kernel
theorem dX7_at_1 : decode cX7_at 1 = .ok (.istore_n 2, 1) := by decide +kernel
theorem dX7_at_2 : decode cX7_at 2 = .ok (.iload_n 2, 1) := by decide +kernel
theorem dX7_at_3 : decode cX7_at 3 = .ok (.aload_n 0, 1) := by decide +kernel
theorem dX7_at_4 : decode cX7_at 4 = .ok (.getfield 9, 3) := by decide +kernel
theorem dX7_at_7 : decode cX7_at 7 = .ok (.if_icmp .ge 21, 3) := by decide +kernel
theorem dX7_at_10 : decode cX7_at 10 = .ok (.aload_n 0, 1) := by decide +kernel
theorem dX7_at_11 : decode cX7_at 11 = .ok (.getfield 15, 3) := by decide +kernel
theorem dX7_at_14 : decode cX7_at 14 = .ok (.iload_n 2, 1) := by decide +kernel
theorem dX7_at_15 : decode cX7_at 15 = .ok (.iaload, 1) := by decide +kernel
theorem dX7_at_16 : decode cX7_at 16 = .ok (.iload_n 1, 1) := by decide +kernel
theorem dX7_at_17 : decode cX7_at 17 = .ok (.if_icmp .ne 5, 3) := by decide +kernel
theorem dX7_at_20 : decode cX7_at 20 = .ok (.iload_n 2, 1) := by decide +kernel
theorem dX7_at_21 : decode cX7_at 21 = .ok (.ireturn, 1) := by decide +kernel
theorem dX7_at_22 : decode cX7_at 22 = .ok (.iinc 2 1, 3) := by decide +kernel
theorem dX7_at_25 : decode cX7_at 25 = .ok (.goto (-23), 3) := by decide +kernel
theorem dX7_at_28 : decode cX7_at 28 = .ok (.bipush (-4), 2) := by decide +kernel
theorem dX7_at_30 : decode cX7_at 30 = .ok (.ireturn, 1) := by decide +kernel
theorem dX7_firstFrom_0 : decode cX7_firstFrom 0 = .ok (.aload_n 0, 1) := by decide +kernel
theorem dX7_firstFrom_1 : decode cX7_firstFrom 1 = .ok (.getfield 9, 3) := by decide +kernel
theorem dX7_firstFrom_4 : decode cX7_firstFrom 4 = .ok (.istore_n 2, 1) := by decide +kernel
theorem dX7_firstFrom_5 : decode cX7_firstFrom 5 = .ok (.iload_n 2, 1) := by decide +kernel
theorem dX7_firstFrom_6 : decode cX7_firstFrom 6 = .ok (.ifCond .le 21, 3) := by decide +kernel
theorem dX7_firstFrom_9 : decode cX7_firstFrom 9 = .ok (.aload_n 0, 1) := by decide +kernel
theorem dX7_firstFrom_10 : decode cX7_firstFrom 10 = .ok (.getfield 15, 3) := by decide +kernel
theorem dX7_firstFrom_13 : decode cX7_firstFrom 13 = .ok (.iload_n 2, 1) := by decide +kernel
theorem dX7_firstFrom_14 : decode cX7_firstFrom 14 = .ok (.iconst 1, 1) := by decide +kernel
theorem dX7_firstFrom_15 : decode cX7_firstFrom 15 = .ok (.isub, 1) := by decide +kernel
theorem dX7_firstFrom_16 : decode cX7_firstFrom 16 = .ok (.iaload, 1) := by decide +kernel
theorem dX7_firstFrom_17 : decode cX7_firstFrom 17 = .ok (.iload_n 1, 1) := by decide +kernel
theorem dX7_firstFrom_18 : decode cX7_firstFrom 18 = .ok (.if_icmp .lt 9, 3) := by decide +kernel
theorem dX7_firstFrom_21 : decode cX7_firstFrom 21 = .ok (.iinc 2 (-1), 3) := by decide +kernel
theorem dX7_firstFrom_24 : decode cX7_firstFrom 24 = .ok (.goto (-19), 3) := by decide +kernel
theorem dX7_firstFrom_27 : decode cX7_firstFrom 27 = .ok (.iload_n 2, 1) := by decide +kernel
theorem dX7_firstFrom_28 : decode cX7_firstFrom 28 = .ok (.ireturn, 1) := by decide +kernel
theorem dX7_insert_0 : decode cX7_insert 0 = .ok (.aload_n 0, 1) := by decide +kernel
theorem dX7_insert_1 : decode cX7_insert 1 = .ok (.getfield 9, 3) := by decide +kernel
theorem dX7_insert_4 : decode cX7_insert 4 = .ok (.bipush 10, 2) := by decide +kernel
theorem dX7_insert_6 : decode cX7_insert 6 = .ok (.if_icmp .lt 6, 3) := by decide +kernel
theorem dX7_insert_9 : decode cX7_insert 9 = .ok (.bipush (-4), 2) := by decide +kernel
theorem dX7_insert_11 : decode cX7_insert 11 = .ok (.ireturn, 1) := by decide +kernel
theorem dX7_insert_12 : decode cX7_insert 12 = .ok (.aload_n 0, 1) := by decide +kernel
theorem dX7_insert_13 : decode cX7_insert 13 = .ok (.getfield 9, 3) := by decide +kernel
theorem dX7_insert_16 : decode cX7_insert 16 = .ok (.istore_n 3, 1) := by decide +kernel
theorem dX7_insert_17 : decode cX7_insert 17 = .ok (.iload_n 3, 1) := by decide +kernel
theorem dX7_insert_18 : decode cX7_insert 18 = .ok (.ifCond .le 63, 3) := by decide +kernel
theorem dX7_insert_21 : decode cX7_insert 21 = .ok (.aload_n 0, 1) := by decide +kernel
theorem dX7_insert_22 : decode cX7_insert 22 = .ok (.getfield 15, 3) := by decide +kernel
theorem dX7_insert_25 : decode cX7_insert 25 = .ok (.iload_n 3, 1) := by decide +kernel
theorem dX7_insert_26 : decode cX7_insert 26 = .ok (.iconst 1, 1) := by decide +kernel
theorem dX7_insert_27 : decode cX7_insert 27 = .ok (.isub, 1) := by decide +kernel
theorem dX7_insert_28 : decode cX7_insert 28 = .ok (.iaload, 1) := by decide +kernel
theorem dX7_insert_29 : decode cX7_insert 29 = .ok (.iload_n 1, 1) := by decide +kernel
theorem dX7_insert_30 : decode cX7_insert 30 = .ok (.if_icmp .le 51, 3) := by decide +kernel
theorem dX7_insert_33 : decode cX7_insert 33 = .ok (.aload_n 0, 1) := by decide +kernel
theorem dX7_insert_34 : decode cX7_insert 34 = .ok (.getfield 15, 3) := by decide +kernel
theorem dX7_insert_37 : decode cX7_insert 37 = .ok (.iload_n 3, 1) := by decide +kernel
theorem dX7_insert_38 : decode cX7_insert 38 = .ok (.aload_n 0, 1) := by decide +kernel
theorem dX7_insert_39 : decode cX7_insert 39 = .ok (.getfield 15, 3) := by decide +kernel
theorem dX7_insert_42 : decode cX7_insert 42 = .ok (.iload_n 3, 1) := by decide +kernel
theorem dX7_insert_43 : decode cX7_insert 43 = .ok (.iconst 1, 1) := by decide +kernel
theorem dX7_insert_44 : decode cX7_insert 44 = .ok (.isub, 1) := by decide +kernel
theorem dX7_insert_45 : decode cX7_insert 45 = .ok (.iaload, 1) := by decide +kernel
theorem dX7_insert_46 : decode cX7_insert 46 = .ok (.iastore, 1) := by decide +kernel
theorem dX7_insert_47 : decode cX7_insert 47 = .ok (.aload_n 0, 1) := by decide +kernel
theorem dX7_insert_48 : decode cX7_insert 48 = .ok (.getfield 19, 3) := by decide +kernel
theorem dX7_insert_51 : decode cX7_insert 51 = .ok (.iload_n 3, 1) := by decide +kernel
theorem dX7_insert_52 : decode cX7_insert 52 = .ok (.aload_n 0, 1) := by decide +kernel
theorem dX7_insert_53 : decode cX7_insert 53 = .ok (.getfield 19, 3) := by decide +kernel
theorem dX7_insert_56 : decode cX7_insert 56 = .ok (.iload_n 3, 1) := by decide +kernel
theorem dX7_insert_57 : decode cX7_insert 57 = .ok (.iconst 1, 1) := by decide +kernel
theorem dX7_insert_58 : decode cX7_insert 58 = .ok (.isub, 1) := by decide +kernel
theorem dX7_insert_59 : decode cX7_insert 59 = .ok (.iaload, 1) := by decide +kernel
theorem dX7_insert_60 : decode cX7_insert 60 = .ok (.iastore, 1) := by decide +kernel
theorem dX7_insert_61 : decode cX7_insert 61 = .ok (.aload_n 0, 1) := by decide +kernel
theorem dX7_insert_62 : decode cX7_insert 62 = .ok (.getfield 22, 3) := by decide +kernel
theorem dX7_insert_65 : decode cX7_insert 65 = .ok (.iload_n 3, 1) := by decide +kernel
theorem dX7_insert_66 : decode cX7_insert 66 = .ok (.aload_n 0, 1) := by decide +kernel
theorem dX7_insert_67 : decode cX7_insert 67 = .ok (.getfield 22, 3) := by decide +kernel
theorem dX7_insert_70 : decode cX7_insert 70 = .ok (.iload_n 3, 1) := by decide +kernel
theorem dX7_insert_71 : decode cX7_insert 71 = .ok (.iconst 1, 1) := by decide +kernel
theorem dX7_insert_72 : decode cX7_insert 72 = .ok (.isub, 1) := by decide +kernel
theorem dX7_insert_73 : decode cX7_insert 73 = .ok (.iaload, 1) := by decide +kernel
theorem dX7_insert_74 : decode cX7_insert 74 = .ok (.iastore, 1) := by decide +kernel
theorem dX7_insert_75 : decode cX7_insert 75 = .ok (.iinc 3 (-1), 3) := by decide +kernel
theorem dX7_insert_78 : decode cX7_insert 78 = .ok (.goto (-61), 3) := by decide +kernel
theorem dX7_insert_81 : decode cX7_insert 81 = .ok (.aload_n 0, 1) := by decide +kernel
theorem dX7_insert_82 : decode cX7_insert 82 = .ok (.getfield 15, 3) := by decide +kernel
theorem dX7_insert_85 : decode cX7_insert 85 = .ok (.iload_n 3, 1) := by decide +kernel
theorem dX7_insert_86 : decode cX7_insert 86 = .ok (.iload_n 1, 1) := by decide +kernel
theorem dX7_insert_87 : decode cX7_insert 87 = .ok (.iastore, 1) := by decide +kernel
theorem dX7_insert_88 : decode cX7_insert 88 = .ok (.aload_n 0, 1) := by decide +kernel
theorem dX7_insert_89 : decode cX7_insert 89 = .ok (.getfield 19, 3) := by decide +kernel
theorem dX7_insert_92 : decode cX7_insert 92 = .ok (.iload_n 3, 1) := by decide +kernel
theorem dX7_insert_93 : decode cX7_insert 93 = .ok (.iload_n 2, 1) := by decide +kernel
theorem dX7_insert_94 : decode cX7_insert 94 = .ok (.iastore, 1) := by decide +kernel
theorem dX7_insert_95 : decode cX7_insert 95 = .ok (.aload_n 0, 1) := by decide +kernel
theorem dX7_insert_96 : decode cX7_insert 96 = .ok (.getfield 22, 3) := by decide +kernel
theorem dX7_insert_99 : decode cX7_insert 99 = .ok (.iload_n 3, 1) := by decide +kernel
theorem dX7_insert_100 : decode cX7_insert 100 = .ok (.iconst 0, 1) := by decide +kernel
theorem dX7_insert_101 : decode cX7_insert 101 = .ok (.iastore, 1) := by decide +kernel
theorem dX7_insert_102 : decode cX7_insert 102 = .ok (.aload_n 0, 1) := by decide +kernel
theorem dX7_insert_103 : decode cX7_insert 103 = .ok (.dup, 1) := by decide +kernel
theorem dX7_insert_104 : decode cX7_insert 104 = .ok (.getfield 9, 3) := by decide +kernel
theorem dX7_insert_107 : decode cX7_insert 107 = .ok (.iconst 1, 1) := by decide +kernel
theorem dX7_insert_108 : decode cX7_insert 108 = .ok (.iadd, 1) := by decide +kernel
theorem dX7_insert_109 : decode cX7_insert 109 = .ok (.putfield 9, 3) := by decide +kernel
theorem dX7_insert_112 : decode cX7_insert 112 = .ok (.iload_n 3, 1) := by decide +kernel
theorem dX7_insert_113 : decode cX7_insert 113 = .ok (.ireturn, 1) := by decide +kernel
theorem dX7_remove_0 : decode cX7_remove 0 = .ok (.iload_n 1, 1) := by decide +kernel
theorem dX7_remove_1 : decode cX7_remove 1 = .ok (.ifCond .lt 11, 3) := by decide +kernel
theorem dX7_remove_4 : decode cX7_remove 4 = .ok (.iload_n 1, 1) := by decide +kernel
theorem dX7_remove_5 : decode cX7_remove 5 = .ok (.aload_n 0, 1) := by decide +kernel
theorem dX7_remove_6 : decode cX7_remove 6 = .ok (.getfield 9, 3) := by decide +kernel
theorem dX7_remove_9 : decode cX7_remove 9 = .ok (.if_icmp .lt 4, 3) := by decide +kernel
theorem dX7_remove_12 : decode cX7_remove 12 = .ok (.return_, 1) := by decide +kernel
theorem dX7_remove_13 : decode cX7_remove 13 = .ok (.aload_n 0, 1) := by decide +kernel
theorem dX7_remove_14 : decode cX7_remove 14 = .ok (.dup, 1) := by decide +kernel
theorem dX7_remove_15 : decode cX7_remove 15 = .ok (.getfield 9, 3) := by decide +kernel
theorem dX7_remove_18 : decode cX7_remove 18 = .ok (.iconst 1, 1) := by decide +kernel
theorem dX7_remove_19 : decode cX7_remove 19 = .ok (.isub, 1) := by decide +kernel
theorem dX7_remove_20 : decode cX7_remove 20 = .ok (.putfield 9, 3) := by decide +kernel
theorem dX7_remove_23 : decode cX7_remove 23 = .ok (.iload_n 1, 1) := by decide +kernel
theorem dX7_remove_24 : decode cX7_remove 24 = .ok (.istore_n 2, 1) := by decide +kernel
theorem dX7_remove_25 : decode cX7_remove 25 = .ok (.iload_n 2, 1) := by decide +kernel
theorem dX7_remove_26 : decode cX7_remove 26 = .ok (.aload_n 0, 1) := by decide +kernel
theorem dX7_remove_27 : decode cX7_remove 27 = .ok (.getfield 9, 3) := by decide +kernel
theorem dX7_remove_30 : decode cX7_remove 30 = .ok (.if_icmp .ge 51, 3) := by decide +kernel
theorem dX7_remove_33 : decode cX7_remove 33 = .ok (.aload_n 0, 1) := by decide +kernel
theorem dX7_remove_34 : decode cX7_remove 34 = .ok (.getfield 15, 3) := by decide +kernel
theorem dX7_remove_37 : decode cX7_remove 37 = .ok (.iload_n 2, 1) := by decide +kernel
theorem dX7_remove_38 : decode cX7_remove 38 = .ok (.aload_n 0, 1) := by decide +kernel
theorem dX7_remove_39 : decode cX7_remove 39 = .ok (.getfield 15, 3) := by decide +kernel
theorem dX7_remove_42 : decode cX7_remove 42 = .ok (.iload_n 2, 1) := by decide +kernel
theorem dX7_remove_43 : decode cX7_remove 43 = .ok (.iconst 1, 1) := by decide +kernel
theorem dX7_remove_44 : decode cX7_remove 44 = .ok (.iadd, 1) := by decide +kernel
theorem dX7_remove_45 : decode cX7_remove 45 = .ok (.iaload, 1) := by decide +kernel
theorem dX7_remove_46 : decode cX7_remove 46 = .ok (.iastore, 1) := by decide +kernel
theorem dX7_remove_47 : decode cX7_remove 47 = .ok (.aload_n 0, 1) := by decide +kernel
theorem dX7_remove_48 : decode cX7_remove 48 = .ok (.getfield 19, 3) := by decide +kernel
theorem dX7_remove_51 : decode cX7_remove 51 = .ok (.iload_n 2, 1) := by decide +kernel
theorem dX7_remove_52 : decode cX7_remove 52 = .ok (.aload_n 0, 1) := by decide +kernel
theorem dX7_remove_53 : decode cX7_remove 53 = .ok (.getfield 19, 3) := by decide +kernel
theorem dX7_remove_56 : decode cX7_remove 56 = .ok (.iload_n 2, 1) := by decide +kernel
theorem dX7_remove_57 : decode cX7_remove 57 = .ok (.iconst 1, 1) := by decide +kernel
theorem dX7_remove_58 : decode cX7_remove 58 = .ok (.iadd, 1) := by decide +kernel
theorem dX7_remove_59 : decode cX7_remove 59 = .ok (.iaload, 1) := by decide +kernel
theorem dX7_remove_60 : decode cX7_remove 60 = .ok (.iastore, 1) := by decide +kernel
theorem dX7_remove_61 : decode cX7_remove 61 = .ok (.aload_n 0, 1) := by decide +kernel
theorem dX7_remove_62 : decode cX7_remove 62 = .ok (.getfield 22, 3) := by decide +kernel
theorem dX7_remove_65 : decode cX7_remove 65 = .ok (.iload_n 2, 1) := by decide +kernel
theorem dX7_remove_66 : decode cX7_remove 66 = .ok (.aload_n 0, 1) := by decide +kernel
theorem dX7_remove_67 : decode cX7_remove 67 = .ok (.getfield 22, 3) := by decide +kernel
theorem dX7_remove_70 : decode cX7_remove 70 = .ok (.iload_n 2, 1) := by decide +kernel
theorem dX7_remove_71 : decode cX7_remove 71 = .ok (.iconst 1, 1) := by decide +kernel
theorem dX7_remove_72 : decode cX7_remove 72 = .ok (.iadd, 1) := by decide +kernel
theorem dX7_remove_73 : decode cX7_remove 73 = .ok (.iaload, 1) := by decide +kernel
theorem dX7_remove_74 : decode cX7_remove 74 = .ok (.iastore, 1) := by decide +kernel
theorem dX7_remove_75 : decode cX7_remove 75 = .ok (.iinc 2 1, 3) := by decide +kernel
theorem dX7_remove_78 : decode cX7_remove 78 = .ok (.goto (-53), 3) := by decide +kernel
theorem dX7_remove_81 : decode cX7_remove 81 = .ok (.return_, 1) := by decide +kernel
theorem dX7_sideOf_0 : decode cX7_sideOf 0 = .ok (.iload_n 2, 1) := by decide +kernel
theorem dX7_sideOf_1 : decode cX7_sideOf 1 = .ok (.ifCond .ge 5, 3) := by decide +kernel
theorem dX7_sideOf_4 : decode cX7_sideOf 4 = .ok (.iconst 5, 1) := by decide +kernel
theorem dX7_sideOf_5 : decode cX7_sideOf 5 = .ok (.ireturn, 1) := by decide +kernel
theorem dX7_sideOf_6 : decode cX7_sideOf 6 = .ok (.aload_n 1, 1) := by decide +kernel
theorem dX7_sideOf_7 : decode cX7_sideOf 7 = .ok (.getfield 29, 3) := by decide +kernel
theorem dX7_sideOf_10 : decode cX7_sideOf 10 = .ok (.iload_n 2, 1) := by decide +kernel
theorem dX7_sideOf_11 : decode cX7_sideOf 11 = .ok (.aload_n 0, 1) := by decide +kernel
theorem dX7_sideOf_12 : decode cX7_sideOf 12 = .ok (.getfield 9, 3) := by decide +kernel
theorem dX7_sideOf_15 : decode cX7_sideOf 15 = .ok (.if_icmp .ge 12, 3) := by decide +kernel
theorem dX7_sideOf_18 : decode cX7_sideOf 18 = .ok (.aload_n 0, 1) := by decide +kernel
theorem dX7_sideOf_19 : decode cX7_sideOf 19 = .ok (.getfield 15, 3) := by decide +kernel
theorem dX7_sideOf_22 : decode cX7_sideOf 22 = .ok (.iload_n 2, 1) := by decide +kernel
theorem dX7_sideOf_23 : decode cX7_sideOf 23 = .ok (.iaload, 1) := by decide +kernel
theorem dX7_sideOf_24 : decode cX7_sideOf 24 = .ok (.goto 7, 3) := by decide +kernel
theorem dX7_sideOf_27 : decode cX7_sideOf 27 = .ok (.aload_n 1, 1) := by decide +kernel
theorem dX7_sideOf_28 : decode cX7_sideOf 28 = .ok (.invokevirtual 34, 3) := by decide +kernel
theorem dX7_sideOf_31 : decode cX7_sideOf 31 = .ok (.iaload, 1) := by decide +kernel
theorem dX7_sideOf_32 : decode cX7_sideOf 32 = .ok (.ireturn, 1) := by decide +kernel
theorem dX7_off_0 : decode cX7_off 0 = .ok (.iconst 2, 1) := by decide +kernel
theorem dX7_off_1 : decode cX7_off 1 = .ok (.aload_n 0, 1) := by decide +kernel
theorem dX7_off_2 : decode cX7_off 2 = .ok (.aload_n 1, 1) := by decide +kernel
theorem dX7_off_3 : decode cX7_off 3 = .ok (.iload_n 2, 1) := by decide +kernel
theorem dX7_off_4 : decode cX7_off 4 = .ok (.invokevirtual 37, 3) := by decide +kernel
theorem dX7_off_7 : decode cX7_off 7 = .ok (.imul, 1) := by decide +kernel
theorem dX7_off_8 : decode cX7_off 8 = .ok (.aload_n 0, 1) := by decide +kernel
theorem dX7_off_9 : decode cX7_off 9 = .ok (.aload_n 1, 1) := by decide +kernel
theorem dX7_off_10 : decode cX7_off 10 = .ok (.iload_n 2, 1) := by decide +kernel
theorem dX7_off_11 : decode cX7_off 11 = .ok (.iconst 1, 1) := by decide +kernel
theorem dX7_off_12 : decode cX7_off 12 = .ok (.isub, 1) := by decide +kernel
theorem dX7_off_13 : decode cX7_off 13 = .ok (.invokevirtual 37, 3) := by decide +kernel
theorem dX7_off_16 : decode cX7_off 16 = .ok (.isub, 1) := by decide +kernel
theorem dX7_off_17 : decode cX7_off 17 = .ok (.aload_n 0, 1) := by decide +kernel
theorem dX7_off_18 : decode cX7_off 18 = .ok (.aload_n 1, 1) := by decide +kernel
theorem dX7_off_19 : decode cX7_off 19 = .ok (.iload_n 2, 1) := by decide +kernel
theorem dX7_off_20 : decode cX7_off 20 = .ok (.iconst 1, 1) := by decide +kernel
theorem dX7_off_21 : decode cX7_off 21 = .ok (.iadd, 1) := by decide +kernel
theorem dX7_off_22 : decode cX7_off 22 = .ok (.invokevirtual 37, 3) := by decide +kernel
theorem dX7_off_25 : decode cX7_off 25 = .ok (.isub, 1) := by decide +kernel
theorem dX7_off_26 : decode cX7_off 26 = .ok (.invokestatic 41, 3) := by decide +kernel
theorem dX7_off_29 : decode cX7_off 29 = .ok (.ireturn, 1) := by decide +kernel
theorem dX7_counted_0 : decode cX7_counted 0 = .ok (.aload_n 0, 1) := by decide +kernel
theorem dX7_counted_1 : decode cX7_counted 1 = .ok (.getfield 22, 3) := by decide +kernel
theorem dX7_counted_4 : decode cX7_counted 4 = .ok (.iload_n 2, 1) := by decide +kernel
theorem dX7_counted_5 : decode cX7_counted 5 = .ok (.iaload, 1) := by decide +kernel
theorem dX7_counted_6 : decode cX7_counted 6 = .ok (.ifCond .eq 14, 3) := by decide +kernel
theorem dX7_counted_9 : decode cX7_counted 9 = .ok (.aload_n 0, 1) := by decide +kernel
theorem dX7_counted_10 : decode cX7_counted 10 = .ok (.aload_n 1, 1) := by decide +kernel
theorem dX7_counted_11 : decode cX7_counted 11 = .ok (.iload_n 2, 1) := by decide +kernel
theorem dX7_counted_12 : decode cX7_counted 12 = .ok (.invokevirtual 47, 3) := by decide +kernel
theorem dX7_counted_15 : decode cX7_counted 15 = .ok (.iconst 2, 1) := by decide +kernel
theorem dX7_counted_16 : decode cX7_counted 16 = .ok (.idiv, 1) := by decide +kernel
theorem dX7_counted_17 : decode cX7_counted 17 = .ok (.goto 9, 3) := by decide +kernel
theorem dX7_counted_20 : decode cX7_counted 20 = .ok (.aload_n 0, 1) := by decide +kernel
theorem dX7_counted_21 : decode cX7_counted 21 = .ok (.aload_n 1, 1) := by decide +kernel
theorem dX7_counted_22 : decode cX7_counted 22 = .ok (.iload_n 2, 1) := by decide +kernel
theorem dX7_counted_23 : decode cX7_counted 23 = .ok (.invokevirtual 47, 3) := by decide +kernel
theorem dX7_counted_26 : decode cX7_counted 26 = .ok (.ireturn, 1) := by decide +kernel
theorem dX7_dragOf_0 : decode cX7_dragOf 0 = .ok (.iconst 0, 1) := by decide +kernel
theorem dX7_dragOf_1 : decode cX7_dragOf 1 = .ok (.istore_n 2, 1) := by decide +kernel
theorem dX7_dragOf_2 : decode cX7_dragOf 2 = .ok (.iconst 0, 1) := by decide +kernel
theorem dX7_dragOf_3 : decode cX7_dragOf 3 = .ok (.istore_n 3, 1) := by decide +kernel
theorem dX7_dragOf_4 : decode cX7_dragOf 4 = .ok (.iload_n 3, 1) := by decide +kernel
theorem dX7_dragOf_5 : decode cX7_dragOf 5 = .ok (.aload_n 0, 1) := by decide +kernel
theorem dX7_dragOf_6 : decode cX7_dragOf 6 = .ok (.getfield 9, 3) := by decide +kernel
theorem dX7_dragOf_9 : decode cX7_dragOf 9 = .ok (.if_icmp .ge 18, 3) := by decide +kernel
theorem dX7_dragOf_12 : decode cX7_dragOf 12 = .ok (.iload_n 2, 1) := by decide +kernel
theorem dX7_dragOf_13 : decode cX7_dragOf 13 = .ok (.aload_n 0, 1) := by decide +kernel
theorem dX7_dragOf_14 : decode cX7_dragOf 14 = .ok (.aload_n 1, 1) := by decide +kernel
theorem dX7_dragOf_15 : decode cX7_dragOf 15 = .ok (.iload_n 3, 1) := by decide +kernel
theorem dX7_dragOf_16 : decode cX7_dragOf 16 = .ok (.invokevirtual 50, 3) := by decide +kernel
theorem dX7_dragOf_19 : decode cX7_dragOf 19 = .ok (.iadd, 1) := by decide +kernel
theorem dX7_dragOf_20 : decode cX7_dragOf 20 = .ok (.istore_n 2, 1) := by decide +kernel
theorem dX7_dragOf_21 : decode cX7_dragOf 21 = .ok (.iinc 3 1, 3) := by decide +kernel
theorem dX7_dragOf_24 : decode cX7_dragOf 24 = .ok (.goto (-20), 3) := by decide +kernel
theorem dX7_dragOf_27 : decode cX7_dragOf 27 = .ok (.iload_n 2, 1) := by decide +kernel
theorem dX7_dragOf_28 : decode cX7_dragOf 28 = .ok (.ireturn, 1) := by decide +kernel
theorem dX7_dragWith_0 : decode cX7_dragWith 0 = .ok (.iconst 0, 1) := by decide +kernel
theorem dX7_dragWith_1 : decode cX7_dragWith 1 = .ok (.istore_n 3, 1) := by decide +kernel
theorem dX7_dragWith_2 : decode cX7_dragWith 2 = .ok (.iconst 0, 1) := by decide +kernel
theorem dX7_dragWith_3 : decode cX7_dragWith 3 = .ok (.istore 4, 2) := by decide +kernel
theorem dX7_dragWith_5 : decode cX7_dragWith 5 = .ok (.iload 4, 2) := by decide +kernel
theorem dX7_dragWith_7 : decode cX7_dragWith 7 = .ok (.aload_n 0, 1) := by decide +kernel
theorem dX7_dragWith_8 : decode cX7_dragWith 8 = .ok (.getfield 9, 3) := by decide +kernel
theorem dX7_dragWith_11 : decode cX7_dragWith 11 = .ok (.if_icmp .ge 40, 3) := by decide +kernel
theorem dX7_dragWith_14 : decode cX7_dragWith 14 = .ok (.iload_n 3, 1) := by decide +kernel
theorem dX7_dragWith_15 : decode cX7_dragWith 15 = .ok (.iload_n 2, 1) := by decide +kernel
theorem dX7_dragWith_16 : decode cX7_dragWith 16 = .ok (.iload 4, 2) := by decide +kernel
theorem dX7_dragWith_18 : decode cX7_dragWith 18 = .ok (.ishr, 1) := by decide +kernel
theorem dX7_dragWith_19 : decode cX7_dragWith 19 = .ok (.iconst 1, 1) := by decide +kernel
theorem dX7_dragWith_20 : decode cX7_dragWith 20 = .ok (.iand, 1) := by decide +kernel
theorem dX7_dragWith_21 : decode cX7_dragWith 21 = .ok (.ifCond .eq 15, 3) := by decide +kernel
theorem dX7_dragWith_24 : decode cX7_dragWith 24 = .ok (.aload_n 0, 1) := by decide +kernel
theorem dX7_dragWith_25 : decode cX7_dragWith 25 = .ok (.aload_n 1, 1) := by decide +kernel
theorem dX7_dragWith_26 : decode cX7_dragWith 26 = .ok (.iload 4, 2) := by decide +kernel
theorem dX7_dragWith_28 : decode cX7_dragWith 28 = .ok (.invokevirtual 47, 3) := by decide +kernel
theorem dX7_dragWith_31 : decode cX7_dragWith 31 = .ok (.iconst 2, 1) := by decide +kernel
theorem dX7_dragWith_32 : decode cX7_dragWith 32 = .ok (.idiv, 1) := by decide +kernel
theorem dX7_dragWith_33 : decode cX7_dragWith 33 = .ok (.goto 10, 3) := by decide +kernel
theorem dX7_dragWith_36 : decode cX7_dragWith 36 = .ok (.aload_n 0, 1) := by decide +kernel
theorem dX7_dragWith_37 : decode cX7_dragWith 37 = .ok (.aload_n 1, 1) := by decide +kernel
theorem dX7_dragWith_38 : decode cX7_dragWith 38 = .ok (.iload 4, 2) := by decide +kernel
theorem dX7_dragWith_40 : decode cX7_dragWith 40 = .ok (.invokevirtual 47, 3) := by decide +kernel
theorem dX7_dragWith_43 : decode cX7_dragWith 43 = .ok (.iadd, 1) := by decide +kernel
theorem dX7_dragWith_44 : decode cX7_dragWith 44 = .ok (.istore_n 3, 1) := by decide +kernel
theorem dX7_dragWith_45 : decode cX7_dragWith 45 = .ok (.iinc 4 1, 3) := by decide +kernel
theorem dX7_dragWith_48 : decode cX7_dragWith 48 = .ok (.goto (-43), 3) := by decide +kernel
theorem dX7_dragWith_51 : decode cX7_dragWith 51 = .ok (.iload_n 3, 1) := by decide +kernel
theorem dX7_dragWith_52 : decode cX7_dragWith 52 = .ok (.ireturn, 1) := by decide +kernel
theorem dX7_bestSlings_0 : decode cX7_bestSlings 0 = .ok (.iconst 0, 1) := by decide +kernel
theorem dX7_bestSlings_1 : decode cX7_bestSlings 1 = .ok (.istore_n 3, 1) := by decide +kernel
theorem dX7_bestSlings_2 : decode cX7_bestSlings 2 = .ok (.iconst 0, 1) := by decide +kernel
theorem dX7_bestSlings_3 : decode cX7_bestSlings 3 = .ok (.istore 4, 2) := by decide +kernel
theorem dX7_bestSlings_5 : decode cX7_bestSlings 5 = .ok (.iload 4, 2) := by decide +kernel
theorem dX7_bestSlings_7 : decode cX7_bestSlings 7 = .ok (.iload_n 2, 1) := by decide +kernel
theorem dX7_bestSlings_8 : decode cX7_bestSlings 8 = .ok (.if_icmp .ge 97, 3) := by decide +kernel
theorem dX7_bestSlings_11 : decode cX7_bestSlings 11 = .ok (.iload 4, 2) := by decide +kernel
theorem dX7_bestSlings_13 : decode cX7_bestSlings 13 = .ok (.aload_n 0, 1) := by decide +kernel
theorem dX7_bestSlings_14 : decode cX7_bestSlings 14 = .ok (.getfield 9, 3) := by decide +kernel
theorem dX7_bestSlings_17 : decode cX7_bestSlings 17 = .ok (.if_icmp .ge 88, 3) := by decide +kernel
theorem dX7_bestSlings_20 : decode cX7_bestSlings 20 = .ok (.iconst (-1), 1) := by decide +kernel
theorem dX7_bestSlings_21 : decode cX7_bestSlings 21 = .ok (.istore 5, 2) := by decide +kernel
theorem dX7_bestSlings_23 : decode cX7_bestSlings 23 = .ok (.iconst 0, 1) := by decide +kernel
theorem dX7_bestSlings_24 : decode cX7_bestSlings 24 = .ok (.istore 6, 2) := by decide +kernel
theorem dX7_bestSlings_26 : decode cX7_bestSlings 26 = .ok (.iconst 0, 1) := by decide +kernel
theorem dX7_bestSlings_27 : decode cX7_bestSlings 27 = .ok (.istore 7, 2) := by decide +kernel
theorem dX7_bestSlings_29 : decode cX7_bestSlings 29 = .ok (.iload 7, 2) := by decide +kernel
theorem dX7_bestSlings_31 : decode cX7_bestSlings 31 = .ok (.aload_n 0, 1) := by decide +kernel
theorem dX7_bestSlings_32 : decode cX7_bestSlings 32 = .ok (.getfield 9, 3) := by decide +kernel
theorem dX7_bestSlings_35 : decode cX7_bestSlings 35 = .ok (.if_icmp .ge 52, 3) := by decide +kernel
theorem dX7_bestSlings_38 : decode cX7_bestSlings 38 = .ok (.aload_n 0, 1) := by decide +kernel
theorem dX7_bestSlings_39 : decode cX7_bestSlings 39 = .ok (.aload_n 1, 1) := by decide +kernel
theorem dX7_bestSlings_40 : decode cX7_bestSlings 40 = .ok (.iload 7, 2) := by decide +kernel
theorem dX7_bestSlings_42 : decode cX7_bestSlings 42 = .ok (.invokevirtual 47, 3) := by decide +kernel
theorem dX7_bestSlings_45 : decode cX7_bestSlings 45 = .ok (.aload_n 0, 1) := by decide +kernel
theorem dX7_bestSlings_46 : decode cX7_bestSlings 46 = .ok (.aload_n 1, 1) := by decide +kernel
theorem dX7_bestSlings_47 : decode cX7_bestSlings 47 = .ok (.iload 7, 2) := by decide +kernel
theorem dX7_bestSlings_49 : decode cX7_bestSlings 49 = .ok (.invokevirtual 47, 3) := by decide +kernel
theorem dX7_bestSlings_52 : decode cX7_bestSlings 52 = .ok (.iconst 2, 1) := by decide +kernel
theorem dX7_bestSlings_53 : decode cX7_bestSlings 53 = .ok (.idiv, 1) := by decide +kernel
theorem dX7_bestSlings_54 : decode cX7_bestSlings 54 = .ok (.isub, 1) := by decide +kernel
theorem dX7_bestSlings_55 : decode cX7_bestSlings 55 = .ok (.istore 8, 2) := by decide +kernel
theorem dX7_bestSlings_57 : decode cX7_bestSlings 57 = .ok (.iload_n 3, 1) := by decide +kernel
theorem dX7_bestSlings_58 : decode cX7_bestSlings 58 = .ok (.iload 7, 2) := by decide +kernel
theorem dX7_bestSlings_60 : decode cX7_bestSlings 60 = .ok (.ishr, 1) := by decide +kernel
theorem dX7_bestSlings_61 : decode cX7_bestSlings 61 = .ok (.iconst 1, 1) := by decide +kernel
theorem dX7_bestSlings_62 : decode cX7_bestSlings 62 = .ok (.iand, 1) := by decide +kernel
theorem dX7_bestSlings_63 : decode cX7_bestSlings 63 = .ok (.ifCond .ne 18, 3) := by decide +kernel
theorem dX7_bestSlings_66 : decode cX7_bestSlings 66 = .ok (.iload 8, 2) := by decide +kernel
theorem dX7_bestSlings_68 : decode cX7_bestSlings 68 = .ok (.iload 6, 2) := by decide +kernel
theorem dX7_bestSlings_70 : decode cX7_bestSlings 70 = .ok (.if_icmp .le 11, 3) := by decide +kernel
theorem dX7_bestSlings_73 : decode cX7_bestSlings 73 = .ok (.iload 7, 2) := by decide +kernel
theorem dX7_bestSlings_75 : decode cX7_bestSlings 75 = .ok (.istore 5, 2) := by decide +kernel
theorem dX7_bestSlings_77 : decode cX7_bestSlings 77 = .ok (.iload 8, 2) := by decide +kernel
theorem dX7_bestSlings_79 : decode cX7_bestSlings 79 = .ok (.istore 6, 2) := by decide +kernel
theorem dX7_bestSlings_81 : decode cX7_bestSlings 81 = .ok (.iinc 7 1, 3) := by decide +kernel
theorem dX7_bestSlings_84 : decode cX7_bestSlings 84 = .ok (.goto (-55), 3) := by decide +kernel
theorem dX7_bestSlings_87 : decode cX7_bestSlings 87 = .ok (.iload 5, 2) := by decide +kernel
theorem dX7_bestSlings_89 : decode cX7_bestSlings 89 = .ok (.ifCond .lt 10, 3) := by decide +kernel
theorem dX7_bestSlings_92 : decode cX7_bestSlings 92 = .ok (.iload_n 3, 1) := by decide +kernel
theorem dX7_bestSlings_93 : decode cX7_bestSlings 93 = .ok (.iconst 1, 1) := by decide +kernel
theorem dX7_bestSlings_94 : decode cX7_bestSlings 94 = .ok (.iload 5, 2) := by decide +kernel
theorem dX7_bestSlings_96 : decode cX7_bestSlings 96 = .ok (.ishl, 1) := by decide +kernel
theorem dX7_bestSlings_97 : decode cX7_bestSlings 97 = .ok (.ior, 1) := by decide +kernel
theorem dX7_bestSlings_98 : decode cX7_bestSlings 98 = .ok (.istore_n 3, 1) := by decide +kernel
theorem dX7_bestSlings_99 : decode cX7_bestSlings 99 = .ok (.iinc 4 1, 3) := by decide +kernel
theorem dX7_bestSlings_102 : decode cX7_bestSlings 102 = .ok (.goto (-97), 3) := by decide +kernel
theorem dX7_bestSlings_105 : decode cX7_bestSlings 105 = .ok (.iload_n 3, 1) := by decide +kernel
theorem dX7_bestSlings_106 : decode cX7_bestSlings 106 = .ok (.ireturn, 1) := by decide +kernel
theorem dX7_isLifted_0 : decode cX7_isLifted 0 = .ok (.aload_n 0, 1) := by decide +kernel
theorem dX7_isLifted_1 : decode cX7_isLifted 1 = .ok (.aload_n 1, 1) := by decide +kernel
theorem dX7_isLifted_2 : decode cX7_isLifted 2 = .ok (.iload_n 2, 1) := by decide +kernel
theorem dX7_isLifted_3 : decode cX7_isLifted 3 = .ok (.iconst 1, 1) := by decide +kernel
theorem dX7_isLifted_4 : decode cX7_isLifted 4 = .ok (.isub, 1) := by decide +kernel
theorem dX7_isLifted_5 : decode cX7_isLifted 5 = .ok (.invokevirtual 37, 3) := by decide +kernel
theorem dX7_isLifted_8 : decode cX7_isLifted 8 = .ok (.aload_n 0, 1) := by decide +kernel
theorem dX7_isLifted_9 : decode cX7_isLifted 9 = .ok (.aload_n 1, 1) := by decide +kernel
theorem dX7_isLifted_10 : decode cX7_isLifted 10 = .ok (.iload_n 2, 1) := by decide +kernel
theorem dX7_isLifted_11 : decode cX7_isLifted 11 = .ok (.invokevirtual 37, 3) := by decide +kernel
theorem dX7_isLifted_14 : decode cX7_isLifted 14 = .ok (.isub, 1) := by decide +kernel
theorem dX7_isLifted_15 : decode cX7_isLifted 15 = .ok (.istore_n 3, 1) := by decide +kernel
theorem dX7_isLifted_16 : decode cX7_isLifted 16 = .ok (.aload_n 0, 1) := by decide +kernel
theorem dX7_isLifted_17 : decode cX7_isLifted 17 = .ok (.aload_n 1, 1) := by decide +kernel
theorem dX7_isLifted_18 : decode cX7_isLifted 18 = .ok (.iload_n 2, 1) := by decide +kernel
theorem dX7_isLifted_19 : decode cX7_isLifted 19 = .ok (.iconst 1, 1) := by decide +kernel
theorem dX7_isLifted_20 : decode cX7_isLifted 20 = .ok (.iadd, 1) := by decide +kernel
theorem dX7_isLifted_21 : decode cX7_isLifted 21 = .ok (.invokevirtual 37, 3) := by decide +kernel
theorem dX7_isLifted_24 : decode cX7_isLifted 24 = .ok (.aload_n 0, 1) := by decide +kernel
theorem dX7_isLifted_25 : decode cX7_isLifted 25 = .ok (.aload_n 1, 1) := by decide +kernel
theorem dX7_isLifted_26 : decode cX7_isLifted 26 = .ok (.iload_n 2, 1) := by decide +kernel
theorem dX7_isLifted_27 : decode cX7_isLifted 27 = .ok (.invokevirtual 37, 3) := by decide +kernel
theorem dX7_isLifted_30 : decode cX7_isLifted 30 = .ok (.isub, 1) := by decide +kernel
theorem dX7_isLifted_31 : decode cX7_isLifted 31 = .ok (.istore 4, 2) := by decide +kernel
theorem dX7_isLifted_33 : decode cX7_isLifted 33 = .ok (.iload_n 3, 1) := by decide +kernel
theorem dX7_isLifted_34 : decode cX7_isLifted 34 = .ok (.iconst 2, 1) := by decide +kernel
theorem dX7_isLifted_35 : decode cX7_isLifted 35 = .ok (.if_icmp .lt 9, 3) := by decide +kernel
theorem dX7_isLifted_38 : decode cX7_isLifted 38 = .ok (.iload 4, 2) := by decide +kernel
theorem dX7_isLifted_40 : decode cX7_isLifted 40 = .ok (.iconst 2, 1) := by decide +kernel
theorem dX7_isLifted_41 : decode cX7_isLifted 41 = .ok (.if_icmp .ge 16, 3) := by decide +kernel
theorem dX7_isLifted_44 : decode cX7_isLifted 44 = .ok (.iload_n 3, 1) := by decide +kernel
theorem dX7_isLifted_45 : decode cX7_isLifted 45 = .ok (.bipush (-2), 2) := by decide +kernel
theorem dX7_isLifted_47 : decode cX7_isLifted 47 = .ok (.if_icmp .gt 14, 3) := by decide +kernel
theorem dX7_isLifted_50 : decode cX7_isLifted 50 = .ok (.iload 4, 2) := by decide +kernel
theorem dX7_isLifted_52 : decode cX7_isLifted 52 = .ok (.bipush (-2), 2) := by decide +kernel
theorem dX7_isLifted_54 : decode cX7_isLifted 54 = .ok (.if_icmp .gt 7, 3) := by decide +kernel
theorem dX7_isLifted_57 : decode cX7_isLifted 57 = .ok (.iconst 1, 1) := by decide +kernel
theorem dX7_isLifted_58 : decode cX7_isLifted 58 = .ok (.goto 4, 3) := by decide +kernel
theorem dX7_isLifted_61 : decode cX7_isLifted 61 = .ok (.iconst 0, 1) := by decide +kernel
theorem dX7_isLifted_62 : decode cX7_isLifted 62 = .ok (.istore 5, 2) := by decide +kernel
theorem dX7_isLifted_64 : decode cX7_isLifted 64 = .ok (.iload 5, 2) := by decide +kernel
theorem dX7_isLifted_66 : decode cX7_isLifted 66 = .ok (.ifCond .eq 16, 3) := by decide +kernel
theorem dX7_isLifted_69 : decode cX7_isLifted 69 = .ok (.aload_n 0, 1) := by decide +kernel
theorem dX7_isLifted_70 : decode cX7_isLifted 70 = .ok (.getfield 22, 3) := by decide +kernel
theorem dX7_isLifted_73 : decode cX7_isLifted 73 = .ok (.iload_n 2, 1) := by decide +kernel
theorem dX7_isLifted_74 : decode cX7_isLifted 74 = .ok (.iaload, 1) := by decide +kernel
theorem dX7_isLifted_75 : decode cX7_isLifted 75 = .ok (.ifCond .ne 7, 3) := by decide +kernel
theorem dX7_isLifted_78 : decode cX7_isLifted 78 = .ok (.iconst 1, 1) := by decide +kernel
theorem dX7_isLifted_79 : decode cX7_isLifted 79 = .ok (.goto 4, 3) := by decide +kernel
theorem dX7_isLifted_82 : decode cX7_isLifted 82 = .ok (.iconst 0, 1) := by decide +kernel
theorem dX7_isLifted_83 : decode cX7_isLifted 83 = .ok (.ireturn, 1) := by decide +kernel
theorem dX7_liftedOf_0 : decode cX7_liftedOf 0 = .ok (.iconst 0, 1) := by decide +kernel
theorem dX7_liftedOf_1 : decode cX7_liftedOf 1 = .ok (.istore_n 2, 1) := by decide +kernel
theorem dX7_liftedOf_2 : decode cX7_liftedOf 2 = .ok (.iconst 0, 1) := by decide +kernel
theorem dX7_liftedOf_3 : decode cX7_liftedOf 3 = .ok (.istore_n 3, 1) := by decide +kernel
theorem dX7_liftedOf_4 : decode cX7_liftedOf 4 = .ok (.iload_n 3, 1) := by decide +kernel
theorem dX7_liftedOf_5 : decode cX7_liftedOf 5 = .ok (.aload_n 0, 1) := by decide +kernel
theorem dX7_liftedOf_6 : decode cX7_liftedOf 6 = .ok (.getfield 9, 3) := by decide +kernel
theorem dX7_liftedOf_9 : decode cX7_liftedOf 9 = .ok (.if_icmp .ge 24, 3) := by decide +kernel
theorem dX7_liftedOf_12 : decode cX7_liftedOf 12 = .ok (.aload_n 0, 1) := by decide +kernel
theorem dX7_liftedOf_13 : decode cX7_liftedOf 13 = .ok (.aload_n 1, 1) := by decide +kernel
theorem dX7_liftedOf_14 : decode cX7_liftedOf 14 = .ok (.iload_n 3, 1) := by decide +kernel
theorem dX7_liftedOf_15 : decode cX7_liftedOf 15 = .ok (.invokevirtual 53, 3) := by decide +kernel
theorem dX7_liftedOf_18 : decode cX7_liftedOf 18 = .ok (.ifCond .eq 9, 3) := by decide +kernel
theorem dX7_liftedOf_21 : decode cX7_liftedOf 21 = .ok (.iload_n 2, 1) := by decide +kernel
theorem dX7_liftedOf_22 : decode cX7_liftedOf 22 = .ok (.iconst 1, 1) := by decide +kernel
theorem dX7_liftedOf_23 : decode cX7_liftedOf 23 = .ok (.iload_n 3, 1) := by decide +kernel
theorem dX7_liftedOf_24 : decode cX7_liftedOf 24 = .ok (.ishl, 1) := by decide +kernel
theorem dX7_liftedOf_25 : decode cX7_liftedOf 25 = .ok (.ior, 1) := by decide +kernel
theorem dX7_liftedOf_26 : decode cX7_liftedOf 26 = .ok (.istore_n 2, 1) := by decide +kernel
theorem dX7_liftedOf_27 : decode cX7_liftedOf 27 = .ok (.iinc 3 1, 3) := by decide +kernel
theorem dX7_liftedOf_30 : decode cX7_liftedOf 30 = .ok (.goto (-26), 3) := by decide +kernel
theorem dX7_liftedOf_33 : decode cX7_liftedOf 33 = .ok (.iload_n 2, 1) := by decide +kernel
theorem dX7_liftedOf_34 : decode cX7_liftedOf 34 = .ok (.ireturn, 1) := by decide +kernel
abbrev q_X7_copyOf (o : Nat) (p : Nat) (σ : tw_M) : Option tw_V → tw_M → Prop := fun z τ => z = none ∧ tw_I τ ∧ tw_F (fun c j => (o ≤ c ∧ c < o + 4)) σ τ ∧ (∀ gg qq : Nat → Int, RG p gg qq σ → RG o gg qq τ) ∧ (τ o 0 = σ p 0) ∧ (∀ x j : Nat, 1 ≤ x → x < 4 → j < 10 → τ (o + x) j = σ (p + x) j)
set_option maxHeartbeats 4000000 in
set_option maxRecDepth 100000 in
theorem l_X7_copyOf {G : tw_G} (o : Nat) (ho : IsRow G o) (p : Nat) (hp : IsRow G p) (σ : tw_M) (hI : tw_I σ) (hq0 : o + 4 ≤ p ∨ p + 4 ≤ o) : ∀ N_ : Nat, (∀ (k : Int) (hk : 0 ≤ k ∧ k ≤ 10) (τ : tw_M) (hIτ : tw_I τ) (hFτ : tw_F (fun c j => (o ≤ c ∧ c < o + 4)) σ τ) (i0 : τ o 0 = σ p 0) (i1 : Cn (o + 1) (σ (p + 1)) τ k) (i2 : Cn (o + 2) (σ (p + 2)) τ k) (i3 : Cn (o + 3) (σ (p + 3)) τ k) (hm : (10 - k).toNat < N_), tw_J G (tw_mt RX7 cX7_copyOf 3 none 0) (tw_E G (q_X7_copyOf o p σ)) 10 [(0, vR o), (1, vR p), (2, vI k)] [] τ) := by
  intro N_
  induction N_ with
  | zero => exact fun k hk τ hIτ hFτ i0 i1 i2 i3 hm => absurd hm (Nat.not_lt_zero _)
  | succ N_ ih =>
    intro k hk τ hIτ hFτ i0 i1 i2 i3 hm
    refine j_iload_n (pc := 10) dX7_copyOf_10 rfl rfl ?_
    refine j_bipush (pc := 11) dX7_copyOf_11 rfl ?_
    refine j_icmpR_ge (pc := 13) (tgt := 58) ⟨by omega, by omega⟩ ⟨by omega, by omega⟩ dX7_copyOf_13 rfl (fun h1 => ?_) (fun h1 => ?_)
    · exact j_vret (pc := 58) ⟨rfl, rfl⟩ dX7_copyOf_58 rfl ⟨rfl, hIτ, hFτ, (fun gg qq H => RG_copy H i0 (fun x j x1 x2 x3 => by rcases (show x = 1 ∨ x = 2 ∨ x = 3 by omega) with q | q | q <;> subst q; (exact i1 j (by omega)); (exact i2 j (by omega)); (exact i3 j (by omega)))), i0, (fun x j x1 x2 x3 => by rcases (show x = 1 ∨ x = 2 ∨ x = 3 by omega) with q | q | q <;> subst q; (exact i1 j (by omega)); (exact i2 j (by omega)); (exact i3 j (by omega)))⟩
    · refine j_aload_n (pc := 16) dX7_copyOf_16 rfl rfl ?_
      refine j_getR (pc := 17) (r := o + 1) fl_X7_15 dX7_copyOf_17 ho.1.1 rfl ?_
      refine j_iload_n (pc := 20) dX7_copyOf_20 rfl rfl ?_
      refine j_aload_n (pc := 21) dX7_copyOf_21 rfl rfl ?_
      refine j_getR (pc := 22) (r := p + 1) fl_X7_15 dX7_copyOf_22 hp.1.1 rfl ?_
      refine j_iload_n (pc := 25) dX7_copyOf_25 rfl rfl ?_
      refine j_iald (pc := 26) dX7_copyOf_26 hp.1.2.1 (by omega) (by omega) (by decide) ?_
      have f2 : (0 : Int) ≤ τ (p + 1) (k.toNat) ∧ τ (p + 1) (k.toNat) ≤ 40 := tw_Ig hp.2.2.1 hIτ (k.toNat)
      refine j_iast (pc := 27) dX7_copyOf_27 ho.1.2.1 (by omega) (by omega) (by decide) (j_nm (fun σ3 (eσ3 : σ3 = tw_up τ (o + 1) (k.toNat) (τ (p + 1) (k.toNat))) => ?_))
      have hIσ3 : tw_I σ3 := tw_I_upg hIτ eσ3 ho.2.2.1 (show (0 : Int) ≤ τ (p + 1) (k.toNat) ∧ τ (p + 1) (k.toNat) ≤ 40 from ⟨by omega, by omega⟩)
      have hFσ3 : tw_F (fun c j => (o ≤ c ∧ c < o + 4)) σ σ3 := tw_F_up hFτ eσ3 (show (o ≤ o + 1 ∧ o + 1 < o + 4) from ⟨Nat.le_add_right _ _, (Nat.add_lt_add_left (by decide) _)⟩)
      refine j_aload_n (pc := 28) dX7_copyOf_28 rfl rfl ?_
      refine j_getR (pc := 29) (r := o + 2) fl_X7_19 dX7_copyOf_29 ho.1.1 rfl ?_
      refine j_iload_n (pc := 32) dX7_copyOf_32 rfl rfl ?_
      refine j_aload_n (pc := 33) dX7_copyOf_33 rfl rfl ?_
      refine j_getR (pc := 34) (r := p + 2) fl_X7_19 dX7_copyOf_34 hp.1.1 rfl ?_
      refine j_iload_n (pc := 37) dX7_copyOf_37 rfl rfl ?_
      refine j_iald (pc := 38) dX7_copyOf_38 hp.1.2.2.1 (by omega) (by omega) (by decide) ?_
      refine j_topV (show σ3 (p + 2) (k.toNat) = τ (p + 2) (k.toNat) from (tw_ne1 eσ3 (by (first | decide | omega)))) ?_
      have f4 : (0 : Int) ≤ τ (p + 2) (k.toNat) ∧ τ (p + 2) (k.toNat) ≤ 10 := tw_Ig hp.2.2.2.1 hIτ (k.toNat)
      refine j_iast (pc := 39) dX7_copyOf_39 ho.1.2.2.1 (by omega) (by omega) (by decide) (j_nm (fun σ5 (eσ5 : σ5 = tw_up σ3 (o + 2) (k.toNat) (τ (p + 2) (k.toNat))) => ?_))
      have hIσ5 : tw_I σ5 := tw_I_upg hIσ3 eσ5 ho.2.2.2.1 (show (0 : Int) ≤ τ (p + 2) (k.toNat) ∧ τ (p + 2) (k.toNat) ≤ 10 from ⟨by omega, by omega⟩)
      have hFσ5 : tw_F (fun c j => (o ≤ c ∧ c < o + 4)) σ σ5 := tw_F_up hFσ3 eσ5 (show (o ≤ o + 2 ∧ o + 2 < o + 4) from ⟨Nat.le_add_right _ _, (Nat.add_lt_add_left (by decide) _)⟩)
      refine j_aload_n (pc := 40) dX7_copyOf_40 rfl rfl ?_
      refine j_getR (pc := 41) (r := o + 3) fl_X7_22 dX7_copyOf_41 ho.1.1 rfl ?_
      refine j_iload_n (pc := 44) dX7_copyOf_44 rfl rfl ?_
      refine j_aload_n (pc := 45) dX7_copyOf_45 rfl rfl ?_
      refine j_getR (pc := 46) (r := p + 3) fl_X7_22 dX7_copyOf_46 hp.1.1 rfl ?_
      refine j_iload_n (pc := 49) dX7_copyOf_49 rfl rfl ?_
      refine j_iald (pc := 50) dX7_copyOf_50 hp.1.2.2.2 (by omega) (by omega) (by decide) ?_
      refine j_topV (show σ5 (p + 3) (k.toNat) = τ (p + 3) (k.toNat) from ((tw_ne1 eσ5 (by (first | decide | omega)))).trans (tw_ne1 eσ3 (by (first | decide | omega)))) ?_
      have f6 : (0 : Int) ≤ τ (p + 3) (k.toNat) ∧ τ (p + 3) (k.toNat) ≤ 1 := tw_Ig hp.2.2.2.2 hIτ (k.toNat)
      refine j_iast (pc := 51) dX7_copyOf_51 ho.1.2.2.2 (by omega) (by omega) (by decide) (j_nm (fun σ7 (eσ7 : σ7 = tw_up σ5 (o + 3) (k.toNat) (τ (p + 3) (k.toNat))) => ?_))
      have hIσ7 : tw_I σ7 := tw_I_upg hIσ5 eσ7 ho.2.2.2.2 (show (0 : Int) ≤ τ (p + 3) (k.toNat) ∧ τ (p + 3) (k.toNat) ≤ 1 from ⟨by omega, by omega⟩)
      have hFσ7 : tw_F (fun c j => (o ≤ c ∧ c < o + 4)) σ σ7 := tw_F_up hFσ5 eσ7 (show (o ≤ o + 3 ∧ o + 3 < o + 4) from ⟨Nat.le_add_right _ _, (Nat.add_lt_add_left (by decide) _)⟩)
      refine j_iinc (pc := 52) (i := 2) (n := 1) (ls' := [(0, vR o), (1, vR p), (2, vI (k + 1))]) [1, 2, 0] dX7_copyOf_52 rfl (Nat.le_of_ble_eq_true rfl) rfl rfl ?_
      refine j_goto (pc := 55) (tgt := 10) dX7_copyOf_55 rfl ?_
      refine j_ls (ls' := [(0, vR o), (1, vR p), (2, vI (k + 1))]) [0, 1, 2] rfl ?_
      have y8 : σ7 o 0 = τ o 0 := (((tw_ne1 eσ7 (by (first | decide | omega)))).trans (tw_ne1 eσ5 (by (first | decide | omega)))).trans (tw_ne1 eσ3 (by (first | decide | omega)))
      have f9 : (0 : Int) ≤ τ o 0 ∧ τ o 0 ≤ 10 := tw_Ig ho.2.1 hIτ 0
      exact ih (k + 1) ⟨by omega, by omega⟩ σ7 hIσ7 hFσ7 (show σ7 o 0 = σ p 0 from by omega) (show Cn (o + 1) (σ (p + 1)) σ7 (k + 1) from (by first | exact Cn_0 | exact Cn_F (fun j => (tw_ne1 eσ7 (by (first | decide | omega))).trans (tw_ne1 eσ5 (by (first | decide | omega)))) (Cn_up eσ3 (by omega) i1 (hFτ (p + 1) _ (show ¬ ((o ≤ p + 1 ∧ p + 1 < o + 4)) from by omega)) (by omega)))) (show Cn (o + 2) (σ (p + 2)) σ7 (k + 1) from (by first | exact Cn_0 | exact Cn_F (fun j => tw_ne1 eσ7 (by (first | decide | omega))) (Cn_up eσ5 (by omega) (Cn_F (fun j => tw_ne1 eσ3 (by (first | decide | omega))) i2) (hFτ (p + 2) _ (show ¬ ((o ≤ p + 2 ∧ p + 2 < o + 4)) from by omega)) (by omega)))) (show Cn (o + 3) (σ (p + 3)) σ7 (k + 1) from (by first | exact Cn_0 | exact Cn_up eσ7 (by omega) (Cn_F (fun j => (tw_ne1 eσ5 (by (first | decide | omega))).trans (tw_ne1 eσ3 (by (first | decide | omega)))) i3) (hFτ (p + 3) _ (show ¬ ((o ≤ p + 3 ∧ p + 3 < o + 4)) from by omega)) (by omega))) (show (10 - (k + 1)).toNat < N_ from by omega)
set_option maxHeartbeats 4000000 in
set_option maxRecDepth 100000 in
theorem c_X7_copyOf {G : tw_G} (o : Nat) (ho : IsRow G o) (p : Nat) (hp : IsRow G p) (σ : tw_M) (hI : tw_I σ) (hq0 : o + 4 ≤ p ∨ p + 4 ≤ o) : tw_C G yX7_copyOf cX7_copyOf 3 none 0 [vR o, vR p] σ (q_X7_copyOf o p σ) := by
  refine tw_met [(0, vR o), (1, vR p)] (by decide +kernel) rfl (Nat.le_of_ble_eq_true rfl) ?_
  refine j_aload_n (pc := 0) dX7_copyOf_0 rfl rfl ?_
  refine j_aload_n (pc := 1) dX7_copyOf_1 rfl rfl ?_
  refine j_getI (pc := 2) fl_X7_9 dX7_copyOf_2 hp.1.1 rfl ?_
  have f10 : (0 : Int) ≤ σ p 0 ∧ σ p 0 ≤ 10 := tw_Ig hp.2.1 hI 0
  refine j_putI (pc := 5) fl_X7_9 fp_X7_0 dX7_copyOf_5 ho.1.1 rfl (j_nm (fun σ11 (eσ11 : σ11 = tw_up σ o 0 (σ p 0)) => ?_))
  have hIσ11 : tw_I σ11 := tw_I_upg hI eσ11 ho.2.1 (show (0 : Int) ≤ σ p 0 ∧ σ p 0 ≤ 10 from ⟨by omega, by omega⟩)
  have hFσ11 : tw_F (fun c j => (o ≤ c ∧ c < o + 4)) σ σ11 := tw_F_up (tw_F_rf) eσ11 (show (o ≤ o ∧ o < o + 4) from ⟨Nat.le_refl _, (Nat.lt_add_of_pos_right (by decide))⟩)
  refine j_iconst (pc := 8) dX7_copyOf_8 ?_
  refine j_istore_n (pc := 9) (i := 2) (ls' := [(0, vR o), (1, vR p), (2, vI 0)]) [1, 2, 0] dX7_copyOf_9 rfl (Nat.le_of_ble_eq_true rfl) rfl rfl ?_
  refine j_ls (ls' := [(0, vR o), (1, vR p), (2, vI 0)]) [0, 1, 2] rfl ?_
  have y12 : σ11 o 0 = σ p 0 := (tw_eq1 eσ11)
  exact (l_X7_copyOf o ho p hp σ hI hq0 (((10 - (0 : Int)).toNat) + 1)) 0 (by (first | decide | exact ⟨by omega, by omega⟩)) σ11 hIσ11 hFσ11 (show σ11 o 0 = σ p 0 from by omega) (show Cn (o + 1) (σ (p + 1)) σ11 (0 : Int) from (by first | exact Cn_0 | exact Cn_F (fun j => (tw_ne1 eσ11 (by (first | decide | omega))).trans (tw_ne1 _ (by omega))) (Cn_up _ (by omega) i1 (hFτ (p + 1) _ (show ¬ ((o ≤ p + 1 ∧ p + 1 < o + 4)) from by omega)) (by omega)))) (show Cn (o + 2) (σ (p + 2)) σ11 (0 : Int) from (by first | exact Cn_0 | exact Cn_F (fun j => tw_ne1 eσ11 (by (first | decide | omega))) (Cn_up _ (by omega) (Cn_F (fun j => tw_ne1 _ (by omega)) i2) (hFτ (p + 2) _ (show ¬ ((o ≤ p + 2 ∧ p + 2 < o + 4)) from by omega)) (by omega)))) (show Cn (o + 3) (σ (p + 3)) σ11 (0 : Int) from (by first | exact Cn_0 | exact Cn_up eσ11 (by omega) (Cn_F (fun j => (tw_ne1 _ (by omega)).trans (tw_ne1 _ (by omega))) i3) (hFτ (p + 3) _ (show ¬ ((o ≤ p + 3 ∧ p + 3 < o + 4)) from by omega)) (by omega))) (Nat.lt_succ_self _)
abbrev q_X7_all (o : Nat) (σ : tw_M) : Option tw_V → tw_M → Prop := fun z τ => ∃ r : Int, z = some (vI r) ∧ (0 ≤ r ∧ r ≤ 1023) ∧ σ = τ ∧ (r = pt (σ o 0) - 1)
set_option maxHeartbeats 4000000 in
set_option maxRecDepth 100000 in
theorem c_X7_all {G : tw_G} (o : Nat) (ho : IsRow G o) (σ : tw_M) (hI : tw_I σ) : tw_C G yX7_all cX7_all 1 (some .int) 0 [vR o] σ (q_X7_all o σ) := by
  refine tw_met [(0, vR o)] (by decide +kernel) rfl (Nat.le_of_ble_eq_true rfl) ?_
  refine j_iconst (pc := 0) dX7_all_0 ?_
  refine j_aload_n (pc := 1) dX7_all_1 rfl rfl ?_
  refine j_getI (pc := 2) fl_X7_9 dX7_all_2 ho.1.1 rfl ?_
  have f1 : (0 : Int) ≤ σ o 0 ∧ σ o 0 ≤ 10 := tw_Ig ho.2.1 hI 0
  refine j_ishl (pc := 5) dX7_all_5 (fun z2 ez2 => ?_)
  have hz2 : (-2147483648 : Int) ≤ z2 ∧ z2 ≤ 2147483647 := by rw [ez2]; exact shl_in _ _
  have gz2 : (1 : Int) ≤ z2 ∧ z2 ≤ 1024 := (by rw [ez2, pt_shl ⟨by omega, by omega⟩]; exact ⟨(pt_10 ⟨by omega, by omega⟩).1, (pt_10 ⟨by omega, by omega⟩).2.1⟩)
  have t1 := ez2
  refine j_iconst (pc := 6) dX7_all_6 ?_
  refine j_isub (pc := 7) dX7_all_7 ?_
  exact j_iret (pc := 8) ⟨rfl, rfl⟩ dX7_all_8 rfl ⟨_, rfl, ⟨by omega, by omega⟩, rfl, (by rw [← pt_shl (k := σ o 0) ⟨by omega, by omega⟩, ← t1])⟩
abbrev q_X7_has (o : Nat) (b : Int) (σ : tw_M) : Option tw_V → tw_M → Prop := fun z τ => ∃ r : Int, z = some (vI r) ∧ (0 ≤ r ∧ r ≤ 1) ∧ σ = τ ∧ True
set_option maxHeartbeats 4000000 in
set_option maxRecDepth 100000 in
theorem c_X7_has {G : tw_G} (o : Nat) (ho : IsRow G o) (b : Int) (hb : -2147483648 ≤ b ∧ b ≤ 2147483647) (σ : tw_M) (hI : tw_I σ) : tw_C G yX7_has cX7_has 2 (some .boolean) 1 [vR o, vI b] σ (q_X7_has o b σ) := by
  refine tw_met [(0, vR o), (1, vI b)] (by decide +kernel) rfl (Nat.le_of_ble_eq_true rfl) ?_
  refine j_iload_n (pc := 0) dX7_has_0 rfl rfl ?_
  refine j_aload_n (pc := 1) dX7_has_1 rfl rfl ?_
  refine j_callV (pc := 2) (As := []) (st := [vI b]) (c_X7_all o ho σ hI) mv_X7_25 rfl rfl rfl ho.1.1 dX7_has_2 ⟨Nat.le_of_ble_eq_true rfl, Nat.le_of_ble_eq_true rfl⟩ ⟨Nat.le_refl _, Nat.le_refl _⟩ rfl (Nat.le_of_ble_eq_true rfl) rfl (fun z1 σ2 hz1 => ?_)
  obtain ⟨r4, rfl, hr4, rfl, q3_0⟩ := hz1
  replace q3_0 : r4 = pt (σ o 0) - 1 := q3_0
  refine j_st (st' := [vI r4, vI b]) rfl ?_
  refine j_iconst (pc := 5) dX7_has_5 ?_
  refine j_ixor (pc := 6) dX7_has_6 (fun z5 ez5 => ?_)
  have hz5 : (-2147483648 : Int) ≤ z5 ∧ z5 ≤ 2147483647 := by rw [ez5]; exact xor_in _ _
  refine j_iand (pc := 7) dX7_has_7 (fun z6 ez6 => ?_)
  have hz6 : (-2147483648 : Int) ≤ z6 ∧ z6 ≤ 2147483647 := by rw [ez6]; exact and_in _ _
  refine j_ifR_ne (pc := 8) (tgt := 15) ⟨by omega, by omega⟩ dX7_has_8 rfl (fun h7 => ?_) (fun h7 => ?_)
  · refine j_iconst (pc := 15) dX7_has_15 ?_
    exact j_zret (pc := 16) ⟨rfl, rfl⟩ dX7_has_16 rfl (nar_bool (by omega) (by omega)) ⟨_, rfl, ⟨by omega, by omega⟩, rfl, trivial⟩
  · refine j_iconst (pc := 11) dX7_has_11 ?_
    refine j_goto (pc := 12) (tgt := 16) dX7_has_12 rfl ?_
    exact j_zret (pc := 16) ⟨rfl, rfl⟩ dX7_has_16 rfl (nar_bool (by omega) (by omega)) ⟨_, rfl, ⟨by omega, by omega⟩, rfl, trivial⟩
abbrev q_X7_at (o : Nat) (h : Int) (σ : tw_M) : Option tw_V → tw_M → Prop := fun z τ => ∃ r : Int, z = some (vI r) ∧ (-4 ≤ r ∧ r ≤ 9) ∧ σ = τ ∧ (r < σ o 0) ∧ (-1 < r ∨ r = -4) ∧ ((0 ≤ r ∧ r < σ o 0 ∧ σ (o + 1) r.toNat = h) ∨ (r = -4 ∧ ∀ k : Nat, (k : Int) < σ o 0 → ¬ σ (o + 1) k = h))
set_option maxHeartbeats 4000000 in
set_option maxRecDepth 100000 in
theorem l_X7_at {G : tw_G} (o : Nat) (ho : IsRow G o) (h : Int) (hh : -2147483648 ≤ h ∧ h ≤ 2147483647) (σ : tw_M) (hI : tw_I σ) : ∀ N_ : Nat, (∀ (k : Int) (hk : 0 ≤ k ∧ k ≤ 10) (i0 : ∀ j : Nat, (j : Int) < k → ¬ σ (o + 1) j = h) (hm : (10 - k).toNat < N_), tw_J G (tw_mt RX7 cX7_at 3 (some .int) 0) (tw_E G (q_X7_at o h σ)) 2 [(0, vR o), (1, vI h), (2, vI k)] [] σ) := by
  intro N_
  induction N_ with
  | zero => exact fun k hk i0 hm => absurd hm (Nat.not_lt_zero _)
  | succ N_ ih =>
    intro k hk i0 hm
    refine j_iload_n (pc := 2) dX7_at_2 rfl rfl ?_
    refine j_aload_n (pc := 3) dX7_at_3 rfl rfl ?_
    refine j_getI (pc := 4) fl_X7_9 dX7_at_4 ho.1.1 rfl ?_
    have f1 : (0 : Int) ≤ σ o 0 ∧ σ o 0 ≤ 10 := tw_Ig ho.2.1 hI 0
    refine j_icmpR_ge (pc := 7) (tgt := 28) ⟨by omega, by omega⟩ ⟨by omega, by omega⟩ dX7_at_7 rfl (fun h2 => ?_) (fun h2 => ?_)
    · refine j_bipush (pc := 28) dX7_at_28 rfl ?_
      exact j_iret (pc := 30) ⟨rfl, rfl⟩ dX7_at_30 rfl ⟨_, rfl, ⟨by omega, by omega⟩, rfl, by omega, by omega, (by first | exact Or.inl ⟨by omega, by omega, by omega⟩ | exact Or.inr ⟨rfl, fun j hj => i0 j (by omega)⟩)⟩
    · refine j_aload_n (pc := 10) dX7_at_10 rfl rfl ?_
      refine j_getR (pc := 11) (r := o + 1) fl_X7_15 dX7_at_11 ho.1.1 rfl ?_
      refine j_iload_n (pc := 14) dX7_at_14 rfl rfl ?_
      refine j_iald (pc := 15) dX7_at_15 ho.1.2.1 (by omega) (by omega) (by decide) ?_
      have f3 : (0 : Int) ≤ σ (o + 1) (k.toNat) ∧ σ (o + 1) (k.toNat) ≤ 40 := tw_Ig ho.2.2.1 hI (k.toNat)
      refine j_iload_n (pc := 16) dX7_at_16 rfl rfl ?_
      refine j_icmpR_ne (pc := 17) (tgt := 22) ⟨by omega, by omega⟩ ⟨by omega, by omega⟩ dX7_at_17 rfl (fun h4 => ?_) (fun h4 => ?_)
      · refine j_iinc (pc := 22) (i := 2) (n := 1) (ls' := [(0, vR o), (1, vI h), (2, vI (k + 1))]) [1, 2, 0] dX7_at_22 rfl (Nat.le_of_ble_eq_true rfl) rfl rfl ?_
        refine j_goto (pc := 25) (tgt := 2) dX7_at_25 rfl ?_
        refine j_ls (ls' := [(0, vR o), (1, vI h), (2, vI (k + 1))]) [0, 1, 2] rfl ?_
        exact ih (k + 1) ⟨by omega, by omega⟩ (show ∀ j : Nat, (j : Int) < (k + 1) → ¬ σ (o + 1) j = h from (by first | exact (fun j hj => by exfalso; omega) | exact (fun j hj => by rcases (show (j : Int) < k ∨ j = k.toNat by omega) with z | z; (exact i0 j z); (rw [z]; omega)))) (show (10 - (k + 1)).toNat < N_ from by omega)
      · refine j_iload_n (pc := 20) dX7_at_20 rfl rfl ?_
        exact j_iret (pc := 21) ⟨rfl, rfl⟩ dX7_at_21 rfl ⟨_, rfl, ⟨by omega, by omega⟩, rfl, by omega, by omega, (by first | exact Or.inl ⟨by omega, by omega, by omega⟩ | exact Or.inr ⟨rfl, fun j hj => i0 j (by omega)⟩)⟩
set_option maxHeartbeats 4000000 in
set_option maxRecDepth 100000 in
theorem c_X7_at {G : tw_G} (o : Nat) (ho : IsRow G o) (h : Int) (hh : -2147483648 ≤ h ∧ h ≤ 2147483647) (σ : tw_M) (hI : tw_I σ) : tw_C G yX7_at cX7_at 3 (some .int) 0 [vR o, vI h] σ (q_X7_at o h σ) := by
  refine tw_met [(0, vR o), (1, vI h)] (by decide +kernel) rfl (Nat.le_of_ble_eq_true rfl) ?_
  refine j_iconst (pc := 0) dX7_at_0 ?_
  refine j_istore_n (pc := 1) (i := 2) (ls' := [(0, vR o), (1, vI h), (2, vI 0)]) [1, 2, 0] dX7_at_1 rfl (Nat.le_of_ble_eq_true rfl) rfl rfl ?_
  refine j_ls (ls' := [(0, vR o), (1, vI h), (2, vI 0)]) [0, 1, 2] rfl ?_
  exact (l_X7_at o ho h hh σ hI (((10 - (0 : Int)).toNat) + 1)) 0 (by (first | decide | exact ⟨by omega, by omega⟩)) (show ∀ j : Nat, (j : Int) < (0 : Int) → ¬ σ (o + 1) j = h from (by first | exact (fun j hj => by exfalso; omega) | exact (fun j hj => by rcases (show (j : Int) < k ∨ j = k.toNat by omega) with z | z; (exact i0 j z); (rw [z]; omega)))) (Nat.lt_succ_self _)
abbrev q_X7_firstFrom (o : Nat) (h : Int) (σ : tw_M) : Option tw_V → tw_M → Prop := fun z τ => ∃ r : Int, z = some (vI r) ∧ (0 ≤ r ∧ r ≤ 10) ∧ σ = τ ∧ (∀ gg qq : Nat → Int, RG o gg qq σ → 1 ≤ h → r = cnt gg (h - 1).toNat)
set_option maxHeartbeats 4000000 in
set_option maxRecDepth 100000 in
theorem l_X7_firstFrom {G : tw_G} (o : Nat) (ho : IsRow G o) (h : Int) (hh : -2147483648 ≤ h ∧ h ≤ 2147483647) (σ : tw_M) (hI : tw_I σ) : ∀ N_ : Nat, (∀ (k : Int) (hk : 0 ≤ k ∧ k ≤ 10) (i0 : k ≤ σ o 0) (i1 : ∀ j : Nat, k ≤ (j : Int) → (j : Int) < σ o 0 → h ≤ σ (o + 1) j) (hm : k.toNat < N_), tw_J G (tw_mt RX7 cX7_firstFrom 3 (some .int) 0) (tw_E G (q_X7_firstFrom o h σ)) 5 [(0, vR o), (1, vI h), (2, vI k)] [] σ) := by
  intro N_
  induction N_ with
  | zero => exact fun k hk i0 i1 hm => absurd hm (Nat.not_lt_zero _)
  | succ N_ ih =>
    intro k hk i0 i1 hm
    refine j_iload_n (pc := 5) dX7_firstFrom_5 rfl rfl ?_
    refine j_ifR_le (pc := 6) (tgt := 27) ⟨by omega, by omega⟩ dX7_firstFrom_6 rfl (fun h1 => ?_) (fun h1 => ?_)
    · refine j_iload_n (pc := 27) dX7_firstFrom_27 rfl rfl ?_
      exact j_iret (pc := 28) ⟨rfl, rfl⟩ dX7_firstFrom_28 rfl ⟨_, rfl, ⟨by omega, by omega⟩, rfl, (fun gg qq H e0 => FF_end H ⟨by omega, by omega⟩ e0 i1 (by omega))⟩
    · refine j_aload_n (pc := 9) dX7_firstFrom_9 rfl rfl ?_
      refine j_getR (pc := 10) (r := o + 1) fl_X7_15 dX7_firstFrom_10 ho.1.1 rfl ?_
      refine j_iload_n (pc := 13) dX7_firstFrom_13 rfl rfl ?_
      refine j_iconst (pc := 14) dX7_firstFrom_14 ?_
      refine j_isub (pc := 15) dX7_firstFrom_15 ?_
      refine j_iald (pc := 16) dX7_firstFrom_16 ho.1.2.1 (by omega) (by omega) (by decide) ?_
      have f2 : (0 : Int) ≤ σ (o + 1) ((k - 1).toNat) ∧ σ (o + 1) ((k - 1).toNat) ≤ 40 := tw_Ig ho.2.2.1 hI ((k - 1).toNat)
      refine j_iload_n (pc := 17) dX7_firstFrom_17 rfl rfl ?_
      refine j_icmpR_lt (pc := 18) (tgt := 27) ⟨by omega, by omega⟩ ⟨by omega, by omega⟩ dX7_firstFrom_18 rfl (fun h3 => ?_) (fun h3 => ?_)
      · refine j_iload_n (pc := 27) dX7_firstFrom_27 rfl rfl ?_
        exact j_iret (pc := 28) ⟨rfl, rfl⟩ dX7_firstFrom_28 rfl ⟨_, rfl, ⟨by omega, by omega⟩, rfl, (fun gg qq H e0 => FF_end H ⟨by omega, by omega⟩ e0 i1 (by omega))⟩
      · refine j_iinc (pc := 21) (i := 2) (n := -1) (ls' := [(0, vR o), (1, vI h), (2, vI (k + (-1)))]) [1, 2, 0] dX7_firstFrom_21 rfl (Nat.le_of_ble_eq_true rfl) rfl rfl ?_
        refine j_goto (pc := 24) (tgt := 5) dX7_firstFrom_24 rfl ?_
        refine j_ls (ls' := [(0, vR o), (1, vI h), (2, vI (k + (-1)))]) [0, 1, 2] rfl ?_
        exact ih (k + (-1)) ⟨by omega, by omega⟩ (show (k + (-1)) ≤ σ o 0 from by omega) (show ∀ j : Nat, (k + (-1)) ≤ (j : Int) → (j : Int) < σ o 0 → h ≤ σ (o + 1) j from (by first | exact (fun j h1 h2 => by exfalso; omega) | exact (fun j h1 h2 => by rcases (show k ≤ (j : Int) ∨ j = (k - 1).toNat by omega) with z | z; (exact i1 j z h2); (rw [z]; omega)))) (show (k + (-1)).toNat < N_ from by omega)
set_option maxHeartbeats 4000000 in
set_option maxRecDepth 100000 in
theorem c_X7_firstFrom {G : tw_G} (o : Nat) (ho : IsRow G o) (h : Int) (hh : -2147483648 ≤ h ∧ h ≤ 2147483647) (σ : tw_M) (hI : tw_I σ) : tw_C G yX7_firstFrom cX7_firstFrom 3 (some .int) 0 [vR o, vI h] σ (q_X7_firstFrom o h σ) := by
  refine tw_met [(0, vR o), (1, vI h)] (by decide +kernel) rfl (Nat.le_of_ble_eq_true rfl) ?_
  refine j_aload_n (pc := 0) dX7_firstFrom_0 rfl rfl ?_
  refine j_getI (pc := 1) fl_X7_9 dX7_firstFrom_1 ho.1.1 rfl ?_
  have f4 : (0 : Int) ≤ σ o 0 ∧ σ o 0 ≤ 10 := tw_Ig ho.2.1 hI 0
  refine j_istore_n (pc := 4) (i := 2) (ls' := [(0, vR o), (1, vI h), (2, vI (σ o 0))]) [1, 2, 0] dX7_firstFrom_4 rfl (Nat.le_of_ble_eq_true rfl) rfl rfl ?_
  refine j_ls (ls' := [(0, vR o), (1, vI h), (2, vI (σ o 0))]) [0, 1, 2] rfl ?_
  exact (l_X7_firstFrom o ho h hh σ hI (((σ o 0).toNat) + 1)) (σ o 0) ⟨by omega, by omega⟩ (show (σ o 0) ≤ σ o 0 from by omega) (show ∀ j : Nat, (σ o 0) ≤ (j : Int) → (j : Int) < σ o 0 → h ≤ σ (o + 1) j from (by first | exact (fun j h1 h2 => by exfalso; omega) | exact (fun j h1 h2 => by rcases (show k ≤ (j : Int) ∨ j = (k - 1).toNat by omega) with z | z; (exact i1 j z h2); (rw [z]; omega)))) (Nat.lt_succ_self _)
abbrev q_X7_insert (o : Nat) (h : Int) (s : Int) (σ : tw_M) : Option tw_V → tw_M → Prop := fun z τ => ∃ r : Int, z = some (vI r) ∧ (-4 ≤ r ∧ r ≤ 9) ∧ tw_I τ ∧ tw_F (fun c j => (o ≤ c ∧ c < o + 4)) σ τ ∧ (∀ gg qq : Nat → Int, RG o gg qq σ → gg h.toNat = 0 → 1 ≤ h → 1 ≤ s → σ o 0 < 10 → RG o (pg gg h.toNat s) (pg qq h.toNat 0) τ ∧ r = cnt gg h.toNat)
set_option maxHeartbeats 4000000 in
set_option maxRecDepth 100000 in
theorem l_X7_insert {G : tw_G} (o : Nat) (ho : IsRow G o) (h : Int) (hh : 0 ≤ h ∧ h ≤ 40) (s : Int) (hs : 0 ≤ s ∧ s ≤ 10) (σ : tw_M) (hI : tw_I σ) : ∀ N_ : Nat, (∀ (k : Int) (hk : 0 ≤ k ∧ k ≤ 9) (τ : tw_M) (hIτ : tw_I τ) (hFτ : tw_F (fun c j => (o ≤ c ∧ c < o + 4)) σ τ) (i0 : τ o 0 ≤ 9) (i1 : InI o h k σ τ) (hm : k.toNat < N_), tw_J G (tw_mt RX7 cX7_insert 4 (some .int) 0) (tw_E G (q_X7_insert o h s σ)) 17 [(0, vR o), (1, vI h), (2, vI s), (3, vI k)] [] τ) := by
  intro N_
  induction N_ with
  | zero => exact fun k hk τ hIτ hFτ i0 i1 hm => absurd hm (Nat.not_lt_zero _)
  | succ N_ ih =>
    intro k hk τ hIτ hFτ i0 i1 hm
    refine j_iload_n (pc := 17) dX7_insert_17 rfl rfl ?_
    refine j_ifR_le (pc := 18) (tgt := 81) ⟨by omega, by omega⟩ dX7_insert_18 rfl (fun h1 => ?_) (fun h1 => ?_)
    · refine j_aload_n (pc := 81) dX7_insert_81 rfl rfl ?_
      refine j_getR (pc := 82) (r := o + 1) fl_X7_15 dX7_insert_82 ho.1.1 rfl ?_
      refine j_iload_n (pc := 85) dX7_insert_85 rfl rfl ?_
      refine j_iload_n (pc := 86) dX7_insert_86 rfl rfl ?_
      refine j_iast (pc := 87) dX7_insert_87 ho.1.2.1 (by omega) (by omega) (by decide) (j_nm (fun σ2 (eσ2 : σ2 = tw_up τ (o + 1) (k.toNat) h) => ?_))
      have hIσ2 : tw_I σ2 := tw_I_upg hIτ eσ2 ho.2.2.1 (show (0 : Int) ≤ h ∧ h ≤ 40 from ⟨by omega, by omega⟩)
      have hFσ2 : tw_F (fun c j => (o ≤ c ∧ c < o + 4)) σ σ2 := tw_F_up hFτ eσ2 (show (o ≤ o + 1 ∧ o + 1 < o + 4) from ⟨Nat.le_add_right _ _, (Nat.add_lt_add_left (by decide) _)⟩)
      refine j_aload_n (pc := 88) dX7_insert_88 rfl rfl ?_
      refine j_getR (pc := 89) (r := o + 2) fl_X7_19 dX7_insert_89 ho.1.1 rfl ?_
      refine j_iload_n (pc := 92) dX7_insert_92 rfl rfl ?_
      refine j_iload_n (pc := 93) dX7_insert_93 rfl rfl ?_
      refine j_iast (pc := 94) dX7_insert_94 ho.1.2.2.1 (by omega) (by omega) (by decide) (j_nm (fun σ3 (eσ3 : σ3 = tw_up σ2 (o + 2) (k.toNat) s) => ?_))
      have hIσ3 : tw_I σ3 := tw_I_upg hIσ2 eσ3 ho.2.2.2.1 (show (0 : Int) ≤ s ∧ s ≤ 10 from ⟨by omega, by omega⟩)
      have hFσ3 : tw_F (fun c j => (o ≤ c ∧ c < o + 4)) σ σ3 := tw_F_up hFσ2 eσ3 (show (o ≤ o + 2 ∧ o + 2 < o + 4) from ⟨Nat.le_add_right _ _, (Nat.add_lt_add_left (by decide) _)⟩)
      refine j_aload_n (pc := 95) dX7_insert_95 rfl rfl ?_
      refine j_getR (pc := 96) (r := o + 3) fl_X7_22 dX7_insert_96 ho.1.1 rfl ?_
      refine j_iload_n (pc := 99) dX7_insert_99 rfl rfl ?_
      refine j_iconst (pc := 100) dX7_insert_100 ?_
      refine j_iast (pc := 101) dX7_insert_101 ho.1.2.2.2 (by omega) (by omega) (by decide) (j_nm (fun σ4 (eσ4 : σ4 = tw_up σ3 (o + 3) (k.toNat) 0) => ?_))
      have hIσ4 : tw_I σ4 := tw_I_upg hIσ3 eσ4 ho.2.2.2.2 (show (0 : Int) ≤ 0 ∧ 0 ≤ 1 from by decide)
      have hFσ4 : tw_F (fun c j => (o ≤ c ∧ c < o + 4)) σ σ4 := tw_F_up hFσ3 eσ4 (show (o ≤ o + 3 ∧ o + 3 < o + 4) from ⟨Nat.le_add_right _ _, (Nat.add_lt_add_left (by decide) _)⟩)
      refine j_aload_n (pc := 102) dX7_insert_102 rfl rfl ?_
      refine j_dup (pc := 103) dX7_insert_103 rfl ?_
      refine j_getI (pc := 104) fl_X7_9 dX7_insert_104 ho.1.1 rfl ?_
      refine j_topV (show σ4 o 0 = τ o 0 from (((tw_ne1 eσ4 (by (first | decide | omega)))).trans (tw_ne1 eσ3 (by (first | decide | omega)))).trans (tw_ne1 eσ2 (by (first | decide | omega)))) ?_
      have f5 : (0 : Int) ≤ τ o 0 ∧ τ o 0 ≤ 10 := tw_Ig ho.2.1 hIτ 0
      refine j_iconst (pc := 107) dX7_insert_107 ?_
      refine j_iadd (pc := 108) dX7_insert_108 ?_
      refine j_putI (pc := 109) fl_X7_9 fp_X7_0 dX7_insert_109 ho.1.1 rfl (j_nm (fun σ6 (eσ6 : σ6 = tw_up σ4 o 0 ((τ o 0) + 1)) => ?_))
      have hIσ6 : tw_I σ6 := tw_I_upg hIσ4 eσ6 ho.2.1 (show (0 : Int) ≤ (τ o 0) + 1 ∧ (τ o 0) + 1 ≤ 10 from ⟨by omega, by omega⟩)
      have hFσ6 : tw_F (fun c j => (o ≤ c ∧ c < o + 4)) σ σ6 := tw_F_up hFσ4 eσ6 (show (o ≤ o ∧ o < o + 4) from ⟨Nat.le_refl _, (Nat.lt_add_of_pos_right (by decide))⟩)
      refine j_iload_n (pc := 112) dX7_insert_112 rfl rfl ?_
      exact j_iret (pc := 113) ⟨rfl, rfl⟩ dX7_insert_113 rfl ⟨_, rfl, ⟨by omega, by omega⟩, hIσ6, hFσ6, (fun gg qq H e0 e1 e2 e3 => by first | (exfalso; omega) | exact RG_ins H e0 ⟨e1, by omega⟩ e2 e3 i1 (by omega) (by omega) eσ2 eσ3 eσ4 eσ6 (by have e9 := i1.1; omega))⟩
    · refine j_aload_n (pc := 21) dX7_insert_21 rfl rfl ?_
      refine j_getR (pc := 22) (r := o + 1) fl_X7_15 dX7_insert_22 ho.1.1 rfl ?_
      refine j_iload_n (pc := 25) dX7_insert_25 rfl rfl ?_
      refine j_iconst (pc := 26) dX7_insert_26 ?_
      refine j_isub (pc := 27) dX7_insert_27 ?_
      refine j_iald (pc := 28) dX7_insert_28 ho.1.2.1 (by omega) (by omega) (by decide) ?_
      have f7 : (0 : Int) ≤ τ (o + 1) ((k - 1).toNat) ∧ τ (o + 1) ((k - 1).toNat) ≤ 40 := tw_Ig ho.2.2.1 hIτ ((k - 1).toNat)
      refine j_iload_n (pc := 29) dX7_insert_29 rfl rfl ?_
      refine j_icmpR_le (pc := 30) (tgt := 81) ⟨by omega, by omega⟩ ⟨by omega, by omega⟩ dX7_insert_30 rfl (fun h8 => ?_) (fun h8 => ?_)
      · refine j_aload_n (pc := 81) dX7_insert_81 rfl rfl ?_
        refine j_getR (pc := 82) (r := o + 1) fl_X7_15 dX7_insert_82 ho.1.1 rfl ?_
        refine j_iload_n (pc := 85) dX7_insert_85 rfl rfl ?_
        refine j_iload_n (pc := 86) dX7_insert_86 rfl rfl ?_
        refine j_iast (pc := 87) dX7_insert_87 ho.1.2.1 (by omega) (by omega) (by decide) (j_nm (fun σ9 (eσ9 : σ9 = tw_up τ (o + 1) (k.toNat) h) => ?_))
        have hIσ9 : tw_I σ9 := tw_I_upg hIτ eσ9 ho.2.2.1 (show (0 : Int) ≤ h ∧ h ≤ 40 from ⟨by omega, by omega⟩)
        have hFσ9 : tw_F (fun c j => (o ≤ c ∧ c < o + 4)) σ σ9 := tw_F_up hFτ eσ9 (show (o ≤ o + 1 ∧ o + 1 < o + 4) from ⟨Nat.le_add_right _ _, (Nat.add_lt_add_left (by decide) _)⟩)
        refine j_aload_n (pc := 88) dX7_insert_88 rfl rfl ?_
        refine j_getR (pc := 89) (r := o + 2) fl_X7_19 dX7_insert_89 ho.1.1 rfl ?_
        refine j_iload_n (pc := 92) dX7_insert_92 rfl rfl ?_
        refine j_iload_n (pc := 93) dX7_insert_93 rfl rfl ?_
        refine j_iast (pc := 94) dX7_insert_94 ho.1.2.2.1 (by omega) (by omega) (by decide) (j_nm (fun σ10 (eσ10 : σ10 = tw_up σ9 (o + 2) (k.toNat) s) => ?_))
        have hIσ10 : tw_I σ10 := tw_I_upg hIσ9 eσ10 ho.2.2.2.1 (show (0 : Int) ≤ s ∧ s ≤ 10 from ⟨by omega, by omega⟩)
        have hFσ10 : tw_F (fun c j => (o ≤ c ∧ c < o + 4)) σ σ10 := tw_F_up hFσ9 eσ10 (show (o ≤ o + 2 ∧ o + 2 < o + 4) from ⟨Nat.le_add_right _ _, (Nat.add_lt_add_left (by decide) _)⟩)
        refine j_aload_n (pc := 95) dX7_insert_95 rfl rfl ?_
        refine j_getR (pc := 96) (r := o + 3) fl_X7_22 dX7_insert_96 ho.1.1 rfl ?_
        refine j_iload_n (pc := 99) dX7_insert_99 rfl rfl ?_
        refine j_iconst (pc := 100) dX7_insert_100 ?_
        refine j_iast (pc := 101) dX7_insert_101 ho.1.2.2.2 (by omega) (by omega) (by decide) (j_nm (fun σ11 (eσ11 : σ11 = tw_up σ10 (o + 3) (k.toNat) 0) => ?_))
        have hIσ11 : tw_I σ11 := tw_I_upg hIσ10 eσ11 ho.2.2.2.2 (show (0 : Int) ≤ 0 ∧ 0 ≤ 1 from by decide)
        have hFσ11 : tw_F (fun c j => (o ≤ c ∧ c < o + 4)) σ σ11 := tw_F_up hFσ10 eσ11 (show (o ≤ o + 3 ∧ o + 3 < o + 4) from ⟨Nat.le_add_right _ _, (Nat.add_lt_add_left (by decide) _)⟩)
        refine j_aload_n (pc := 102) dX7_insert_102 rfl rfl ?_
        refine j_dup (pc := 103) dX7_insert_103 rfl ?_
        refine j_getI (pc := 104) fl_X7_9 dX7_insert_104 ho.1.1 rfl ?_
        refine j_topV (show σ11 o 0 = τ o 0 from (((tw_ne1 eσ11 (by (first | decide | omega)))).trans (tw_ne1 eσ10 (by (first | decide | omega)))).trans (tw_ne1 eσ9 (by (first | decide | omega)))) ?_
        have f12 : (0 : Int) ≤ τ o 0 ∧ τ o 0 ≤ 10 := tw_Ig ho.2.1 hIτ 0
        refine j_iconst (pc := 107) dX7_insert_107 ?_
        refine j_iadd (pc := 108) dX7_insert_108 ?_
        refine j_putI (pc := 109) fl_X7_9 fp_X7_0 dX7_insert_109 ho.1.1 rfl (j_nm (fun σ13 (eσ13 : σ13 = tw_up σ11 o 0 ((τ o 0) + 1)) => ?_))
        have hIσ13 : tw_I σ13 := tw_I_upg hIσ11 eσ13 ho.2.1 (show (0 : Int) ≤ (τ o 0) + 1 ∧ (τ o 0) + 1 ≤ 10 from ⟨by omega, by omega⟩)
        have hFσ13 : tw_F (fun c j => (o ≤ c ∧ c < o + 4)) σ σ13 := tw_F_up hFσ11 eσ13 (show (o ≤ o ∧ o < o + 4) from ⟨Nat.le_refl _, (Nat.lt_add_of_pos_right (by decide))⟩)
        refine j_iload_n (pc := 112) dX7_insert_112 rfl rfl ?_
        exact j_iret (pc := 113) ⟨rfl, rfl⟩ dX7_insert_113 rfl ⟨_, rfl, ⟨by omega, by omega⟩, hIσ13, hFσ13, (fun gg qq H e0 e1 e2 e3 => by first | (exfalso; omega) | exact RG_ins H e0 ⟨e1, by omega⟩ e2 e3 i1 (by omega) (by omega) eσ9 eσ10 eσ11 eσ13 (by have e9 := i1.1; omega))⟩
      · refine j_aload_n (pc := 33) dX7_insert_33 rfl rfl ?_
        refine j_getR (pc := 34) (r := o + 1) fl_X7_15 dX7_insert_34 ho.1.1 rfl ?_
        refine j_iload_n (pc := 37) dX7_insert_37 rfl rfl ?_
        refine j_aload_n (pc := 38) dX7_insert_38 rfl rfl ?_
        refine j_getR (pc := 39) (r := o + 1) fl_X7_15 dX7_insert_39 ho.1.1 rfl ?_
        refine j_iload_n (pc := 42) dX7_insert_42 rfl rfl ?_
        refine j_iconst (pc := 43) dX7_insert_43 ?_
        refine j_isub (pc := 44) dX7_insert_44 ?_
        refine j_iald (pc := 45) dX7_insert_45 ho.1.2.1 (by omega) (by omega) (by decide) ?_
        refine j_iast (pc := 46) dX7_insert_46 ho.1.2.1 (by omega) (by omega) (by decide) (j_nm (fun σ14 (eσ14 : σ14 = tw_up τ (o + 1) (k.toNat) (τ (o + 1) ((k - 1).toNat))) => ?_))
        have hIσ14 : tw_I σ14 := tw_I_upg hIτ eσ14 ho.2.2.1 (show (0 : Int) ≤ τ (o + 1) ((k - 1).toNat) ∧ τ (o + 1) ((k - 1).toNat) ≤ 40 from ⟨by omega, by omega⟩)
        have hFσ14 : tw_F (fun c j => (o ≤ c ∧ c < o + 4)) σ σ14 := tw_F_up hFτ eσ14 (show (o ≤ o + 1 ∧ o + 1 < o + 4) from ⟨Nat.le_add_right _ _, (Nat.add_lt_add_left (by decide) _)⟩)
        refine j_aload_n (pc := 47) dX7_insert_47 rfl rfl ?_
        refine j_getR (pc := 48) (r := o + 2) fl_X7_19 dX7_insert_48 ho.1.1 rfl ?_
        refine j_iload_n (pc := 51) dX7_insert_51 rfl rfl ?_
        refine j_aload_n (pc := 52) dX7_insert_52 rfl rfl ?_
        refine j_getR (pc := 53) (r := o + 2) fl_X7_19 dX7_insert_53 ho.1.1 rfl ?_
        refine j_iload_n (pc := 56) dX7_insert_56 rfl rfl ?_
        refine j_iconst (pc := 57) dX7_insert_57 ?_
        refine j_isub (pc := 58) dX7_insert_58 ?_
        refine j_iald (pc := 59) dX7_insert_59 ho.1.2.2.1 (by omega) (by omega) (by decide) ?_
        refine j_topV (show σ14 (o + 2) ((k - 1).toNat) = τ (o + 2) ((k - 1).toNat) from (tw_ne1 eσ14 (by (first | decide | omega)))) ?_
        have f15 : (0 : Int) ≤ τ (o + 2) ((k - 1).toNat) ∧ τ (o + 2) ((k - 1).toNat) ≤ 10 := tw_Ig ho.2.2.2.1 hIτ ((k - 1).toNat)
        refine j_iast (pc := 60) dX7_insert_60 ho.1.2.2.1 (by omega) (by omega) (by decide) (j_nm (fun σ16 (eσ16 : σ16 = tw_up σ14 (o + 2) (k.toNat) (τ (o + 2) ((k - 1).toNat))) => ?_))
        have hIσ16 : tw_I σ16 := tw_I_upg hIσ14 eσ16 ho.2.2.2.1 (show (0 : Int) ≤ τ (o + 2) ((k - 1).toNat) ∧ τ (o + 2) ((k - 1).toNat) ≤ 10 from ⟨by omega, by omega⟩)
        have hFσ16 : tw_F (fun c j => (o ≤ c ∧ c < o + 4)) σ σ16 := tw_F_up hFσ14 eσ16 (show (o ≤ o + 2 ∧ o + 2 < o + 4) from ⟨Nat.le_add_right _ _, (Nat.add_lt_add_left (by decide) _)⟩)
        refine j_aload_n (pc := 61) dX7_insert_61 rfl rfl ?_
        refine j_getR (pc := 62) (r := o + 3) fl_X7_22 dX7_insert_62 ho.1.1 rfl ?_
        refine j_iload_n (pc := 65) dX7_insert_65 rfl rfl ?_
        refine j_aload_n (pc := 66) dX7_insert_66 rfl rfl ?_
        refine j_getR (pc := 67) (r := o + 3) fl_X7_22 dX7_insert_67 ho.1.1 rfl ?_
        refine j_iload_n (pc := 70) dX7_insert_70 rfl rfl ?_
        refine j_iconst (pc := 71) dX7_insert_71 ?_
        refine j_isub (pc := 72) dX7_insert_72 ?_
        refine j_iald (pc := 73) dX7_insert_73 ho.1.2.2.2 (by omega) (by omega) (by decide) ?_
        refine j_topV (show σ16 (o + 3) ((k - 1).toNat) = τ (o + 3) ((k - 1).toNat) from ((tw_ne1 eσ16 (by (first | decide | omega)))).trans (tw_ne1 eσ14 (by (first | decide | omega)))) ?_
        have f17 : (0 : Int) ≤ τ (o + 3) ((k - 1).toNat) ∧ τ (o + 3) ((k - 1).toNat) ≤ 1 := tw_Ig ho.2.2.2.2 hIτ ((k - 1).toNat)
        refine j_iast (pc := 74) dX7_insert_74 ho.1.2.2.2 (by omega) (by omega) (by decide) (j_nm (fun σ18 (eσ18 : σ18 = tw_up σ16 (o + 3) (k.toNat) (τ (o + 3) ((k - 1).toNat))) => ?_))
        have hIσ18 : tw_I σ18 := tw_I_upg hIσ16 eσ18 ho.2.2.2.2 (show (0 : Int) ≤ τ (o + 3) ((k - 1).toNat) ∧ τ (o + 3) ((k - 1).toNat) ≤ 1 from ⟨by omega, by omega⟩)
        have hFσ18 : tw_F (fun c j => (o ≤ c ∧ c < o + 4)) σ σ18 := tw_F_up hFσ16 eσ18 (show (o ≤ o + 3 ∧ o + 3 < o + 4) from ⟨Nat.le_add_right _ _, (Nat.add_lt_add_left (by decide) _)⟩)
        refine j_iinc (pc := 75) (i := 3) (n := -1) (ls' := [(0, vR o), (1, vI h), (2, vI s), (3, vI (k + (-1)))]) [1, 2, 3, 0] dX7_insert_75 rfl (Nat.le_of_ble_eq_true rfl) rfl rfl ?_
        refine j_goto (pc := 78) (tgt := 17) dX7_insert_78 rfl ?_
        refine j_ls (ls' := [(0, vR o), (1, vI h), (2, vI s), (3, vI (k + (-1)))]) [0, 1, 2, 3] rfl ?_
        have y19 : σ18 o 0 = τ o 0 := (((tw_ne1 eσ18 (by (first | decide | omega)))).trans (tw_ne1 eσ16 (by (first | decide | omega)))).trans (tw_ne1 eσ14 (by (first | decide | omega)))
        have f20 : (0 : Int) ≤ τ o 0 ∧ τ o 0 ≤ 10 := tw_Ig ho.2.1 hIτ 0
        exact ih (k + (-1)) ⟨by omega, by omega⟩ σ18 hIσ18 hFσ18 (show σ18 o 0 ≤ 9 from by omega) (show InI o h (k + (-1)) σ σ18 from (InI_s i1 (by omega) (by omega) eσ14 eσ16 eσ18 (by first | rfl | omega) (by first | rfl | omega) (by first | rfl | omega))) (show (k + (-1)).toNat < N_ from by omega)
set_option maxHeartbeats 4000000 in
set_option maxRecDepth 100000 in
theorem c_X7_insert {G : tw_G} (o : Nat) (ho : IsRow G o) (h : Int) (hh : 0 ≤ h ∧ h ≤ 40) (s : Int) (hs : 0 ≤ s ∧ s ≤ 10) (σ : tw_M) (hI : tw_I σ) : tw_C G yX7_insert cX7_insert 4 (some .int) 0 [vR o, vI h, vI s] σ (q_X7_insert o h s σ) := by
  refine tw_met [(0, vR o), (1, vI h), (2, vI s)] (by decide +kernel) rfl (Nat.le_of_ble_eq_true rfl) ?_
  refine j_aload_n (pc := 0) dX7_insert_0 rfl rfl ?_
  refine j_getI (pc := 1) fl_X7_9 dX7_insert_1 ho.1.1 rfl ?_
  have f21 : (0 : Int) ≤ σ o 0 ∧ σ o 0 ≤ 10 := tw_Ig ho.2.1 hI 0
  refine j_bipush (pc := 4) dX7_insert_4 rfl ?_
  refine j_icmpR_lt (pc := 6) (tgt := 12) ⟨by omega, by omega⟩ ⟨by omega, by omega⟩ dX7_insert_6 rfl (fun h22 => ?_) (fun h22 => ?_)
  · refine j_aload_n (pc := 12) dX7_insert_12 rfl rfl ?_
    refine j_getI (pc := 13) fl_X7_9 dX7_insert_13 ho.1.1 rfl ?_
    refine j_istore_n (pc := 16) (i := 3) (ls' := [(0, vR o), (1, vI h), (2, vI s), (3, vI (σ o 0))]) [1, 2, 3, 0] dX7_insert_16 rfl (Nat.le_of_ble_eq_true rfl) rfl rfl ?_
    refine j_ls (ls' := [(0, vR o), (1, vI h), (2, vI s), (3, vI (σ o 0))]) [0, 1, 2, 3] rfl ?_
    exact (l_X7_insert o ho h hh s hs σ hI (((σ o 0).toNat) + 1)) (σ o 0) ⟨by omega, by omega⟩ σ hI (tw_F_rf) (show σ o 0 ≤ 9 from by omega) (show InI o h (σ o 0) σ σ from InI_0) (Nat.lt_succ_self _)
  · refine j_bipush (pc := 9) dX7_insert_9 rfl ?_
    exact j_iret (pc := 11) ⟨rfl, rfl⟩ dX7_insert_11 rfl ⟨_, rfl, ⟨by omega, by omega⟩, hI, (tw_F_rf), (fun gg qq H e0 e1 e2 e3 => by first | (exfalso; omega) | exact RG_ins H e0 ⟨e1, by omega⟩ e2 e3 i1 (by omega) (by omega) _ _ _ _ (by have e9 := i1.1; omega))⟩
abbrev q_X7_remove (o : Nat) (q : Int) (σ : tw_M) : Option tw_V → tw_M → Prop := fun z τ => z = none ∧ tw_I τ ∧ tw_F (fun c j => (o ≤ c ∧ c < o + 4)) σ τ ∧ (∀ gg qq : Nat → Int, RG o gg qq σ → 0 ≤ q → q < σ o 0 → RG o (pg gg (σ (o + 1) q.toNat).toNat 0) qq τ)
set_option maxHeartbeats 4000000 in
set_option maxRecDepth 100000 in
theorem l_X7_remove {G : tw_G} (o : Nat) (ho : IsRow G o) (q : Int) (hq : -2147483648 ≤ q ∧ q ≤ 2147483647) (σ : tw_M) (hI : tw_I σ) : ∀ N_ : Nat, (∀ (i : Int) (hi : 0 ≤ i ∧ i ≤ 9) (τ : tw_M) (hIτ : tw_I τ) (hFτ : tw_F (fun c j => (o ≤ c ∧ c < o + 4)) σ τ) (i0 : τ o 0 ≤ 9) (i1 : RmI o q i σ τ) (hm : (10 - i).toNat < N_), tw_J G (tw_mt RX7 cX7_remove 3 none 0) (tw_E G (q_X7_remove o q σ)) 25 [(0, vR o), (2, vI i)] [] τ) := by
  intro N_
  induction N_ with
  | zero => exact fun i hi τ hIτ hFτ i0 i1 hm => absurd hm (Nat.not_lt_zero _)
  | succ N_ ih =>
    intro i hi τ hIτ hFτ i0 i1 hm
    refine j_iload_n (pc := 25) dX7_remove_25 rfl rfl ?_
    refine j_aload_n (pc := 26) dX7_remove_26 rfl rfl ?_
    refine j_getI (pc := 27) fl_X7_9 dX7_remove_27 ho.1.1 rfl ?_
    have f1 : (0 : Int) ≤ τ o 0 ∧ τ o 0 ≤ 10 := tw_Ig ho.2.1 hIτ 0
    refine j_icmpR_ge (pc := 30) (tgt := 81) ⟨by omega, by omega⟩ ⟨by omega, by omega⟩ dX7_remove_30 rfl (fun h2 => ?_) (fun h2 => ?_)
    · exact j_vret (pc := 81) ⟨rfl, rfl⟩ dX7_remove_81 rfl ⟨rfl, hIτ, hFτ, (fun gg qq H e0 e1 => by first | (exfalso; omega) | exact RG_rem H ⟨e0, e1⟩ i1 (by have e9 := i1.1; omega))⟩
    · refine j_aload_n (pc := 33) dX7_remove_33 rfl rfl ?_
      refine j_getR (pc := 34) (r := o + 1) fl_X7_15 dX7_remove_34 ho.1.1 rfl ?_
      refine j_iload_n (pc := 37) dX7_remove_37 rfl rfl ?_
      refine j_aload_n (pc := 38) dX7_remove_38 rfl rfl ?_
      refine j_getR (pc := 39) (r := o + 1) fl_X7_15 dX7_remove_39 ho.1.1 rfl ?_
      refine j_iload_n (pc := 42) dX7_remove_42 rfl rfl ?_
      refine j_iconst (pc := 43) dX7_remove_43 ?_
      refine j_iadd (pc := 44) dX7_remove_44 ?_
      refine j_iald (pc := 45) dX7_remove_45 ho.1.2.1 (by omega) (by omega) (by decide) ?_
      have f3 : (0 : Int) ≤ τ (o + 1) ((i + 1).toNat) ∧ τ (o + 1) ((i + 1).toNat) ≤ 40 := tw_Ig ho.2.2.1 hIτ ((i + 1).toNat)
      refine j_iast (pc := 46) dX7_remove_46 ho.1.2.1 (by omega) (by omega) (by decide) (j_nm (fun σ4 (eσ4 : σ4 = tw_up τ (o + 1) (i.toNat) (τ (o + 1) ((i + 1).toNat))) => ?_))
      have hIσ4 : tw_I σ4 := tw_I_upg hIτ eσ4 ho.2.2.1 (show (0 : Int) ≤ τ (o + 1) ((i + 1).toNat) ∧ τ (o + 1) ((i + 1).toNat) ≤ 40 from ⟨by omega, by omega⟩)
      have hFσ4 : tw_F (fun c j => (o ≤ c ∧ c < o + 4)) σ σ4 := tw_F_up hFτ eσ4 (show (o ≤ o + 1 ∧ o + 1 < o + 4) from ⟨Nat.le_add_right _ _, (Nat.add_lt_add_left (by decide) _)⟩)
      refine j_aload_n (pc := 47) dX7_remove_47 rfl rfl ?_
      refine j_getR (pc := 48) (r := o + 2) fl_X7_19 dX7_remove_48 ho.1.1 rfl ?_
      refine j_iload_n (pc := 51) dX7_remove_51 rfl rfl ?_
      refine j_aload_n (pc := 52) dX7_remove_52 rfl rfl ?_
      refine j_getR (pc := 53) (r := o + 2) fl_X7_19 dX7_remove_53 ho.1.1 rfl ?_
      refine j_iload_n (pc := 56) dX7_remove_56 rfl rfl ?_
      refine j_iconst (pc := 57) dX7_remove_57 ?_
      refine j_iadd (pc := 58) dX7_remove_58 ?_
      refine j_iald (pc := 59) dX7_remove_59 ho.1.2.2.1 (by omega) (by omega) (by decide) ?_
      refine j_topV (show σ4 (o + 2) ((i + 1).toNat) = τ (o + 2) ((i + 1).toNat) from (tw_ne1 eσ4 (by (first | decide | omega)))) ?_
      have f5 : (0 : Int) ≤ τ (o + 2) ((i + 1).toNat) ∧ τ (o + 2) ((i + 1).toNat) ≤ 10 := tw_Ig ho.2.2.2.1 hIτ ((i + 1).toNat)
      refine j_iast (pc := 60) dX7_remove_60 ho.1.2.2.1 (by omega) (by omega) (by decide) (j_nm (fun σ6 (eσ6 : σ6 = tw_up σ4 (o + 2) (i.toNat) (τ (o + 2) ((i + 1).toNat))) => ?_))
      have hIσ6 : tw_I σ6 := tw_I_upg hIσ4 eσ6 ho.2.2.2.1 (show (0 : Int) ≤ τ (o + 2) ((i + 1).toNat) ∧ τ (o + 2) ((i + 1).toNat) ≤ 10 from ⟨by omega, by omega⟩)
      have hFσ6 : tw_F (fun c j => (o ≤ c ∧ c < o + 4)) σ σ6 := tw_F_up hFσ4 eσ6 (show (o ≤ o + 2 ∧ o + 2 < o + 4) from ⟨Nat.le_add_right _ _, (Nat.add_lt_add_left (by decide) _)⟩)
      refine j_aload_n (pc := 61) dX7_remove_61 rfl rfl ?_
      refine j_getR (pc := 62) (r := o + 3) fl_X7_22 dX7_remove_62 ho.1.1 rfl ?_
      refine j_iload_n (pc := 65) dX7_remove_65 rfl rfl ?_
      refine j_aload_n (pc := 66) dX7_remove_66 rfl rfl ?_
      refine j_getR (pc := 67) (r := o + 3) fl_X7_22 dX7_remove_67 ho.1.1 rfl ?_
      refine j_iload_n (pc := 70) dX7_remove_70 rfl rfl ?_
      refine j_iconst (pc := 71) dX7_remove_71 ?_
      refine j_iadd (pc := 72) dX7_remove_72 ?_
      refine j_iald (pc := 73) dX7_remove_73 ho.1.2.2.2 (by omega) (by omega) (by decide) ?_
      refine j_topV (show σ6 (o + 3) ((i + 1).toNat) = τ (o + 3) ((i + 1).toNat) from ((tw_ne1 eσ6 (by (first | decide | omega)))).trans (tw_ne1 eσ4 (by (first | decide | omega)))) ?_
      have f7 : (0 : Int) ≤ τ (o + 3) ((i + 1).toNat) ∧ τ (o + 3) ((i + 1).toNat) ≤ 1 := tw_Ig ho.2.2.2.2 hIτ ((i + 1).toNat)
      refine j_iast (pc := 74) dX7_remove_74 ho.1.2.2.2 (by omega) (by omega) (by decide) (j_nm (fun σ8 (eσ8 : σ8 = tw_up σ6 (o + 3) (i.toNat) (τ (o + 3) ((i + 1).toNat))) => ?_))
      have hIσ8 : tw_I σ8 := tw_I_upg hIσ6 eσ8 ho.2.2.2.2 (show (0 : Int) ≤ τ (o + 3) ((i + 1).toNat) ∧ τ (o + 3) ((i + 1).toNat) ≤ 1 from ⟨by omega, by omega⟩)
      have hFσ8 : tw_F (fun c j => (o ≤ c ∧ c < o + 4)) σ σ8 := tw_F_up hFσ6 eσ8 (show (o ≤ o + 3 ∧ o + 3 < o + 4) from ⟨Nat.le_add_right _ _, (Nat.add_lt_add_left (by decide) _)⟩)
      refine j_iinc (pc := 75) (i := 2) (n := 1) (ls' := [(0, vR o), (2, vI (i + 1))]) [1, 0] dX7_remove_75 rfl (Nat.le_of_ble_eq_true rfl) rfl rfl ?_
      refine j_goto (pc := 78) (tgt := 25) dX7_remove_78 rfl ?_
      refine j_ls (ls' := [(0, vR o), (2, vI (i + 1))]) [0, 1] rfl ?_
      have y9 : σ8 o 0 = τ o 0 := (((tw_ne1 eσ8 (by (first | decide | omega)))).trans (tw_ne1 eσ6 (by (first | decide | omega)))).trans (tw_ne1 eσ4 (by (first | decide | omega)))
      exact ih (i + 1) ⟨by omega, by omega⟩ σ8 hIσ8 hFσ8 (show σ8 o 0 ≤ 9 from by omega) (show RmI o q (i + 1) σ σ8 from (RmI_s i1 (by omega) eσ4 eσ6 eσ8 (by first | rfl | omega) (by first | rfl | omega) (by first | rfl | omega))) (show (10 - (i + 1)).toNat < N_ from by omega)
set_option maxHeartbeats 4000000 in
set_option maxRecDepth 100000 in
theorem c_X7_remove {G : tw_G} (o : Nat) (ho : IsRow G o) (q : Int) (hq : -2147483648 ≤ q ∧ q ≤ 2147483647) (σ : tw_M) (hI : tw_I σ) : tw_C G yX7_remove cX7_remove 3 none 0 [vR o, vI q] σ (q_X7_remove o q σ) := by
  refine tw_met [(0, vR o), (1, vI q)] (by decide +kernel) rfl (Nat.le_of_ble_eq_true rfl) ?_
  refine j_iload_n (pc := 0) dX7_remove_0 rfl rfl ?_
  refine j_ifR_lt (pc := 1) (tgt := 12) ⟨by omega, by omega⟩ dX7_remove_1 rfl (fun h10 => ?_) (fun h10 => ?_)
  · exact j_vret (pc := 12) ⟨rfl, rfl⟩ dX7_remove_12 rfl ⟨rfl, hI, (tw_F_rf), (fun gg qq H e0 e1 => by first | (exfalso; omega) | exact RG_rem H ⟨e0, e1⟩ i1 (by have e9 := i1.1; omega))⟩
  · refine j_iload_n (pc := 4) dX7_remove_4 rfl rfl ?_
    refine j_aload_n (pc := 5) dX7_remove_5 rfl rfl ?_
    refine j_getI (pc := 6) fl_X7_9 dX7_remove_6 ho.1.1 rfl ?_
    have f11 : (0 : Int) ≤ σ o 0 ∧ σ o 0 ≤ 10 := tw_Ig ho.2.1 hI 0
    refine j_icmpR_lt (pc := 9) (tgt := 13) ⟨by omega, by omega⟩ ⟨by omega, by omega⟩ dX7_remove_9 rfl (fun h12 => ?_) (fun h12 => ?_)
    · refine j_aload_n (pc := 13) dX7_remove_13 rfl rfl ?_
      refine j_dup (pc := 14) dX7_remove_14 rfl ?_
      refine j_getI (pc := 15) fl_X7_9 dX7_remove_15 ho.1.1 rfl ?_
      refine j_iconst (pc := 18) dX7_remove_18 ?_
      refine j_isub (pc := 19) dX7_remove_19 ?_
      refine j_putI (pc := 20) fl_X7_9 fp_X7_0 dX7_remove_20 ho.1.1 rfl (j_nm (fun σ13 (eσ13 : σ13 = tw_up σ o 0 ((σ o 0) - 1)) => ?_))
      have hIσ13 : tw_I σ13 := tw_I_upg hI eσ13 ho.2.1 (show (0 : Int) ≤ (σ o 0) - 1 ∧ (σ o 0) - 1 ≤ 10 from ⟨by omega, by omega⟩)
      have hFσ13 : tw_F (fun c j => (o ≤ c ∧ c < o + 4)) σ σ13 := tw_F_up (tw_F_rf) eσ13 (show (o ≤ o ∧ o < o + 4) from ⟨Nat.le_refl _, (Nat.lt_add_of_pos_right (by decide))⟩)
      refine j_iload_n (pc := 23) dX7_remove_23 rfl rfl ?_
      refine j_istore_n (pc := 24) (i := 2) (ls' := [(0, vR o), (2, vI q)]) [1, 0] dX7_remove_24 rfl (Nat.le_of_ble_eq_true rfl) rfl rfl ?_
      refine j_ls (ls' := [(0, vR o), (2, vI q)]) [0, 1] rfl ?_
      have y14 : σ13 o 0 = (σ o 0) - 1 := (tw_eq1 eσ13)
      exact (l_X7_remove o ho q hq σ hI (((10 - q).toNat) + 1)) q ⟨by omega, by omega⟩ σ13 hIσ13 hFσ13 (show σ13 o 0 ≤ 9 from by omega) (show RmI o q q σ σ13 from (RmI_0 eσ13 (by omega))) (Nat.lt_succ_self _)
    · exact j_vret (pc := 12) ⟨rfl, rfl⟩ dX7_remove_12 rfl ⟨rfl, hI, (tw_F_rf), (fun gg qq H e0 e1 => by first | (exfalso; omega) | exact RG_rem H ⟨e0, e1⟩ i1 (by have e9 := i1.1; omega))⟩
abbrev q_X7_sideOf (o : Nat) (w : Nat) (k : Int) (σ : tw_M) : Option tw_V → tw_M → Prop := fun z τ => ∃ r : Int, z = some (vI r) ∧ (0 ≤ r ∧ r ≤ 9) ∧ σ = τ ∧ (∀ gg qq : Nat → Int, RG o gg qq σ → r = SD (wW w σ) gg (σ o 0) k)
set_option maxHeartbeats 4000000 in
set_option maxRecDepth 100000 in
theorem c_X7_sideOf {G : tw_G} (o : Nat) (ho : IsRow G o) (w : Nat) (hw : IsWall G w) (k : Int) (hk : -2 ≤ k ∧ k ≤ 12) (σ : tw_M) (hI : tw_I σ) : tw_C G yX7_sideOf cX7_sideOf 3 (some .int) 1 [vR o, vR w, vI k] σ (q_X7_sideOf o w k σ) := by
  refine tw_met [(0, vR o), (1, vR w), (2, vI k)] (by decide +kernel) rfl (Nat.le_of_ble_eq_true rfl) ?_
  have r0 : wW w σ 100 = σ (w + 1) 0 := wW_r (j := 0) (by decide)
  refine j_iload_n (pc := 0) dX7_sideOf_0 rfl rfl ?_
  refine j_ifR_ge (pc := 1) (tgt := 6) ⟨by omega, by omega⟩ dX7_sideOf_1 rfl (fun h1 => ?_) (fun h1 => ?_)
  · refine j_aload_n (pc := 6) dX7_sideOf_6 rfl rfl ?_
    refine j_getR (pc := 7) (r := w + 7) fl_X7_29 dX7_sideOf_7 hw.1.1 rfl ?_
    refine j_iload_n (pc := 10) dX7_sideOf_10 rfl rfl ?_
    refine j_aload_n (pc := 11) dX7_sideOf_11 rfl rfl ?_
    refine j_getI (pc := 12) fl_X7_9 dX7_sideOf_12 ho.1.1 rfl ?_
    have f2 : (0 : Int) ≤ σ o 0 ∧ σ o 0 ≤ 10 := tw_Ig ho.2.1 hI 0
    refine j_icmpR_ge (pc := 15) (tgt := 27) ⟨by omega, by omega⟩ ⟨by omega, by omega⟩ dX7_sideOf_15 rfl (fun h3 => ?_) (fun h3 => ?_)
    · refine j_aload_n (pc := 27) dX7_sideOf_27 rfl rfl ?_
      refine j_callV (pc := 28) (As := []) (st := [vR (w + 7)]) (c_X10_top w hw σ hI) mv_X7_34 rfl rfl rfl hw.1.1 dX7_sideOf_28 ⟨Nat.le_of_ble_eq_true rfl, Nat.le_of_ble_eq_true rfl⟩ ⟨Nat.le_refl _, Nat.le_refl _⟩ rfl (Nat.le_of_ble_eq_true rfl) rfl (fun z4 σ5 hz4 => ?_)
      obtain ⟨r7, rfl, hr7, rfl, q6_0⟩ := hz4
      replace q6_0 : r7 = σ (w + 1) 0 := q6_0
      refine j_st (st' := [vI r7, vR (w + 7)]) rfl ?_
      refine j_iald (pc := 31) dX7_sideOf_31 hw.1.2.2.2.2.2.2.2.1 (by omega) (by omega) (by decide) ?_
      have f8 : (0 : Int) ≤ σ (w + 7) (r7.toNat) ∧ σ (w + 7) (r7.toNat) ≤ 9 := tw_Ig hw.2.2.2.2.2.2.2.2.1 hI (r7.toNat)
      exact j_iret (pc := 32) ⟨rfl, rfl⟩ dX7_sideOf_32 rfl ⟨_, rfl, ⟨by omega, by omega⟩, rfl, (fun gg qq H => by
                                                              first
                                                              | exact (SD_neg (by omega)).symm
                                                              | (have f := RG_fok H (k := k) ⟨by omega, by omega⟩; rw [SD_mid (by omega) (by omega), wW_4 ⟨by omega, by omega⟩, f.1])
                                                              | (rw [SD_top (by omega) (by omega), wW_4 ⟨by omega, by omega⟩, r0]; exact congrArg (fun x => σ (w + 7) (Int.toNat x)) (by omega)))⟩
    · refine j_aload_n (pc := 18) dX7_sideOf_18 rfl rfl ?_
      refine j_getR (pc := 19) (r := o + 1) fl_X7_15 dX7_sideOf_19 ho.1.1 rfl ?_
      refine j_iload_n (pc := 22) dX7_sideOf_22 rfl rfl ?_
      refine j_iald (pc := 23) dX7_sideOf_23 ho.1.2.1 (by omega) (by omega) (by decide) ?_
      have f9 : (0 : Int) ≤ σ (o + 1) (k.toNat) ∧ σ (o + 1) (k.toNat) ≤ 40 := tw_Ig ho.2.2.1 hI (k.toNat)
      refine j_goto (pc := 24) (tgt := 31) dX7_sideOf_24 rfl ?_
      refine j_iald (pc := 31) dX7_sideOf_31 hw.1.2.2.2.2.2.2.2.1 (by omega) (by omega) (by decide) ?_
      have f10 : (0 : Int) ≤ σ (w + 7) ((σ (o + 1) (k.toNat)).toNat) ∧ σ (w + 7) ((σ (o + 1) (k.toNat)).toNat) ≤ 9 := tw_Ig hw.2.2.2.2.2.2.2.2.1 hI ((σ (o + 1) (k.toNat)).toNat)
      exact j_iret (pc := 32) ⟨rfl, rfl⟩ dX7_sideOf_32 rfl ⟨_, rfl, ⟨by omega, by omega⟩, rfl, (fun gg qq H => by
                                                              first
                                                              | exact (SD_neg (by omega)).symm
                                                              | (have f := RG_fok H (k := k) ⟨by omega, by omega⟩; rw [SD_mid (by omega) (by omega), wW_4 ⟨by omega, by omega⟩, f.1])
                                                              | (rw [SD_top (by omega) (by omega), wW_4 ⟨by omega, by omega⟩, r0]; exact congrArg (fun x => σ (w + 7) (Int.toNat x)) (by omega)))⟩
  · refine j_iconst (pc := 4) dX7_sideOf_4 ?_
    exact j_iret (pc := 5) ⟨rfl, rfl⟩ dX7_sideOf_5 rfl ⟨_, rfl, ⟨by omega, by omega⟩, rfl, (fun gg qq H => by
                                                              first
                                                              | exact (SD_neg (by omega)).symm
                                                              | (have f := RG_fok H (k := k) ⟨by omega, by omega⟩; rw [SD_mid (by omega) (by omega), wW_4 ⟨by omega, by omega⟩, f.1])
                                                              | (rw [SD_top (by omega) (by omega), wW_4 ⟨by omega, by omega⟩, r0]; exact congrArg (fun x => σ (w + 7) (Int.toNat x)) (by omega)))⟩
abbrev q_X7_off (o : Nat) (w : Nat) (k : Int) (σ : tw_M) : Option tw_V → tw_M → Prop := fun z τ => ∃ r : Int, z = some (vI r) ∧ (0 ≤ r ∧ r ≤ 18) ∧ σ = τ ∧ (∀ gg qq : Nat → Int, RG o gg qq σ → r = OFS (wW w σ) gg (σ o 0) k)
set_option maxHeartbeats 4000000 in
set_option maxRecDepth 100000 in
theorem c_X7_off {G : tw_G} (o : Nat) (ho : IsRow G o) (w : Nat) (hw : IsWall G w) (k : Int) (hk : -1 ≤ k ∧ k ≤ 11) (σ : tw_M) (hI : tw_I σ) : tw_C G yX7_off cX7_off 3 (some .int) 2 [vR o, vR w, vI k] σ (q_X7_off o w k σ) := by
  refine tw_met [(0, vR o), (1, vR w), (2, vI k)] (by decide +kernel) rfl (Nat.le_of_ble_eq_true rfl) ?_
  refine j_iconst (pc := 0) dX7_off_0 ?_
  refine j_aload_n (pc := 1) dX7_off_1 rfl rfl ?_
  refine j_aload_n (pc := 2) dX7_off_2 rfl rfl ?_
  refine j_iload_n (pc := 3) dX7_off_3 rfl rfl ?_
  refine j_callV (pc := 4) (As := [vR w, vI k]) (st := [vI 2]) (c_X7_sideOf o ho w hw k ⟨by omega, by omega⟩ σ hI) mv_X7_37 rfl rfl rfl ho.1.1 dX7_off_4 ⟨Nat.le_of_ble_eq_true rfl, Nat.le_of_ble_eq_true rfl⟩ ⟨Nat.le_refl _, Nat.le_refl _⟩ rfl (Nat.le_of_ble_eq_true rfl) rfl (fun z1 σ2 hz1 => ?_)
  obtain ⟨r4, rfl, hr4, rfl, q3_0⟩ := hz1
  replace q3_0 : ∀ gg qq : Nat → Int, RG o gg qq σ → r4 = SD (wW w σ) gg (σ o 0) k := q3_0
  refine j_st (st' := [vI r4, vI 2]) rfl ?_
  refine j_imul (pc := 7) dX7_off_7 ?_
  refine j_aload_n (pc := 8) dX7_off_8 rfl rfl ?_
  refine j_aload_n (pc := 9) dX7_off_9 rfl rfl ?_
  refine j_iload_n (pc := 10) dX7_off_10 rfl rfl ?_
  refine j_iconst (pc := 11) dX7_off_11 ?_
  refine j_isub (pc := 12) dX7_off_12 ?_
  refine j_callV (pc := 13) (As := [vR w, vI (k - 1)]) (st := [vI (2 * r4)]) (c_X7_sideOf o ho w hw (k - 1) ⟨by omega, by omega⟩ σ hI) mv_X7_37 rfl rfl rfl ho.1.1 dX7_off_13 ⟨Nat.le_of_ble_eq_true rfl, Nat.le_of_ble_eq_true rfl⟩ ⟨Nat.le_refl _, Nat.le_refl _⟩ rfl (Nat.le_of_ble_eq_true rfl) rfl (fun z5 σ6 hz5 => ?_)
  obtain ⟨r8, rfl, hr8, rfl, q7_0⟩ := hz5
  replace q7_0 : ∀ gg qq : Nat → Int, RG o gg qq σ → r8 = SD (wW w σ) gg (σ o 0) (k - 1) := q7_0
  refine j_st (st' := [vI r8, vI (2 * r4)]) rfl ?_
  refine j_isub (pc := 16) dX7_off_16 ?_
  refine j_aload_n (pc := 17) dX7_off_17 rfl rfl ?_
  refine j_aload_n (pc := 18) dX7_off_18 rfl rfl ?_
  refine j_iload_n (pc := 19) dX7_off_19 rfl rfl ?_
  refine j_iconst (pc := 20) dX7_off_20 ?_
  refine j_iadd (pc := 21) dX7_off_21 ?_
  refine j_callV (pc := 22) (As := [vR w, vI (k + 1)]) (st := [vI ((2 * r4) - r8)]) (c_X7_sideOf o ho w hw (k + 1) ⟨by omega, by omega⟩ σ hI) mv_X7_37 rfl rfl rfl ho.1.1 dX7_off_22 ⟨Nat.le_of_ble_eq_true rfl, Nat.le_of_ble_eq_true rfl⟩ ⟨Nat.le_refl _, Nat.le_refl _⟩ rfl (Nat.le_of_ble_eq_true rfl) rfl (fun z9 σ10 hz9 => ?_)
  obtain ⟨r12, rfl, hr12, rfl, q11_0⟩ := hz9
  replace q11_0 : ∀ gg qq : Nat → Int, RG o gg qq σ → r12 = SD (wW w σ) gg (σ o 0) (k + 1) := q11_0
  refine j_st (st' := [vI r12, vI ((2 * r4) - r8)]) rfl ?_
  refine j_isub (pc := 25) dX7_off_25 ?_
  refine j_mabs (pc := 26) mm_X7_41 dX7_off_26 ⟨Nat.le_of_ble_eq_true rfl, Nat.le_of_ble_eq_true rfl⟩ ⟨Nat.le_refl _, Nat.le_refl _⟩ rfl (fun z13 ez13 => ?_)
  have hz13 := tw_abs_eq (a := ((2 * r4) - r8) - r12) ⟨by omega, by omega⟩ ez13
  exact j_iret (pc := 29) ⟨rfl, rfl⟩ dX7_off_29 rfl ⟨_, rfl, ⟨by omega, by omega⟩, rfl, (fun gg qq H => OFS_of (q3_0 gg qq H) (q7_0 gg qq H) (q11_0 gg qq H) (by omega))⟩
abbrev q_X7_counted (o : Nat) (w : Nat) (k : Int) (σ : tw_M) : Option tw_V → tw_M → Prop := fun z τ => ∃ r : Int, z = some (vI r) ∧ (0 ≤ r ∧ r ≤ 18) ∧ σ = τ ∧ (∀ gg qq : Nat → Int, RG o gg qq σ → k < σ o 0 → r = CTD (wW w σ) gg qq (σ o 0) k)
set_option maxHeartbeats 4000000 in
set_option maxRecDepth 100000 in
theorem c_X7_counted {G : tw_G} (o : Nat) (ho : IsRow G o) (w : Nat) (hw : IsWall G w) (k : Int) (hk : 0 ≤ k ∧ k ≤ 9) (σ : tw_M) (hI : tw_I σ) : tw_C G yX7_counted cX7_counted 3 (some .int) 3 [vR o, vR w, vI k] σ (q_X7_counted o w k σ) := by
  refine tw_met [(0, vR o), (1, vR w), (2, vI k)] (by decide +kernel) rfl (Nat.le_of_ble_eq_true rfl) ?_
  have s01 : (0 : Int) ≤ σ (o + 3) k.toNat ∧ σ (o + 3) k.toNat ≤ 1 := tw_Ig ho.2.2.2.2 hI _
  refine j_aload_n (pc := 0) dX7_counted_0 rfl rfl ?_
  refine j_getR (pc := 1) (r := o + 3) fl_X7_22 dX7_counted_1 ho.1.1 rfl ?_
  refine j_iload_n (pc := 4) dX7_counted_4 rfl rfl ?_
  refine j_iald (pc := 5) dX7_counted_5 ho.1.2.2.2 (by omega) (by omega) (by decide) ?_
  have f1 : (0 : Int) ≤ σ (o + 3) (k.toNat) ∧ σ (o + 3) (k.toNat) ≤ 1 := tw_Ig ho.2.2.2.2 hI (k.toNat)
  refine j_ifR_eq (pc := 6) (tgt := 20) ⟨by omega, by omega⟩ dX7_counted_6 rfl (fun h2 => ?_) (fun h2 => ?_)
  · refine j_aload_n (pc := 20) dX7_counted_20 rfl rfl ?_
    refine j_aload_n (pc := 21) dX7_counted_21 rfl rfl ?_
    refine j_iload_n (pc := 22) dX7_counted_22 rfl rfl ?_
    refine j_callV (pc := 23) (As := [vR w, vI k]) (st := []) (c_X7_off o ho w hw k ⟨by omega, by omega⟩ σ hI) mv_X7_47 rfl rfl rfl ho.1.1 dX7_counted_23 ⟨Nat.le_of_ble_eq_true rfl, Nat.le_of_ble_eq_true rfl⟩ ⟨Nat.le_refl _, Nat.le_refl _⟩ rfl (Nat.le_of_ble_eq_true rfl) rfl (fun z3 σ4 hz3 => ?_)
    obtain ⟨r6, rfl, hr6, rfl, q5_0⟩ := hz3
    replace q5_0 : ∀ gg qq : Nat → Int, RG o gg qq σ → r6 = OFS (wW w σ) gg (σ o 0) k := q5_0
    refine j_st (st' := [vI r6]) rfl ?_
    have of := q5_0
    exact j_iret (pc := 26) ⟨rfl, rfl⟩ dX7_counted_26 rfl ⟨_, rfl, ⟨by omega, by omega⟩, rfl, (fun gg qq H hk => by (have f := RG_fok H (k := k) ⟨by omega, hk⟩); first | exact CTD_of (of gg qq H) f.2.2.1 (Or.inl ⟨by omega, dv⟩) | exact CTD_of (of gg qq H) f.2.2.1 (Or.inr ⟨by omega, rfl⟩))⟩
  · refine j_aload_n (pc := 9) dX7_counted_9 rfl rfl ?_
    refine j_aload_n (pc := 10) dX7_counted_10 rfl rfl ?_
    refine j_iload_n (pc := 11) dX7_counted_11 rfl rfl ?_
    refine j_callV (pc := 12) (As := [vR w, vI k]) (st := []) (c_X7_off o ho w hw k ⟨by omega, by omega⟩ σ hI) mv_X7_47 rfl rfl rfl ho.1.1 dX7_counted_12 ⟨Nat.le_of_ble_eq_true rfl, Nat.le_of_ble_eq_true rfl⟩ ⟨Nat.le_refl _, Nat.le_refl _⟩ rfl (Nat.le_of_ble_eq_true rfl) rfl (fun z7 σ8 hz7 => ?_)
    obtain ⟨r10, rfl, hr10, rfl, q9_0⟩ := hz7
    replace q9_0 : ∀ gg qq : Nat → Int, RG o gg qq σ → r10 = OFS (wW w σ) gg (σ o 0) k := q9_0
    refine j_st (st' := [vI r10]) rfl ?_
    have of := q9_0
    refine j_iconst (pc := 15) dX7_counted_15 ?_
    refine j_idiv (pc := 16) dX7_counted_16 (tw_nz ⟨by omega, by omega⟩ (by omega)) (fun z11 ez11 => ?_)
    have hz11 : (-2147483648 : Int) ≤ z11 ∧ z11 ≤ 2147483647 := by rw [ez11]; exact div_in _ _
    have gz11 : z11 = r10 / 2 := by rw [ez11]; exact div_pos_eq (by omega) (by omega) (by omega) (by omega)
    have dv := ez11
    refine j_goto (pc := 17) (tgt := 26) dX7_counted_17 rfl ?_
    have of := q9_0
    exact j_iret (pc := 26) ⟨rfl, rfl⟩ dX7_counted_26 rfl ⟨_, rfl, ⟨by omega, by omega⟩, rfl, (fun gg qq H hk => by (have f := RG_fok H (k := k) ⟨by omega, hk⟩); first | exact CTD_of (of gg qq H) f.2.2.1 (Or.inl ⟨by omega, dv⟩) | exact CTD_of (of gg qq H) f.2.2.1 (Or.inr ⟨by omega, rfl⟩))⟩
abbrev q_X7_dragOf (o : Nat) (w : Nat) (σ : tw_M) : Option tw_V → tw_M → Prop := fun z τ => ∃ r : Int, z = some (vI r) ∧ (0 ≤ r ∧ r ≤ 180) ∧ σ = τ ∧ (∀ gg qq : Nat → Int, RG o gg qq σ → r = DRS (wW w σ) gg qq (σ o 0) (σ o 0).toNat)
set_option maxHeartbeats 4000000 in
set_option maxRecDepth 100000 in
theorem l_X7_dragOf {G : tw_G} (o : Nat) (ho : IsRow G o) (w : Nat) (hw : IsWall G w) (σ : tw_M) (hI : tw_I σ) : ∀ N_ : Nat, (∀ (s : Int) (hs : 0 ≤ s ∧ s ≤ 180) (k : Int) (hk : 0 ≤ k ∧ k ≤ 10) (i0 : s ≤ 18 * k) (i1 : ∀ gg qq : Nat → Int, RG o gg qq σ → s = DRS (wW w σ) gg qq (σ o 0) k.toNat) (i2 : k ≤ σ o 0) (hm : (10 - k).toNat < N_), tw_J G (tw_mt RX7 cX7_dragOf 4 (some .int) 4) (tw_E G (q_X7_dragOf o w σ)) 4 [(0, vR o), (1, vR w), (2, vI s), (3, vI k)] [] σ) := by
  intro N_
  induction N_ with
  | zero => exact fun s hs k hk i0 i1 i2 hm => absurd hm (Nat.not_lt_zero _)
  | succ N_ ih =>
    intro s hs k hk i0 i1 i2 hm
    refine j_iload_n (pc := 4) dX7_dragOf_4 rfl rfl ?_
    refine j_aload_n (pc := 5) dX7_dragOf_5 rfl rfl ?_
    refine j_getI (pc := 6) fl_X7_9 dX7_dragOf_6 ho.1.1 rfl ?_
    have f1 : (0 : Int) ≤ σ o 0 ∧ σ o 0 ≤ 10 := tw_Ig ho.2.1 hI 0
    refine j_icmpR_ge (pc := 9) (tgt := 27) ⟨by omega, by omega⟩ ⟨by omega, by omega⟩ dX7_dragOf_9 rfl (fun h2 => ?_) (fun h2 => ?_)
    · refine j_iload_n (pc := 27) dX7_dragOf_27 rfl rfl ?_
      exact j_iret (pc := 28) ⟨rfl, rfl⟩ dX7_dragOf_28 rfl ⟨_, rfl, ⟨by omega, by omega⟩, rfl, (fun gg qq H => by rw [i1 gg qq H, show k = σ o 0 from by omega])⟩
    · refine j_iload_n (pc := 12) dX7_dragOf_12 rfl rfl ?_
      refine j_aload_n (pc := 13) dX7_dragOf_13 rfl rfl ?_
      refine j_aload_n (pc := 14) dX7_dragOf_14 rfl rfl ?_
      refine j_iload_n (pc := 15) dX7_dragOf_15 rfl rfl ?_
      refine j_callV (pc := 16) (As := [vR w, vI k]) (st := [vI s]) (c_X7_counted o ho w hw k ⟨by omega, by omega⟩ σ hI) mv_X7_50 rfl rfl rfl ho.1.1 dX7_dragOf_16 ⟨Nat.le_of_ble_eq_true rfl, Nat.le_of_ble_eq_true rfl⟩ ⟨Nat.le_refl _, Nat.le_refl _⟩ rfl (Nat.le_of_ble_eq_true rfl) rfl (fun z3 σ4 hz3 => ?_)
      obtain ⟨r6, rfl, hr6, rfl, q5_0⟩ := hz3
      replace q5_0 : ∀ gg qq : Nat → Int, RG o gg qq σ → k < σ o 0 → r6 = CTD (wW w σ) gg qq (σ o 0) k := q5_0
      refine j_st (st' := [vI r6, vI s]) rfl ?_
      have ct := q5_0
      refine j_iadd (pc := 19) dX7_dragOf_19 ?_
      refine j_istore_n (pc := 20) (i := 2) (ls' := [(0, vR o), (1, vR w), (2, vI (s + r6)), (3, vI k)]) [1, 2, 0, 3] dX7_dragOf_20 rfl (Nat.le_of_ble_eq_true rfl) rfl rfl ?_
      refine j_iinc (pc := 21) (i := 3) (n := 1) (ls' := [(0, vR o), (1, vR w), (2, vI (s + r6)), (3, vI (k + 1))]) [1, 2, 3, 0] dX7_dragOf_21 rfl (Nat.le_of_ble_eq_true rfl) rfl rfl ?_
      refine j_goto (pc := 24) (tgt := 4) dX7_dragOf_24 rfl ?_
      refine j_ls (ls' := [(0, vR o), (1, vR w), (2, vI (s + r6)), (3, vI (k + 1))]) [0, 1, 2, 3] rfl ?_
      exact ih (s + r6) ⟨by omega, by omega⟩ (k + 1) ⟨by omega, by omega⟩ (show (s + r6) ≤ 18 * (k + 1) from by omega) (show ∀ gg qq : Nat → Int, RG o gg qq σ → (s + r6) = DRS (wW w σ) gg qq (σ o 0) (k + 1).toNat from (fun gg qq H => by rw [DRS_s (by omega), ← i1 gg qq H, ← ct gg qq H (by omega)])) (show (k + 1) ≤ σ o 0 from by omega) (show (10 - (k + 1)).toNat < N_ from by omega)
set_option maxHeartbeats 4000000 in
set_option maxRecDepth 100000 in
theorem c_X7_dragOf {G : tw_G} (o : Nat) (ho : IsRow G o) (w : Nat) (hw : IsWall G w) (σ : tw_M) (hI : tw_I σ) : tw_C G yX7_dragOf cX7_dragOf 4 (some .int) 4 [vR o, vR w] σ (q_X7_dragOf o w σ) := by
  refine tw_met [(0, vR o), (1, vR w)] (by decide +kernel) rfl (Nat.le_of_ble_eq_true rfl) ?_
  have o10 : (0 : Int) ≤ σ o 0 ∧ σ o 0 ≤ 10 := tw_Ig ho.2.1 hI 0
  refine j_iconst (pc := 0) dX7_dragOf_0 ?_
  refine j_istore_n (pc := 1) (i := 2) (ls' := [(0, vR o), (1, vR w), (2, vI 0)]) [1, 2, 0] dX7_dragOf_1 rfl (Nat.le_of_ble_eq_true rfl) rfl rfl ?_
  refine j_iconst (pc := 2) dX7_dragOf_2 ?_
  refine j_istore_n (pc := 3) (i := 3) (ls' := [(0, vR o), (1, vR w), (2, vI 0), (3, vI 0)]) [1, 2, 3, 0] dX7_dragOf_3 rfl (Nat.le_of_ble_eq_true rfl) rfl rfl ?_
  refine j_ls (ls' := [(0, vR o), (1, vR w), (2, vI 0), (3, vI 0)]) [0, 1, 2, 3] rfl ?_
  exact (l_X7_dragOf o ho w hw σ hI (((10 - (0 : Int)).toNat) + 1)) 0 (by (first | decide | exact ⟨by omega, by omega⟩)) 0 (by (first | decide | exact ⟨by omega, by omega⟩)) (show (0 : Int) ≤ 18 * (0 : Int) from by omega) (show ∀ gg qq : Nat → Int, RG o gg qq σ → (0 : Int) = DRS (wW w σ) gg qq (σ o 0) (0 : Int).toNat from (fun gg qq H => rfl)) (show (0 : Int) ≤ σ o 0 from by omega) (Nat.lt_succ_self _)
abbrev q_X7_dragWith (o : Nat) (w : Nat) (b : Int) (σ : tw_M) : Option tw_V → tw_M → Prop := fun z τ => ∃ r : Int, z = some (vI r) ∧ (0 ≤ r ∧ r ≤ 180) ∧ σ = τ ∧ True
set_option maxHeartbeats 4000000 in
set_option maxRecDepth 100000 in
theorem l_X7_dragWith {G : tw_G} (o : Nat) (ho : IsRow G o) (w : Nat) (hw : IsWall G w) (b : Int) (hb : -2147483648 ≤ b ∧ b ≤ 2147483647) (σ : tw_M) (hI : tw_I σ) : ∀ N_ : Nat, (∀ (s : Int) (hs : 0 ≤ s ∧ s ≤ 180) (k : Int) (hk : 0 ≤ k ∧ k ≤ 10) (i0 : s ≤ 18 * k) (hm : (10 - k).toNat < N_), tw_J G (tw_mt RX7 cX7_dragWith 5 (some .int) 3) (tw_E G (q_X7_dragWith o w b σ)) 5 [(0, vR o), (1, vR w), (2, vI b), (3, vI s), (4, vI k)] [] σ) := by
  intro N_
  induction N_ with
  | zero => exact fun s hs k hk i0 hm => absurd hm (Nat.not_lt_zero _)
  | succ N_ ih =>
    intro s hs k hk i0 hm
    refine j_iload (pc := 5) dX7_dragWith_5 rfl ?_
    refine j_aload_n (pc := 7) dX7_dragWith_7 rfl rfl ?_
    refine j_getI (pc := 8) fl_X7_9 dX7_dragWith_8 ho.1.1 rfl ?_
    have f1 : (0 : Int) ≤ σ o 0 ∧ σ o 0 ≤ 10 := tw_Ig ho.2.1 hI 0
    refine j_icmpR_ge (pc := 11) (tgt := 51) ⟨by omega, by omega⟩ ⟨by omega, by omega⟩ dX7_dragWith_11 rfl (fun h2 => ?_) (fun h2 => ?_)
    · refine j_iload_n (pc := 51) dX7_dragWith_51 rfl rfl ?_
      exact j_iret (pc := 52) ⟨rfl, rfl⟩ dX7_dragWith_52 rfl ⟨_, rfl, ⟨by omega, by omega⟩, rfl, trivial⟩
    · refine j_iload_n (pc := 14) dX7_dragWith_14 rfl rfl ?_
      refine j_iload_n (pc := 15) dX7_dragWith_15 rfl rfl ?_
      refine j_iload (pc := 16) dX7_dragWith_16 rfl ?_
      refine j_ishr (pc := 18) dX7_dragWith_18 (fun z3 ez3 => ?_)
      have hz3 : (-2147483648 : Int) ≤ z3 ∧ z3 ≤ 2147483647 := by rw [ez3]; exact shr_in _ _
      refine j_iconst (pc := 19) dX7_dragWith_19 ?_
      refine j_iand (pc := 20) dX7_dragWith_20 (fun z4 ez4 => ?_)
      have hz4 : (-2147483648 : Int) ≤ z4 ∧ z4 ≤ 2147483647 := by rw [ez4]; exact and_in _ _
      refine j_ifR_eq (pc := 21) (tgt := 36) ⟨by omega, by omega⟩ dX7_dragWith_21 rfl (fun h5 => ?_) (fun h5 => ?_)
      · refine j_aload_n (pc := 36) dX7_dragWith_36 rfl rfl ?_
        refine j_aload_n (pc := 37) dX7_dragWith_37 rfl rfl ?_
        refine j_iload (pc := 38) dX7_dragWith_38 rfl ?_
        refine j_callV (pc := 40) (As := [vR w, vI k]) (st := [vI s]) (c_X7_off o ho w hw k ⟨by omega, by omega⟩ σ hI) mv_X7_47 rfl rfl rfl ho.1.1 dX7_dragWith_40 ⟨Nat.le_of_ble_eq_true rfl, Nat.le_of_ble_eq_true rfl⟩ ⟨Nat.le_refl _, Nat.le_refl _⟩ rfl (Nat.le_of_ble_eq_true rfl) rfl (fun z6 σ7 hz6 => ?_)
        obtain ⟨r9, rfl, hr9, rfl, q8_0⟩ := hz6
        replace q8_0 : ∀ gg qq : Nat → Int, RG o gg qq σ → r9 = OFS (wW w σ) gg (σ o 0) k := q8_0
        refine j_st (st' := [vI r9, vI s]) rfl ?_
        refine j_iadd (pc := 43) dX7_dragWith_43 ?_
        refine j_istore_n (pc := 44) (i := 3) (ls' := [(0, vR o), (1, vR w), (2, vI b), (3, vI (s + r9)), (4, vI k)]) [1, 2, 3, 0, 4] dX7_dragWith_44 rfl (Nat.le_of_ble_eq_true rfl) rfl rfl ?_
        refine j_iinc (pc := 45) (i := 4) (n := 1) (ls' := [(0, vR o), (1, vR w), (2, vI b), (3, vI (s + r9)), (4, vI (k + 1))]) [1, 2, 3, 4, 0] dX7_dragWith_45 rfl (Nat.le_of_ble_eq_true rfl) rfl rfl ?_
        refine j_goto (pc := 48) (tgt := 5) dX7_dragWith_48 rfl ?_
        refine j_ls (ls' := [(0, vR o), (1, vR w), (2, vI b), (3, vI (s + r9)), (4, vI (k + 1))]) [0, 1, 2, 3, 4] rfl ?_
        exact ih (s + r9) ⟨by omega, by omega⟩ (k + 1) ⟨by omega, by omega⟩ (show (s + r9) ≤ 18 * (k + 1) from by omega) (show (10 - (k + 1)).toNat < N_ from by omega)
      · refine j_aload_n (pc := 24) dX7_dragWith_24 rfl rfl ?_
        refine j_aload_n (pc := 25) dX7_dragWith_25 rfl rfl ?_
        refine j_iload (pc := 26) dX7_dragWith_26 rfl ?_
        refine j_callV (pc := 28) (As := [vR w, vI k]) (st := [vI s]) (c_X7_off o ho w hw k ⟨by omega, by omega⟩ σ hI) mv_X7_47 rfl rfl rfl ho.1.1 dX7_dragWith_28 ⟨Nat.le_of_ble_eq_true rfl, Nat.le_of_ble_eq_true rfl⟩ ⟨Nat.le_refl _, Nat.le_refl _⟩ rfl (Nat.le_of_ble_eq_true rfl) rfl (fun z10 σ11 hz10 => ?_)
        obtain ⟨r13, rfl, hr13, rfl, q12_0⟩ := hz10
        replace q12_0 : ∀ gg qq : Nat → Int, RG o gg qq σ → r13 = OFS (wW w σ) gg (σ o 0) k := q12_0
        refine j_st (st' := [vI r13, vI s]) rfl ?_
        refine j_iconst (pc := 31) dX7_dragWith_31 ?_
        refine j_idiv (pc := 32) dX7_dragWith_32 (tw_nz ⟨by omega, by omega⟩ (by omega)) (fun z14 ez14 => ?_)
        have hz14 : (-2147483648 : Int) ≤ z14 ∧ z14 ≤ 2147483647 := by rw [ez14]; exact div_in _ _
        have gz14 : z14 = r13 / 2 := by rw [ez14]; exact div_pos_eq (by omega) (by omega) (by omega) (by omega)
        refine j_goto (pc := 33) (tgt := 43) dX7_dragWith_33 rfl ?_
        refine j_iadd (pc := 43) dX7_dragWith_43 ?_
        refine j_istore_n (pc := 44) (i := 3) (ls' := [(0, vR o), (1, vR w), (2, vI b), (3, vI (s + z14)), (4, vI k)]) [1, 2, 3, 0, 4] dX7_dragWith_44 rfl (Nat.le_of_ble_eq_true rfl) rfl rfl ?_
        refine j_iinc (pc := 45) (i := 4) (n := 1) (ls' := [(0, vR o), (1, vR w), (2, vI b), (3, vI (s + z14)), (4, vI (k + 1))]) [1, 2, 3, 4, 0] dX7_dragWith_45 rfl (Nat.le_of_ble_eq_true rfl) rfl rfl ?_
        refine j_goto (pc := 48) (tgt := 5) dX7_dragWith_48 rfl ?_
        refine j_ls (ls' := [(0, vR o), (1, vR w), (2, vI b), (3, vI (s + z14)), (4, vI (k + 1))]) [0, 1, 2, 3, 4] rfl ?_
        exact ih (s + z14) ⟨by omega, by omega⟩ (k + 1) ⟨by omega, by omega⟩ (show (s + z14) ≤ 18 * (k + 1) from by omega) (show (10 - (k + 1)).toNat < N_ from by omega)
set_option maxHeartbeats 4000000 in
set_option maxRecDepth 100000 in
theorem c_X7_dragWith {G : tw_G} (o : Nat) (ho : IsRow G o) (w : Nat) (hw : IsWall G w) (b : Int) (hb : -2147483648 ≤ b ∧ b ≤ 2147483647) (σ : tw_M) (hI : tw_I σ) : tw_C G yX7_dragWith cX7_dragWith 5 (some .int) 3 [vR o, vR w, vI b] σ (q_X7_dragWith o w b σ) := by
  refine tw_met [(0, vR o), (1, vR w), (2, vI b)] (by decide +kernel) rfl (Nat.le_of_ble_eq_true rfl) ?_
  refine j_iconst (pc := 0) dX7_dragWith_0 ?_
  refine j_istore_n (pc := 1) (i := 3) (ls' := [(0, vR o), (1, vR w), (2, vI b), (3, vI 0)]) [1, 2, 3, 0] dX7_dragWith_1 rfl (Nat.le_of_ble_eq_true rfl) rfl rfl ?_
  refine j_iconst (pc := 2) dX7_dragWith_2 ?_
  refine j_istore (pc := 3) (i := 4) (ls' := [(0, vR o), (1, vR w), (2, vI b), (3, vI 0), (4, vI 0)]) [1, 2, 3, 4, 0] dX7_dragWith_3 (Nat.le_of_ble_eq_true rfl) rfl rfl ?_
  refine j_ls (ls' := [(0, vR o), (1, vR w), (2, vI b), (3, vI 0), (4, vI 0)]) [0, 1, 2, 3, 4] rfl ?_
  exact (l_X7_dragWith o ho w hw b hb σ hI (((10 - (0 : Int)).toNat) + 1)) 0 (by (first | decide | exact ⟨by omega, by omega⟩)) 0 (by (first | decide | exact ⟨by omega, by omega⟩)) (show (0 : Int) ≤ 18 * (0 : Int) from by omega) (Nat.lt_succ_self _)
abbrev q_X7_bestSlings (o : Nat) (w : Nat) (m : Int) (σ : tw_M) : Option tw_V → tw_M → Prop := fun z τ => ∃ r : Int, z = some (vI r) ∧ (-2147483648 ≤ r ∧ r ≤ 2147483647) ∧ σ = τ ∧ True
set_option maxHeartbeats 4000000 in
set_option maxRecDepth 100000 in
theorem l_X7_bestSlings {G : tw_G} (o : Nat) (ho : IsRow G o) (w : Nat) (hw : IsWall G w) (m : Int) (hm : 0 ≤ m ∧ m ≤ 10) (σ : tw_M) (hI : tw_I σ) : ∀ N_ : Nat, (∀ (b : Int) (hb : -2147483648 ≤ b ∧ b ≤ 2147483647) (i : Int) (hi : 0 ≤ i ∧ i ≤ 10)  (hm : (10 - i).toNat * 20 + 15 < N_), tw_J G (tw_mt RX7 cX7_bestSlings 9 (some .int) 3) (tw_E G (q_X7_bestSlings o w m σ)) 5 [(0, vR o), (1, vR w), (2, vI m), (3, vI b), (4, vI i)] [] σ) ∧ (∀ (b : Int) (hb : -2147483648 ≤ b ∧ b ≤ 2147483647) (i : Int) (hi : 0 ≤ i ∧ i ≤ 9) (t : Int) (ht : -1 ≤ t ∧ t ≤ 9) (s : Int) (hs : 0 ≤ s ∧ s ≤ 18) (k : Int) (hk : 0 ≤ k ∧ k ≤ 10)  (hm : (10 - i).toNat * 20 + (10 - k).toNat < N_), tw_J G (tw_mt RX7 cX7_bestSlings 9 (some .int) 3) (tw_E G (q_X7_bestSlings o w m σ)) 29 [(0, vR o), (1, vR w), (2, vI m), (3, vI b), (4, vI i), (5, vI t), (6, vI s), (7, vI k)] [] σ) := by
  intro N_
  induction N_ with
  | zero => exact ⟨fun b hb i hi hm => absurd hm (Nat.not_lt_zero _), fun b hb i hi t ht s hs k hk hm => absurd hm (Nat.not_lt_zero _)⟩
  | succ N_ ih =>
    refine ⟨?_, ?_⟩
    · intro b hb i hi hm
      refine j_iload (pc := 5) dX7_bestSlings_5 rfl ?_
      refine j_iload_n (pc := 7) dX7_bestSlings_7 rfl rfl ?_
      refine j_icmpR_ge (pc := 8) (tgt := 105) ⟨by omega, by omega⟩ ⟨by omega, by omega⟩ dX7_bestSlings_8 rfl (fun h1 => ?_) (fun h1 => ?_)
      · refine j_iload_n (pc := 105) dX7_bestSlings_105 rfl rfl ?_
        exact j_iret (pc := 106) ⟨rfl, rfl⟩ dX7_bestSlings_106 rfl ⟨_, rfl, ⟨by omega, by omega⟩, rfl, trivial⟩
      · refine j_iload (pc := 11) dX7_bestSlings_11 rfl ?_
        refine j_aload_n (pc := 13) dX7_bestSlings_13 rfl rfl ?_
        refine j_getI (pc := 14) fl_X7_9 dX7_bestSlings_14 ho.1.1 rfl ?_
        have f2 : (0 : Int) ≤ σ o 0 ∧ σ o 0 ≤ 10 := tw_Ig ho.2.1 hI 0
        refine j_icmpR_ge (pc := 17) (tgt := 105) ⟨by omega, by omega⟩ ⟨by omega, by omega⟩ dX7_bestSlings_17 rfl (fun h3 => ?_) (fun h3 => ?_)
        · refine j_iload_n (pc := 105) dX7_bestSlings_105 rfl rfl ?_
          exact j_iret (pc := 106) ⟨rfl, rfl⟩ dX7_bestSlings_106 rfl ⟨_, rfl, ⟨by omega, by omega⟩, rfl, trivial⟩
        · refine j_iconst (pc := 20) dX7_bestSlings_20 ?_
          refine j_istore (pc := 21) (i := 5) (ls' := [(0, vR o), (1, vR w), (2, vI m), (3, vI b), (4, vI i), (5, vI (-1))]) [1, 2, 3, 4, 5, 0] dX7_bestSlings_21 (Nat.le_of_ble_eq_true rfl) rfl rfl ?_
          refine j_iconst (pc := 23) dX7_bestSlings_23 ?_
          refine j_istore (pc := 24) (i := 6) (ls' := [(0, vR o), (1, vR w), (2, vI m), (3, vI b), (4, vI i), (5, vI (-1)), (6, vI 0)]) [1, 2, 3, 4, 5, 6, 0] dX7_bestSlings_24 (Nat.le_of_ble_eq_true rfl) rfl rfl ?_
          refine j_iconst (pc := 26) dX7_bestSlings_26 ?_
          refine j_istore (pc := 27) (i := 7) (ls' := [(0, vR o), (1, vR w), (2, vI m), (3, vI b), (4, vI i), (5, vI (-1)), (6, vI 0), (7, vI 0)]) [1, 2, 3, 4, 5, 6, 7, 0] dX7_bestSlings_27 (Nat.le_of_ble_eq_true rfl) rfl rfl ?_
          refine j_ls (ls' := [(0, vR o), (1, vR w), (2, vI m), (3, vI b), (4, vI i), (5, vI (-1)), (6, vI 0), (7, vI 0)]) [0, 1, 2, 3, 4, 5, 6, 7] rfl ?_
          exact ih.2 b ⟨by omega, by omega⟩ i ⟨by omega, by omega⟩ (-1) (by (first | decide | exact ⟨by omega, by omega⟩)) 0 (by (first | decide | exact ⟨by omega, by omega⟩)) 0 (by (first | decide | exact ⟨by omega, by omega⟩)) (show (10 - i).toNat * 20 + (10 - (0 : Int)).toNat < N_ from by omega)
    · intro b hb i hi t ht s hs k hk hm
      refine j_iload (pc := 29) dX7_bestSlings_29 rfl ?_
      refine j_aload_n (pc := 31) dX7_bestSlings_31 rfl rfl ?_
      refine j_getI (pc := 32) fl_X7_9 dX7_bestSlings_32 ho.1.1 rfl ?_
      have f4 : (0 : Int) ≤ σ o 0 ∧ σ o 0 ≤ 10 := tw_Ig ho.2.1 hI 0
      refine j_icmpR_ge (pc := 35) (tgt := 87) ⟨by omega, by omega⟩ ⟨by omega, by omega⟩ dX7_bestSlings_35 rfl (fun h5 => ?_) (fun h5 => ?_)
      · refine j_iload (pc := 87) dX7_bestSlings_87 rfl ?_
        refine j_ifR_lt (pc := 89) (tgt := 99) ⟨by omega, by omega⟩ dX7_bestSlings_89 rfl (fun h6 => ?_) (fun h6 => ?_)
        · refine j_iinc (pc := 99) (i := 4) (n := 1) (ls' := [(0, vR o), (1, vR w), (2, vI m), (3, vI b), (4, vI (i + 1))]) [1, 2, 3, 4, 0] dX7_bestSlings_99 rfl (Nat.le_of_ble_eq_true rfl) rfl rfl ?_
          refine j_goto (pc := 102) (tgt := 5) dX7_bestSlings_102 rfl ?_
          refine j_ls (ls' := [(0, vR o), (1, vR w), (2, vI m), (3, vI b), (4, vI (i + 1))]) [0, 1, 2, 3, 4] rfl ?_
          exact ih.1 b ⟨by omega, by omega⟩ (i + 1) ⟨by omega, by omega⟩ (show (10 - (i + 1)).toNat * 20 + 15 < N_ from by omega)
        · refine j_iload_n (pc := 92) dX7_bestSlings_92 rfl rfl ?_
          refine j_iconst (pc := 93) dX7_bestSlings_93 ?_
          refine j_iload (pc := 94) dX7_bestSlings_94 rfl ?_
          refine j_ishl (pc := 96) dX7_bestSlings_96 (fun z7 ez7 => ?_)
          have hz7 : (-2147483648 : Int) ≤ z7 ∧ z7 ≤ 2147483647 := by rw [ez7]; exact shl_in _ _
          refine j_ior (pc := 97) dX7_bestSlings_97 (fun z8 ez8 => ?_)
          have hz8 : (-2147483648 : Int) ≤ z8 ∧ z8 ≤ 2147483647 := by rw [ez8]; exact or_in _ _
          refine j_istore_n (pc := 98) (i := 3) (ls' := [(0, vR o), (1, vR w), (2, vI m), (3, vI z8), (4, vI i)]) [1, 2, 3, 0, 4] dX7_bestSlings_98 rfl (Nat.le_of_ble_eq_true rfl) rfl rfl ?_
          refine j_iinc (pc := 99) (i := 4) (n := 1) (ls' := [(0, vR o), (1, vR w), (2, vI m), (3, vI z8), (4, vI (i + 1))]) [1, 2, 3, 4, 0] dX7_bestSlings_99 rfl (Nat.le_of_ble_eq_true rfl) rfl rfl ?_
          refine j_goto (pc := 102) (tgt := 5) dX7_bestSlings_102 rfl ?_
          refine j_ls (ls' := [(0, vR o), (1, vR w), (2, vI m), (3, vI z8), (4, vI (i + 1))]) [0, 1, 2, 3, 4] rfl ?_
          exact ih.1 z8 ⟨by omega, by omega⟩ (i + 1) ⟨by omega, by omega⟩ (show (10 - (i + 1)).toNat * 20 + 15 < N_ from by omega)
      · refine j_aload_n (pc := 38) dX7_bestSlings_38 rfl rfl ?_
        refine j_aload_n (pc := 39) dX7_bestSlings_39 rfl rfl ?_
        refine j_iload (pc := 40) dX7_bestSlings_40 rfl ?_
        refine j_callV (pc := 42) (As := [vR w, vI k]) (st := []) (c_X7_off o ho w hw k ⟨by omega, by omega⟩ σ hI) mv_X7_47 rfl rfl rfl ho.1.1 dX7_bestSlings_42 ⟨Nat.le_of_ble_eq_true rfl, Nat.le_of_ble_eq_true rfl⟩ ⟨Nat.le_refl _, Nat.le_refl _⟩ rfl (Nat.le_of_ble_eq_true rfl) rfl (fun z9 σ10 hz9 => ?_)
        obtain ⟨r12, rfl, hr12, rfl, q11_0⟩ := hz9
        replace q11_0 : ∀ gg qq : Nat → Int, RG o gg qq σ → r12 = OFS (wW w σ) gg (σ o 0) k := q11_0
        refine j_st (st' := [vI r12]) rfl ?_
        refine j_aload_n (pc := 45) dX7_bestSlings_45 rfl rfl ?_
        refine j_aload_n (pc := 46) dX7_bestSlings_46 rfl rfl ?_
        refine j_iload (pc := 47) dX7_bestSlings_47 rfl ?_
        refine j_callV (pc := 49) (As := [vR w, vI k]) (st := [vI r12]) (c_X7_off o ho w hw k ⟨by omega, by omega⟩ σ hI) mv_X7_47 rfl rfl rfl ho.1.1 dX7_bestSlings_49 ⟨Nat.le_of_ble_eq_true rfl, Nat.le_of_ble_eq_true rfl⟩ ⟨Nat.le_refl _, Nat.le_refl _⟩ rfl (Nat.le_of_ble_eq_true rfl) rfl (fun z13 σ14 hz13 => ?_)
        obtain ⟨r16, rfl, hr16, rfl, q15_0⟩ := hz13
        replace q15_0 : ∀ gg qq : Nat → Int, RG o gg qq σ → r16 = OFS (wW w σ) gg (σ o 0) k := q15_0
        refine j_st (st' := [vI r16, vI r12]) rfl ?_
        refine j_iconst (pc := 52) dX7_bestSlings_52 ?_
        refine j_idiv (pc := 53) dX7_bestSlings_53 (tw_nz ⟨by omega, by omega⟩ (by omega)) (fun z17 ez17 => ?_)
        have hz17 : (-2147483648 : Int) ≤ z17 ∧ z17 ≤ 2147483647 := by rw [ez17]; exact div_in _ _
        have gz17 : z17 = r16 / 2 := by rw [ez17]; exact div_pos_eq (by omega) (by omega) (by omega) (by omega)
        refine j_isub (pc := 54) dX7_bestSlings_54 ?_
        refine j_istore (pc := 55) (i := 8) (ls' := [(0, vR o), (1, vR w), (2, vI m), (3, vI b), (4, vI i), (5, vI t), (6, vI s), (7, vI k), (8, vI (r12 - z17))]) [1, 2, 3, 4, 5, 6, 7, 8, 0] dX7_bestSlings_55 (Nat.le_of_ble_eq_true rfl) rfl rfl ?_
        refine j_iload_n (pc := 57) dX7_bestSlings_57 rfl rfl ?_
        refine j_iload (pc := 58) dX7_bestSlings_58 rfl ?_
        refine j_ishr (pc := 60) dX7_bestSlings_60 (fun z18 ez18 => ?_)
        have hz18 : (-2147483648 : Int) ≤ z18 ∧ z18 ≤ 2147483647 := by rw [ez18]; exact shr_in _ _
        refine j_iconst (pc := 61) dX7_bestSlings_61 ?_
        refine j_iand (pc := 62) dX7_bestSlings_62 (fun z19 ez19 => ?_)
        have hz19 : (-2147483648 : Int) ≤ z19 ∧ z19 ≤ 2147483647 := by rw [ez19]; exact and_in _ _
        refine j_ifR_ne (pc := 63) (tgt := 81) ⟨by omega, by omega⟩ dX7_bestSlings_63 rfl (fun h20 => ?_) (fun h20 => ?_)
        · refine j_iinc (pc := 81) (i := 7) (n := 1) (ls' := [(0, vR o), (1, vR w), (2, vI m), (3, vI b), (4, vI i), (5, vI t), (6, vI s), (7, vI (k + 1))]) [1, 2, 3, 4, 5, 6, 7, 0] dX7_bestSlings_81 rfl (Nat.le_of_ble_eq_true rfl) rfl rfl ?_
          refine j_goto (pc := 84) (tgt := 29) dX7_bestSlings_84 rfl ?_
          refine j_ls (ls' := [(0, vR o), (1, vR w), (2, vI m), (3, vI b), (4, vI i), (5, vI t), (6, vI s), (7, vI (k + 1))]) [0, 1, 2, 3, 4, 5, 6, 7] rfl ?_
          exact ih.2 b ⟨by omega, by omega⟩ i ⟨by omega, by omega⟩ t ⟨by omega, by omega⟩ s ⟨by omega, by omega⟩ (k + 1) ⟨by omega, by omega⟩ (show (10 - i).toNat * 20 + (10 - (k + 1)).toNat < N_ from by omega)
        · refine j_iload (pc := 66) dX7_bestSlings_66 rfl ?_
          refine j_iload (pc := 68) dX7_bestSlings_68 rfl ?_
          refine j_icmpR_le (pc := 70) (tgt := 81) ⟨by omega, by omega⟩ ⟨by omega, by omega⟩ dX7_bestSlings_70 rfl (fun h21 => ?_) (fun h21 => ?_)
          · refine j_iinc (pc := 81) (i := 7) (n := 1) (ls' := [(0, vR o), (1, vR w), (2, vI m), (3, vI b), (4, vI i), (5, vI t), (6, vI s), (7, vI (k + 1))]) [1, 2, 3, 4, 5, 6, 7, 0] dX7_bestSlings_81 rfl (Nat.le_of_ble_eq_true rfl) rfl rfl ?_
            refine j_goto (pc := 84) (tgt := 29) dX7_bestSlings_84 rfl ?_
            refine j_ls (ls' := [(0, vR o), (1, vR w), (2, vI m), (3, vI b), (4, vI i), (5, vI t), (6, vI s), (7, vI (k + 1))]) [0, 1, 2, 3, 4, 5, 6, 7] rfl ?_
            exact ih.2 b ⟨by omega, by omega⟩ i ⟨by omega, by omega⟩ t ⟨by omega, by omega⟩ s ⟨by omega, by omega⟩ (k + 1) ⟨by omega, by omega⟩ (show (10 - i).toNat * 20 + (10 - (k + 1)).toNat < N_ from by omega)
          · refine j_iload (pc := 73) dX7_bestSlings_73 rfl ?_
            refine j_istore (pc := 75) (i := 5) (ls' := [(0, vR o), (1, vR w), (2, vI m), (3, vI b), (4, vI i), (5, vI k), (7, vI k), (8, vI (r12 - z17))]) [1, 2, 3, 4, 5, 0, 7, 8] dX7_bestSlings_75 (Nat.le_of_ble_eq_true rfl) rfl rfl ?_
            refine j_iload (pc := 77) dX7_bestSlings_77 rfl ?_
            refine j_istore (pc := 79) (i := 6) (ls' := [(0, vR o), (1, vR w), (2, vI m), (3, vI b), (4, vI i), (5, vI k), (6, vI (r12 - z17)), (7, vI k)]) [1, 2, 3, 4, 5, 6, 0, 7] dX7_bestSlings_79 (Nat.le_of_ble_eq_true rfl) rfl rfl ?_
            refine j_iinc (pc := 81) (i := 7) (n := 1) (ls' := [(0, vR o), (1, vR w), (2, vI m), (3, vI b), (4, vI i), (5, vI k), (6, vI (r12 - z17)), (7, vI (k + 1))]) [1, 2, 3, 4, 5, 6, 7, 0] dX7_bestSlings_81 rfl (Nat.le_of_ble_eq_true rfl) rfl rfl ?_
            refine j_goto (pc := 84) (tgt := 29) dX7_bestSlings_84 rfl ?_
            refine j_ls (ls' := [(0, vR o), (1, vR w), (2, vI m), (3, vI b), (4, vI i), (5, vI k), (6, vI (r12 - z17)), (7, vI (k + 1))]) [0, 1, 2, 3, 4, 5, 6, 7] rfl ?_
            exact ih.2 b ⟨by omega, by omega⟩ i ⟨by omega, by omega⟩ k ⟨by omega, by omega⟩ (r12 - z17) ⟨by omega, by omega⟩ (k + 1) ⟨by omega, by omega⟩ (show (10 - i).toNat * 20 + (10 - (k + 1)).toNat < N_ from by omega)
set_option maxHeartbeats 4000000 in
set_option maxRecDepth 100000 in
theorem c_X7_bestSlings {G : tw_G} (o : Nat) (ho : IsRow G o) (w : Nat) (hw : IsWall G w) (m : Int) (hm : 0 ≤ m ∧ m ≤ 10) (σ : tw_M) (hI : tw_I σ) : tw_C G yX7_bestSlings cX7_bestSlings 9 (some .int) 3 [vR o, vR w, vI m] σ (q_X7_bestSlings o w m σ) := by
  refine tw_met [(0, vR o), (1, vR w), (2, vI m)] (by decide +kernel) rfl (Nat.le_of_ble_eq_true rfl) ?_
  refine j_iconst (pc := 0) dX7_bestSlings_0 ?_
  refine j_istore_n (pc := 1) (i := 3) (ls' := [(0, vR o), (1, vR w), (2, vI m), (3, vI 0)]) [1, 2, 3, 0] dX7_bestSlings_1 rfl (Nat.le_of_ble_eq_true rfl) rfl rfl ?_
  refine j_iconst (pc := 2) dX7_bestSlings_2 ?_
  refine j_istore (pc := 3) (i := 4) (ls' := [(0, vR o), (1, vR w), (2, vI m), (3, vI 0), (4, vI 0)]) [1, 2, 3, 4, 0] dX7_bestSlings_3 (Nat.le_of_ble_eq_true rfl) rfl rfl ?_
  refine j_ls (ls' := [(0, vR o), (1, vR w), (2, vI m), (3, vI 0), (4, vI 0)]) [0, 1, 2, 3, 4] rfl ?_
  exact (l_X7_bestSlings o ho w hw m hm σ hI (((10 - (0 : Int)).toNat * 20 + 15) + 1)).1 0 (by (first | decide | exact ⟨by omega, by omega⟩)) 0 (by (first | decide | exact ⟨by omega, by omega⟩)) (Nat.lt_succ_self _)
abbrev q_X7_isLifted (o : Nat) (w : Nat) (k : Int) (σ : tw_M) : Option tw_V → tw_M → Prop := fun z τ => ∃ r : Int, z = some (vI r) ∧ (0 ≤ r ∧ r ≤ 1) ∧ σ = τ ∧ (∀ gg qq : Nat → Int, RG o gg qq σ → k < σ o 0 → r = LFI (wW w σ) gg qq (σ o 0) k)
set_option maxHeartbeats 4000000 in
set_option maxRecDepth 100000 in
theorem c_X7_isLifted {G : tw_G} (o : Nat) (ho : IsRow G o) (w : Nat) (hw : IsWall G w) (k : Int) (hk : 0 ≤ k ∧ k ≤ 9) (σ : tw_M) (hI : tw_I σ) : tw_C G yX7_isLifted cX7_isLifted 6 (some .boolean) 2 [vR o, vR w, vI k] σ (q_X7_isLifted o w k σ) := by
  refine tw_met [(0, vR o), (1, vR w), (2, vI k)] (by decide +kernel) rfl (Nat.le_of_ble_eq_true rfl) ?_
  have s01 : (0 : Int) ≤ σ (o + 3) k.toNat ∧ σ (o + 3) k.toNat ≤ 1 := tw_Ig ho.2.2.2.2 hI _
  refine j_aload_n (pc := 0) dX7_isLifted_0 rfl rfl ?_
  refine j_aload_n (pc := 1) dX7_isLifted_1 rfl rfl ?_
  refine j_iload_n (pc := 2) dX7_isLifted_2 rfl rfl ?_
  refine j_iconst (pc := 3) dX7_isLifted_3 ?_
  refine j_isub (pc := 4) dX7_isLifted_4 ?_
  refine j_callV (pc := 5) (As := [vR w, vI (k - 1)]) (st := []) (c_X7_sideOf o ho w hw (k - 1) ⟨by omega, by omega⟩ σ hI) mv_X7_37 rfl rfl rfl ho.1.1 dX7_isLifted_5 ⟨Nat.le_of_ble_eq_true rfl, Nat.le_of_ble_eq_true rfl⟩ ⟨Nat.le_refl _, Nat.le_refl _⟩ rfl (Nat.le_of_ble_eq_true rfl) rfl (fun z1 σ2 hz1 => ?_)
  obtain ⟨r4, rfl, hr4, rfl, q3_0⟩ := hz1
  replace q3_0 : ∀ gg qq : Nat → Int, RG o gg qq σ → r4 = SD (wW w σ) gg (σ o 0) (k - 1) := q3_0
  refine j_st (st' := [vI r4]) rfl ?_
  refine j_aload_n (pc := 8) dX7_isLifted_8 rfl rfl ?_
  refine j_aload_n (pc := 9) dX7_isLifted_9 rfl rfl ?_
  refine j_iload_n (pc := 10) dX7_isLifted_10 rfl rfl ?_
  refine j_callV (pc := 11) (As := [vR w, vI k]) (st := [vI r4]) (c_X7_sideOf o ho w hw k ⟨by omega, by omega⟩ σ hI) mv_X7_37 rfl rfl rfl ho.1.1 dX7_isLifted_11 ⟨Nat.le_of_ble_eq_true rfl, Nat.le_of_ble_eq_true rfl⟩ ⟨Nat.le_refl _, Nat.le_refl _⟩ rfl (Nat.le_of_ble_eq_true rfl) rfl (fun z5 σ6 hz5 => ?_)
  obtain ⟨r8, rfl, hr8, rfl, q7_0⟩ := hz5
  replace q7_0 : ∀ gg qq : Nat → Int, RG o gg qq σ → r8 = SD (wW w σ) gg (σ o 0) k := q7_0
  refine j_st (st' := [vI r8, vI r4]) rfl ?_
  refine j_isub (pc := 14) dX7_isLifted_14 ?_
  refine j_istore_n (pc := 15) (i := 3) (ls' := [(0, vR o), (1, vR w), (2, vI k), (3, vI (r4 - r8))]) [1, 2, 3, 0] dX7_isLifted_15 rfl (Nat.le_of_ble_eq_true rfl) rfl rfl ?_
  refine j_aload_n (pc := 16) dX7_isLifted_16 rfl rfl ?_
  refine j_aload_n (pc := 17) dX7_isLifted_17 rfl rfl ?_
  refine j_iload_n (pc := 18) dX7_isLifted_18 rfl rfl ?_
  refine j_iconst (pc := 19) dX7_isLifted_19 ?_
  refine j_iadd (pc := 20) dX7_isLifted_20 ?_
  refine j_callV (pc := 21) (As := [vR w, vI (k + 1)]) (st := []) (c_X7_sideOf o ho w hw (k + 1) ⟨by omega, by omega⟩ σ hI) mv_X7_37 rfl rfl rfl ho.1.1 dX7_isLifted_21 ⟨Nat.le_of_ble_eq_true rfl, Nat.le_of_ble_eq_true rfl⟩ ⟨Nat.le_refl _, Nat.le_refl _⟩ rfl (Nat.le_of_ble_eq_true rfl) rfl (fun z9 σ10 hz9 => ?_)
  obtain ⟨r12, rfl, hr12, rfl, q11_0⟩ := hz9
  replace q11_0 : ∀ gg qq : Nat → Int, RG o gg qq σ → r12 = SD (wW w σ) gg (σ o 0) (k + 1) := q11_0
  refine j_st (st' := [vI r12]) rfl ?_
  refine j_aload_n (pc := 24) dX7_isLifted_24 rfl rfl ?_
  refine j_aload_n (pc := 25) dX7_isLifted_25 rfl rfl ?_
  refine j_iload_n (pc := 26) dX7_isLifted_26 rfl rfl ?_
  refine j_callV (pc := 27) (As := [vR w, vI k]) (st := [vI r12]) (c_X7_sideOf o ho w hw k ⟨by omega, by omega⟩ σ hI) mv_X7_37 rfl rfl rfl ho.1.1 dX7_isLifted_27 ⟨Nat.le_of_ble_eq_true rfl, Nat.le_of_ble_eq_true rfl⟩ ⟨Nat.le_refl _, Nat.le_refl _⟩ rfl (Nat.le_of_ble_eq_true rfl) rfl (fun z13 σ14 hz13 => ?_)
  obtain ⟨r16, rfl, hr16, rfl, q15_0⟩ := hz13
  replace q15_0 : ∀ gg qq : Nat → Int, RG o gg qq σ → r16 = SD (wW w σ) gg (σ o 0) k := q15_0
  refine j_st (st' := [vI r16, vI r12]) rfl ?_
  refine j_isub (pc := 30) dX7_isLifted_30 ?_
  refine j_istore (pc := 31) (i := 4) (ls' := [(0, vR o), (2, vI k), (3, vI (r4 - r8)), (4, vI (r12 - r16))]) [1, 3, 4, 0] dX7_isLifted_31 (Nat.le_of_ble_eq_true rfl) rfl rfl ?_
  have sb := q3_0
  have sa := q7_0
  have sc := q11_0
  have sd := q15_0
  refine j_iload_n (pc := 33) dX7_isLifted_33 rfl rfl ?_
  refine j_iconst (pc := 34) dX7_isLifted_34 ?_
  refine j_icmpR_lt (pc := 35) (tgt := 44) ⟨by omega, by omega⟩ ⟨by omega, by omega⟩ dX7_isLifted_35 rfl (fun h17 => ?_) (fun h17 => ?_)
  · refine j_iload_n (pc := 44) dX7_isLifted_44 rfl rfl ?_
    refine j_bipush (pc := 45) dX7_isLifted_45 rfl ?_
    refine j_icmpR_gt (pc := 47) (tgt := 61) ⟨by omega, by omega⟩ ⟨by omega, by omega⟩ dX7_isLifted_47 rfl (fun h18 => ?_) (fun h18 => ?_)
    · refine j_iconst (pc := 61) dX7_isLifted_61 ?_
      refine j_istore (pc := 62) (i := 5) (ls' := [(0, vR o), (2, vI k), (5, vI 0)]) [1, 2, 0] dX7_isLifted_62 (Nat.le_of_ble_eq_true rfl) rfl rfl ?_
      refine j_iload (pc := 64) dX7_isLifted_64 rfl ?_
      refine j_ifR_eq (pc := 66) (tgt := 82) ⟨by omega, by omega⟩ dX7_isLifted_66 rfl (fun h19 => ?_) (fun h19 => by exfalso; omega)
      refine j_iconst (pc := 82) dX7_isLifted_82 ?_
      exact j_zret (pc := 83) ⟨rfl, rfl⟩ dX7_isLifted_83 rfl (nar_bool (by omega) (by omega)) ⟨_, rfl, ⟨by omega, by omega⟩, rfl, (fun gg qq H hk => by (have f := RG_fok H (k := k) ⟨by omega, hk⟩); (have a := sa gg qq H); (have b := sb gg qq H); (have c := sc gg qq H); (have e9 := a.trans (sd gg qq H).symm); exact LFI_of a b c f.2.2.1 (by clear a b c; omega))⟩
    · refine j_iload (pc := 50) dX7_isLifted_50 rfl ?_
      refine j_bipush (pc := 52) dX7_isLifted_52 rfl ?_
      refine j_icmpR_gt (pc := 54) (tgt := 61) ⟨by omega, by omega⟩ ⟨by omega, by omega⟩ dX7_isLifted_54 rfl (fun h20 => ?_) (fun h20 => ?_)
      · refine j_iconst (pc := 61) dX7_isLifted_61 ?_
        refine j_istore (pc := 62) (i := 5) (ls' := [(0, vR o), (2, vI k), (5, vI 0)]) [1, 2, 0] dX7_isLifted_62 (Nat.le_of_ble_eq_true rfl) rfl rfl ?_
        refine j_iload (pc := 64) dX7_isLifted_64 rfl ?_
        refine j_ifR_eq (pc := 66) (tgt := 82) ⟨by omega, by omega⟩ dX7_isLifted_66 rfl (fun h21 => ?_) (fun h21 => by exfalso; omega)
        refine j_iconst (pc := 82) dX7_isLifted_82 ?_
        exact j_zret (pc := 83) ⟨rfl, rfl⟩ dX7_isLifted_83 rfl (nar_bool (by omega) (by omega)) ⟨_, rfl, ⟨by omega, by omega⟩, rfl, (fun gg qq H hk => by (have f := RG_fok H (k := k) ⟨by omega, hk⟩); (have a := sa gg qq H); (have b := sb gg qq H); (have c := sc gg qq H); (have e9 := a.trans (sd gg qq H).symm); exact LFI_of a b c f.2.2.1 (by clear a b c; omega))⟩
      · refine j_iconst (pc := 57) dX7_isLifted_57 ?_
        refine j_goto (pc := 58) (tgt := 62) dX7_isLifted_58 rfl ?_
        refine j_istore (pc := 62) (i := 5) (ls' := [(0, vR o), (2, vI k), (5, vI 1)]) [1, 2, 0] dX7_isLifted_62 (Nat.le_of_ble_eq_true rfl) rfl rfl ?_
        refine j_iload (pc := 64) dX7_isLifted_64 rfl ?_
        refine j_ifR_eq (pc := 66) (tgt := 82) ⟨by omega, by omega⟩ dX7_isLifted_66 rfl (fun h22 => by exfalso; omega) (fun h22 => ?_)
        refine j_aload_n (pc := 69) dX7_isLifted_69 rfl rfl ?_
        refine j_getR (pc := 70) (r := o + 3) fl_X7_22 dX7_isLifted_70 ho.1.1 rfl ?_
        refine j_iload_n (pc := 73) dX7_isLifted_73 rfl rfl ?_
        refine j_iald (pc := 74) dX7_isLifted_74 ho.1.2.2.2 (by omega) (by omega) (by decide) ?_
        have f23 : (0 : Int) ≤ σ (o + 3) (k.toNat) ∧ σ (o + 3) (k.toNat) ≤ 1 := tw_Ig ho.2.2.2.2 hI (k.toNat)
        refine j_ifR_ne (pc := 75) (tgt := 82) ⟨by omega, by omega⟩ dX7_isLifted_75 rfl (fun h24 => ?_) (fun h24 => ?_)
        · refine j_iconst (pc := 82) dX7_isLifted_82 ?_
          exact j_zret (pc := 83) ⟨rfl, rfl⟩ dX7_isLifted_83 rfl (nar_bool (by omega) (by omega)) ⟨_, rfl, ⟨by omega, by omega⟩, rfl, (fun gg qq H hk => by (have f := RG_fok H (k := k) ⟨by omega, hk⟩); (have a := sa gg qq H); (have b := sb gg qq H); (have c := sc gg qq H); (have e9 := a.trans (sd gg qq H).symm); exact LFI_of a b c f.2.2.1 (by clear a b c; omega))⟩
        · refine j_iconst (pc := 78) dX7_isLifted_78 ?_
          refine j_goto (pc := 79) (tgt := 83) dX7_isLifted_79 rfl ?_
          exact j_zret (pc := 83) ⟨rfl, rfl⟩ dX7_isLifted_83 rfl (nar_bool (by omega) (by omega)) ⟨_, rfl, ⟨by omega, by omega⟩, rfl, (fun gg qq H hk => by (have f := RG_fok H (k := k) ⟨by omega, hk⟩); (have a := sa gg qq H); (have b := sb gg qq H); (have c := sc gg qq H); (have e9 := a.trans (sd gg qq H).symm); exact LFI_of a b c f.2.2.1 (by clear a b c; omega))⟩
  · refine j_iload (pc := 38) dX7_isLifted_38 rfl ?_
    refine j_iconst (pc := 40) dX7_isLifted_40 ?_
    refine j_icmpR_ge (pc := 41) (tgt := 57) ⟨by omega, by omega⟩ ⟨by omega, by omega⟩ dX7_isLifted_41 rfl (fun h25 => ?_) (fun h25 => ?_)
    · refine j_iconst (pc := 57) dX7_isLifted_57 ?_
      refine j_goto (pc := 58) (tgt := 62) dX7_isLifted_58 rfl ?_
      refine j_istore (pc := 62) (i := 5) (ls' := [(0, vR o), (2, vI k), (5, vI 1)]) [1, 2, 0] dX7_isLifted_62 (Nat.le_of_ble_eq_true rfl) rfl rfl ?_
      refine j_iload (pc := 64) dX7_isLifted_64 rfl ?_
      refine j_ifR_eq (pc := 66) (tgt := 82) ⟨by omega, by omega⟩ dX7_isLifted_66 rfl (fun h26 => by exfalso; omega) (fun h26 => ?_)
      refine j_aload_n (pc := 69) dX7_isLifted_69 rfl rfl ?_
      refine j_getR (pc := 70) (r := o + 3) fl_X7_22 dX7_isLifted_70 ho.1.1 rfl ?_
      refine j_iload_n (pc := 73) dX7_isLifted_73 rfl rfl ?_
      refine j_iald (pc := 74) dX7_isLifted_74 ho.1.2.2.2 (by omega) (by omega) (by decide) ?_
      have f27 : (0 : Int) ≤ σ (o + 3) (k.toNat) ∧ σ (o + 3) (k.toNat) ≤ 1 := tw_Ig ho.2.2.2.2 hI (k.toNat)
      refine j_ifR_ne (pc := 75) (tgt := 82) ⟨by omega, by omega⟩ dX7_isLifted_75 rfl (fun h28 => ?_) (fun h28 => ?_)
      · refine j_iconst (pc := 82) dX7_isLifted_82 ?_
        exact j_zret (pc := 83) ⟨rfl, rfl⟩ dX7_isLifted_83 rfl (nar_bool (by omega) (by omega)) ⟨_, rfl, ⟨by omega, by omega⟩, rfl, (fun gg qq H hk => by (have f := RG_fok H (k := k) ⟨by omega, hk⟩); (have a := sa gg qq H); (have b := sb gg qq H); (have c := sc gg qq H); (have e9 := a.trans (sd gg qq H).symm); exact LFI_of a b c f.2.2.1 (by clear a b c; omega))⟩
      · refine j_iconst (pc := 78) dX7_isLifted_78 ?_
        refine j_goto (pc := 79) (tgt := 83) dX7_isLifted_79 rfl ?_
        exact j_zret (pc := 83) ⟨rfl, rfl⟩ dX7_isLifted_83 rfl (nar_bool (by omega) (by omega)) ⟨_, rfl, ⟨by omega, by omega⟩, rfl, (fun gg qq H hk => by (have f := RG_fok H (k := k) ⟨by omega, hk⟩); (have a := sa gg qq H); (have b := sb gg qq H); (have c := sc gg qq H); (have e9 := a.trans (sd gg qq H).symm); exact LFI_of a b c f.2.2.1 (by clear a b c; omega))⟩
    · refine j_iload_n (pc := 44) dX7_isLifted_44 rfl rfl ?_
      refine j_bipush (pc := 45) dX7_isLifted_45 rfl ?_
      refine j_icmpR_gt (pc := 47) (tgt := 61) ⟨by omega, by omega⟩ ⟨by omega, by omega⟩ dX7_isLifted_47 rfl (fun h29 => ?_) (fun h29 => by exfalso; omega)
      refine j_iconst (pc := 61) dX7_isLifted_61 ?_
      refine j_istore (pc := 62) (i := 5) (ls' := [(0, vR o), (2, vI k), (5, vI 0)]) [1, 2, 0] dX7_isLifted_62 (Nat.le_of_ble_eq_true rfl) rfl rfl ?_
      refine j_iload (pc := 64) dX7_isLifted_64 rfl ?_
      refine j_ifR_eq (pc := 66) (tgt := 82) ⟨by omega, by omega⟩ dX7_isLifted_66 rfl (fun h30 => ?_) (fun h30 => by exfalso; omega)
      refine j_iconst (pc := 82) dX7_isLifted_82 ?_
      exact j_zret (pc := 83) ⟨rfl, rfl⟩ dX7_isLifted_83 rfl (nar_bool (by omega) (by omega)) ⟨_, rfl, ⟨by omega, by omega⟩, rfl, (fun gg qq H hk => by (have f := RG_fok H (k := k) ⟨by omega, hk⟩); (have a := sa gg qq H); (have b := sb gg qq H); (have c := sc gg qq H); (have e9 := a.trans (sd gg qq H).symm); exact LFI_of a b c f.2.2.1 (by clear a b c; omega))⟩
abbrev q_X7_liftedOf (o : Nat) (w : Nat) (σ : tw_M) : Option tw_V → tw_M → Prop := fun z τ => ∃ r : Int, z = some (vI r) ∧ (-2147483648 ≤ r ∧ r ≤ 2147483647) ∧ σ = τ ∧ (∀ gg qq : Nat → Int, RG o gg qq σ → r = BTS (LFI (wW w σ) gg qq (σ o 0)) (σ o 0).toNat)
set_option maxHeartbeats 4000000 in
set_option maxRecDepth 100000 in
theorem l_X7_liftedOf {G : tw_G} (o : Nat) (ho : IsRow G o) (w : Nat) (hw : IsWall G w) (σ : tw_M) (hI : tw_I σ) : ∀ N_ : Nat, (∀ (b : Int) (hb : -2147483648 ≤ b ∧ b ≤ 2147483647) (k : Int) (hk : 0 ≤ k ∧ k ≤ 10) (i0 : ∀ gg qq : Nat → Int, RG o gg qq σ → b = BTS (LFI (wW w σ) gg qq (σ o 0)) k.toNat) (i1 : k ≤ σ o 0) (hm : (10 - k).toNat < N_), tw_J G (tw_mt RX7 cX7_liftedOf 4 (some .int) 3) (tw_E G (q_X7_liftedOf o w σ)) 4 [(0, vR o), (1, vR w), (2, vI b), (3, vI k)] [] σ) := by
  intro N_
  induction N_ with
  | zero => exact fun b hb k hk i0 i1 hm => absurd hm (Nat.not_lt_zero _)
  | succ N_ ih =>
    intro b hb k hk i0 i1 hm
    have o10 : (0 : Int) ≤ σ o 0 ∧ σ o 0 ≤ 10 := tw_Ig ho.2.1 hI 0
    refine j_iload_n (pc := 4) dX7_liftedOf_4 rfl rfl ?_
    refine j_aload_n (pc := 5) dX7_liftedOf_5 rfl rfl ?_
    refine j_getI (pc := 6) fl_X7_9 dX7_liftedOf_6 ho.1.1 rfl ?_
    have f1 : (0 : Int) ≤ σ o 0 ∧ σ o 0 ≤ 10 := tw_Ig ho.2.1 hI 0
    refine j_icmpR_ge (pc := 9) (tgt := 33) ⟨by omega, by omega⟩ ⟨by omega, by omega⟩ dX7_liftedOf_9 rfl (fun h2 => ?_) (fun h2 => ?_)
    · refine j_iload_n (pc := 33) dX7_liftedOf_33 rfl rfl ?_
      exact j_iret (pc := 34) ⟨rfl, rfl⟩ dX7_liftedOf_34 rfl ⟨_, rfl, ⟨by omega, by omega⟩, rfl, (fun gg qq H => by rw [i0 gg qq H, show k = σ o 0 from by omega])⟩
    · refine j_aload_n (pc := 12) dX7_liftedOf_12 rfl rfl ?_
      refine j_aload_n (pc := 13) dX7_liftedOf_13 rfl rfl ?_
      refine j_iload_n (pc := 14) dX7_liftedOf_14 rfl rfl ?_
      refine j_callV (pc := 15) (As := [vR w, vI k]) (st := []) (c_X7_isLifted o ho w hw k ⟨by omega, by omega⟩ σ hI) mv_X7_53 rfl rfl rfl ho.1.1 dX7_liftedOf_15 ⟨Nat.le_of_ble_eq_true rfl, Nat.le_of_ble_eq_true rfl⟩ ⟨Nat.le_refl _, Nat.le_refl _⟩ rfl (Nat.le_of_ble_eq_true rfl) rfl (fun z3 σ4 hz3 => ?_)
      obtain ⟨r6, rfl, hr6, rfl, q5_0⟩ := hz3
      replace q5_0 : ∀ gg qq : Nat → Int, RG o gg qq σ → k < σ o 0 → r6 = LFI (wW w σ) gg qq (σ o 0) k := q5_0
      refine j_st (st' := [vI r6]) rfl ?_
      have lf := q5_0
      refine j_ifR_eq (pc := 18) (tgt := 27) ⟨by omega, by omega⟩ dX7_liftedOf_18 rfl (fun h7 => ?_) (fun h7 => ?_)
      · refine j_iinc (pc := 27) (i := 3) (n := 1) (ls' := [(0, vR o), (1, vR w), (2, vI b), (3, vI (k + 1))]) [1, 2, 3, 0] dX7_liftedOf_27 rfl (Nat.le_of_ble_eq_true rfl) rfl rfl ?_
        refine j_goto (pc := 30) (tgt := 4) dX7_liftedOf_30 rfl ?_
        refine j_ls (ls' := [(0, vR o), (1, vR w), (2, vI b), (3, vI (k + 1))]) [0, 1, 2, 3] rfl ?_
        exact ih b ⟨by omega, by omega⟩ (k + 1) ⟨by omega, by omega⟩ (show ∀ gg qq : Nat → Int, RG o gg qq σ → b = BTS (LFI (wW w σ) gg qq (σ o 0)) (k + 1).toNat from (fun gg qq H => by
                                                              have H9 := i0 gg qq H
                                                              have bi := BTS_in (P := LFI (wW w σ) gg qq (σ o 0)) k.toNat
                                                              rw [show ((k.toNat : Nat) : Int) = k from by omega] at bi
                                                              have l9 := lf gg qq H (by omega)
                                                              rcases BTS_s (P := LFI (wW w σ) gg qq (σ o 0)) (k := k) (by omega) with ⟨s1, s2⟩ | ⟨s1, s2⟩
                                                              · first
                                                                | (exfalso; omega)
                                                                | (rw [s2, ob, sh, or_bit ⟨by omega, by omega⟩ (by rw [H9]; exact bi), H9])
                                                              · first
                                                                | (exfalso; omega)
                                                                | (rw [s2]; exact H9))) (show (k + 1) ≤ σ o 0 from by omega) (show (10 - (k + 1)).toNat < N_ from by omega)
      · refine j_iload_n (pc := 21) dX7_liftedOf_21 rfl rfl ?_
        refine j_iconst (pc := 22) dX7_liftedOf_22 ?_
        refine j_iload_n (pc := 23) dX7_liftedOf_23 rfl rfl ?_
        refine j_ishl (pc := 24) dX7_liftedOf_24 (fun z8 ez8 => ?_)
        have hz8 : (-2147483648 : Int) ≤ z8 ∧ z8 ≤ 2147483647 := by rw [ez8]; exact shl_in _ _
        have sh := ez8
        refine j_ior (pc := 25) dX7_liftedOf_25 (fun z9 ez9 => ?_)
        have hz9 : (-2147483648 : Int) ≤ z9 ∧ z9 ≤ 2147483647 := by rw [ez9]; exact or_in _ _
        have ob := ez9
        refine j_istore_n (pc := 26) (i := 2) (ls' := [(0, vR o), (1, vR w), (2, vI z9), (3, vI k)]) [1, 2, 0, 3] dX7_liftedOf_26 rfl (Nat.le_of_ble_eq_true rfl) rfl rfl ?_
        refine j_iinc (pc := 27) (i := 3) (n := 1) (ls' := [(0, vR o), (1, vR w), (2, vI z9), (3, vI (k + 1))]) [1, 2, 3, 0] dX7_liftedOf_27 rfl (Nat.le_of_ble_eq_true rfl) rfl rfl ?_
        refine j_goto (pc := 30) (tgt := 4) dX7_liftedOf_30 rfl ?_
        refine j_ls (ls' := [(0, vR o), (1, vR w), (2, vI z9), (3, vI (k + 1))]) [0, 1, 2, 3] rfl ?_
        exact ih z9 ⟨by omega, by omega⟩ (k + 1) ⟨by omega, by omega⟩ (show ∀ gg qq : Nat → Int, RG o gg qq σ → z9 = BTS (LFI (wW w σ) gg qq (σ o 0)) (k + 1).toNat from (fun gg qq H => by
                                                              have H9 := i0 gg qq H
                                                              have bi := BTS_in (P := LFI (wW w σ) gg qq (σ o 0)) k.toNat
                                                              rw [show ((k.toNat : Nat) : Int) = k from by omega] at bi
                                                              have l9 := lf gg qq H (by omega)
                                                              rcases BTS_s (P := LFI (wW w σ) gg qq (σ o 0)) (k := k) (by omega) with ⟨s1, s2⟩ | ⟨s1, s2⟩
                                                              · first
                                                                | (exfalso; omega)
                                                                | (rw [s2, ob, sh, or_bit ⟨by omega, by omega⟩ (by rw [H9]; exact bi), H9])
                                                              · first
                                                                | (exfalso; omega)
                                                                | (rw [s2]; exact H9))) (show (k + 1) ≤ σ o 0 from by omega) (show (10 - (k + 1)).toNat < N_ from by omega)
set_option maxHeartbeats 4000000 in
set_option maxRecDepth 100000 in
theorem c_X7_liftedOf {G : tw_G} (o : Nat) (ho : IsRow G o) (w : Nat) (hw : IsWall G w) (σ : tw_M) (hI : tw_I σ) : tw_C G yX7_liftedOf cX7_liftedOf 4 (some .int) 3 [vR o, vR w] σ (q_X7_liftedOf o w σ) := by
  refine tw_met [(0, vR o), (1, vR w)] (by decide +kernel) rfl (Nat.le_of_ble_eq_true rfl) ?_
  have o10 : (0 : Int) ≤ σ o 0 ∧ σ o 0 ≤ 10 := tw_Ig ho.2.1 hI 0
  refine j_iconst (pc := 0) dX7_liftedOf_0 ?_
  refine j_istore_n (pc := 1) (i := 2) (ls' := [(0, vR o), (1, vR w), (2, vI 0)]) [1, 2, 0] dX7_liftedOf_1 rfl (Nat.le_of_ble_eq_true rfl) rfl rfl ?_
  refine j_iconst (pc := 2) dX7_liftedOf_2 ?_
  refine j_istore_n (pc := 3) (i := 3) (ls' := [(0, vR o), (1, vR w), (2, vI 0), (3, vI 0)]) [1, 2, 3, 0] dX7_liftedOf_3 rfl (Nat.le_of_ble_eq_true rfl) rfl rfl ?_
  refine j_ls (ls' := [(0, vR o), (1, vR w), (2, vI 0), (3, vI 0)]) [0, 1, 2, 3] rfl ?_
  exact (l_X7_liftedOf o ho w hw σ hI (((10 - (0 : Int)).toNat) + 1)) 0 (by (first | decide | exact ⟨by omega, by omega⟩)) 0 (by (first | decide | exact ⟨by omega, by omega⟩)) (show ∀ gg qq : Nat → Int, RG o gg qq σ → (0 : Int) = BTS (LFI (wW w σ) gg qq (σ o 0)) (0 : Int).toNat from (fun gg qq H => rfl)) (show (0 : Int) ≤ σ o 0 from by omega) (Nat.lt_succ_self _)
