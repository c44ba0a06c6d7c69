/-! 12.hand -/
theorem dX3_begin_0 : decode cX3_begin 0 = .ok (.aload_n 0, 1) := by decide +kernel
theorem dX3_begin_1 : decode cX3_begin 1 = .ok (.getfield 12, 3) := by decide +kernel
theorem dX3_begin_4 : decode cX3_begin 4 = .ok (.iconst 0, 1) := by decide +kernel
theorem dX3_begin_5 : decode cX3_begin 5 = .ok (.putfield 39, 3) := by decide +kernel
theorem dX3_begin_8 : decode cX3_begin 8 = .ok (.iconst 0, 1) := by decide +kernel
theorem dX3_begin_9 : decode cX3_begin 9 = .ok (.istore_n 2, 1) := by decide +kernel
theorem dX3_begin_10 : decode cX3_begin 10 = .ok (.iload_n 2, 1) := by decide +kernel
theorem dX3_begin_11 : decode cX3_begin 11 = .ok (.bipush 10, 2) := by decide +kernel
theorem dX3_begin_13 : decode cX3_begin 13 = .ok (.if_icmp .gt 21, 3) := by decide +kernel
theorem dX3_begin_16 : decode cX3_begin 16 = .ok (.aload_n 0, 1) := by decide +kernel
theorem dX3_begin_17 : decode cX3_begin 17 = .ok (.getfield 18, 3) := by decide +kernel
theorem dX3_begin_20 : decode cX3_begin 20 = .ok (.iload_n 2, 1) := by decide +kernel
theorem dX3_begin_21 : decode cX3_begin 21 = .ok (.aload_n 1, 1) := by decide +kernel
theorem dX3_begin_22 : decode cX3_begin 22 = .ok (.getfield 42, 3) := by decide +kernel
theorem dX3_begin_25 : decode cX3_begin 25 = .ok (.iload_n 2, 1) := by decide +kernel
theorem dX3_begin_26 : decode cX3_begin 26 = .ok (.iaload, 1) := by decide +kernel
theorem dX3_begin_27 : decode cX3_begin 27 = .ok (.iastore, 1) := by decide +kernel
theorem dX3_begin_28 : decode cX3_begin 28 = .ok (.iinc 2 1, 3) := by decide +kernel
theorem dX3_begin_31 : decode cX3_begin 31 = .ok (.goto (-21), 3) := by decide +kernel
theorem dX3_begin_34 : decode cX3_begin 34 = .ok (.iconst 0, 1) := by decide +kernel
theorem dX3_begin_35 : decode cX3_begin 35 = .ok (.istore_n 2, 1) := by decide +kernel
theorem dX3_begin_36 : decode cX3_begin 36 = .ok (.iload_n 2, 1) := by decide +kernel
theorem dX3_begin_37 : decode cX3_begin 37 = .ok (.iconst 2, 1) := by decide +kernel
theorem dX3_begin_38 : decode cX3_begin 38 = .ok (.if_icmp .ge 23, 3) := by decide +kernel
theorem dX3_begin_41 : decode cX3_begin 41 = .ok (.aload_n 0, 1) := by decide +kernel
theorem dX3_begin_42 : decode cX3_begin 42 = .ok (.getfield 22, 3) := by decide +kernel
theorem dX3_begin_45 : decode cX3_begin 45 = .ok (.iload_n 2, 1) := by decide +kernel
theorem dX3_begin_46 : decode cX3_begin 46 = .ok (.iconst 0, 1) := by decide +kernel
theorem dX3_begin_47 : decode cX3_begin 47 = .ok (.iastore, 1) := by decide +kernel
theorem dX3_begin_48 : decode cX3_begin 48 = .ok (.aload_n 0, 1) := by decide +kernel
theorem dX3_begin_49 : decode cX3_begin 49 = .ok (.getfield 25, 3) := by decide +kernel
theorem dX3_begin_52 : decode cX3_begin 52 = .ok (.iload_n 2, 1) := by decide +kernel
theorem dX3_begin_53 : decode cX3_begin 53 = .ok (.iconst 0, 1) := by decide +kernel
theorem dX3_begin_54 : decode cX3_begin 54 = .ok (.iastore, 1) := by decide +kernel
theorem dX3_begin_55 : decode cX3_begin 55 = .ok (.iinc 2 1, 3) := by decide +kernel
theorem dX3_begin_58 : decode cX3_begin 58 = .ok (.goto (-22), 3) := by decide +kernel
theorem dX3_begin_61 : decode cX3_begin 61 = .ok (.aload_n 0, 1) := by decide +kernel
theorem dX3_begin_62 : decode cX3_begin 62 = .ok (.aload_n 1, 1) := by decide +kernel
theorem dX3_begin_63 : decode cX3_begin 63 = .ok (.getfield 45, 3) := by decide +kernel
theorem dX3_begin_66 : decode cX3_begin 66 = .ok (.iconst 5, 1) := by decide +kernel
theorem dX3_begin_67 : decode cX3_begin 67 = .ok (.iaload, 1) := by decide +kernel
theorem dX3_begin_68 : decode cX3_begin 68 = .ok (.putfield 28, 3) := by decide +kernel
theorem dX3_begin_71 : decode cX3_begin 71 = .ok (.aload_n 0, 1) := by decide +kernel
theorem dX3_begin_72 : decode cX3_begin 72 = .ok (.aload_n 1, 1) := by decide +kernel
theorem dX3_begin_73 : decode cX3_begin 73 = .ok (.getfield 45, 3) := by decide +kernel
theorem dX3_begin_76 : decode cX3_begin 76 = .ok (.bipush 6, 2) := by decide +kernel
theorem dX3_begin_78 : decode cX3_begin 78 = .ok (.iaload, 1) := by decide +kernel
theorem dX3_begin_79 : decode cX3_begin 79 = .ok (.putfield 32, 3) := by decide +kernel
theorem dX3_begin_82 : decode cX3_begin 82 = .ok (.return_, 1) := by decide +kernel
theorem dX3_copyOf_0 : decode cX3_copyOf 0 = .ok (.aload_n 0, 1) := by decide +kernel
theorem dX3_copyOf_1 : decode cX3_copyOf 1 = .ok (.getfield 12, 3) := by decide +kernel
theorem dX3_copyOf_4 : decode cX3_copyOf 4 = .ok (.aload_n 1, 1) := by decide +kernel
theorem dX3_copyOf_5 : decode cX3_copyOf 5 = .ok (.getfield 12, 3) := by decide +kernel
theorem dX3_copyOf_8 : decode cX3_copyOf 8 = .ok (.invokevirtual 48, 3) := by decide +kernel
theorem dX3_copyOf_11 : decode cX3_copyOf 11 = .ok (.iconst 0, 1) := by decide +kernel
theorem dX3_copyOf_12 : decode cX3_copyOf 12 = .ok (.istore_n 2, 1) := by decide +kernel
theorem dX3_copyOf_13 : decode cX3_copyOf 13 = .ok (.iload_n 2, 1) := by decide +kernel
theorem dX3_copyOf_14 : decode cX3_copyOf 14 = .ok (.bipush 10, 2) := by decide +kernel
theorem dX3_copyOf_16 : decode cX3_copyOf 16 = .ok (.if_icmp .gt 21, 3) := by decide +kernel
theorem dX3_copyOf_19 : decode cX3_copyOf 19 = .ok (.aload_n 0, 1) := by decide +kernel
theorem dX3_copyOf_20 : decode cX3_copyOf 20 = .ok (.getfield 18, 3) := by decide +kernel
theorem dX3_copyOf_23 : decode cX3_copyOf 23 = .ok (.iload_n 2, 1) := by decide +kernel
theorem dX3_copyOf_24 : decode cX3_copyOf 24 = .ok (.aload_n 1, 1) := by decide +kernel
theorem dX3_copyOf_25 : decode cX3_copyOf 25 = .ok (.getfield 18, 3) := by decide +kernel
theorem dX3_copyOf_28 : decode cX3_copyOf 28 = .ok (.iload_n 2, 1) := by decide +kernel
theorem dX3_copyOf_29 : decode cX3_copyOf 29 = .ok (.iaload, 1) := by decide +kernel
theorem dX3_copyOf_30 : decode cX3_copyOf 30 = .ok (.iastore, 1) := by decide +kernel
theorem dX3_copyOf_31 : decode cX3_copyOf 31 = .ok (.iinc 2 1, 3) := by decide +kernel
theorem dX3_copyOf_34 : decode cX3_copyOf 34 = .ok (.goto (-21), 3) := by decide +kernel
theorem dX3_copyOf_37 : decode cX3_copyOf 37 = .ok (.iconst 0, 1) := by decide +kernel
theorem dX3_copyOf_38 : decode cX3_copyOf 38 = .ok (.istore_n 2, 1) := by decide +kernel
theorem dX3_copyOf_39 : decode cX3_copyOf 39 = .ok (.iload_n 2, 1) := by decide +kernel
theorem dX3_copyOf_40 : decode cX3_copyOf 40 = .ok (.iconst 2, 1) := by decide +kernel
theorem dX3_copyOf_41 : decode cX3_copyOf 41 = .ok (.if_icmp .ge 33, 3) := by decide +kernel
theorem dX3_copyOf_44 : decode cX3_copyOf 44 = .ok (.aload_n 0, 1) := by decide +kernel
theorem dX3_copyOf_45 : decode cX3_copyOf 45 = .ok (.getfield 22, 3) := by decide +kernel
theorem dX3_copyOf_48 : decode cX3_copyOf 48 = .ok (.iload_n 2, 1) := by decide +kernel
theorem dX3_copyOf_49 : decode cX3_copyOf 49 = .ok (.aload_n 1, 1) := by decide +kernel
theorem dX3_copyOf_50 : decode cX3_copyOf 50 = .ok (.getfield 22, 3) := by decide +kernel
theorem dX3_copyOf_53 : decode cX3_copyOf 53 = .ok (.iload_n 2, 1) := by decide +kernel
theorem dX3_copyOf_54 : decode cX3_copyOf 54 = .ok (.iaload, 1) := by decide +kernel
theorem dX3_copyOf_55 : decode cX3_copyOf 55 = .ok (.iastore, 1) := by decide +kernel
theorem dX3_copyOf_56 : decode cX3_copyOf 56 = .ok (.aload_n 0, 1) := by decide +kernel
theorem dX3_copyOf_57 : decode cX3_copyOf 57 = .ok (.getfield 25, 3) := by decide +kernel
theorem dX3_copyOf_60 : decode cX3_copyOf 60 = .ok (.iload_n 2, 1) := by decide +kernel
theorem dX3_copyOf_61 : decode cX3_copyOf 61 = .ok (.aload_n 1, 1) := by decide +kernel
theorem dX3_copyOf_62 : decode cX3_copyOf 62 = .ok (.getfield 25, 3) := by decide +kernel
theorem dX3_copyOf_65 : decode cX3_copyOf 65 = .ok (.iload_n 2, 1) := by decide +kernel
theorem dX3_copyOf_66 : decode cX3_copyOf 66 = .ok (.iaload, 1) := by decide +kernel
theorem dX3_copyOf_67 : decode cX3_copyOf 67 = .ok (.iastore, 1) := by decide +kernel
theorem dX3_copyOf_68 : decode cX3_copyOf 68 = .ok (.iinc 2 1, 3) := by decide +kernel
theorem dX3_copyOf_71 : decode cX3_copyOf 71 = .ok (.goto (-32), 3) := by decide +kernel
theorem dX3_copyOf_74 : decode cX3_copyOf 74 = .ok (.aload_n 0, 1) := by decide +kernel
theorem dX3_copyOf_75 : decode cX3_copyOf 75 = .ok (.aload_n 1, 1) := by decide +kernel
theorem dX3_copyOf_76 : decode cX3_copyOf 76 = .ok (.getfield 28, 3) := by decide +kernel
theorem dX3_copyOf_79 : decode cX3_copyOf 79 = .ok (.putfield 28, 3) := by decide +kernel
theorem dX3_copyOf_82 : decode cX3_copyOf 82 = .ok (.aload_n 0, 1) := by decide +kernel
theorem dX3_copyOf_83 : decode cX3_copyOf 83 = .ok (.aload_n 1, 1) := by decide +kernel
theorem dX3_copyOf_84 : decode cX3_copyOf 84 = .ok (.getfield 32, 3) := by decide +kernel
theorem dX3_copyOf_87 : decode cX3_copyOf 87 = .ok (.putfield 32, 3) := by decide +kernel
theorem dX3_copyOf_90 : decode cX3_copyOf 90 = .ok (.return_, 1) := by decide +kernel
theorem dX3_place_0 : decode cX3_place 0 = .ok (.aload_n 1, 1) := by decide +kernel
theorem dX3_place_1 : decode cX3_place 1 = .ok (.iload_n 2, 1) := by decide +kernel
theorem dX3_place_2 : decode cX3_place 2 = .ok (.invokevirtual 52, 3) := by decide +kernel
theorem dX3_place_5 : decode cX3_place 5 = .ok (.ifCond .eq 14, 3) := by decide +kernel
theorem dX3_place_8 : decode cX3_place 8 = .ok (.iload_n 3, 1) := by decide +kernel
theorem dX3_place_9 : decode cX3_place 9 = .ok (.iconst 1, 1) := by decide +kernel
theorem dX3_place_10 : decode cX3_place 10 = .ok (.if_icmp .lt 9, 3) := by decide +kernel
theorem dX3_place_13 : decode cX3_place 13 = .ok (.iload_n 3, 1) := by decide +kernel
theorem dX3_place_14 : decode cX3_place 14 = .ok (.bipush 10, 2) := by decide +kernel
theorem dX3_place_16 : decode cX3_place 16 = .ok (.if_icmp .le 5, 3) := by decide +kernel
theorem dX3_place_19 : decode cX3_place 19 = .ok (.iconst (-1), 1) := by decide +kernel
theorem dX3_place_20 : decode cX3_place 20 = .ok (.ireturn, 1) := by decide +kernel
theorem dX3_place_21 : decode cX3_place 21 = .ok (.aload_n 1, 1) := by decide +kernel
theorem dX3_place_22 : decode cX3_place 22 = .ok (.getfield 56, 3) := by decide +kernel
theorem dX3_place_25 : decode cX3_place 25 = .ok (.iload_n 2, 1) := by decide +kernel
theorem dX3_place_26 : decode cX3_place 26 = .ok (.iaload, 1) := by decide +kernel
theorem dX3_place_27 : decode cX3_place 27 = .ok (.istore 4, 2) := by decide +kernel
theorem dX3_place_29 : decode cX3_place 29 = .ok (.iload 4, 2) := by decide +kernel
theorem dX3_place_31 : decode cX3_place 31 = .ok (.ifCond .eq 14, 3) := by decide +kernel
theorem dX3_place_34 : decode cX3_place 34 = .ok (.aload_n 0, 1) := by decide +kernel
theorem dX3_place_35 : decode cX3_place 35 = .ok (.getfield 12, 3) := by decide +kernel
theorem dX3_place_38 : decode cX3_place 38 = .ok (.iload_n 2, 1) := by decide +kernel
theorem dX3_place_39 : decode cX3_place 39 = .ok (.invokevirtual 59, 3) := by decide +kernel
theorem dX3_place_42 : decode cX3_place 42 = .ok (.ifCond .lt 6, 3) := by decide +kernel
theorem dX3_place_45 : decode cX3_place 45 = .ok (.bipush (-2), 2) := by decide +kernel
theorem dX3_place_47 : decode cX3_place 47 = .ok (.ireturn, 1) := by decide +kernel
theorem dX3_place_48 : decode cX3_place 48 = .ok (.iload_n 3, 1) := by decide +kernel
theorem dX3_place_49 : decode cX3_place 49 = .ok (.iload 4, 2) := by decide +kernel
theorem dX3_place_51 : decode cX3_place 51 = .ok (.isub, 1) := by decide +kernel
theorem dX3_place_52 : decode cX3_place 52 = .ok (.invokestatic 63, 3) := by decide +kernel
theorem dX3_place_55 : decode cX3_place 55 = .ok (.iconst 1, 1) := by decide +kernel
theorem dX3_place_56 : decode cX3_place 56 = .ok (.if_icmp .le 6, 3) := by decide +kernel
theorem dX3_place_59 : decode cX3_place 59 = .ok (.bipush (-2), 2) := by decide +kernel
theorem dX3_place_61 : decode cX3_place 61 = .ok (.ireturn, 1) := by decide +kernel
theorem dX3_place_62 : decode cX3_place 62 = .ok (.aload_n 0, 1) := by decide +kernel
theorem dX3_place_63 : decode cX3_place 63 = .ok (.getfield 12, 3) := by decide +kernel
theorem dX3_place_66 : decode cX3_place 66 = .ok (.getfield 39, 3) := by decide +kernel
theorem dX3_place_69 : decode cX3_place 69 = .ok (.bipush 10, 2) := by decide +kernel
theorem dX3_place_71 : decode cX3_place 71 = .ok (.if_icmp .lt 6, 3) := by decide +kernel
theorem dX3_place_74 : decode cX3_place 74 = .ok (.bipush (-3), 2) := by decide +kernel
theorem dX3_place_76 : decode cX3_place 76 = .ok (.ireturn, 1) := by decide +kernel
theorem dX3_place_77 : decode cX3_place 77 = .ok (.aload_n 0, 1) := by decide +kernel
theorem dX3_place_78 : decode cX3_place 78 = .ok (.getfield 18, 3) := by decide +kernel
theorem dX3_place_81 : decode cX3_place 81 = .ok (.iload_n 3, 1) := by decide +kernel
theorem dX3_place_82 : decode cX3_place 82 = .ok (.iaload, 1) := by decide +kernel
theorem dX3_place_83 : decode cX3_place 83 = .ok (.ifCond .ne 6, 3) := by decide +kernel
theorem dX3_place_86 : decode cX3_place 86 = .ok (.bipush (-4), 2) := by decide +kernel
theorem dX3_place_88 : decode cX3_place 88 = .ok (.ireturn, 1) := by decide +kernel
theorem dX3_place_89 : decode cX3_place 89 = .ok (.aload_n 0, 1) := by decide +kernel
theorem dX3_place_90 : decode cX3_place 90 = .ok (.getfield 18, 3) := by decide +kernel
theorem dX3_place_93 : decode cX3_place 93 = .ok (.iload_n 3, 1) := by decide +kernel
theorem dX3_place_94 : decode cX3_place 94 = .ok (.dup2, 1) := by decide +kernel
theorem dX3_place_95 : decode cX3_place 95 = .ok (.iaload, 1) := by decide +kernel
theorem dX3_place_96 : decode cX3_place 96 = .ok (.iconst 1, 1) := by decide +kernel
theorem dX3_place_97 : decode cX3_place 97 = .ok (.isub, 1) := by decide +kernel
theorem dX3_place_98 : decode cX3_place 98 = .ok (.iastore, 1) := by decide +kernel
theorem dX3_place_99 : decode cX3_place 99 = .ok (.aload_n 0, 1) := by decide +kernel
theorem dX3_place_100 : decode cX3_place 100 = .ok (.getfield 12, 3) := by decide +kernel
theorem dX3_place_103 : decode cX3_place 103 = .ok (.iload_n 2, 1) := by decide +kernel
theorem dX3_place_104 : decode cX3_place 104 = .ok (.iload_n 3, 1) := by decide +kernel
theorem dX3_place_105 : decode cX3_place 105 = .ok (.invokevirtual 68, 3) := by decide +kernel
theorem dX3_place_108 : decode cX3_place 108 = .ok (.ireturn, 1) := by decide +kernel
theorem dX3_takeOut_0 : decode cX3_takeOut 0 = .ok (.iload_n 1, 1) := by decide +kernel
theorem dX3_takeOut_1 : decode cX3_takeOut 1 = .ok (.ifCond .lt 14, 3) := by decide +kernel
theorem dX3_takeOut_4 : decode cX3_takeOut 4 = .ok (.iload_n 1, 1) := by decide +kernel
theorem dX3_takeOut_5 : decode cX3_takeOut 5 = .ok (.aload_n 0, 1) := by decide +kernel
theorem dX3_takeOut_6 : decode cX3_takeOut 6 = .ok (.getfield 12, 3) := by decide +kernel
theorem dX3_takeOut_9 : decode cX3_takeOut 9 = .ok (.getfield 39, 3) := by decide +kernel
theorem dX3_takeOut_12 : decode cX3_takeOut 12 = .ok (.if_icmp .lt 6, 3) := by decide +kernel
theorem dX3_takeOut_15 : decode cX3_takeOut 15 = .ok (.bipush (-4), 2) := by decide +kernel
theorem dX3_takeOut_17 : decode cX3_takeOut 17 = .ok (.ireturn, 1) := by decide +kernel
theorem dX3_takeOut_18 : decode cX3_takeOut 18 = .ok (.aload_n 0, 1) := by decide +kernel
theorem dX3_takeOut_19 : decode cX3_takeOut 19 = .ok (.getfield 12, 3) := by decide +kernel
theorem dX3_takeOut_22 : decode cX3_takeOut 22 = .ok (.getfield 72, 3) := by decide +kernel
theorem dX3_takeOut_25 : decode cX3_takeOut 25 = .ok (.iload_n 1, 1) := by decide +kernel
theorem dX3_takeOut_26 : decode cX3_takeOut 26 = .ok (.iaload, 1) := by decide +kernel
theorem dX3_takeOut_27 : decode cX3_takeOut 27 = .ok (.istore_n 2, 1) := by decide +kernel
theorem dX3_takeOut_28 : decode cX3_takeOut 28 = .ok (.aload_n 0, 1) := by decide +kernel
theorem dX3_takeOut_29 : decode cX3_takeOut 29 = .ok (.getfield 18, 3) := by decide +kernel
theorem dX3_takeOut_32 : decode cX3_takeOut 32 = .ok (.iload_n 2, 1) := by decide +kernel
theorem dX3_takeOut_33 : decode cX3_takeOut 33 = .ok (.dup2, 1) := by decide +kernel
theorem dX3_takeOut_34 : decode cX3_takeOut 34 = .ok (.iaload, 1) := by decide +kernel
theorem dX3_takeOut_35 : decode cX3_takeOut 35 = .ok (.iconst 1, 1) := by decide +kernel
theorem dX3_takeOut_36 : decode cX3_takeOut 36 = .ok (.iadd, 1) := by decide +kernel
theorem dX3_takeOut_37 : decode cX3_takeOut 37 = .ok (.iastore, 1) := by decide +kernel
theorem dX3_takeOut_38 : decode cX3_takeOut 38 = .ok (.aload_n 0, 1) := by decide +kernel
theorem dX3_takeOut_39 : decode cX3_takeOut 39 = .ok (.getfield 12, 3) := by decide +kernel
theorem dX3_takeOut_42 : decode cX3_takeOut 42 = .ok (.iload_n 1, 1) := by decide +kernel
theorem dX3_takeOut_43 : decode cX3_takeOut 43 = .ok (.invokevirtual 75, 3) := by decide +kernel
theorem dX3_takeOut_46 : decode cX3_takeOut 46 = .ok (.iload_n 2, 1) := by decide +kernel
theorem dX3_takeOut_47 : decode cX3_takeOut 47 = .ok (.ireturn, 1) := by decide +kernel
theorem dX3_takeAll_0 : decode cX3_takeAll 0 = .ok (.aload_n 0, 1) := by decide +kernel
theorem dX3_takeAll_1 : decode cX3_takeAll 1 = .ok (.getfield 12, 3) := by decide +kernel
theorem dX3_takeAll_4 : decode cX3_takeAll 4 = .ok (.getfield 39, 3) := by decide +kernel
theorem dX3_takeAll_7 : decode cX3_takeAll 7 = .ok (.istore_n 1, 1) := by decide +kernel
theorem dX3_takeAll_8 : decode cX3_takeAll 8 = .ok (.iload_n 1, 1) := by decide +kernel
theorem dX3_takeAll_9 : decode cX3_takeAll 9 = .ok (.iconst 1, 1) := by decide +kernel
theorem dX3_takeAll_10 : decode cX3_takeAll 10 = .ok (.isub, 1) := by decide +kernel
theorem dX3_takeAll_11 : decode cX3_takeAll 11 = .ok (.istore_n 2, 1) := by decide +kernel
theorem dX3_takeAll_12 : decode cX3_takeAll 12 = .ok (.iload_n 2, 1) := by decide +kernel
theorem dX3_takeAll_13 : decode cX3_takeAll 13 = .ok (.ifCond .lt 15, 3) := by decide +kernel
theorem dX3_takeAll_16 : decode cX3_takeAll 16 = .ok (.aload_n 0, 1) := by decide +kernel
theorem dX3_takeAll_17 : decode cX3_takeAll 17 = .ok (.iload_n 2, 1) := by decide +kernel
theorem dX3_takeAll_18 : decode cX3_takeAll 18 = .ok (.invokevirtual 79, 3) := by decide +kernel
theorem dX3_takeAll_21 : decode cX3_takeAll 21 = .ok (.pop, 1) := by decide +kernel
theorem dX3_takeAll_22 : decode cX3_takeAll 22 = .ok (.iinc 2 (-1), 3) := by decide +kernel
theorem dX3_takeAll_25 : decode cX3_takeAll 25 = .ok (.goto (-13), 3) := by decide +kernel
theorem dX3_takeAll_28 : decode cX3_takeAll 28 = .ok (.iload_n 1, 1) := by decide +kernel
theorem dX3_takeAll_29 : decode cX3_takeAll 29 = .ok (.ireturn, 1) := by decide +kernel
theorem dX3_chance_0 : decode cX3_chance 0 = .ok (.aload_n 0, 1) := by decide +kernel
theorem dX3_chance_1 : decode cX3_chance 1 = .ok (.getfield 12, 3) := by decide +kernel
theorem dX3_chance_4 : decode cX3_chance 4 = .ok (.getfield 72, 3) := by decide +kernel
theorem dX3_chance_7 : decode cX3_chance 7 = .ok (.iload_n 2, 1) := by decide +kernel
theorem dX3_chance_8 : decode cX3_chance 8 = .ok (.iaload, 1) := by decide +kernel
theorem dX3_chance_9 : decode cX3_chance 9 = .ok (.aload_n 1, 1) := by decide +kernel
theorem dX3_chance_10 : decode cX3_chance 10 = .ok (.getfield 56, 3) := by decide +kernel
theorem dX3_chance_13 : decode cX3_chance 13 = .ok (.aload_n 0, 1) := by decide +kernel
theorem dX3_chance_14 : decode cX3_chance 14 = .ok (.getfield 12, 3) := by decide +kernel
theorem dX3_chance_17 : decode cX3_chance 17 = .ok (.getfield 82, 3) := by decide +kernel
theorem dX3_chance_20 : decode cX3_chance 20 = .ok (.iload_n 2, 1) := by decide +kernel
theorem dX3_chance_21 : decode cX3_chance 21 = .ok (.iaload, 1) := by decide +kernel
theorem dX3_chance_22 : decode cX3_chance 22 = .ok (.iaload, 1) := by decide +kernel
theorem dX3_chance_23 : decode cX3_chance 23 = .ok (.if_icmp .ne 10, 3) := by decide +kernel
theorem dX3_chance_26 : decode cX3_chance 26 = .ok (.aload_n 0, 1) := by decide +kernel
theorem dX3_chance_27 : decode cX3_chance 27 = .ok (.getfield 28, 3) := by decide +kernel
theorem dX3_chance_30 : decode cX3_chance 30 = .ok (.goto 7, 3) := by decide +kernel
theorem dX3_chance_33 : decode cX3_chance 33 = .ok (.aload_n 0, 1) := by decide +kernel
theorem dX3_chance_34 : decode cX3_chance 34 = .ok (.getfield 32, 3) := by decide +kernel
theorem dX3_chance_37 : decode cX3_chance 37 = .ok (.ireturn, 1) := by decide +kernel
theorem dX3_inRack_0 : decode cX3_inRack 0 = .ok (.iconst 0, 1) := by decide +kernel
theorem dX3_inRack_1 : decode cX3_inRack 1 = .ok (.istore_n 1, 1) := by decide +kernel
theorem dX3_inRack_2 : decode cX3_inRack 2 = .ok (.iconst 1, 1) := by decide +kernel
theorem dX3_inRack_3 : decode cX3_inRack 3 = .ok (.istore_n 2, 1) := by decide +kernel
theorem dX3_inRack_4 : decode cX3_inRack 4 = .ok (.iload_n 2, 1) := by decide +kernel
theorem dX3_inRack_5 : decode cX3_inRack 5 = .ok (.bipush 10, 2) := by decide +kernel
theorem dX3_inRack_7 : decode cX3_inRack 7 = .ok (.if_icmp .gt 18, 3) := by decide +kernel
theorem dX3_inRack_10 : decode cX3_inRack 10 = .ok (.iload_n 1, 1) := by decide +kernel
theorem dX3_inRack_11 : decode cX3_inRack 11 = .ok (.aload_n 0, 1) := by decide +kernel
theorem dX3_inRack_12 : decode cX3_inRack 12 = .ok (.getfield 18, 3) := by decide +kernel
theorem dX3_inRack_15 : decode cX3_inRack 15 = .ok (.iload_n 2, 1) := by decide +kernel
theorem dX3_inRack_16 : decode cX3_inRack 16 = .ok (.iaload, 1) := by decide +kernel
theorem dX3_inRack_17 : decode cX3_inRack 17 = .ok (.iadd, 1) := by decide +kernel
theorem dX3_inRack_18 : decode cX3_inRack 18 = .ok (.istore_n 1, 1) := by decide +kernel
theorem dX3_inRack_19 : decode cX3_inRack 19 = .ok (.iinc 2 1, 3) := by decide +kernel
theorem dX3_inRack_22 : decode cX3_inRack 22 = .ok (.goto (-18), 3) := by decide +kernel
theorem dX3_inRack_25 : decode cX3_inRack 25 = .ok (.iload_n 1, 1) := by decide +kernel
theorem dX3_inRack_26 : decode cX3_inRack 26 = .ok (.ireturn, 1) := by decide +kernel
theorem dX3_tries_0 : decode cX3_tries 0 = .ok (.aload_n 0, 1) := by decide +kernel
theorem dX3_tries_1 : decode cX3_tries 1 = .ok (.getfield 22, 3) := by decide +kernel
theorem dX3_tries_4 : decode cX3_tries 4 = .ok (.iconst 0, 1) := by decide +kernel
theorem dX3_tries_5 : decode cX3_tries 5 = .ok (.iaload, 1) := by decide +kernel
theorem dX3_tries_6 : decode cX3_tries 6 = .ok (.aload_n 0, 1) := by decide +kernel
theorem dX3_tries_7 : decode cX3_tries 7 = .ok (.getfield 22, 3) := by decide +kernel
theorem dX3_tries_10 : decode cX3_tries 10 = .ok (.iconst 1, 1) := by decide +kernel
theorem dX3_tries_11 : decode cX3_tries 11 = .ok (.iaload, 1) := by decide +kernel
theorem dX3_tries_12 : decode cX3_tries 12 = .ok (.iadd, 1) := by decide +kernel
theorem dX3_tries_13 : decode cX3_tries 13 = .ok (.ireturn, 1) := by decide +kernel
theorem dX3_learned_0 : decode cX3_learned 0 = .ok (.aload_n 0, 1) := by decide +kernel
theorem dX3_learned_1 : decode cX3_learned 1 = .ok (.getfield 22, 3) := by decide +kernel
theorem dX3_learned_4 : decode cX3_learned 4 = .ok (.iload_n 1, 1) := by decide +kernel
theorem dX3_learned_5 : decode cX3_learned 5 = .ok (.iaload, 1) := by decide +kernel
theorem dX3_learned_6 : decode cX3_learned 6 = .ok (.ifCond .ne 7, 3) := by decide +kernel
theorem dX3_learned_9 : decode cX3_learned 9 = .ok (.iload_n 2, 1) := by decide +kernel
theorem dX3_learned_10 : decode cX3_learned 10 = .ok (.goto 28, 3) := by decide +kernel
theorem dX3_learned_13 : decode cX3_learned 13 = .ok (.bipush 40, 2) := by decide +kernel
theorem dX3_learned_15 : decode cX3_learned 15 = .ok (.aload_n 0, 1) := by decide +kernel
theorem dX3_learned_16 : decode cX3_learned 16 = .ok (.getfield 25, 3) := by decide +kernel
theorem dX3_learned_19 : decode cX3_learned 19 = .ok (.iload_n 1, 1) := by decide +kernel
theorem dX3_learned_20 : decode cX3_learned 20 = .ok (.iaload, 1) := by decide +kernel
theorem dX3_learned_21 : decode cX3_learned 21 = .ok (.imul, 1) := by decide +kernel
theorem dX3_learned_22 : decode cX3_learned 22 = .ok (.aload_n 0, 1) := by decide +kernel
theorem dX3_learned_23 : decode cX3_learned 23 = .ok (.getfield 22, 3) := by decide +kernel
theorem dX3_learned_26 : decode cX3_learned 26 = .ok (.iload_n 1, 1) := by decide +kernel
theorem dX3_learned_27 : decode cX3_learned 27 = .ok (.iaload, 1) := by decide +kernel
theorem dX3_learned_28 : decode cX3_learned 28 = .ok (.iadd, 1) := by decide +kernel
theorem dX3_learned_29 : decode cX3_learned 29 = .ok (.iconst 2, 1) := by decide +kernel
theorem dX3_learned_30 : decode cX3_learned 30 = .ok (.aload_n 0, 1) := by decide +kernel
theorem dX3_learned_31 : decode cX3_learned 31 = .ok (.getfield 22, 3) := by decide +kernel
theorem dX3_learned_34 : decode cX3_learned 34 = .ok (.iload_n 1, 1) := by decide +kernel
theorem dX3_learned_35 : decode cX3_learned 35 = .ok (.iaload, 1) := by decide +kernel
theorem dX3_learned_36 : decode cX3_learned 36 = .ok (.imul, 1) := by decide +kernel
theorem dX3_learned_37 : decode cX3_learned 37 = .ok (.idiv, 1) := by decide +kernel
theorem dX3_learned_38 : decode cX3_learned 38 = .ok (.ireturn, 1) := by decide +kernel
theorem dX2_from_0 : decode cX2_from 0 = .ok (.aload_n 0, 1) := by decide +kernel
theorem dX2_from_1 : decode cX2_from 1 = .ok (.iconst 0, 1) := by decide +kernel
theorem dX2_from_2 : decode cX2_from 2 = .ok (.putfield 9, 3) := by decide +kernel
theorem dX2_from_5 : decode cX2_from 5 = .ok (.aload_n 0, 1) := by decide +kernel
theorem dX2_from_6 : decode cX2_from 6 = .ok (.bipush (-4), 2) := by decide +kernel
theorem dX2_from_8 : decode cX2_from 8 = .ok (.putfield 15, 3) := by decide +kernel
theorem dX2_from_11 : decode cX2_from 11 = .ok (.aload_n 0, 1) := by decide +kernel
theorem dX2_from_12 : decode cX2_from 12 = .ok (.iconst 0, 1) := by decide +kernel
theorem dX2_from_13 : decode cX2_from 13 = .ok (.putfield 18, 3) := by decide +kernel
theorem dX2_from_16 : decode cX2_from 16 = .ok (.aload_n 0, 1) := by decide +kernel
theorem dX2_from_17 : decode cX2_from 17 = .ok (.iconst 0, 1) := by decide +kernel
theorem dX2_from_18 : decode cX2_from 18 = .ok (.putfield 21, 3) := by decide +kernel
theorem dX2_from_21 : decode cX2_from 21 = .ok (.aload_n 2, 1) := by decide +kernel
theorem dX2_from_22 : decode cX2_from 22 = .ok (.getfield 30, 3) := by decide +kernel
theorem dX2_from_25 : decode cX2_from 25 = .ok (.iconst 1, 1) := by decide +kernel
theorem dX2_from_26 : decode cX2_from 26 = .ok (.isub, 1) := by decide +kernel
theorem dX2_from_27 : decode cX2_from 27 = .ok (.istore 5, 2) := by decide +kernel
theorem dX2_from_29 : decode cX2_from 29 = .ok (.iload 5, 2) := by decide +kernel
theorem dX2_from_31 : decode cX2_from 31 = .ok (.ifCond .lt 115, 3) := by decide +kernel
theorem dX2_from_34 : decode cX2_from 34 = .ok (.aload_n 0, 1) := by decide +kernel
theorem dX2_from_35 : decode cX2_from 35 = .ok (.getfield 15, 3) := by decide +kernel
theorem dX2_from_38 : decode cX2_from 38 = .ok (.ifCond .ge 108, 3) := by decide +kernel
theorem dX2_from_41 : decode cX2_from 41 = .ok (.aload_n 2, 1) := by decide +kernel
theorem dX2_from_42 : decode cX2_from 42 = .ok (.getfield 35, 3) := by decide +kernel
theorem dX2_from_45 : decode cX2_from 45 = .ok (.iload 5, 2) := by decide +kernel
theorem dX2_from_47 : decode cX2_from 47 = .ok (.iaload, 1) := by decide +kernel
theorem dX2_from_48 : decode cX2_from 48 = .ok (.iload_n 3, 1) := by decide +kernel
theorem dX2_from_49 : decode cX2_from 49 = .ok (.if_icmp .le 6, 3) := by decide +kernel
theorem dX2_from_52 : decode cX2_from 52 = .ok (.goto 88, 3) := by decide +kernel
theorem dX2_from_55 : decode cX2_from 55 = .ok (.aload_n 1, 1) := by decide +kernel
theorem dX2_from_56 : decode cX2_from 56 = .ok (.iload_n 3, 1) := by decide +kernel
theorem dX2_from_57 : decode cX2_from 57 = .ok (.aload_n 2, 1) := by decide +kernel
theorem dX2_from_58 : decode cX2_from 58 = .ok (.getfield 35, 3) := by decide +kernel
theorem dX2_from_61 : decode cX2_from 61 = .ok (.iload 5, 2) := by decide +kernel
theorem dX2_from_63 : decode cX2_from 63 = .ok (.iaload, 1) := by decide +kernel
theorem dX2_from_64 : decode cX2_from 64 = .ok (.invokevirtual 39, 3) := by decide +kernel
theorem dX2_from_67 : decode cX2_from 67 = .ok (.istore 6, 2) := by decide +kernel
theorem dX2_from_69 : decode cX2_from 69 = .ok (.aload_n 1, 1) := by decide +kernel
theorem dX2_from_70 : decode cX2_from 70 = .ok (.iload_n 3, 1) := by decide +kernel
theorem dX2_from_71 : decode cX2_from 71 = .ok (.iload 6, 2) := by decide +kernel
theorem dX2_from_73 : decode cX2_from 73 = .ok (.invokevirtual 45, 3) := by decide +kernel
theorem dX2_from_76 : decode cX2_from 76 = .ok (.istore 7, 2) := by decide +kernel
theorem dX2_from_78 : decode cX2_from 78 = .ok (.iload 4, 2) := by decide +kernel
theorem dX2_from_80 : decode cX2_from 80 = .ok (.iload 5, 2) := by decide +kernel
theorem dX2_from_82 : decode cX2_from 82 = .ok (.ishr, 1) := by decide +kernel
theorem dX2_from_83 : decode cX2_from 83 = .ok (.iconst 1, 1) := by decide +kernel
theorem dX2_from_84 : decode cX2_from 84 = .ok (.iand, 1) := by decide +kernel
theorem dX2_from_85 : decode cX2_from 85 = .ok (.ifCond .eq 42, 3) := by decide +kernel
theorem dX2_from_88 : decode cX2_from 88 = .ok (.aload_n 1, 1) := by decide +kernel
theorem dX2_from_89 : decode cX2_from 89 = .ok (.aload_n 2, 1) := by decide +kernel
theorem dX2_from_90 : decode cX2_from 90 = .ok (.getfield 48, 3) := by decide +kernel
theorem dX2_from_93 : decode cX2_from 93 = .ok (.iload 5, 2) := by decide +kernel
theorem dX2_from_95 : decode cX2_from 95 = .ok (.iaload, 1) := by decide +kernel
theorem dX2_from_96 : decode cX2_from 96 = .ok (.iload 7, 2) := by decide +kernel
theorem dX2_from_98 : decode cX2_from 98 = .ok (.invokevirtual 51, 3) := by decide +kernel
theorem dX2_from_101 : decode cX2_from 101 = .ok (.ifCond .eq 26, 3) := by decide +kernel
theorem dX2_from_104 : decode cX2_from 104 = .ok (.aload_n 0, 1) := by decide +kernel
theorem dX2_from_105 : decode cX2_from 105 = .ok (.iload 5, 2) := by decide +kernel
theorem dX2_from_107 : decode cX2_from 107 = .ok (.putfield 15, 3) := by decide +kernel
theorem dX2_from_110 : decode cX2_from 110 = .ok (.aload_n 0, 1) := by decide +kernel
theorem dX2_from_111 : decode cX2_from 111 = .ok (.iload 7, 2) := by decide +kernel
theorem dX2_from_113 : decode cX2_from 113 = .ok (.putfield 18, 3) := by decide +kernel
theorem dX2_from_116 : decode cX2_from 116 = .ok (.aload_n 0, 1) := by decide +kernel
theorem dX2_from_117 : decode cX2_from 117 = .ok (.iload_n 3, 1) := by decide +kernel
theorem dX2_from_118 : decode cX2_from 118 = .ok (.iload 6, 2) := by decide +kernel
theorem dX2_from_120 : decode cX2_from 120 = .ok (.isub, 1) := by decide +kernel
theorem dX2_from_121 : decode cX2_from 121 = .ok (.putfield 9, 3) := by decide +kernel
theorem dX2_from_124 : decode cX2_from 124 = .ok (.goto 16, 3) := by decide +kernel
theorem dX2_from_127 : decode cX2_from 127 = .ok (.aload_n 0, 1) := by decide +kernel
theorem dX2_from_128 : decode cX2_from 128 = .ok (.dup, 1) := by decide +kernel
theorem dX2_from_129 : decode cX2_from 129 = .ok (.getfield 21, 3) := by decide +kernel
theorem dX2_from_132 : decode cX2_from 132 = .ok (.iconst 1, 1) := by decide +kernel
theorem dX2_from_133 : decode cX2_from 133 = .ok (.iload 5, 2) := by decide +kernel
theorem dX2_from_135 : decode cX2_from 135 = .ok (.ishl, 1) := by decide +kernel
theorem dX2_from_136 : decode cX2_from 136 = .ok (.ior, 1) := by decide +kernel
theorem dX2_from_137 : decode cX2_from 137 = .ok (.putfield 21, 3) := by decide +kernel
theorem dX2_from_140 : decode cX2_from 140 = .ok (.iinc 5 (-1), 3) := by decide +kernel
theorem dX2_from_143 : decode cX2_from 143 = .ok (.goto (-114), 3) := by decide +kernel
theorem dX2_from_146 : decode cX2_from 146 = .ok (.aload_n 0, 1) := by decide +kernel
theorem dX2_from_147 : decode cX2_from 147 = .ok (.aload_n 1, 1) := by decide +kernel
theorem dX2_from_148 : decode cX2_from 148 = .ok (.iload_n 3, 1) := by decide +kernel
theorem dX2_from_149 : decode cX2_from 149 = .ok (.aload_n 0, 1) := by decide +kernel
theorem dX2_from_150 : decode cX2_from 150 = .ok (.getfield 9, 3) := by decide +kernel
theorem dX2_from_153 : decode cX2_from 153 = .ok (.invokevirtual 55, 3) := by decide +kernel
theorem dX2_from_156 : decode cX2_from 156 = .ok (.putfield 24, 3) := by decide +kernel
theorem dX2_from_159 : decode cX2_from 159 = .ok (.aload_n 0, 1) := by decide +kernel
theorem dX2_from_160 : decode cX2_from 160 = .ok (.aload_n 1, 1) := by decide +kernel
theorem dX2_from_161 : decode cX2_from 161 = .ok (.iload_n 3, 1) := by decide +kernel
theorem dX2_from_162 : decode cX2_from 162 = .ok (.aload_n 0, 1) := by decide +kernel
theorem dX2_from_163 : decode cX2_from 163 = .ok (.getfield 9, 3) := by decide +kernel
theorem dX2_from_166 : decode cX2_from 166 = .ok (.invokevirtual 58, 3) := by decide +kernel
theorem dX2_from_169 : decode cX2_from 169 = .ok (.putfield 27, 3) := by decide +kernel
theorem dX2_from_172 : decode cX2_from 172 = .ok (.return_, 1) := by decide +kernel
theorem dX2_isSo_0 : decode cX2_isSo 0 = .ok (.aload_n 0, 1) := by decide +kernel
theorem dX2_isSo_1 : decode cX2_isSo 1 = .ok (.getfield 21, 3) := by decide +kernel
theorem dX2_isSo_4 : decode cX2_isSo 4 = .ok (.iload_n 1, 1) := by decide +kernel
theorem dX2_isSo_5 : decode cX2_isSo 5 = .ok (.if_icmp .ne 19, 3) := by decide +kernel
theorem dX2_isSo_8 : decode cX2_isSo 8 = .ok (.iconst 0, 1) := by decide +kernel
theorem dX2_isSo_9 : decode cX2_isSo 9 = .ok (.aload_n 0, 1) := by decide +kernel
theorem dX2_isSo_10 : decode cX2_isSo 10 = .ok (.getfield 9, 3) := by decide +kernel
theorem dX2_isSo_13 : decode cX2_isSo 13 = .ok (.invokestatic 61, 3) := by decide +kernel
theorem dX2_isSo_16 : decode cX2_isSo 16 = .ok (.iload_n 2, 1) := by decide +kernel
theorem dX2_isSo_17 : decode cX2_isSo 17 = .ok (.if_icmp .ne 7, 3) := by decide +kernel
theorem dX2_isSo_20 : decode cX2_isSo 20 = .ok (.iconst 1, 1) := by decide +kernel
theorem dX2_isSo_21 : decode cX2_isSo 21 = .ok (.goto 4, 3) := by decide +kernel
theorem dX2_isSo_24 : decode cX2_isSo 24 = .ok (.iconst 0, 1) := by decide +kernel
theorem dX2_isSo_25 : decode cX2_isSo 25 = .ok (.ireturn, 1) := by decide +kernel
theorem dX8_begin_0 : decode cX8_begin 0 = .ok (.aload_n 0, 1) := by decide +kernel
theorem dX8_begin_1 : decode cX8_begin 1 = .ok (.iconst 1, 1) := by decide +kernel
theorem dX8_begin_2 : decode cX8_begin 2 = .ok (.putfield 15, 3) := by decide +kernel
theorem dX8_begin_5 : decode cX8_begin 5 = .ok (.aload_n 0, 1) := by decide +kernel
theorem dX8_begin_6 : decode cX8_begin 6 = .ok (.iload_n 1, 1) := by decide +kernel
theorem dX8_begin_7 : decode cX8_begin 7 = .ok (.putfield 19, 3) := by decide +kernel
theorem dX8_begin_10 : decode cX8_begin 10 = .ok (.aload_n 0, 1) := by decide +kernel
theorem dX8_begin_11 : decode cX8_begin 11 = .ok (.iload_n 2, 1) := by decide +kernel
theorem dX8_begin_12 : decode cX8_begin 12 = .ok (.putfield 23, 3) := by decide +kernel
theorem dX8_begin_15 : decode cX8_begin 15 = .ok (.iconst 0, 1) := by decide +kernel
theorem dX8_begin_16 : decode cX8_begin 16 = .ok (.istore_n 3, 1) := by decide +kernel
theorem dX8_begin_17 : decode cX8_begin 17 = .ok (.iload_n 3, 1) := by decide +kernel
theorem dX8_begin_18 : decode cX8_begin 18 = .ok (.aload_n 0, 1) := by decide +kernel
theorem dX8_begin_19 : decode cX8_begin 19 = .ok (.getfield 9, 3) := by decide +kernel
theorem dX8_begin_22 : decode cX8_begin 22 = .ok (.arraylength, 1) := by decide +kernel
theorem dX8_begin_23 : decode cX8_begin 23 = .ok (.if_icmp .ge 16, 3) := by decide +kernel
theorem dX8_begin_26 : decode cX8_begin 26 = .ok (.aload_n 0, 1) := by decide +kernel
theorem dX8_begin_27 : decode cX8_begin 27 = .ok (.getfield 9, 3) := by decide +kernel
theorem dX8_begin_30 : decode cX8_begin 30 = .ok (.iload_n 3, 1) := by decide +kernel
theorem dX8_begin_31 : decode cX8_begin 31 = .ok (.iconst 0, 1) := by decide +kernel
theorem dX8_begin_32 : decode cX8_begin 32 = .ok (.iastore, 1) := by decide +kernel
theorem dX8_begin_33 : decode cX8_begin 33 = .ok (.iinc 3 1, 3) := by decide +kernel
theorem dX8_begin_36 : decode cX8_begin 36 = .ok (.goto (-19), 3) := by decide +kernel
theorem dX8_begin_39 : decode cX8_begin 39 = .ok (.return_, 1) := by decide +kernel
theorem dX8_has_0 : decode cX8_has 0 = .ok (.aload_n 0, 1) := by decide +kernel
theorem dX8_has_1 : decode cX8_has 1 = .ok (.getfield 15, 3) := by decide +kernel
theorem dX8_has_4 : decode cX8_has 4 = .ok (.ifCond .eq 28, 3) := by decide +kernel
theorem dX8_has_7 : decode cX8_has 7 = .ok (.iload_n 1, 1) := by decide +kernel
theorem dX8_has_8 : decode cX8_has 8 = .ok (.ifCond .lt 24, 3) := by decide +kernel
theorem dX8_has_11 : decode cX8_has 11 = .ok (.iload_n 1, 1) := by decide +kernel
theorem dX8_has_12 : decode cX8_has 12 = .ok (.aload_n 0, 1) := by decide +kernel
theorem dX8_has_13 : decode cX8_has 13 = .ok (.getfield 23, 3) := by decide +kernel
theorem dX8_has_16 : decode cX8_has 16 = .ok (.if_icmp .ge 16, 3) := by decide +kernel
theorem dX8_has_19 : decode cX8_has 19 = .ok (.iload_n 1, 1) := by decide +kernel
theorem dX8_has_20 : decode cX8_has 20 = .ok (.aload_n 0, 1) := by decide +kernel
theorem dX8_has_21 : decode cX8_has 21 = .ok (.getfield 9, 3) := by decide +kernel
theorem dX8_has_24 : decode cX8_has 24 = .ok (.arraylength, 1) := by decide +kernel
theorem dX8_has_25 : decode cX8_has 25 = .ok (.if_icmp .ge 7, 3) := by decide +kernel
theorem dX8_has_28 : decode cX8_has 28 = .ok (.iconst 1, 1) := by decide +kernel
theorem dX8_has_29 : decode cX8_has 29 = .ok (.goto 4, 3) := by decide +kernel
theorem dX8_has_32 : decode cX8_has 32 = .ok (.iconst 0, 1) := by decide +kernel
theorem dX8_has_33 : decode cX8_has 33 = .ok (.ireturn, 1) := by decide +kernel
theorem dX8_set_0 : decode cX8_set 0 = .ok (.aload_n 0, 1) := by decide +kernel
theorem dX8_set_1 : decode cX8_set 1 = .ok (.getfield 9, 3) := by decide +kernel
theorem dX8_set_4 : decode cX8_set 4 = .ok (.iload_n 1, 1) := by decide +kernel
theorem dX8_set_5 : decode cX8_set 5 = .ok (.aload_n 0, 1) := by decide +kernel
theorem dX8_set_6 : decode cX8_set 6 = .ok (.getfield 19, 3) := by decide +kernel
theorem dX8_set_9 : decode cX8_set 9 = .ok (.ifCond .ne 8, 3) := by decide +kernel
theorem dX8_set_12 : decode cX8_set 12 = .ok (.iload_n 2, 1) := by decide +kernel
theorem dX8_set_13 : decode cX8_set 13 = .ok (.i2b, 1) := by decide +kernel
theorem dX8_set_14 : decode cX8_set 14 = .ok (.goto 17, 3) := by decide +kernel
theorem dX8_set_17 : decode cX8_set 17 = .ok (.aload_n 0, 1) := by decide +kernel
theorem dX8_set_18 : decode cX8_set 18 = .ok (.getfield 19, 3) := by decide +kernel
theorem dX8_set_21 : decode cX8_set 21 = .ok (.iconst 1, 1) := by decide +kernel
theorem dX8_set_22 : decode cX8_set 22 = .ok (.if_icmp .ne 8, 3) := by decide +kernel
theorem dX8_set_25 : decode cX8_set 25 = .ok (.iload_n 2, 1) := by decide +kernel
theorem dX8_set_26 : decode cX8_set 26 = .ok (.i2s, 1) := by decide +kernel
theorem dX8_set_27 : decode cX8_set 27 = .ok (.goto 4, 3) := by decide +kernel
theorem dX8_set_30 : decode cX8_set 30 = .ok (.iload_n 2, 1) := by decide +kernel
theorem dX8_set_31 : decode cX8_set 31 = .ok (.iastore, 1) := by decide +kernel
theorem dX8_set_32 : decode cX8_set 32 = .ok (.return_, 1) := by decide +kernel
abbrev q_X3_begin (u : Nat) (w : Nat) (σ : tw_M) : Option tw_V → tw_M → Prop := fun z τ => z = none ∧ tw_I τ ∧ tw_F (fun c j => (u ≤ c ∧ c < u + 8)) σ τ ∧ (τ (u + 6) 0 = 0) ∧ (τ (u + 7) 0 = 0) ∧ (τ (u + 6) 1 = 0) ∧ (τ (u + 7) 1 = 0) ∧ (τ (u + 1) 0 = 0) ∧ (∀ j : Nat, j < 11 → τ (u + 5) j = σ (w + 2) j) ∧ (τ u 4 = σ (w + 1) 5) ∧ (τ u 5 = σ (w + 1) 6)
set_option maxHeartbeats 4000000 in
set_option maxRecDepth 100000 in
theorem l_X3_begin {G : tw_G} (u : Nat) (hu : IsHand G u) (w : Nat) (hw : IsWall G w) (σ : tw_M) (hI : tw_I σ) (hq0 : u + 8 ≤ w ∨ w + 9 ≤ u) : ∀ N_ : Nat, (∀ (i : Int) (hi : 0 ≤ i ∧ i ≤ 11) (τ : tw_M) (hIτ : tw_I τ) (hFτ : tw_F (fun c j => (u ≤ c ∧ c < u + 8)) σ τ) (i0 : τ (u + 1) 0 = 0) (i1 : Cn (u + 5) (σ (w + 2)) τ i) (hm : (500 - i).toNat < N_), tw_J G (tw_mt RX3 cX3_begin 3 none 0) (tw_E G (q_X3_begin u w σ)) 10 [(0, vR u), (1, vR w), (2, vI i)] [] τ) ∧ (∀ (i : Int) (hi : 0 ≤ i ∧ i ≤ 2) (τ : tw_M) (hIτ : tw_I τ) (hFτ : tw_F (fun c j => (u ≤ c ∧ c < u + 8)) σ τ) (i0 : Cn (u + 6) (fun _ => 0) τ i) (i1 : Cn (u + 7) (fun _ => 0) τ i) (i2 : τ (u + 1) 0 = 0) (i3 : Cn (u + 5) (σ (w + 2)) τ 11) (hm : (100 - i).toNat < N_), tw_J G (tw_mt RX3 cX3_begin 3 none 0) (tw_E G (q_X3_begin u w σ)) 36 [(0, vR u), (1, vR w), (2, vI i)] [] τ) := by
  intro N_
  induction N_ with
  | zero => exact ⟨fun i hi τ hIτ hFτ i0 i1 hm => absurd hm (Nat.not_lt_zero _), fun i hi τ hIτ hFτ i0 i1 i2 i3 hm => absurd hm (Nat.not_lt_zero _)⟩
  | succ N_ ih =>
    refine ⟨?_, ?_⟩
    · intro i hi τ hIτ hFτ i0 i1 hm
      refine j_iload_n (pc := 10) dX3_begin_10 rfl rfl ?_
      refine j_bipush (pc := 11) dX3_begin_11 rfl ?_
      refine j_icmpR_gt (pc := 13) (tgt := 34) ⟨by omega, by omega⟩ ⟨by omega, by omega⟩ dX3_begin_13 rfl (fun h1 => ?_) (fun h1 => ?_)
      · refine j_iconst (pc := 34) dX3_begin_34 ?_
        refine j_istore_n (pc := 35) (i := 2) (ls' := [(0, vR u), (1, vR w), (2, vI 0)]) [1, 2, 0] dX3_begin_35 rfl (Nat.le_of_ble_eq_true rfl) rfl rfl ?_
        refine j_ls (ls' := [(0, vR u), (1, vR w), (2, vI 0)]) [0, 1, 2] rfl ?_
        exact ih.2 0 (by (first | decide | exact ⟨by omega, by omega⟩)) τ hIτ hFτ (show Cn (u + 6) (fun _ => 0) τ (0 : Int) from (by first | exact Cn_F (fun j => tw_ne1 _ (by omega)) (Cn_up _ (by omega) i0 rfl (by omega)) | exact Cn_0)) (show Cn (u + 7) (fun _ => 0) τ (0 : Int) from (by first | exact Cn_up _ (by omega) (Cn_F (fun j => tw_ne1 _ (by omega)) i1) rfl (by omega) | exact Cn_0)) (show τ (u + 1) 0 = 0 from by omega) (show Cn (u + 5) (σ (w + 2)) τ 11 from (by first | exact Cn_F (fun j => rfl) i3 | (rw [show (11 : Int) = i from by omega]; exact i1))) (show (100 - (0 : Int)).toNat < N_ from by omega)
      · refine j_aload_n (pc := 16) dX3_begin_16 rfl rfl ?_
        refine j_getR (pc := 17) (r := u + 5) fl_X3_18 dX3_begin_17 hu.1.1 rfl ?_
        refine j_iload_n (pc := 20) dX3_begin_20 rfl rfl ?_
        refine j_aload_n (pc := 21) dX3_begin_21 rfl rfl ?_
        refine j_getR (pc := 22) (r := w + 2) fl_X3_42 dX3_begin_22 hw.1.1 rfl ?_
        refine j_iload_n (pc := 25) dX3_begin_25 rfl rfl ?_
        refine j_iald (pc := 26) dX3_begin_26 hw.1.2.2.1 (by omega) (by omega) (by decide) ?_
        have f2 : (0 : Int) ≤ τ (w + 2) (i.toNat) ∧ τ (w + 2) (i.toNat) ≤ 5 := tw_Ig hw.2.2.2.1 hIτ (i.toNat)
        refine j_iast (pc := 27) dX3_begin_27 hu.1.2.2.2.2.2.1 (by omega) (by omega) (by decide) (j_nm (fun σ3 (eσ3 : σ3 = tw_up τ (u + 5) (i.toNat) (τ (w + 2) (i.toNat))) => ?_))
        have hIσ3 : tw_I σ3 := tw_I_upg hIτ eσ3 hu.2.2.2.2.2.2.1 (show (-2147483648 : Int) ≤ τ (w + 2) (i.toNat) ∧ τ (w + 2) (i.toNat) ≤ 2147483647 from ⟨by omega, by omega⟩)
        have hFσ3 : tw_F (fun c j => (u ≤ c ∧ c < u + 8)) σ σ3 := tw_F_up hFτ eσ3 (show (u ≤ u + 5 ∧ u + 5 < u + 8) from ⟨Nat.le_add_right _ _, (Nat.add_lt_add_left (by decide) _)⟩)
        refine j_iinc (pc := 28) (i := 2) (n := 1) (ls' := [(0, vR u), (1, vR w), (2, vI (i + 1))]) [1, 2, 0] dX3_begin_28 rfl (Nat.le_of_ble_eq_true rfl) rfl rfl ?_
        refine j_goto (pc := 31) (tgt := 10) dX3_begin_31 rfl ?_
        refine j_ls (ls' := [(0, vR u), (1, vR w), (2, vI (i + 1))]) [0, 1, 2] rfl ?_
        have y4 : σ3 (u + 1) 0 = τ (u + 1) 0 := (tw_ne1 eσ3 (by (first | decide | omega)))
        have f5 : (0 : Int) ≤ τ (u + 1) 0 ∧ τ (u + 1) 0 ≤ 10 := tw_Ig hu.2.2.1 hIτ 0
        exact ih.1 (i + 1) ⟨by omega, by omega⟩ σ3 hIσ3 hFσ3 (show σ3 (u + 1) 0 = 0 from by omega) (show Cn (u + 5) (σ (w + 2)) σ3 (i + 1) from (by first | exact Cn_0 | exact Cn_up eσ3 (by omega) i1 (hFτ (w + 2) _ (show ¬ ((u ≤ w + 2 ∧ w + 2 < u + 8)) from by omega)) (by omega))) (show (500 - (i + 1)).toNat < N_ from by omega)
    · intro i hi τ hIτ hFτ i0 i1 i2 i3 hm
      have w5 : τ (w + 1) 5 = σ (w + 1) 5 := hFτ (w + 1) 5 (show ¬ ((u ≤ w + 1 ∧ w + 1 < u + 8)) from by omega)
      have w6 : τ (w + 1) 6 = σ (w + 1) 6 := hFτ (w + 1) 6 (show ¬ ((u ≤ w + 1 ∧ w + 1 < u + 8)) from by omega)
      refine j_iload_n (pc := 36) dX3_begin_36 rfl rfl ?_
      refine j_iconst (pc := 37) dX3_begin_37 ?_
      refine j_icmpR_ge (pc := 38) (tgt := 61) ⟨by omega, by omega⟩ ⟨by omega, by omega⟩ dX3_begin_38 rfl (fun h6 => ?_) (fun h6 => ?_)
      · refine j_aload_n (pc := 61) dX3_begin_61 rfl rfl ?_
        refine j_aload_n (pc := 62) dX3_begin_62 rfl rfl ?_
        refine j_getR (pc := 63) (r := w + 1) fl_X3_45 dX3_begin_63 hw.1.1 rfl ?_
        refine j_iconst (pc := 66) dX3_begin_66 ?_
        refine j_iald (pc := 67) dX3_begin_67 hw.1.2.1 (by omega) (by omega) (by decide) ?_
        refine j_topV (show τ (w + 1) (Int.toNat 5) = τ (w + 1) 5 from rfl) ?_
        have f7 : (0 : Int) ≤ τ (w + 1) 5 ∧ τ (w + 1) 5 ≤ 20 := tw_Ig hw.2.2.1 hIτ 5
        refine j_putI (pc := 68) fl_X3_28 fp_X3_4 dX3_begin_68 hu.1.1 rfl (j_nm (fun σ8 (eσ8 : σ8 = tw_up τ u 4 (τ (w + 1) 5)) => ?_))
        have hIσ8 : tw_I σ8 := tw_I_upg hIτ eσ8 hu.2.1 (show (-2147483648 : Int) ≤ τ (w + 1) 5 ∧ τ (w + 1) 5 ≤ 2147483647 from ⟨by omega, by omega⟩)
        have hFσ8 : tw_F (fun c j => (u ≤ c ∧ c < u + 8)) σ σ8 := tw_F_up hFτ eσ8 (show (u ≤ u ∧ u < u + 8) from ⟨Nat.le_refl _, (Nat.lt_add_of_pos_right (by decide))⟩)
        refine j_aload_n (pc := 71) dX3_begin_71 rfl rfl ?_
        refine j_aload_n (pc := 72) dX3_begin_72 rfl rfl ?_
        refine j_getR (pc := 73) (r := w + 1) fl_X3_45 dX3_begin_73 hw.1.1 rfl ?_
        refine j_bipush (pc := 76) dX3_begin_76 rfl ?_
        refine j_iald (pc := 78) dX3_begin_78 hw.1.2.1 (by omega) (by omega) (by decide) ?_
        refine j_topV (show σ8 (w + 1) (Int.toNat 6) = σ8 (w + 1) 6 from rfl) ?_
        refine j_topV (show σ8 (w + 1) 6 = τ (w + 1) 6 from (tw_ne1 eσ8 (by (first | decide | omega)))) ?_
        have f9 : (0 : Int) ≤ τ (w + 1) 6 ∧ τ (w + 1) 6 ≤ 20 := tw_Ig hw.2.2.1 hIτ 6
        refine j_putI (pc := 79) fl_X3_32 fp_X3_5 dX3_begin_79 hu.1.1 rfl (j_nm (fun σ10 (eσ10 : σ10 = tw_up σ8 u 5 (τ (w + 1) 6)) => ?_))
        have hIσ10 : tw_I σ10 := tw_I_upg hIσ8 eσ10 hu.2.1 (show (-2147483648 : Int) ≤ τ (w + 1) 6 ∧ τ (w + 1) 6 ≤ 2147483647 from ⟨by omega, by omega⟩)
        have hFσ10 : tw_F (fun c j => (u ≤ c ∧ c < u + 8)) σ σ10 := tw_F_up hFσ8 eσ10 (show (u ≤ u ∧ u < u + 8) from ⟨Nat.le_refl _, (Nat.lt_add_of_pos_right (by decide))⟩)
        have y11 : σ10 (u + 6) 0 = τ (u + 6) 0 := ((tw_ne1 eσ10 (by (first | decide | omega)))).trans (tw_ne1 eσ8 (by (first | decide | omega)))
        have f12 : (0 : Int) ≤ τ (u + 6) 0 ∧ τ (u + 6) 0 ≤ 999 := tw_Ig hu.2.2.2.2.2.2.2.1 hIτ 0
        have y13 : σ10 (u + 7) 0 = τ (u + 7) 0 := ((tw_ne1 eσ10 (by (first | decide | omega)))).trans (tw_ne1 eσ8 (by (first | decide | omega)))
        have f14 : (-2147483648 : Int) ≤ τ (u + 7) 0 ∧ τ (u + 7) 0 ≤ 2147483647 := tw_Ig hu.2.2.2.2.2.2.2.2 hIτ 0
        have y15 : σ10 (u + 6) 1 = τ (u + 6) 1 := ((tw_ne1 eσ10 (by (first | decide | omega)))).trans (tw_ne1 eσ8 (by (first | decide | omega)))
        have f16 : (0 : Int) ≤ τ (u + 6) 1 ∧ τ (u + 6) 1 ≤ 999 := tw_Ig hu.2.2.2.2.2.2.2.1 hIτ 1
        have y17 : σ10 (u + 7) 1 = τ (u + 7) 1 := ((tw_ne1 eσ10 (by (first | decide | omega)))).trans (tw_ne1 eσ8 (by (first | decide | omega)))
        have f18 : (-2147483648 : Int) ≤ τ (u + 7) 1 ∧ τ (u + 7) 1 ≤ 2147483647 := tw_Ig hu.2.2.2.2.2.2.2.2 hIτ 1
        have y19 : σ10 (u + 1) 0 = τ (u + 1) 0 := ((tw_ne1 eσ10 (by (first | decide | omega)))).trans (tw_ne1 eσ8 (by (first | decide | omega)))
        have f20 : (0 : Int) ≤ τ (u + 1) 0 ∧ τ (u + 1) 0 ≤ 10 := tw_Ig hu.2.2.1 hIτ 0
        have y21 : σ10 u 4 = τ (w + 1) 5 := ((tw_ne1 eσ10 (by (first | decide | omega)))).trans (tw_eq1 eσ8)
        have y22 : σ10 u 5 = τ (w + 1) 6 := (tw_eq1 eσ10)
        exact j_vret (pc := 82) ⟨rfl, rfl⟩ dX3_begin_82 rfl ⟨rfl, hIσ10, hFσ10, ((((tw_ne1 eσ10 (by (first | decide | omega)))).trans (tw_ne1 eσ8 (by (first | decide | omega)))).trans (i0 0 (by omega))), ((((tw_ne1 eσ10 (by (first | decide | omega)))).trans (tw_ne1 eσ8 (by (first | decide | omega)))).trans (i1 0 (by omega))), ((((tw_ne1 eσ10 (by (first | decide | omega)))).trans (tw_ne1 eσ8 (by (first | decide | omega)))).trans (i0 1 (by omega))), ((((tw_ne1 eσ10 (by (first | decide | omega)))).trans (tw_ne1 eσ8 (by (first | decide | omega)))).trans (i1 1 (by omega))), by omega, (fun j hj => (((tw_ne1 eσ10 (by (first | decide | omega)))).trans (tw_ne1 eσ8 (by (first | decide | omega)))).trans (i3 j (by omega))), by omega, by omega⟩
      · refine j_aload_n (pc := 41) dX3_begin_41 rfl rfl ?_
        refine j_getR (pc := 42) (r := u + 6) fl_X3_22 dX3_begin_42 hu.1.1 rfl ?_
        refine j_iload_n (pc := 45) dX3_begin_45 rfl rfl ?_
        refine j_iconst (pc := 46) dX3_begin_46 ?_
        refine j_iast (pc := 47) dX3_begin_47 hu.1.2.2.2.2.2.2.1 (by omega) (by omega) (by decide) (j_nm (fun σ23 (eσ23 : σ23 = tw_up τ (u + 6) (i.toNat) 0) => ?_))
        have hIσ23 : tw_I σ23 := tw_I_upg hIτ eσ23 hu.2.2.2.2.2.2.2.1 (show (0 : Int) ≤ 0 ∧ 0 ≤ 999 from by decide)
        have hFσ23 : tw_F (fun c j => (u ≤ c ∧ c < u + 8)) σ σ23 := tw_F_up hFτ eσ23 (show (u ≤ u + 6 ∧ u + 6 < u + 8) from ⟨Nat.le_add_right _ _, (Nat.add_lt_add_left (by decide) _)⟩)
        refine j_aload_n (pc := 48) dX3_begin_48 rfl rfl ?_
        refine j_getR (pc := 49) (r := u + 7) fl_X3_25 dX3_begin_49 hu.1.1 rfl ?_
        refine j_iload_n (pc := 52) dX3_begin_52 rfl rfl ?_
        refine j_iconst (pc := 53) dX3_begin_53 ?_
        refine j_iast (pc := 54) dX3_begin_54 hu.1.2.2.2.2.2.2.2 (by omega) (by omega) (by decide) (j_nm (fun σ24 (eσ24 : σ24 = tw_up σ23 (u + 7) (i.toNat) 0) => ?_))
        have hIσ24 : tw_I σ24 := tw_I_upg hIσ23 eσ24 hu.2.2.2.2.2.2.2.2 (show (-2147483648 : Int) ≤ 0 ∧ 0 ≤ 2147483647 from by decide)
        have hFσ24 : tw_F (fun c j => (u ≤ c ∧ c < u + 8)) σ σ24 := tw_F_up hFσ23 eσ24 (show (u ≤ u + 7 ∧ u + 7 < u + 8) from ⟨Nat.le_add_right _ _, (Nat.add_lt_add_left (by decide) _)⟩)
        refine j_iinc (pc := 55) (i := 2) (n := 1) (ls' := [(0, vR u), (1, vR w), (2, vI (i + 1))]) [1, 2, 0] dX3_begin_55 rfl (Nat.le_of_ble_eq_true rfl) rfl rfl ?_
        refine j_goto (pc := 58) (tgt := 36) dX3_begin_58 rfl ?_
        refine j_ls (ls' := [(0, vR u), (1, vR w), (2, vI (i + 1))]) [0, 1, 2] rfl ?_
        have y25 : σ24 (u + 1) 0 = τ (u + 1) 0 := ((tw_ne1 eσ24 (by (first | decide | omega)))).trans (tw_ne1 eσ23 (by (first | decide | omega)))
        have f26 : (0 : Int) ≤ τ (u + 1) 0 ∧ τ (u + 1) 0 ≤ 10 := tw_Ig hu.2.2.1 hIτ 0
        exact ih.2 (i + 1) ⟨by omega, by omega⟩ σ24 hIσ24 hFσ24 (show Cn (u + 6) (fun _ => 0) σ24 (i + 1) from (by first | exact Cn_F (fun j => tw_ne1 eσ24 (by (first | decide | omega))) (Cn_up eσ23 (by omega) i0 rfl (by omega)) | exact Cn_0)) (show Cn (u + 7) (fun _ => 0) σ24 (i + 1) from (by first | exact Cn_up eσ24 (by omega) (Cn_F (fun j => tw_ne1 eσ23 (by (first | decide | omega))) i1) rfl (by omega) | exact Cn_0)) (show σ24 (u + 1) 0 = 0 from by omega) (show Cn (u + 5) (σ (w + 2)) σ24 11 from (by first | exact Cn_F (fun j => ((tw_ne1 eσ24 (by (first | decide | omega)))).trans (tw_ne1 eσ23 (by (first | decide | omega)))) i3 | (rw [show (11 : Int) = i from by omega]; exact i1))) (show (100 - (i + 1)).toNat < N_ from by omega)
set_option maxHeartbeats 4000000 in
set_option maxRecDepth 100000 in
theorem c_X3_begin {G : tw_G} (u : Nat) (hu : IsHand G u) (w : Nat) (hw : IsWall G w) (σ : tw_M) (hI : tw_I σ) (hq0 : u + 8 ≤ w ∨ w + 9 ≤ u) : tw_C G yX3_begin cX3_begin 3 none 0 [vR u, vR w] σ (q_X3_begin u w σ) := by
  refine tw_met [(0, vR u), (1, vR w)] (by decide +kernel) rfl (Nat.le_of_ble_eq_true rfl) ?_
  refine j_aload_n (pc := 0) dX3_begin_0 rfl rfl ?_
  refine j_getR (pc := 1) (r := u + 1) fl_X3_12 dX3_begin_1 hu.1.1 rfl ?_
  refine j_iconst (pc := 4) dX3_begin_4 ?_
  refine j_putI (pc := 5) fl_X3_39 fp_X7_0 dX3_begin_5 hu.1.2.1 rfl (j_nm (fun σ27 (eσ27 : σ27 = tw_up σ (u + 1) 0 0) => ?_))
  have hIσ27 : tw_I σ27 := tw_I_upg hI eσ27 hu.2.2.1 (show (0 : Int) ≤ 0 ∧ 0 ≤ 10 from by decide)
  have hFσ27 : tw_F (fun c j => (u ≤ c ∧ c < u + 8)) σ σ27 := tw_F_up (tw_F_rf) eσ27 (show (u ≤ u + 1 ∧ u + 1 < u + 8) from ⟨Nat.le_add_right _ _, (Nat.add_lt_add_left (by decide) _)⟩)
  refine j_iconst (pc := 8) dX3_begin_8 ?_
  refine j_istore_n (pc := 9) (i := 2) (ls' := [(0, vR u), (1, vR w), (2, vI 0)]) [1, 2, 0] dX3_begin_9 rfl (Nat.le_of_ble_eq_true rfl) rfl rfl ?_
  refine j_ls (ls' := [(0, vR u), (1, vR w), (2, vI 0)]) [0, 1, 2] rfl ?_
  have y28 : σ27 (u + 1) 0 = 0 := (tw_eq1 eσ27)
  exact (l_X3_begin u hu w hw σ hI hq0 (((500 - (0 : Int)).toNat) + 1)).1 0 (by (first | decide | exact ⟨by omega, by omega⟩)) σ27 hIσ27 hFσ27 (show σ27 (u + 1) 0 = 0 from by omega) (show Cn (u + 5) (σ (w + 2)) σ27 (0 : Int) from (by first | exact Cn_0 | exact Cn_up eσ27 (by omega) i1 (hFτ (w + 2) _ (show ¬ ((u ≤ w + 2 ∧ w + 2 < u + 8)) from by omega)) (by omega))) (Nat.lt_succ_self _)
abbrev q_X3_copyOf (u : Nat) (t : Nat) (σ : tw_M) : Option tw_V → tw_M → Prop := fun z τ => z = none ∧ tw_I τ ∧ tw_F (fun c j => (u ≤ c ∧ c < u + 8)) σ τ ∧ (τ (u + 6) 0 = σ (t + 6) 0) ∧ (τ (u + 7) 0 = σ (t + 7) 0) ∧ (τ (u + 6) 1 = σ (t + 6) 1) ∧ (τ (u + 7) 1 = σ (t + 7) 1) ∧ (CPY u t σ τ)
set_option maxHeartbeats 4000000 in
set_option maxRecDepth 100000 in
theorem l_X3_copyOf {G : tw_G} (u : Nat) (hu : IsHand G u) (t : Nat) (ht : IsHand G t) (σ : tw_M) (hI : tw_I σ) (hq0 : u + 8 ≤ t ∨ t + 8 ≤ u) : ∀ N_ : Nat, (∀ (i : Int) (hi : 0 ≤ i ∧ i ≤ 11) (τ : tw_M) (hIτ : tw_I τ) (hFτ : tw_F (fun c j => (u ≤ c ∧ c < u + 8)) σ τ) (i0 : τ (u + 1) 0 = σ (t + 1) 0) (i1 : ∀ k j : Nat, 1 ≤ k → k < 4 → j < 10 → τ (u + 1 + k) j = σ (t + 1 + k) j) (i2 : Cn (u + 5) (σ (t + 5)) τ i) (hm : (500 - i).toNat < N_), tw_J G (tw_mt RX3 cX3_copyOf 3 none 1) (tw_E G (q_X3_copyOf u t σ)) 13 [(0, vR u), (1, vR t), (2, vI i)] [] τ) ∧ (∀ (i : Int) (hi : 0 ≤ i ∧ i ≤ 2) (τ : tw_M) (hIτ : tw_I τ) (hFτ : tw_F (fun c j => (u ≤ c ∧ c < u + 8)) σ τ) (i0 : Cn (u + 6) (σ (t + 6)) τ i) (i1 : Cn (u + 7) (σ (t + 7)) τ i) (i2 : τ (u + 1) 0 = σ (t + 1) 0) (i3 : ∀ k j : Nat, 1 ≤ k → k < 4 → j < 10 → τ (u + 1 + k) j = σ (t + 1 + k) j) (i4 : Cn (u + 5) (σ (t + 5)) τ 11) (hm : (100 - i).toNat < N_), tw_J G (tw_mt RX3 cX3_copyOf 3 none 1) (tw_E G (q_X3_copyOf u t σ)) 39 [(0, vR u), (1, vR t), (2, vI i)] [] τ) := by
  intro N_
  induction N_ with
  | zero => exact ⟨fun i hi τ hIτ hFτ i0 i1 i2 hm => absurd hm (Nat.not_lt_zero _), fun i hi τ hIτ hFτ i0 i1 i2 i3 i4 hm => absurd hm (Nat.not_lt_zero _)⟩
  | succ N_ ih =>
    refine ⟨?_, ?_⟩
    · intro i hi τ hIτ hFτ i0 i1 i2 hm
      refine j_iload_n (pc := 13) dX3_copyOf_13 rfl rfl ?_
      refine j_bipush (pc := 14) dX3_copyOf_14 rfl ?_
      refine j_icmpR_gt (pc := 16) (tgt := 37) ⟨by omega, by omega⟩ ⟨by omega, by omega⟩ dX3_copyOf_16 rfl (fun h1 => ?_) (fun h1 => ?_)
      · refine j_iconst (pc := 37) dX3_copyOf_37 ?_
        refine j_istore_n (pc := 38) (i := 2) (ls' := [(0, vR u), (1, vR t), (2, vI 0)]) [1, 2, 0] dX3_copyOf_38 rfl (Nat.le_of_ble_eq_true rfl) rfl rfl ?_
        refine j_ls (ls' := [(0, vR u), (1, vR t), (2, vI 0)]) [0, 1, 2] rfl ?_
        exact ih.2 0 (by (first | decide | exact ⟨by omega, by omega⟩)) τ hIτ hFτ (show Cn (u + 6) (σ (t + 6)) τ (0 : Int) from (by first | exact Cn_F (fun j => tw_ne1 _ (by omega)) (Cn_up _ (by omega) i0 (hFτ (t + 6) _ (show ¬ ((u ≤ t + 6 ∧ t + 6 < u + 8)) from by omega)) (by omega)) | exact Cn_0)) (show Cn (u + 7) (σ (t + 7)) τ (0 : Int) from (by first | exact Cn_up _ (by omega) (Cn_F (fun j => tw_ne1 _ (by omega)) i1) (by first | exact (tw_ne1 _ (by omega)).trans (hFτ (t + 7) _ (show ¬ ((u ≤ t + 7 ∧ t + 7 < u + 8)) from by omega)) | exact hFτ (t + 7) _ (show ¬ ((u ≤ t + 7 ∧ t + 7 < u + 8)) from by omega)) (by omega) | exact Cn_0)) (show τ (u + 1) 0 = σ (t + 1) 0 from (by first | exact (rfl).trans i2 | exact i0)) (show ∀ k j : Nat, 1 ≤ k → k < 4 → j < 10 → τ (u + 1 + k) j = σ (t + 1 + k) j from (by first | exact (fun k j k1 k2 k3 => (tw_ne1 _ (by omega)).trans ((tw_ne1 _ (by omega)).trans (i3 k j k1 k2 k3))) | exact i1)) (show Cn (u + 5) (σ (t + 5)) τ 11 from (by first | exact Cn_F (fun j => rfl) i4 | (rw [show (11 : Int) = i from by omega]; exact i2))) (show (100 - (0 : Int)).toNat < N_ from by omega)
      · refine j_aload_n (pc := 19) dX3_copyOf_19 rfl rfl ?_
        refine j_getR (pc := 20) (r := u + 5) fl_X3_18 dX3_copyOf_20 hu.1.1 rfl ?_
        refine j_iload_n (pc := 23) dX3_copyOf_23 rfl rfl ?_
        refine j_aload_n (pc := 24) dX3_copyOf_24 rfl rfl ?_
        refine j_getR (pc := 25) (r := t + 5) fl_X3_18 dX3_copyOf_25 ht.1.1 rfl ?_
        refine j_iload_n (pc := 28) dX3_copyOf_28 rfl rfl ?_
        refine j_iald (pc := 29) dX3_copyOf_29 ht.1.2.2.2.2.2.1 (by omega) (by omega) (by decide) ?_
        have f2 : (-2147483648 : Int) ≤ τ (t + 5) (i.toNat) ∧ τ (t + 5) (i.toNat) ≤ 2147483647 := tw_Ig ht.2.2.2.2.2.2.1 hIτ (i.toNat)
        refine j_iast (pc := 30) dX3_copyOf_30 hu.1.2.2.2.2.2.1 (by omega) (by omega) (by decide) (j_nm (fun σ3 (eσ3 : σ3 = tw_up τ (u + 5) (i.toNat) (τ (t + 5) (i.toNat))) => ?_))
        have hIσ3 : tw_I σ3 := tw_I_upg hIτ eσ3 hu.2.2.2.2.2.2.1 (show (-2147483648 : Int) ≤ τ (t + 5) (i.toNat) ∧ τ (t + 5) (i.toNat) ≤ 2147483647 from ⟨by omega, by omega⟩)
        have hFσ3 : tw_F (fun c j => (u ≤ c ∧ c < u + 8)) σ σ3 := tw_F_up hFτ eσ3 (show (u ≤ u + 5 ∧ u + 5 < u + 8) from ⟨Nat.le_add_right _ _, (Nat.add_lt_add_left (by decide) _)⟩)
        refine j_iinc (pc := 31) (i := 2) (n := 1) (ls' := [(0, vR u), (1, vR t), (2, vI (i + 1))]) [1, 2, 0] dX3_copyOf_31 rfl (Nat.le_of_ble_eq_true rfl) rfl rfl ?_
        refine j_goto (pc := 34) (tgt := 13) dX3_copyOf_34 rfl ?_
        refine j_ls (ls' := [(0, vR u), (1, vR t), (2, vI (i + 1))]) [0, 1, 2] rfl ?_
        have y4 : σ3 (u + 1) 0 = τ (u + 1) 0 := (tw_ne1 eσ3 (by (first | decide | omega)))
        have f5 : (0 : Int) ≤ τ (u + 1) 0 ∧ τ (u + 1) 0 ≤ 10 := tw_Ig hu.2.2.1 hIτ 0
        exact ih.1 (i + 1) ⟨by omega, by omega⟩ σ3 hIσ3 hFσ3 (show σ3 (u + 1) 0 = σ (t + 1) 0 from (by first | exact ((tw_ne1 eσ3 (by (first | decide | omega)))).trans i0 | exact cp0)) (show ∀ k j : Nat, 1 ≤ k → k < 4 → j < 10 → σ3 (u + 1 + k) j = σ (t + 1 + k) j from (by first | exact (fun k j k1 k2 k3 => (tw_ne1 eσ3 (by (first | decide | omega))).trans (i1 k j k1 k2 k3)) | exact cp1)) (show Cn (u + 5) (σ (t + 5)) σ3 (i + 1) from (by first | exact Cn_0 | exact Cn_up eσ3 (by omega) i2 (hFτ (t + 5) _ (show ¬ ((u ≤ t + 5 ∧ t + 5 < u + 8)) from by omega)) (by omega))) (show (500 - (i + 1)).toNat < N_ from by omega)
    · intro i hi τ hIτ hFτ i0 i1 i2 i3 i4 hm
      have t4 : τ t 4 = σ t 4 := hFτ t 4 (show ¬ ((u ≤ t ∧ t < u + 8)) from by omega)
      have t5 : τ t 5 = σ t 5 := hFτ t 5 (show ¬ ((u ≤ t ∧ t < u + 8)) from by omega)
      refine j_iload_n (pc := 39) dX3_copyOf_39 rfl rfl ?_
      refine j_iconst (pc := 40) dX3_copyOf_40 ?_
      refine j_icmpR_ge (pc := 41) (tgt := 74) ⟨by omega, by omega⟩ ⟨by omega, by omega⟩ dX3_copyOf_41 rfl (fun h6 => ?_) (fun h6 => ?_)
      · refine j_aload_n (pc := 74) dX3_copyOf_74 rfl rfl ?_
        refine j_aload_n (pc := 75) dX3_copyOf_75 rfl rfl ?_
        refine j_getI (pc := 76) fl_X3_28 dX3_copyOf_76 ht.1.1 rfl ?_
        have f7 : (-2147483648 : Int) ≤ τ t 4 ∧ τ t 4 ≤ 2147483647 := tw_Ig ht.2.1 hIτ 4
        refine j_putI (pc := 79) fl_X3_28 fp_X3_4 dX3_copyOf_79 hu.1.1 rfl (j_nm (fun σ8 (eσ8 : σ8 = tw_up τ u 4 (τ t 4)) => ?_))
        have hIσ8 : tw_I σ8 := tw_I_upg hIτ eσ8 hu.2.1 (show (-2147483648 : Int) ≤ τ t 4 ∧ τ t 4 ≤ 2147483647 from ⟨by omega, by omega⟩)
        have hFσ8 : tw_F (fun c j => (u ≤ c ∧ c < u + 8)) σ σ8 := tw_F_up hFτ eσ8 (show (u ≤ u ∧ u < u + 8) from ⟨Nat.le_refl _, (Nat.lt_add_of_pos_right (by decide))⟩)
        refine j_aload_n (pc := 82) dX3_copyOf_82 rfl rfl ?_
        refine j_aload_n (pc := 83) dX3_copyOf_83 rfl rfl ?_
        refine j_getI (pc := 84) fl_X3_32 dX3_copyOf_84 ht.1.1 rfl ?_
        refine j_topV (show σ8 t 5 = τ t 5 from (tw_ne1 eσ8 (by (first | decide | omega)))) ?_
        have f9 : (-2147483648 : Int) ≤ τ t 5 ∧ τ t 5 ≤ 2147483647 := tw_Ig ht.2.1 hIτ 5
        refine j_putI (pc := 87) fl_X3_32 fp_X3_5 dX3_copyOf_87 hu.1.1 rfl (j_nm (fun σ10 (eσ10 : σ10 = tw_up σ8 u 5 (τ t 5)) => ?_))
        have hIσ10 : tw_I σ10 := tw_I_upg hIσ8 eσ10 hu.2.1 (show (-2147483648 : Int) ≤ τ t 5 ∧ τ t 5 ≤ 2147483647 from ⟨by omega, by omega⟩)
        have hFσ10 : tw_F (fun c j => (u ≤ c ∧ c < u + 8)) σ σ10 := tw_F_up hFσ8 eσ10 (show (u ≤ u ∧ u < u + 8) from ⟨Nat.le_refl _, (Nat.lt_add_of_pos_right (by decide))⟩)
        have y11 : σ10 (u + 6) 0 = τ (u + 6) 0 := ((tw_ne1 eσ10 (by (first | decide | omega)))).trans (tw_ne1 eσ8 (by (first | decide | omega)))
        have f12 : (0 : Int) ≤ τ (u + 6) 0 ∧ τ (u + 6) 0 ≤ 999 := tw_Ig hu.2.2.2.2.2.2.2.1 hIτ 0
        have y13 : σ10 (u + 7) 0 = τ (u + 7) 0 := ((tw_ne1 eσ10 (by (first | decide | omega)))).trans (tw_ne1 eσ8 (by (first | decide | omega)))
        have f14 : (-2147483648 : Int) ≤ τ (u + 7) 0 ∧ τ (u + 7) 0 ≤ 2147483647 := tw_Ig hu.2.2.2.2.2.2.2.2 hIτ 0
        have y15 : σ10 (u + 6) 1 = τ (u + 6) 1 := ((tw_ne1 eσ10 (by (first | decide | omega)))).trans (tw_ne1 eσ8 (by (first | decide | omega)))
        have f16 : (0 : Int) ≤ τ (u + 6) 1 ∧ τ (u + 6) 1 ≤ 999 := tw_Ig hu.2.2.2.2.2.2.2.1 hIτ 1
        have y17 : σ10 (u + 7) 1 = τ (u + 7) 1 := ((tw_ne1 eσ10 (by (first | decide | omega)))).trans (tw_ne1 eσ8 (by (first | decide | omega)))
        have f18 : (-2147483648 : Int) ≤ τ (u + 7) 1 ∧ τ (u + 7) 1 ≤ 2147483647 := tw_Ig hu.2.2.2.2.2.2.2.2 hIτ 1
        exact j_vret (pc := 90) ⟨rfl, rfl⟩ dX3_copyOf_90 rfl ⟨rfl, hIσ10, hFσ10, ((((tw_ne1 eσ10 (by (first | decide | omega)))).trans (tw_ne1 eσ8 (by (first | decide | omega)))).trans (i0 0 (by omega))), ((((tw_ne1 eσ10 (by (first | decide | omega)))).trans (tw_ne1 eσ8 (by (first | decide | omega)))).trans (i1 0 (by omega))), ((((tw_ne1 eσ10 (by (first | decide | omega)))).trans (tw_ne1 eσ8 (by (first | decide | omega)))).trans (i0 1 (by omega))), ((((tw_ne1 eσ10 (by (first | decide | omega)))).trans (tw_ne1 eσ8 (by (first | decide | omega)))).trans (i1 1 (by omega))), ⟨(((tw_ne1 eσ10 (by (first | decide | omega)))).trans (tw_ne1 eσ8 (by (first | decide | omega)))).trans i2, fun k j k1 k2 k3 => (tw_ne1 eσ10 (by (first | decide | omega))).trans ((tw_ne1 eσ8 (by (first | decide | omega))).trans (i3 k j k1 k2 k3)), fun j hj => (((tw_ne1 eσ10 (by (first | decide | omega)))).trans (tw_ne1 eσ8 (by (first | decide | omega)))).trans (i4 j (by omega)), (((tw_ne1 eσ10 (by (first | decide | omega)))).trans (tw_eq1 eσ8)).trans (by omega), ((tw_eq1 eσ10)).trans (by omega)⟩⟩
      · refine j_aload_n (pc := 44) dX3_copyOf_44 rfl rfl ?_
        refine j_getR (pc := 45) (r := u + 6) fl_X3_22 dX3_copyOf_45 hu.1.1 rfl ?_
        refine j_iload_n (pc := 48) dX3_copyOf_48 rfl rfl ?_
        refine j_aload_n (pc := 49) dX3_copyOf_49 rfl rfl ?_
        refine j_getR (pc := 50) (r := t + 6) fl_X3_22 dX3_copyOf_50 ht.1.1 rfl ?_
        refine j_iload_n (pc := 53) dX3_copyOf_53 rfl rfl ?_
        refine j_iald (pc := 54) dX3_copyOf_54 ht.1.2.2.2.2.2.2.1 (by omega) (by omega) (by decide) ?_
        have f19 : (0 : Int) ≤ τ (t + 6) (i.toNat) ∧ τ (t + 6) (i.toNat) ≤ 999 := tw_Ig ht.2.2.2.2.2.2.2.1 hIτ (i.toNat)
        refine j_iast (pc := 55) dX3_copyOf_55 hu.1.2.2.2.2.2.2.1 (by omega) (by omega) (by decide) (j_nm (fun σ20 (eσ20 : σ20 = tw_up τ (u + 6) (i.toNat) (τ (t + 6) (i.toNat))) => ?_))
        have hIσ20 : tw_I σ20 := tw_I_upg hIτ eσ20 hu.2.2.2.2.2.2.2.1 (show (0 : Int) ≤ τ (t + 6) (i.toNat) ∧ τ (t + 6) (i.toNat) ≤ 999 from ⟨by omega, by omega⟩)
        have hFσ20 : tw_F (fun c j => (u ≤ c ∧ c < u + 8)) σ σ20 := tw_F_up hFτ eσ20 (show (u ≤ u + 6 ∧ u + 6 < u + 8) from ⟨Nat.le_add_right _ _, (Nat.add_lt_add_left (by decide) _)⟩)
        refine j_aload_n (pc := 56) dX3_copyOf_56 rfl rfl ?_
        refine j_getR (pc := 57) (r := u + 7) fl_X3_25 dX3_copyOf_57 hu.1.1 rfl ?_
        refine j_iload_n (pc := 60) dX3_copyOf_60 rfl rfl ?_
        refine j_aload_n (pc := 61) dX3_copyOf_61 rfl rfl ?_
        refine j_getR (pc := 62) (r := t + 7) fl_X3_25 dX3_copyOf_62 ht.1.1 rfl ?_
        refine j_iload_n (pc := 65) dX3_copyOf_65 rfl rfl ?_
        refine j_iald (pc := 66) dX3_copyOf_66 ht.1.2.2.2.2.2.2.2 (by omega) (by omega) (by decide) ?_
        refine j_topV (show σ20 (t + 7) (i.toNat) = τ (t + 7) (i.toNat) from (tw_ne1 eσ20 (by (first | decide | omega)))) ?_
        have f21 : (-2147483648 : Int) ≤ τ (t + 7) (i.toNat) ∧ τ (t + 7) (i.toNat) ≤ 2147483647 := tw_Ig ht.2.2.2.2.2.2.2.2 hIτ (i.toNat)
        refine j_iast (pc := 67) dX3_copyOf_67 hu.1.2.2.2.2.2.2.2 (by omega) (by omega) (by decide) (j_nm (fun σ22 (eσ22 : σ22 = tw_up σ20 (u + 7) (i.toNat) (τ (t + 7) (i.toNat))) => ?_))
        have hIσ22 : tw_I σ22 := tw_I_upg hIσ20 eσ22 hu.2.2.2.2.2.2.2.2 (show (-2147483648 : Int) ≤ τ (t + 7) (i.toNat) ∧ τ (t + 7) (i.toNat) ≤ 2147483647 from ⟨by omega, by omega⟩)
        have hFσ22 : tw_F (fun c j => (u ≤ c ∧ c < u + 8)) σ σ22 := tw_F_up hFσ20 eσ22 (show (u ≤ u + 7 ∧ u + 7 < u + 8) from ⟨Nat.le_add_right _ _, (Nat.add_lt_add_left (by decide) _)⟩)
        refine j_iinc (pc := 68) (i := 2) (n := 1) (ls' := [(0, vR u), (1, vR t), (2, vI (i + 1))]) [1, 2, 0] dX3_copyOf_68 rfl (Nat.le_of_ble_eq_true rfl) rfl rfl ?_
        refine j_goto (pc := 71) (tgt := 39) dX3_copyOf_71 rfl ?_
        refine j_ls (ls' := [(0, vR u), (1, vR t), (2, vI (i + 1))]) [0, 1, 2] rfl ?_
        have y23 : σ22 (u + 1) 0 = τ (u + 1) 0 := ((tw_ne1 eσ22 (by (first | decide | omega)))).trans (tw_ne1 eσ20 (by (first | decide | omega)))
        have f24 : (0 : Int) ≤ τ (u + 1) 0 ∧ τ (u + 1) 0 ≤ 10 := tw_Ig hu.2.2.1 hIτ 0
        exact ih.2 (i + 1) ⟨by omega, by omega⟩ σ22 hIσ22 hFσ22 (show Cn (u + 6) (σ (t + 6)) σ22 (i + 1) from (by first | exact Cn_F (fun j => tw_ne1 eσ22 (by (first | decide | omega))) (Cn_up eσ20 (by omega) i0 (hFτ (t + 6) _ (show ¬ ((u ≤ t + 6 ∧ t + 6 < u + 8)) from by omega)) (by omega)) | exact Cn_0)) (show Cn (u + 7) (σ (t + 7)) σ22 (i + 1) from (by first | exact Cn_up eσ22 (by omega) (Cn_F (fun j => tw_ne1 eσ20 (by (first | decide | omega))) i1) (by first | exact (tw_ne1 eσ20 (by (first | decide | omega))).trans (hFτ (t + 7) _ (show ¬ ((u ≤ t + 7 ∧ t + 7 < u + 8)) from by omega)) | exact hFτ (t + 7) _ (show ¬ ((u ≤ t + 7 ∧ t + 7 < u + 8)) from by omega)) (by omega) | exact Cn_0)) (show σ22 (u + 1) 0 = σ (t + 1) 0 from (by first | exact (((tw_ne1 eσ22 (by (first | decide | omega)))).trans (tw_ne1 eσ20 (by (first | decide | omega)))).trans i2 | exact i0)) (show ∀ k j : Nat, 1 ≤ k → k < 4 → j < 10 → σ22 (u + 1 + k) j = σ (t + 1 + k) j from (by first | exact (fun k j k1 k2 k3 => (tw_ne1 eσ22 (by (first | decide | omega))).trans ((tw_ne1 eσ20 (by (first | decide | omega))).trans (i3 k j k1 k2 k3))) | exact i1)) (show Cn (u + 5) (σ (t + 5)) σ22 11 from (by first | exact Cn_F (fun j => ((tw_ne1 eσ22 (by (first | decide | omega)))).trans (tw_ne1 eσ20 (by (first | decide | omega)))) i4 | (rw [show (11 : Int) = i from by omega]; exact i2))) (show (100 - (i + 1)).toNat < N_ from by omega)
set_option maxHeartbeats 4000000 in
set_option maxRecDepth 100000 in
theorem c_X3_copyOf {G : tw_G} (u : Nat) (hu : IsHand G u) (t : Nat) (ht : IsHand G t) (σ : tw_M) (hI : tw_I σ) (hq0 : u + 8 ≤ t ∨ t + 8 ≤ u) : tw_C G yX3_copyOf cX3_copyOf 3 none 1 [vR u, vR t] σ (q_X3_copyOf u t σ) := by
  refine tw_met [(0, vR u), (1, vR t)] (by decide +kernel) rfl (Nat.le_of_ble_eq_true rfl) ?_
  refine j_aload_n (pc := 0) dX3_copyOf_0 rfl rfl ?_
  refine j_getR (pc := 1) (r := u + 1) fl_X3_12 dX3_copyOf_1 hu.1.1 rfl ?_
  refine j_aload_n (pc := 4) dX3_copyOf_4 rfl rfl ?_
  refine j_getR (pc := 5) (r := t + 1) fl_X3_12 dX3_copyOf_5 ht.1.1 rfl ?_
  refine j_callV (pc := 8) (As := [vR (t + 1)]) (st := []) (c_X7_copyOf (u + 1) (hand_row hu) (t + 1) (hand_row ht) σ hI (by omega)) mv_X3_48 rfl rfl rfl hu.1.2.1 dX3_copyOf_8 ⟨Nat.le_of_ble_eq_true rfl, Nat.le_of_ble_eq_true rfl⟩ ⟨Nat.le_refl _, Nat.le_refl _⟩ rfl (Nat.le_of_ble_eq_true rfl) rfl (fun z25 σ26 hz25 => ?_)
  obtain ⟨rfl, hIσ26, hGσ26, q27_0, q27_1, q27_2⟩ := hz25
  replace q27_0 : ∀ gg qq : Nat → Int, RG (t + 1) gg qq σ → RG (u + 1) gg qq σ26 := q27_0
  replace q27_1 : σ26 (u + 1) 0 = σ (t + 1) 0 := q27_1
  replace q27_2 : ∀ x j : Nat, 1 ≤ x → x < 4 → j < 10 → σ26 ((u + 1) + x) j = σ ((t + 1) + x) j := q27_2
  have hFσ26 : tw_F (fun c j => (u ≤ c ∧ c < u + 8)) σ σ26 := tw_F_tr (tw_F_rf) hGσ26 (fun c j q => (show (u ≤ c ∧ c < u + 8) from by replace q : (u + 1 ≤ c ∧ c < u + 5) := q; exact ⟨Nat.le_trans (Nat.le_add_right _ _) q.1, Nat.lt_of_lt_of_le q.2 (Nat.add_le_add_left (by decide) _)⟩))
  refine j_st (st' := []) rfl ?_
  have cp0 := q27_1
  have cp1 := q27_2
  refine j_iconst (pc := 11) dX3_copyOf_11 ?_
  refine j_istore_n (pc := 12) (i := 2) (ls' := [(0, vR u), (1, vR t), (2, vI 0)]) [1, 2, 0] dX3_copyOf_12 rfl (Nat.le_of_ble_eq_true rfl) rfl rfl ?_
  refine j_ls (ls' := [(0, vR u), (1, vR t), (2, vI 0)]) [0, 1, 2] rfl ?_
  exact (l_X3_copyOf u hu t ht σ hI hq0 (((500 - (0 : Int)).toNat) + 1)).1 0 (by (first | decide | exact ⟨by omega, by omega⟩)) σ26 hIσ26 hFσ26 (show σ26 (u + 1) 0 = σ (t + 1) 0 from (by first | exact (rfl).trans i0 | exact cp0)) (show ∀ k j : Nat, 1 ≤ k → k < 4 → j < 10 → σ26 (u + 1 + k) j = σ (t + 1 + k) j from (by first | exact (fun k j k1 k2 k3 => (tw_ne1 _ (by omega)).trans (i1 k j k1 k2 k3)) | exact cp1)) (show Cn (u + 5) (σ (t + 5)) σ26 (0 : Int) from (by first | exact Cn_0 | exact Cn_up _ (by omega) i2 (hFτ (t + 5) _ (show ¬ ((u ≤ t + 5 ∧ t + 5 < u + 8)) from by omega)) (by omega))) (Nat.lt_succ_self _)
abbrev q_X3_place (u : Nat) (w : Nat) (h : Int) (s : Int) (σ : tw_M) : Option tw_V → tw_M → Prop := fun z τ => ∃ r : Int, z = some (vI r) ∧ (-4 ≤ r ∧ r ≤ 9) ∧ tw_I τ ∧ tw_F (fun c j => (u + 1 ≤ c ∧ c < u + 6)) σ τ ∧ (∀ gg qq : Nat → Int, RG (u + 1) gg qq σ → (1 ≤ s → s ≤ 10 → 0 ≤ σ (u + 5) s.toNat) → (¬ whyS (wW w σ) (gg h.toNat) (σ (u + 1) 0) (σ (u + 5) s.toNat) h s = 0 ∧ r = whyS (wW w σ) (gg h.toNat) (σ (u + 1) 0) (σ (u + 5) s.toNat) h s ∧ ∀ c j, τ c j = σ c j) ∨ (whyS (wW w σ) (gg h.toNat) (σ (u + 1) 0) (σ (u + 5) s.toNat) h s = 0 ∧ r = cnt gg h.toNat ∧ RG (u + 1) (pg gg h.toNat s) (pg qq h.toNat 0) τ ∧ τ (u + 5) s.toNat = σ (u + 5) s.toNat - 1 ∧ ∀ j : Nat, ¬ j = s.toNat → τ (u + 5) j = σ (u + 5) j))
set_option maxHeartbeats 4000000 in
set_option maxRecDepth 100000 in
theorem c_X3_place {G : tw_G} (u : Nat) (hu : IsHand G u) (w : Nat) (hw : IsWall G w) (h : Int) (hh : -2147483648 ≤ h ∧ h ≤ 2147483647) (s : Int) (hs : -2147483648 ≤ s ∧ s ≤ 2147483647) (σ : tw_M) (hI : tw_I σ) (hq0 : u + 8 ≤ w ∨ w + 9 ≤ u) : tw_C G yX3_place cX3_place 5 (some .int) 1 [vR u, vR w, vI h, vI s] σ (q_X3_place u w h s σ) := by
  refine tw_met [(0, vR u), (1, vR w), (2, vI h), (3, vI s)] (by decide +kernel) rfl (Nat.le_of_ble_eq_true rfl) ?_
  have r0 : wW w σ 100 = σ (w + 1) 0 := wW_r (j := 0) (by decide)
  refine j_aload_n (pc := 0) dX3_place_0 rfl rfl ?_
  refine j_iload_n (pc := 1) dX3_place_1 rfl rfl ?_
  refine j_callV (pc := 2) (As := [vI h]) (st := []) (c_X10_isFoot w hw h ⟨by omega, by omega⟩ σ hI) mv_X3_52 rfl rfl rfl hw.1.1 dX3_place_2 ⟨Nat.le_of_ble_eq_true rfl, Nat.le_of_ble_eq_true rfl⟩ ⟨Nat.le_refl _, Nat.le_refl _⟩ rfl (Nat.le_of_ble_eq_true rfl) rfl (fun z1 σ2 hz1 => ?_)
  obtain ⟨r4, rfl, hr4, rfl, q3_0⟩ := hz1
  replace q3_0 : (r4 = 1 ∧ 1 ≤ h ∧ h ≤ σ (w + 1) 0 ∧ h ≤ 40) ∨ (r4 = 0 ∧ ¬ (1 ≤ h ∧ h ≤ σ (w + 1) 0)) := q3_0
  refine j_st (st' := [vI r4]) rfl ?_
  refine j_ifR_eq (pc := 5) (tgt := 19) ⟨by omega, by omega⟩ dX3_place_5 rfl (fun h5 => ?_) (fun h5 => ?_)
  · refine j_iconst (pc := 19) dX3_place_19 ?_
    have fin : ∀ gg qq : Nat → Int, RG (u + 1) gg qq σ → (1 ≤ s → s ≤ 10 → 0 ≤ σ (u + 5) s.toNat) → (¬ whyS (wW w σ) (gg h.toNat) (σ (u + 1) 0) (σ (u + 5) s.toNat) h s = 0 ∧ (-1) = whyS (wW w σ) (gg h.toNat) (σ (u + 1) 0) (σ (u + 5) s.toNat) h s ∧ ∀ c j, σ c j = σ c j) ∨ (whyS (wW w σ) (gg h.toNat) (σ (u + 1) 0) (σ (u + 5) s.toNat) h s = 0 ∧ (-1) = cnt gg h.toNat ∧ RG (u + 1) (pg gg h.toNat s) (pg qq h.toNat 0) σ ∧ σ (u + 5) s.toNat = σ (u + 5) s.toNat - 1 ∧ ∀ j : Nat, ¬ j = s.toNat → σ (u + 5) j = σ (u + 5) j) := fun gg qq H e0 => by
      have e := why_1 (W := wW w σ) (gh := gg h.toNat) (n := σ (u + 1) 0) (rs := σ (u + 5) s.toNat) (h := h) (s := s) (by omega)
      exact Or.inl ⟨by rw [e]; decide, e.symm, fun c j => rfl⟩
    exact j_iret (pc := 20) ⟨rfl, rfl⟩ dX3_place_20 rfl ⟨_, rfl, ⟨by omega, by omega⟩, hI, (tw_F_rf), fin⟩
  · refine j_iload_n (pc := 8) dX3_place_8 rfl rfl ?_
    refine j_iconst (pc := 9) dX3_place_9 ?_
    refine j_icmpR_lt (pc := 10) (tgt := 19) ⟨by omega, by omega⟩ ⟨by omega, by omega⟩ dX3_place_10 rfl (fun h6 => ?_) (fun h6 => ?_)
    · refine j_iconst (pc := 19) dX3_place_19 ?_
      have fin : ∀ gg qq : Nat → Int, RG (u + 1) gg qq σ → (1 ≤ s → s ≤ 10 → 0 ≤ σ (u + 5) s.toNat) → (¬ whyS (wW w σ) (gg h.toNat) (σ (u + 1) 0) (σ (u + 5) s.toNat) h s = 0 ∧ (-1) = whyS (wW w σ) (gg h.toNat) (σ (u + 1) 0) (σ (u + 5) s.toNat) h s ∧ ∀ c j, σ c j = σ c j) ∨ (whyS (wW w σ) (gg h.toNat) (σ (u + 1) 0) (σ (u + 5) s.toNat) h s = 0 ∧ (-1) = cnt gg h.toNat ∧ RG (u + 1) (pg gg h.toNat s) (pg qq h.toNat 0) σ ∧ σ (u + 5) s.toNat = σ (u + 5) s.toNat - 1 ∧ ∀ j : Nat, ¬ j = s.toNat → σ (u + 5) j = σ (u + 5) j) := fun gg qq H e0 => by
        have e := why_1 (W := wW w σ) (gh := gg h.toNat) (n := σ (u + 1) 0) (rs := σ (u + 5) s.toNat) (h := h) (s := s) (by omega)
        exact Or.inl ⟨by rw [e]; decide, e.symm, fun c j => rfl⟩
      exact j_iret (pc := 20) ⟨rfl, rfl⟩ dX3_place_20 rfl ⟨_, rfl, ⟨by omega, by omega⟩, hI, (tw_F_rf), fin⟩
    · refine j_iload_n (pc := 13) dX3_place_13 rfl rfl ?_
      refine j_bipush (pc := 14) dX3_place_14 rfl ?_
      refine j_icmpR_le (pc := 16) (tgt := 21) ⟨by omega, by omega⟩ ⟨by omega, by omega⟩ dX3_place_16 rfl (fun h7 => ?_) (fun h7 => ?_)
      · refine j_aload_n (pc := 21) dX3_place_21 rfl rfl ?_
        refine j_getR (pc := 22) (r := w + 4) fl_X3_56 dX3_place_22 hw.1.1 rfl ?_
        refine j_iload_n (pc := 25) dX3_place_25 rfl rfl ?_
        refine j_iald (pc := 26) dX3_place_26 hw.1.2.2.2.2.1 (by omega) (by omega) (by decide) ?_
        have f8 : (0 : Int) ≤ σ (w + 4) (h.toNat) ∧ σ (w + 4) (h.toNat) ≤ 10 := tw_Ig hw.2.2.2.2.2.1 hI (h.toNat)
        refine j_istore (pc := 27) (i := 4) (ls' := [(0, vR u), (2, vI h), (3, vI s), (4, vI (σ (w + 4) (h.toNat)))]) [1, 3, 4, 0] dX3_place_27 (Nat.le_of_ble_eq_true rfl) rfl rfl ?_
        have c9 : wC (wW w σ) h = σ (w + 4) h.toNat := wW_1 ⟨by omega, by omega⟩
        refine j_iload (pc := 29) dX3_place_29 rfl ?_
        refine j_ifR_eq (pc := 31) (tgt := 45) ⟨by omega, by omega⟩ dX3_place_31 rfl (fun h9 => ?_) (fun h9 => ?_)
        · refine j_bipush (pc := 45) dX3_place_45 rfl ?_
          have fin : ∀ gg qq : Nat → Int, RG (u + 1) gg qq σ → (1 ≤ s → s ≤ 10 → 0 ≤ σ (u + 5) s.toNat) → (¬ whyS (wW w σ) (gg h.toNat) (σ (u + 1) 0) (σ (u + 5) s.toNat) h s = 0 ∧ (-2) = whyS (wW w σ) (gg h.toNat) (σ (u + 1) 0) (σ (u + 5) s.toNat) h s ∧ ∀ c j, σ c j = σ c j) ∨ (whyS (wW w σ) (gg h.toNat) (σ (u + 1) 0) (σ (u + 5) s.toNat) h s = 0 ∧ (-2) = cnt gg h.toNat ∧ RG (u + 1) (pg gg h.toNat s) (pg qq h.toNat 0) σ ∧ σ (u + 5) s.toNat = σ (u + 5) s.toNat - 1 ∧ ∀ j : Nat, ¬ j = s.toNat → σ (u + 5) j = σ (u + 5) j) := fun gg qq H e0 => by
            have e := why_2 (W := wW w σ) (gh := gg h.toNat) (n := σ (u + 1) 0) (rs := σ (u + 5) s.toNat) (h := h) (s := s) ⟨by omega, by omega, by omega, by omega⟩ (by first | omega | (have l := RG_look H q3_2 (by omega); omega))
            exact Or.inl ⟨by rw [e]; decide, e.symm, fun c j => rfl⟩
          exact j_iret (pc := 47) ⟨rfl, rfl⟩ dX3_place_47 rfl ⟨_, rfl, ⟨by omega, by omega⟩, hI, (tw_F_rf), fin⟩
        · refine j_aload_n (pc := 34) dX3_place_34 rfl rfl ?_
          refine j_getR (pc := 35) (r := u + 1) fl_X3_12 dX3_place_35 hu.1.1 rfl ?_
          refine j_iload_n (pc := 38) dX3_place_38 rfl rfl ?_
          refine j_callV (pc := 39) (As := [vI h]) (st := []) (c_X7_at (u + 1) (hand_row hu) h ⟨by omega, by omega⟩ σ hI) mv_X3_59 rfl rfl rfl hu.1.2.1 dX3_place_39 ⟨Nat.le_of_ble_eq_true rfl, Nat.le_of_ble_eq_true rfl⟩ ⟨Nat.le_refl _, Nat.le_refl _⟩ rfl (Nat.le_of_ble_eq_true rfl) rfl (fun z10 σ11 hz10 => ?_)
          obtain ⟨r13, rfl, hr13, rfl, q12_0, q12_1, q12_2⟩ := hz10
          replace q12_0 : r13 < σ (u + 1) 0 := q12_0
          replace q12_1 : -1 < r13 ∨ r13 = -4 := q12_1
          replace q12_2 : (0 ≤ r13 ∧ r13 < σ (u + 1) 0 ∧ σ (u + 2) r13.toNat = h) ∨ (r13 = -4 ∧ ∀ k : Nat, (k : Int) < σ (u + 1) 0 → ¬ σ (u + 2) k = h) := q12_2
          refine j_st (st' := [vI r13]) rfl ?_
          refine j_ifR_lt (pc := 42) (tgt := 48) ⟨by omega, by omega⟩ dX3_place_42 rfl (fun h14 => ?_) (fun h14 => ?_)
          · refine j_iload_n (pc := 48) dX3_place_48 rfl rfl ?_
            refine j_iload (pc := 49) dX3_place_49 rfl ?_
            refine j_isub (pc := 51) dX3_place_51 ?_
            refine j_mabs (pc := 52) mm_X3_63 dX3_place_52 ⟨Nat.le_of_ble_eq_true rfl, Nat.le_of_ble_eq_true rfl⟩ ⟨Nat.le_refl _, Nat.le_refl _⟩ rfl (fun z15 ez15 => ?_)
            have hz15 := tw_abs_eq (a := s - (σ (w + 4) (h.toNat))) ⟨by omega, by omega⟩ ez15
            refine j_iconst (pc := 55) dX3_place_55 ?_
            refine j_icmpR_le (pc := 56) (tgt := 62) ⟨by omega, by omega⟩ ⟨by omega, by omega⟩ dX3_place_56 rfl (fun h16 => ?_) (fun h16 => ?_)
            · refine j_aload_n (pc := 62) dX3_place_62 rfl rfl ?_
              refine j_getR (pc := 63) (r := u + 1) fl_X3_12 dX3_place_63 hu.1.1 rfl ?_
              refine j_getI (pc := 66) fl_X3_39 dX3_place_66 hu.1.2.1 rfl ?_
              have f17 : (0 : Int) ≤ σ (u + 1) 0 ∧ σ (u + 1) 0 ≤ 10 := tw_Ig hu.2.2.1 hI 0
              refine j_bipush (pc := 69) dX3_place_69 rfl ?_
              refine j_icmpR_lt (pc := 71) (tgt := 77) ⟨by omega, by omega⟩ ⟨by omega, by omega⟩ dX3_place_71 rfl (fun h18 => ?_) (fun h18 => ?_)
              · refine j_aload_n (pc := 77) dX3_place_77 rfl rfl ?_
                refine j_getR (pc := 78) (r := u + 5) fl_X3_18 dX3_place_78 hu.1.1 rfl ?_
                refine j_iload_n (pc := 81) dX3_place_81 rfl rfl ?_
                refine j_iald (pc := 82) dX3_place_82 hu.1.2.2.2.2.2.1 (by omega) (by omega) (by decide) ?_
                have f19 : (-2147483648 : Int) ≤ σ (u + 5) (s.toNat) ∧ σ (u + 5) (s.toNat) ≤ 2147483647 := tw_Ig hu.2.2.2.2.2.2.1 hI (s.toNat)
                refine j_ifR_ne (pc := 83) (tgt := 89) ⟨by omega, by omega⟩ dX3_place_83 rfl (fun h20 => ?_) (fun h20 => ?_)
                · refine j_aload_n (pc := 89) dX3_place_89 rfl rfl ?_
                  refine j_getR (pc := 90) (r := u + 5) fl_X3_18 dX3_place_90 hu.1.1 rfl ?_
                  refine j_iload_n (pc := 93) dX3_place_93 rfl rfl ?_
                  refine j_dup2 (pc := 94) dX3_place_94 rfl rfl ?_
                  refine j_iald (pc := 95) dX3_place_95 hu.1.2.2.2.2.2.1 (by omega) (by omega) (by decide) ?_
                  refine j_iconst (pc := 96) dX3_place_96 ?_
                  refine j_isub (pc := 97) dX3_place_97 ?_
                  refine j_top (fun z21 ez21 hz21 => ?_)
                  have gz21 : (σ (u + 5) (s.toNat)) - 1 < -2147483648 ∨ 2147483647 < (σ (u + 5) (s.toNat)) - 1 ∨ z21 = (σ (u + 5) (s.toNat)) - 1 := by rw [ez21]; exact w32_or _
                  refine j_iast (pc := 98) dX3_place_98 hu.1.2.2.2.2.2.1 (by omega) (by omega) (by decide) (j_nm (fun σ22 (eσ22 : σ22 = tw_up σ (u + 5) (s.toNat) z21) => ?_))
                  have hIσ22 : tw_I σ22 := tw_I_upg hI eσ22 hu.2.2.2.2.2.2.1 (show (-2147483648 : Int) ≤ z21 ∧ z21 ≤ 2147483647 from ⟨by omega, by omega⟩)
                  have hFσ22 : tw_F (fun c j => (u + 1 ≤ c ∧ c < u + 6)) σ σ22 := tw_F_up (tw_F_rf) eσ22 (show (u + 1 ≤ u + 5 ∧ u + 5 < u + 6) from ⟨Nat.add_le_add_left (by decide) _, (Nat.add_lt_add_left (by decide) _)⟩)
                  have lk9 := q12_2
                  refine j_aload_n (pc := 99) dX3_place_99 rfl rfl ?_
                  refine j_getR (pc := 100) (r := u + 1) fl_X3_12 dX3_place_100 hu.1.1 rfl ?_
                  refine j_iload_n (pc := 103) dX3_place_103 rfl rfl ?_
                  refine j_iload_n (pc := 104) dX3_place_104 rfl rfl ?_
                  refine j_callV (pc := 105) (As := [vI h, vI s]) (st := []) (c_X7_insert (u + 1) (hand_row hu) h ⟨by omega, by omega⟩ s ⟨by omega, by omega⟩ σ22 hIσ22) mv_X3_68 rfl rfl rfl hu.1.2.1 dX3_place_105 ⟨Nat.le_of_ble_eq_true rfl, Nat.le_of_ble_eq_true rfl⟩ ⟨Nat.le_refl _, Nat.le_refl _⟩ rfl (Nat.le_of_ble_eq_true rfl) rfl (fun z23 σ24 hz23 => ?_)
                  obtain ⟨r26, rfl, hr26, hIσ24, hGσ24, q25_0⟩ := hz23
                  replace q25_0 : ∀ gg qq : Nat → Int, RG (u + 1) gg qq σ22 → gg h.toNat = 0 → 1 ≤ h → 1 ≤ s → σ22 (u + 1) 0 < 10 → RG (u + 1) (pg gg h.toNat s) (pg qq h.toNat 0) σ24 ∧ r26 = cnt gg h.toNat := q25_0
                  have y27 : σ22 (u + 1) 0 = σ (u + 1) 0 := (tw_ne1 eσ22 (by (first | decide | omega)))
                  have hFσ24 : tw_F (fun c j => (u + 1 ≤ c ∧ c < u + 6)) σ σ24 := tw_F_tr hFσ22 hGσ24 (fun c j q => (show (u + 1 ≤ c ∧ c < u + 6) from by replace q : (u + 1 ≤ c ∧ c < u + 5) := q; exact ⟨q.1, Nat.lt_of_lt_of_le q.2 (Nat.add_le_add_left (by decide) _)⟩))
                  refine j_st (st' := [vI r26]) rfl ?_
                  have fin : ∀ gg qq : Nat → Int, RG (u + 1) gg qq σ → (1 ≤ s → s ≤ 10 → 0 ≤ σ (u + 5) s.toNat) → (¬ whyS (wW w σ) (gg h.toNat) (σ (u + 1) 0) (σ (u + 5) s.toNat) h s = 0 ∧ r26 = whyS (wW w σ) (gg h.toNat) (σ (u + 1) 0) (σ (u + 5) s.toNat) h s ∧ ∀ c j, σ24 c j = σ c j) ∨ (whyS (wW w σ) (gg h.toNat) (σ (u + 1) 0) (σ (u + 5) s.toNat) h s = 0 ∧ r26 = cnt gg h.toNat ∧ RG (u + 1) (pg gg h.toNat s) (pg qq h.toNat 0) σ24 ∧ σ24 (u + 5) s.toNat = σ (u + 5) s.toNat - 1 ∧ ∀ j : Nat, ¬ j = s.toNat → σ24 (u + 5) j = σ (u + 5) j) := fun gg qq H e0 => by
                    have e0 := e0 (by omega) (by omega)
                    have l := RG_look H lk9 (by omega)
                    have e := why_0 (W := wW w σ) (gh := gg h.toNat) (n := σ (u + 1) 0) (rs := σ (u + 5) s.toNat) (h := h) (s := s) ⟨by omega, by omega, by omega, by omega⟩ (by omega) (by omega) (by omega)
                    have ii := q25_0 gg qq (RG_F H (fun c j a b => tw_ne1 eσ22 (by (first | decide | omega)))) (by omega) (by omega) (by omega) (by omega)
                    refine Or.inr ⟨e, ii.2, ii.1, (hGσ24 (u + 5) s.toNat (show ¬ ((u + 1 ≤ u + 5 ∧ u + 5 < u + 5)) from by omega)).trans ((tw_eq1 eσ22).trans (by omega)), fun j hj => (hGσ24 (u + 5) j (show ¬ ((u + 1 ≤ u + 5 ∧ u + 5 < u + 5)) from by omega)).trans (tw_ne1 eσ22 (Or.inr hj))⟩
                  have y28 : σ24 (u + 5) (s.toNat) = z21 := ((hGσ24 (u + 5) (s.toNat) (show ¬ ((u + 1 ≤ u + 5 ∧ u + 5 < u + 5)) from by omega))).trans (tw_eq1 eσ22)
                  exact j_iret (pc := 108) ⟨rfl, rfl⟩ dX3_place_108 rfl ⟨_, rfl, ⟨by omega, by omega⟩, hIσ24, hFσ24, fin⟩
                · refine j_bipush (pc := 86) dX3_place_86 rfl ?_
                  have fin : ∀ gg qq : Nat → Int, RG (u + 1) gg qq σ → (1 ≤ s → s ≤ 10 → 0 ≤ σ (u + 5) s.toNat) → (¬ whyS (wW w σ) (gg h.toNat) (σ (u + 1) 0) (σ (u + 5) s.toNat) h s = 0 ∧ (-4) = whyS (wW w σ) (gg h.toNat) (σ (u + 1) 0) (σ (u + 5) s.toNat) h s ∧ ∀ c j, σ c j = σ c j) ∨ (whyS (wW w σ) (gg h.toNat) (σ (u + 1) 0) (σ (u + 5) s.toNat) h s = 0 ∧ (-4) = cnt gg h.toNat ∧ RG (u + 1) (pg gg h.toNat s) (pg qq h.toNat 0) σ ∧ σ (u + 5) s.toNat = σ (u + 5) s.toNat - 1 ∧ ∀ j : Nat, ¬ j = s.toNat → σ (u + 5) j = σ (u + 5) j) := fun gg qq H e0 => by
                    have e := why_4 (W := wW w σ) (gh := gg h.toNat) (n := σ (u + 1) 0) (rs := σ (u + 5) s.toNat) (h := h) (s := s) ⟨by omega, by omega, by omega, by omega⟩ (by (have l := RG_look H q12_2 (by omega)); omega) (by omega) (by omega)
                    exact Or.inl ⟨by rw [e]; decide, e.symm, fun c j => rfl⟩
                  exact j_iret (pc := 88) ⟨rfl, rfl⟩ dX3_place_88 rfl ⟨_, rfl, ⟨by omega, by omega⟩, hI, (tw_F_rf), fin⟩
              · refine j_bipush (pc := 74) dX3_place_74 rfl ?_
                have fin : ∀ gg qq : Nat → Int, RG (u + 1) gg qq σ → (1 ≤ s → s ≤ 10 → 0 ≤ σ (u + 5) s.toNat) → (¬ whyS (wW w σ) (gg h.toNat) (σ (u + 1) 0) (σ (u + 5) s.toNat) h s = 0 ∧ (-3) = whyS (wW w σ) (gg h.toNat) (σ (u + 1) 0) (σ (u + 5) s.toNat) h s ∧ ∀ c j, σ c j = σ c j) ∨ (whyS (wW w σ) (gg h.toNat) (σ (u + 1) 0) (σ (u + 5) s.toNat) h s = 0 ∧ (-3) = cnt gg h.toNat ∧ RG (u + 1) (pg gg h.toNat s) (pg qq h.toNat 0) σ ∧ σ (u + 5) s.toNat = σ (u + 5) s.toNat - 1 ∧ ∀ j : Nat, ¬ j = s.toNat → σ (u + 5) j = σ (u + 5) j) := fun gg qq H e0 => by
                  have e := why_3 (W := wW w σ) (gh := gg h.toNat) (n := σ (u + 1) 0) (rs := σ (u + 5) s.toNat) (h := h) (s := s) ⟨by omega, by omega, by omega, by omega⟩ (by (have l := RG_look H q12_2 (by omega)); omega) (by omega)
                  exact Or.inl ⟨by rw [e]; decide, e.symm, fun c j => rfl⟩
                exact j_iret (pc := 76) ⟨rfl, rfl⟩ dX3_place_76 rfl ⟨_, rfl, ⟨by omega, by omega⟩, hI, (tw_F_rf), fin⟩
            · refine j_bipush (pc := 59) dX3_place_59 rfl ?_
              have fin : ∀ gg qq : Nat → Int, RG (u + 1) gg qq σ → (1 ≤ s → s ≤ 10 → 0 ≤ σ (u + 5) s.toNat) → (¬ whyS (wW w σ) (gg h.toNat) (σ (u + 1) 0) (σ (u + 5) s.toNat) h s = 0 ∧ (-2) = whyS (wW w σ) (gg h.toNat) (σ (u + 1) 0) (σ (u + 5) s.toNat) h s ∧ ∀ c j, σ c j = σ c j) ∨ (whyS (wW w σ) (gg h.toNat) (σ (u + 1) 0) (σ (u + 5) s.toNat) h s = 0 ∧ (-2) = cnt gg h.toNat ∧ RG (u + 1) (pg gg h.toNat s) (pg qq h.toNat 0) σ ∧ σ (u + 5) s.toNat = σ (u + 5) s.toNat - 1 ∧ ∀ j : Nat, ¬ j = s.toNat → σ (u + 5) j = σ (u + 5) j) := fun gg qq H e0 => by
                have e := why_2 (W := wW w σ) (gh := gg h.toNat) (n := σ (u + 1) 0) (rs := σ (u + 5) s.toNat) (h := h) (s := s) ⟨by omega, by omega, by omega, by omega⟩ (by omega)
                exact Or.inl ⟨by rw [e]; decide, e.symm, fun c j => rfl⟩
              exact j_iret (pc := 61) ⟨rfl, rfl⟩ dX3_place_61 rfl ⟨_, rfl, ⟨by omega, by omega⟩, hI, (tw_F_rf), fin⟩
          · refine j_bipush (pc := 45) dX3_place_45 rfl ?_
            have fin : ∀ gg qq : Nat → Int, RG (u + 1) gg qq σ → (1 ≤ s → s ≤ 10 → 0 ≤ σ (u + 5) s.toNat) → (¬ whyS (wW w σ) (gg h.toNat) (σ (u + 1) 0) (σ (u + 5) s.toNat) h s = 0 ∧ (-2) = whyS (wW w σ) (gg h.toNat) (σ (u + 1) 0) (σ (u + 5) s.toNat) h s ∧ ∀ c j, σ c j = σ c j) ∨ (whyS (wW w σ) (gg h.toNat) (σ (u + 1) 0) (σ (u + 5) s.toNat) h s = 0 ∧ (-2) = cnt gg h.toNat ∧ RG (u + 1) (pg gg h.toNat s) (pg qq h.toNat 0) σ ∧ σ (u + 5) s.toNat = σ (u + 5) s.toNat - 1 ∧ ∀ j : Nat, ¬ j = s.toNat → σ (u + 5) j = σ (u + 5) j) := fun gg qq H e0 => by
              have e := why_2 (W := wW w σ) (gh := gg h.toNat) (n := σ (u + 1) 0) (rs := σ (u + 5) s.toNat) (h := h) (s := s) ⟨by omega, by omega, by omega, by omega⟩ (by first | omega | (have l := RG_look H q12_2 (by omega); omega))
              exact Or.inl ⟨by rw [e]; decide, e.symm, fun c j => rfl⟩
            exact j_iret (pc := 47) ⟨rfl, rfl⟩ dX3_place_47 rfl ⟨_, rfl, ⟨by omega, by omega⟩, hI, (tw_F_rf), fin⟩
      · refine j_iconst (pc := 19) dX3_place_19 ?_
        have fin : ∀ gg qq : Nat → Int, RG (u + 1) gg qq σ → (1 ≤ s → s ≤ 10 → 0 ≤ σ (u + 5) s.toNat) → (¬ whyS (wW w σ) (gg h.toNat) (σ (u + 1) 0) (σ (u + 5) s.toNat) h s = 0 ∧ (-1) = whyS (wW w σ) (gg h.toNat) (σ (u + 1) 0) (σ (u + 5) s.toNat) h s ∧ ∀ c j, σ c j = σ c j) ∨ (whyS (wW w σ) (gg h.toNat) (σ (u + 1) 0) (σ (u + 5) s.toNat) h s = 0 ∧ (-1) = cnt gg h.toNat ∧ RG (u + 1) (pg gg h.toNat s) (pg qq h.toNat 0) σ ∧ σ (u + 5) s.toNat = σ (u + 5) s.toNat - 1 ∧ ∀ j : Nat, ¬ j = s.toNat → σ (u + 5) j = σ (u + 5) j) := fun gg qq H e0 => by
          have e := why_1 (W := wW w σ) (gh := gg h.toNat) (n := σ (u + 1) 0) (rs := σ (u + 5) s.toNat) (h := h) (s := s) (by omega)
          exact Or.inl ⟨by rw [e]; decide, e.symm, fun c j => rfl⟩
        exact j_iret (pc := 20) ⟨rfl, rfl⟩ dX3_place_20 rfl ⟨_, rfl, ⟨by omega, by omega⟩, hI, (tw_F_rf), fin⟩
abbrev q_X3_takeOut (u : Nat) (k : Int) (σ : tw_M) : Option tw_V → tw_M → Prop := fun z τ => ∃ r : Int, z = some (vI r) ∧ (-4 ≤ r ∧ r ≤ 10) ∧ tw_I τ ∧ tw_F (fun c j => (u + 1 ≤ c ∧ c < u + 6)) σ τ ∧ (∀ gg qq : Nat → Int, RG (u + 1) gg qq σ → 0 ≤ k → k < σ (u + 1) 0 → σ (u + 5) (σ (u + 3) k.toNat).toNat ≤ 1000 → 0 ≤ σ (u + 5) (σ (u + 3) k.toNat).toNat → r = σ (u + 3) k.toNat ∧ RG (u + 1) (pg gg (σ (u + 2) k.toNat).toNat 0) qq τ ∧ τ (u + 5) (σ (u + 3) k.toNat).toNat = σ (u + 5) (σ (u + 3) k.toNat).toNat + 1 ∧ ∀ j : Nat, ¬ j = (σ (u + 3) k.toNat).toNat → τ (u + 5) j = σ (u + 5) j)
set_option maxHeartbeats 4000000 in
set_option maxRecDepth 100000 in
theorem c_X3_takeOut {G : tw_G} (u : Nat) (hu : IsHand G u) (k : Int) (hk : -2147483648 ≤ k ∧ k ≤ 2147483647) (σ : tw_M) (hI : tw_I σ) : tw_C G yX3_takeOut cX3_takeOut 3 (some .int) 1 [vR u, vI k] σ (q_X3_takeOut u k σ) := by
  refine tw_met [(0, vR u), (1, vI k)] (by decide +kernel) rfl (Nat.le_of_ble_eq_true rfl) ?_
  refine j_iload_n (pc := 0) dX3_takeOut_0 rfl rfl ?_
  refine j_ifR_lt (pc := 1) (tgt := 15) ⟨by omega, by omega⟩ dX3_takeOut_1 rfl (fun h1 => ?_) (fun h1 => ?_)
  · refine j_bipush (pc := 15) dX3_takeOut_15 rfl ?_
    have fin : ∀ gg qq : Nat → Int, RG (u + 1) gg qq σ → 0 ≤ k → k < σ (u + 1) 0 → σ (u + 5) (σ (u + 3) k.toNat).toNat ≤ 1000 → 0 ≤ σ (u + 5) (σ (u + 3) k.toNat).toNat → (-4) = σ (u + 3) k.toNat ∧ RG (u + 1) (pg gg (σ (u + 2) k.toNat).toNat 0) qq σ ∧ σ (u + 5) (σ (u + 3) k.toNat).toNat = σ (u + 5) (σ (u + 3) k.toNat).toNat + 1 ∧ ∀ j : Nat, ¬ j = (σ (u + 3) k.toNat).toNat → σ (u + 5) j = σ (u + 5) j := fun gg qq H e0 e1 e2 e3 => by exfalso; omega
    exact j_iret (pc := 17) ⟨rfl, rfl⟩ dX3_takeOut_17 rfl ⟨_, rfl, ⟨by omega, by omega⟩, hI, (tw_F_rf), fin⟩
  · refine j_iload_n (pc := 4) dX3_takeOut_4 rfl rfl ?_
    refine j_aload_n (pc := 5) dX3_takeOut_5 rfl rfl ?_
    refine j_getR (pc := 6) (r := u + 1) fl_X3_12 dX3_takeOut_6 hu.1.1 rfl ?_
    refine j_getI (pc := 9) fl_X3_39 dX3_takeOut_9 hu.1.2.1 rfl ?_
    have f2 : (0 : Int) ≤ σ (u + 1) 0 ∧ σ (u + 1) 0 ≤ 10 := tw_Ig hu.2.2.1 hI 0
    refine j_icmpR_lt (pc := 12) (tgt := 18) ⟨by omega, by omega⟩ ⟨by omega, by omega⟩ dX3_takeOut_12 rfl (fun h3 => ?_) (fun h3 => ?_)
    · refine j_aload_n (pc := 18) dX3_takeOut_18 rfl rfl ?_
      refine j_getR (pc := 19) (r := u + 1) fl_X3_12 dX3_takeOut_19 hu.1.1 rfl ?_
      refine j_getR (pc := 22) (r := u + 3) fl_X3_72 dX3_takeOut_22 hu.1.2.1 rfl ?_
      refine j_iload_n (pc := 25) dX3_takeOut_25 rfl rfl ?_
      refine j_iald (pc := 26) dX3_takeOut_26 hu.1.2.2.2.1 (by omega) (by omega) (by decide) ?_
      have f4 : (0 : Int) ≤ σ (u + 3) (k.toNat) ∧ σ (u + 3) (k.toNat) ≤ 10 := tw_Ig hu.2.2.2.2.1 hI (k.toNat)
      refine j_istore_n (pc := 27) (i := 2) (ls' := [(0, vR u), (1, vI k), (2, vI (σ (u + 3) (k.toNat)))]) [1, 2, 0] dX3_takeOut_27 rfl (Nat.le_of_ble_eq_true rfl) rfl rfl ?_
      refine j_aload_n (pc := 28) dX3_takeOut_28 rfl rfl ?_
      refine j_getR (pc := 29) (r := u + 5) fl_X3_18 dX3_takeOut_29 hu.1.1 rfl ?_
      refine j_iload_n (pc := 32) dX3_takeOut_32 rfl rfl ?_
      refine j_dup2 (pc := 33) dX3_takeOut_33 rfl rfl ?_
      refine j_iald (pc := 34) dX3_takeOut_34 hu.1.2.2.2.2.2.1 (by omega) (by omega) (by decide) ?_
      have f5 : (-2147483648 : Int) ≤ σ (u + 5) ((σ (u + 3) (k.toNat)).toNat) ∧ σ (u + 5) ((σ (u + 3) (k.toNat)).toNat) ≤ 2147483647 := tw_Ig hu.2.2.2.2.2.2.1 hI ((σ (u + 3) (k.toNat)).toNat)
      refine j_iconst (pc := 35) dX3_takeOut_35 ?_
      refine j_iadd (pc := 36) dX3_takeOut_36 ?_
      refine j_top (fun z6 ez6 hz6 => ?_)
      have gz6 : (σ (u + 5) ((σ (u + 3) (k.toNat)).toNat)) + 1 < -2147483648 ∨ 2147483647 < (σ (u + 5) ((σ (u + 3) (k.toNat)).toNat)) + 1 ∨ z6 = (σ (u + 5) ((σ (u + 3) (k.toNat)).toNat)) + 1 := by rw [ez6]; exact w32_or _
      refine j_iast (pc := 37) dX3_takeOut_37 hu.1.2.2.2.2.2.1 (by omega) (by omega) (by decide) (j_nm (fun σ7 (eσ7 : σ7 = tw_up σ (u + 5) ((σ (u + 3) (k.toNat)).toNat) z6) => ?_))
      have hIσ7 : tw_I σ7 := tw_I_upg hI eσ7 hu.2.2.2.2.2.2.1 (show (-2147483648 : Int) ≤ z6 ∧ z6 ≤ 2147483647 from ⟨by omega, by omega⟩)
      have hFσ7 : tw_F (fun c j => (u + 1 ≤ c ∧ c < u + 6)) σ σ7 := tw_F_up (tw_F_rf) eσ7 (show (u + 1 ≤ u + 5 ∧ u + 5 < u + 6) from ⟨Nat.add_le_add_left (by decide) _, (Nat.add_lt_add_left (by decide) _)⟩)
      refine j_aload_n (pc := 38) dX3_takeOut_38 rfl rfl ?_
      refine j_getR (pc := 39) (r := u + 1) fl_X3_12 dX3_takeOut_39 hu.1.1 rfl ?_
      refine j_iload_n (pc := 42) dX3_takeOut_42 rfl rfl ?_
      refine j_callV (pc := 43) (As := [vI k]) (st := []) (c_X7_remove (u + 1) (hand_row hu) k ⟨by omega, by omega⟩ σ7 hIσ7) mv_X3_75 rfl rfl rfl hu.1.2.1 dX3_takeOut_43 ⟨Nat.le_of_ble_eq_true rfl, Nat.le_of_ble_eq_true rfl⟩ ⟨Nat.le_refl _, Nat.le_refl _⟩ rfl (Nat.le_of_ble_eq_true rfl) rfl (fun z8 σ9 hz8 => ?_)
      obtain ⟨rfl, hIσ9, hGσ9, q10_0⟩ := hz8
      replace q10_0 : ∀ gg qq : Nat → Int, RG (u + 1) gg qq σ7 → 0 ≤ k → k < σ7 (u + 1) 0 → RG (u + 1) (pg gg (σ7 (u + 2) k.toNat).toNat 0) qq σ9 := q10_0
      have y12 : σ7 (u + 1) 0 = σ (u + 1) 0 := (tw_ne1 eσ7 (by (first | decide | omega)))
      have y13 : σ7 (u + 2) (k.toNat) = σ (u + 2) (k.toNat) := (tw_ne1 eσ7 (by (first | decide | omega)))
      have hFσ9 : tw_F (fun c j => (u + 1 ≤ c ∧ c < u + 6)) σ σ9 := tw_F_tr hFσ7 hGσ9 (fun c j q => (show (u + 1 ≤ c ∧ c < u + 6) from by replace q : (u + 1 ≤ c ∧ c < u + 5) := q; exact ⟨q.1, Nat.lt_of_lt_of_le q.2 (Nat.add_le_add_left (by decide) _)⟩))
      refine j_st (st' := []) rfl ?_
      refine j_iload_n (pc := 46) dX3_takeOut_46 rfl rfl ?_
      have fin : ∀ gg qq : Nat → Int, RG (u + 1) gg qq σ → 0 ≤ k → k < σ (u + 1) 0 → σ (u + 5) (σ (u + 3) k.toNat).toNat ≤ 1000 → 0 ≤ σ (u + 5) (σ (u + 3) k.toNat).toNat → (σ (u + 3) (k.toNat)) = σ (u + 3) k.toNat ∧ RG (u + 1) (pg gg (σ (u + 2) k.toNat).toNat 0) qq σ9 ∧ σ9 (u + 5) (σ (u + 3) k.toNat).toNat = σ (u + 5) (σ (u + 3) k.toNat).toNat + 1 ∧ ∀ j : Nat, ¬ j = (σ (u + 3) k.toNat).toNat → σ9 (u + 5) j = σ (u + 5) j := fun gg qq H e0 e1 e2 e3 => by
        have ii := q10_0 gg qq (RG_F H (fun c j a b => tw_ne1 eσ7 (by (first | decide | omega)))) (by omega) (by omega)
        rw [show σ7 (u + 2) k.toNat = σ (u + 2) k.toNat from tw_ne1 eσ7 (by (first | decide | omega))] at ii
        refine ⟨by omega, ii, (hGσ9 (u + 5) _ (show ¬ ((u + 1 ≤ u + 5 ∧ u + 5 < u + 5)) from by omega)).trans ((tw_eq1 eσ7).trans (by omega)), fun j hj => (hGσ9 (u + 5) j (show ¬ ((u + 1 ≤ u + 5 ∧ u + 5 < u + 5)) from by omega)).trans (tw_ne1 eσ7 (Or.inr hj))⟩
      exact j_iret (pc := 47) ⟨rfl, rfl⟩ dX3_takeOut_47 rfl ⟨_, rfl, ⟨by omega, by omega⟩, hIσ9, hFσ9, fin⟩
    · refine j_bipush (pc := 15) dX3_takeOut_15 rfl ?_
      have fin : ∀ gg qq : Nat → Int, RG (u + 1) gg qq σ → 0 ≤ k → k < σ (u + 1) 0 → σ (u + 5) (σ (u + 3) k.toNat).toNat ≤ 1000 → 0 ≤ σ (u + 5) (σ (u + 3) k.toNat).toNat → (-4) = σ (u + 3) k.toNat ∧ RG (u + 1) (pg gg (σ (u + 2) k.toNat).toNat 0) qq σ ∧ σ (u + 5) (σ (u + 3) k.toNat).toNat = σ (u + 5) (σ (u + 3) k.toNat).toNat + 1 ∧ ∀ j : Nat, ¬ j = (σ (u + 3) k.toNat).toNat → σ (u + 5) j = σ (u + 5) j := fun gg qq H e0 e1 e2 e3 => by exfalso; omega
      exact j_iret (pc := 17) ⟨rfl, rfl⟩ dX3_takeOut_17 rfl ⟨_, rfl, ⟨by omega, by omega⟩, hI, (tw_F_rf), fin⟩
abbrev q_X3_takeAll (u : Nat) (σ : tw_M) : Option tw_V → tw_M → Prop := fun z τ => ∃ r : Int, z = some (vI r) ∧ (0 ≤ r ∧ r ≤ 10) ∧ tw_I τ ∧ tw_F (fun c j => (u + 1 ≤ c ∧ c < u + 6)) σ τ ∧ (∀ gg qq rk : Nat → Int, RG (u + 1) gg qq σ → CNR rk gg (u + 5) σ → r = σ (u + 1) 0 ∧ τ (u + 1) 0 = 0 ∧ ∀ x : Int, 1 ≤ x → x ≤ 10 → τ (u + 5) x.toNat = rk x.toNat)
set_option maxHeartbeats 4000000 in
set_option maxRecDepth 100000 in
theorem l_X3_takeAll {G : tw_G} (u : Nat) (hu : IsHand G u) (σ : tw_M) (hI : tw_I σ) : ∀ N_ : Nat, (∀ (n : Int) (hn : 0 ≤ n ∧ n ≤ 10) (k : Int) (hk : -1 ≤ k ∧ k ≤ 9) (τ : tw_M) (hIτ : tw_I τ) (hFτ : tw_F (fun c j => (u + 1 ≤ c ∧ c < u + 6)) σ τ) (i0 : n = σ (u + 1) 0) (i1 : ∀ gg qq rk : Nat → Int, RG (u + 1) gg qq σ → CNR rk gg (u + 5) σ → TAI rk qq u k τ) (hm : (k + 1).toNat < N_), tw_J G (tw_mt RX3 cX3_takeAll 3 (some .int) 2) (tw_E G (q_X3_takeAll u σ)) 12 [(0, vR u), (1, vI n), (2, vI k)] [] τ) := by
  intro N_
  induction N_ with
  | zero => exact fun n hn k hk τ hIτ hFτ i0 i1 hm => absurd hm (Nat.not_lt_zero _)
  | succ N_ ih =>
    intro n hn k hk τ hIτ hFτ i0 i1 hm
    have s10 : ∀ i : Nat, τ (u + 3) i ≤ 10 := fun i => (tw_Ig hu.2.2.2.2.1 hIτ i).2
    refine j_iload_n (pc := 12) dX3_takeAll_12 rfl rfl ?_
    refine j_ifR_lt (pc := 13) (tgt := 28) ⟨by omega, by omega⟩ dX3_takeAll_13 rfl (fun h1 => ?_) (fun h1 => ?_)
    · refine j_iload_n (pc := 28) dX3_takeAll_28 rfl rfl ?_
      exact j_iret (pc := 29) ⟨rfl, rfl⟩ dX3_takeAll_29 rfl ⟨_, rfl, ⟨by omega, by omega⟩, hIτ, hFτ, (fun gg qq rk H C => ⟨by omega, TAI_end (i1 gg qq rk H C) (by omega)⟩)⟩
    · refine j_aload_n (pc := 16) dX3_takeAll_16 rfl rfl ?_
      refine j_iload_n (pc := 17) dX3_takeAll_17 rfl rfl ?_
      refine j_callV (pc := 18) (As := [vI k]) (st := []) (c_X3_takeOut u hu k ⟨by omega, by omega⟩ τ hIτ) mv_X3_79 rfl rfl rfl hu.1.1 dX3_takeAll_18 ⟨Nat.le_of_ble_eq_true rfl, Nat.le_of_ble_eq_true rfl⟩ ⟨Nat.le_refl _, Nat.le_refl _⟩ rfl (Nat.le_of_ble_eq_true rfl) rfl (fun z2 σ3 hz2 => ?_)
      obtain ⟨r5, rfl, hr5, hIσ3, hGσ3, q4_0⟩ := hz2
      replace q4_0 : ∀ gg qq : Nat → Int, RG (u + 1) gg qq τ → 0 ≤ k → k < τ (u + 1) 0 → τ (u + 5) (τ (u + 3) k.toNat).toNat ≤ 1000 → 0 ≤ τ (u + 5) (τ (u + 3) k.toNat).toNat → r5 = τ (u + 3) k.toNat ∧ RG (u + 1) (pg gg (τ (u + 2) k.toNat).toNat 0) qq σ3 ∧ σ3 (u + 5) (τ (u + 3) k.toNat).toNat = τ (u + 5) (τ (u + 3) k.toNat).toNat + 1 ∧ ∀ j : Nat, ¬ j = (τ (u + 3) k.toNat).toNat → σ3 (u + 5) j = τ (u + 5) j := q4_0
      have hFσ3 : tw_F (fun c j => (u + 1 ≤ c ∧ c < u + 6)) σ σ3 := tw_F_tr hFτ hGσ3 (fun c j q => (show (u + 1 ≤ c ∧ c < u + 6) from by replace q : (u + 1 ≤ c ∧ c < u + 6) := q; exact q))
      refine j_st (st' := [vI r5]) rfl ?_
      refine j_pop (pc := 21) dX3_takeAll_21 rfl ?_
      refine j_iinc (pc := 22) (i := 2) (n := -1) (ls' := [(0, vR u), (1, vI n), (2, vI (k + (-1)))]) [1, 2, 0] dX3_takeAll_22 rfl (Nat.le_of_ble_eq_true rfl) rfl rfl ?_
      refine j_goto (pc := 25) (tgt := 12) dX3_takeAll_25 rfl ?_
      refine j_ls (ls' := [(0, vR u), (1, vI n), (2, vI (k + (-1)))]) [0, 1, 2] rfl ?_
      exact ih n ⟨by omega, by omega⟩ (k + (-1)) ⟨by omega, by omega⟩ σ3 hIσ3 hFσ3 (show n = σ (u + 1) 0 from by omega) (show ∀ gg qq rk : Nat → Int, RG (u + 1) gg qq σ → CNR rk gg (u + 5) σ → TAI rk qq u (k + (-1)) σ3 from (fun gg qq rk H C => by rw [show k + (-1) = k - 1 from by omega]; exact TAI_s (i1 gg qq rk H C) (by omega) (fun g q a1 a2 a3 a4 a5 => (q4_0 g q a1 a2 a3 a4 a5).2) s10)) (show ((k + (-1)) + 1).toNat < N_ from by omega)
set_option maxHeartbeats 4000000 in
set_option maxRecDepth 100000 in
theorem c_X3_takeAll {G : tw_G} (u : Nat) (hu : IsHand G u) (σ : tw_M) (hI : tw_I σ) : tw_C G yX3_takeAll cX3_takeAll 3 (some .int) 2 [vR u] σ (q_X3_takeAll u σ) := by
  refine tw_met [(0, vR u)] (by decide +kernel) rfl (Nat.le_of_ble_eq_true rfl) ?_
  refine j_aload_n (pc := 0) dX3_takeAll_0 rfl rfl ?_
  refine j_getR (pc := 1) (r := u + 1) fl_X3_12 dX3_takeAll_1 hu.1.1 rfl ?_
  refine j_getI (pc := 4) fl_X3_39 dX3_takeAll_4 hu.1.2.1 rfl ?_
  have f6 : (0 : Int) ≤ σ (u + 1) 0 ∧ σ (u + 1) 0 ≤ 10 := tw_Ig hu.2.2.1 hI 0
  refine j_istore_n (pc := 7) (i := 1) (ls' := [(0, vR u), (1, vI (σ (u + 1) 0))]) [1, 0] dX3_takeAll_7 rfl (Nat.le_of_ble_eq_true rfl) rfl rfl ?_
  refine j_iload_n (pc := 8) dX3_takeAll_8 rfl rfl ?_
  refine j_iconst (pc := 9) dX3_takeAll_9 ?_
  refine j_isub (pc := 10) dX3_takeAll_10 ?_
  refine j_istore_n (pc := 11) (i := 2) (ls' := [(0, vR u), (1, vI (σ (u + 1) 0)), (2, vI ((σ (u + 1) 0) - 1))]) [1, 2, 0] dX3_takeAll_11 rfl (Nat.le_of_ble_eq_true rfl) rfl rfl ?_
  refine j_ls (ls' := [(0, vR u), (1, vI (σ (u + 1) 0)), (2, vI ((σ (u + 1) 0) - 1))]) [0, 1, 2] rfl ?_
  exact (l_X3_takeAll u hu σ hI (((((σ (u + 1) 0) - 1) + 1).toNat) + 1)) (σ (u + 1) 0) ⟨by omega, by omega⟩ ((σ (u + 1) 0) - 1) ⟨by omega, by omega⟩ σ hI (tw_F_rf) (show (σ (u + 1) 0) = σ (u + 1) 0 from by omega) (show ∀ gg qq rk : Nat → Int, RG (u + 1) gg qq σ → CNR rk gg (u + 5) σ → TAI rk qq u ((σ (u + 1) 0) - 1) σ from (fun gg qq rk H C => ⟨gg, H, C, by omega⟩)) (Nat.lt_succ_self _)
abbrev q_X3_chance (u : Nat) (w : Nat) (k : Int) (σ : tw_M) : Option tw_V → tw_M → Prop := fun z τ => ∃ r : Int, z = some (vI r) ∧ (-2147483648 ≤ r ∧ r ≤ 2147483647) ∧ σ = τ ∧ True
set_option maxHeartbeats 4000000 in
set_option maxRecDepth 100000 in
theorem c_X3_chance {G : tw_G} (u : Nat) (hu : IsHand G u) (w : Nat) (hw : IsWall G w) (k : Int) (hk : 0 ≤ k ∧ k ≤ 9) (σ : tw_M) (hI : tw_I σ) : tw_C G yX3_chance cX3_chance 3 (some .int) 0 [vR u, vR w, vI k] σ (q_X3_chance u w k σ) := by
  refine tw_met [(0, vR u), (1, vR w), (2, vI k)] (by decide +kernel) rfl (Nat.le_of_ble_eq_true rfl) ?_
  refine j_aload_n (pc := 0) dX3_chance_0 rfl rfl ?_
  refine j_getR (pc := 1) (r := u + 1) fl_X3_12 dX3_chance_1 hu.1.1 rfl ?_
  refine j_getR (pc := 4) (r := u + 3) fl_X3_72 dX3_chance_4 hu.1.2.1 rfl ?_
  refine j_iload_n (pc := 7) dX3_chance_7 rfl rfl ?_
  refine j_iald (pc := 8) dX3_chance_8 hu.1.2.2.2.1 (by omega) (by omega) (by decide) ?_
  have f1 : (0 : Int) ≤ σ (u + 3) (k.toNat) ∧ σ (u + 3) (k.toNat) ≤ 10 := tw_Ig hu.2.2.2.2.1 hI (k.toNat)
  refine j_aload_n (pc := 9) dX3_chance_9 rfl rfl ?_
  refine j_getR (pc := 10) (r := w + 4) fl_X3_56 dX3_chance_10 hw.1.1 rfl ?_
  refine j_aload_n (pc := 13) dX3_chance_13 rfl rfl ?_
  refine j_getR (pc := 14) (r := u + 1) fl_X3_12 dX3_chance_14 hu.1.1 rfl ?_
  refine j_getR (pc := 17) (r := u + 2) fl_X3_82 dX3_chance_17 hu.1.2.1 rfl ?_
  refine j_iload_n (pc := 20) dX3_chance_20 rfl rfl ?_
  refine j_iald (pc := 21) dX3_chance_21 hu.1.2.2.1 (by omega) (by omega) (by decide) ?_
  have f2 : (0 : Int) ≤ σ (u + 2) (k.toNat) ∧ σ (u + 2) (k.toNat) ≤ 40 := tw_Ig hu.2.2.2.1 hI (k.toNat)
  refine j_iald (pc := 22) dX3_chance_22 hw.1.2.2.2.2.1 (by omega) (by omega) (by decide) ?_
  have f3 : (0 : Int) ≤ σ (w + 4) ((σ (u + 2) (k.toNat)).toNat) ∧ σ (w + 4) ((σ (u + 2) (k.toNat)).toNat) ≤ 10 := tw_Ig hw.2.2.2.2.2.1 hI ((σ (u + 2) (k.toNat)).toNat)
  refine j_icmpR_ne (pc := 23) (tgt := 33) ⟨by omega, by omega⟩ ⟨by omega, by omega⟩ dX3_chance_23 rfl (fun h4 => ?_) (fun h4 => ?_)
  · refine j_aload_n (pc := 33) dX3_chance_33 rfl rfl ?_
    refine j_getI (pc := 34) fl_X3_32 dX3_chance_34 hu.1.1 rfl ?_
    have f5 : (-2147483648 : Int) ≤ σ u 5 ∧ σ u 5 ≤ 2147483647 := tw_Ig hu.2.1 hI 5
    exact j_iret (pc := 37) ⟨rfl, rfl⟩ dX3_chance_37 rfl ⟨_, rfl, ⟨by omega, by omega⟩, rfl, trivial⟩
  · refine j_aload_n (pc := 26) dX3_chance_26 rfl rfl ?_
    refine j_getI (pc := 27) fl_X3_28 dX3_chance_27 hu.1.1 rfl ?_
    have f6 : (-2147483648 : Int) ≤ σ u 4 ∧ σ u 4 ≤ 2147483647 := tw_Ig hu.2.1 hI 4
    refine j_goto (pc := 30) (tgt := 37) dX3_chance_30 rfl ?_
    exact j_iret (pc := 37) ⟨rfl, rfl⟩ dX3_chance_37 rfl ⟨_, rfl, ⟨by omega, by omega⟩, rfl, trivial⟩
abbrev q_X3_inRack (u : Nat) (σ : tw_M) : Option tw_V → tw_M → Prop := fun z τ => ∃ r : Int, z = some (vI r) ∧ (-2147483648 ≤ r ∧ r ≤ 2147483647) ∧ σ = τ ∧ True
set_option maxHeartbeats 4000000 in
set_option maxRecDepth 100000 in
theorem l_X3_inRack {G : tw_G} (u : Nat) (hu : IsHand G u) (σ : tw_M) (hI : tw_I σ) : ∀ N_ : Nat, (∀ (s : Int) (hs : -2147483648 ≤ s ∧ s ≤ 2147483647) (i : Int) (hi : 1 ≤ i ∧ i ≤ 11)  (hm : (20 - i).toNat < N_), tw_J G (tw_mt RX3 cX3_inRack 3 (some .int) 0) (tw_E G (q_X3_inRack u σ)) 4 [(0, vR u), (1, vI s), (2, vI i)] [] σ) := by
  intro N_
  induction N_ with
  | zero => exact fun s hs i hi hm => absurd hm (Nat.not_lt_zero _)
  | succ N_ ih =>
    intro s hs i hi hm
    refine j_iload_n (pc := 4) dX3_inRack_4 rfl rfl ?_
    refine j_bipush (pc := 5) dX3_inRack_5 rfl ?_
    refine j_icmpR_gt (pc := 7) (tgt := 25) ⟨by omega, by omega⟩ ⟨by omega, by omega⟩ dX3_inRack_7 rfl (fun h1 => ?_) (fun h1 => ?_)
    · refine j_iload_n (pc := 25) dX3_inRack_25 rfl rfl ?_
      exact j_iret (pc := 26) ⟨rfl, rfl⟩ dX3_inRack_26 rfl ⟨_, rfl, ⟨by omega, by omega⟩, rfl, trivial⟩
    · refine j_iload_n (pc := 10) dX3_inRack_10 rfl rfl ?_
      refine j_aload_n (pc := 11) dX3_inRack_11 rfl rfl ?_
      refine j_getR (pc := 12) (r := u + 5) fl_X3_18 dX3_inRack_12 hu.1.1 rfl ?_
      refine j_iload_n (pc := 15) dX3_inRack_15 rfl rfl ?_
      refine j_iald (pc := 16) dX3_inRack_16 hu.1.2.2.2.2.2.1 (by omega) (by omega) (by decide) ?_
      have f2 : (-2147483648 : Int) ≤ σ (u + 5) (i.toNat) ∧ σ (u + 5) (i.toNat) ≤ 2147483647 := tw_Ig hu.2.2.2.2.2.2.1 hI (i.toNat)
      refine j_iadd (pc := 17) dX3_inRack_17 ?_
      refine j_top (fun z3 ez3 hz3 => ?_)
      refine j_istore_n (pc := 18) (i := 1) (ls' := [(0, vR u), (1, vI z3), (2, vI i)]) [1, 0, 2] dX3_inRack_18 rfl (Nat.le_of_ble_eq_true rfl) rfl rfl ?_
      refine j_iinc (pc := 19) (i := 2) (n := 1) (ls' := [(0, vR u), (1, vI z3), (2, vI (i + 1))]) [1, 2, 0] dX3_inRack_19 rfl (Nat.le_of_ble_eq_true rfl) rfl rfl ?_
      refine j_goto (pc := 22) (tgt := 4) dX3_inRack_22 rfl ?_
      refine j_ls (ls' := [(0, vR u), (1, vI z3), (2, vI (i + 1))]) [0, 1, 2] rfl ?_
      exact ih z3 ⟨by omega, by omega⟩ (i + 1) ⟨by omega, by omega⟩ (show (20 - (i + 1)).toNat < N_ from by omega)
set_option maxHeartbeats 4000000 in
set_option maxRecDepth 100000 in
theorem c_X3_inRack {G : tw_G} (u : Nat) (hu : IsHand G u) (σ : tw_M) (hI : tw_I σ) : tw_C G yX3_inRack cX3_inRack 3 (some .int) 0 [vR u] σ (q_X3_inRack u σ) := by
  refine tw_met [(0, vR u)] (by decide +kernel) rfl (Nat.le_of_ble_eq_true rfl) ?_
  refine j_iconst (pc := 0) dX3_inRack_0 ?_
  refine j_istore_n (pc := 1) (i := 1) (ls' := [(0, vR u), (1, vI 0)]) [1, 0] dX3_inRack_1 rfl (Nat.le_of_ble_eq_true rfl) rfl rfl ?_
  refine j_iconst (pc := 2) dX3_inRack_2 ?_
  refine j_istore_n (pc := 3) (i := 2) (ls' := [(0, vR u), (1, vI 0), (2, vI 1)]) [1, 2, 0] dX3_inRack_3 rfl (Nat.le_of_ble_eq_true rfl) rfl rfl ?_
  refine j_ls (ls' := [(0, vR u), (1, vI 0), (2, vI 1)]) [0, 1, 2] rfl ?_
  exact (l_X3_inRack u hu σ hI (((20 - (1 : Int)).toNat) + 1)) 0 (by (first | decide | exact ⟨by omega, by omega⟩)) 1 (by (first | decide | exact ⟨by omega, by omega⟩)) (Nat.lt_succ_self _)
abbrev q_X3_tries (u : Nat) (σ : tw_M) : Option tw_V → tw_M → Prop := fun z τ => ∃ r : Int, z = some (vI r) ∧ (0 ≤ r ∧ r ≤ 1998) ∧ σ = τ ∧ (r = σ (u + 6) 0 + σ (u + 6) 1)
set_option maxHeartbeats 4000000 in
set_option maxRecDepth 100000 in
theorem c_X3_tries {G : tw_G} (u : Nat) (hu : IsHand G u) (σ : tw_M) (hI : tw_I σ) : tw_C G yX3_tries cX3_tries 1 (some .int) 0 [vR u] σ (q_X3_tries u σ) := by
  refine tw_met [(0, vR u)] (by decide +kernel) rfl (Nat.le_of_ble_eq_true rfl) ?_
  refine j_aload_n (pc := 0) dX3_tries_0 rfl rfl ?_
  refine j_getR (pc := 1) (r := u + 6) fl_X3_22 dX3_tries_1 hu.1.1 rfl ?_
  refine j_iconst (pc := 4) dX3_tries_4 ?_
  refine j_iald (pc := 5) dX3_tries_5 hu.1.2.2.2.2.2.2.1 (by omega) (by omega) (by decide) ?_
  refine j_topV (show σ (u + 6) (Int.toNat 0) = σ (u + 6) 0 from rfl) ?_
  have f1 : (0 : Int) ≤ σ (u + 6) 0 ∧ σ (u + 6) 0 ≤ 999 := tw_Ig hu.2.2.2.2.2.2.2.1 hI 0
  refine j_aload_n (pc := 6) dX3_tries_6 rfl rfl ?_
  refine j_getR (pc := 7) (r := u + 6) fl_X3_22 dX3_tries_7 hu.1.1 rfl ?_
  refine j_iconst (pc := 10) dX3_tries_10 ?_
  refine j_iald (pc := 11) dX3_tries_11 hu.1.2.2.2.2.2.2.1 (by omega) (by omega) (by decide) ?_
  refine j_topV (show σ (u + 6) (Int.toNat 1) = σ (u + 6) 1 from rfl) ?_
  have f2 : (0 : Int) ≤ σ (u + 6) 1 ∧ σ (u + 6) 1 ≤ 999 := tw_Ig hu.2.2.2.2.2.2.2.1 hI 1
  refine j_iadd (pc := 12) dX3_tries_12 ?_
  exact j_iret (pc := 13) ⟨rfl, rfl⟩ dX3_tries_13 rfl ⟨_, rfl, ⟨by omega, by omega⟩, rfl, by omega⟩
abbrev q_X3_learned (u : Nat) (i : Int) (b : Int) (σ : tw_M) : Option tw_V → tw_M → Prop := fun z τ => ∃ r : Int, z = some (vI r) ∧ (-2147483648 ≤ r ∧ r ≤ 2147483647) ∧ σ = τ ∧ ((σ (u + 6) i.toNat = 0 ∧ r = b) ∨ (¬ σ (u + 6) i.toNat = 0 ∧ r = lrn (σ (u + 7) i.toNat) (σ (u + 6) i.toNat)))
set_option maxHeartbeats 4000000 in
set_option maxRecDepth 100000 in
theorem c_X3_learned {G : tw_G} (u : Nat) (hu : IsHand G u) (i : Int) (hi : 0 ≤ i ∧ i ≤ 1) (b : Int) (hb : -2147483648 ≤ b ∧ b ≤ 2147483647) (σ : tw_M) (hI : tw_I σ) : tw_C G yX3_learned cX3_learned 3 (some .int) 0 [vR u, vI i, vI b] σ (q_X3_learned u i b σ) := by
  refine tw_met [(0, vR u), (1, vI i), (2, vI b)] (by decide +kernel) rfl (Nat.le_of_ble_eq_true rfl) ?_
  refine j_aload_n (pc := 0) dX3_learned_0 rfl rfl ?_
  refine j_getR (pc := 1) (r := u + 6) fl_X3_22 dX3_learned_1 hu.1.1 rfl ?_
  refine j_iload_n (pc := 4) dX3_learned_4 rfl rfl ?_
  refine j_iald (pc := 5) dX3_learned_5 hu.1.2.2.2.2.2.2.1 (by omega) (by omega) (by decide) ?_
  have f1 : (0 : Int) ≤ σ (u + 6) (i.toNat) ∧ σ (u + 6) (i.toNat) ≤ 999 := tw_Ig hu.2.2.2.2.2.2.2.1 hI (i.toNat)
  refine j_ifR_ne (pc := 6) (tgt := 13) ⟨by omega, by omega⟩ dX3_learned_6 rfl (fun h2 => ?_) (fun h2 => ?_)
  · refine j_bipush (pc := 13) dX3_learned_13 rfl ?_
    refine j_aload_n (pc := 15) dX3_learned_15 rfl rfl ?_
    refine j_getR (pc := 16) (r := u + 7) fl_X3_25 dX3_learned_16 hu.1.1 rfl ?_
    refine j_iload_n (pc := 19) dX3_learned_19 rfl rfl ?_
    refine j_iald (pc := 20) dX3_learned_20 hu.1.2.2.2.2.2.2.2 (by omega) (by omega) (by decide) ?_
    have f3 : (-2147483648 : Int) ≤ σ (u + 7) (i.toNat) ∧ σ (u + 7) (i.toNat) ≤ 2147483647 := tw_Ig hu.2.2.2.2.2.2.2.2 hI (i.toNat)
    refine j_imul (pc := 21) dX3_learned_21 ?_
    refine j_top (fun z4 ez4 hz4 => ?_)
    have t1 := ez4
    refine j_aload_n (pc := 22) dX3_learned_22 rfl rfl ?_
    refine j_getR (pc := 23) (r := u + 6) fl_X3_22 dX3_learned_23 hu.1.1 rfl ?_
    refine j_iload_n (pc := 26) dX3_learned_26 rfl rfl ?_
    refine j_iald (pc := 27) dX3_learned_27 hu.1.2.2.2.2.2.2.1 (by omega) (by omega) (by decide) ?_
    refine j_iadd (pc := 28) dX3_learned_28 ?_
    refine j_top (fun z5 ez5 hz5 => ?_)
    have t2 := ez5
    refine j_iconst (pc := 29) dX3_learned_29 ?_
    refine j_aload_n (pc := 30) dX3_learned_30 rfl rfl ?_
    refine j_getR (pc := 31) (r := u + 6) fl_X3_22 dX3_learned_31 hu.1.1 rfl ?_
    refine j_iload_n (pc := 34) dX3_learned_34 rfl rfl ?_
    refine j_iald (pc := 35) dX3_learned_35 hu.1.2.2.2.2.2.2.1 (by omega) (by omega) (by decide) ?_
    refine j_imul (pc := 36) dX3_learned_36 ?_
    refine j_idiv (pc := 37) dX3_learned_37 (tw_nz ⟨by omega, by omega⟩ (by omega)) (fun z6 ez6 => ?_)
    have hz6 : (-2147483648 : Int) ≤ z6 ∧ z6 ≤ 2147483647 := by rw [ez6]; exact div_in _ _
    have t3 := ez6
    exact j_iret (pc := 38) ⟨rfl, rfl⟩ dX3_learned_38 rfl ⟨_, rfl, ⟨by omega, by omega⟩, rfl, (by first | exact Or.inl ⟨by omega, rfl⟩ | exact Or.inr ⟨by omega, by unfold lrn; rw [← t1, ← t2, ← t3]⟩)⟩
  · refine j_iload_n (pc := 9) dX3_learned_9 rfl rfl ?_
    refine j_goto (pc := 10) (tgt := 38) dX3_learned_10 rfl ?_
    exact j_iret (pc := 38) ⟨rfl, rfl⟩ dX3_learned_38 rfl ⟨_, rfl, ⟨by omega, by omega⟩, rfl, (by first | exact Or.inl ⟨by omega, rfl⟩ | exact Or.inr ⟨by omega, by unfold lrn; rw [← t1, ← t2, ← t3]⟩)⟩
abbrev q_X2_from (f : Nat) (w : Nat) (o : Nat) (h : Int) (g : Int) (σ : tw_M) : Option tw_V → tw_M → Prop := fun z τ => z = none ∧ tw_I τ ∧ tw_F (fun c j => c = f) σ τ ∧ (∀ gg qq : Nat → Int, RG o gg qq σ → (τ f 0, τ f 1, τ f 2, τ f 3) = fallG (wW w σ) gg h g h.toNat 0) ∧ (τ f 4 = strS (wW w σ) h (τ f 0)) ∧ (τ f 5 = harS (wW w σ) h (τ f 0)) ∧ (-40 ≤ τ f 5 ∧ τ f 5 ≤ 40)
set_option maxHeartbeats 4000000 in
set_option maxRecDepth 100000 in
theorem l_X2_from {G : tw_G} (f : Nat) (hf : IsFall G f) (w : Nat) (hw : IsWall G w) (o : Nat) (ho : IsRow G o) (h : Int) (hh : 1 ≤ h ∧ h ≤ 40) (g : Int) (hg : -2147483648 ≤ g ∧ g ≤ 2147483647) (σ : tw_M) (hI : tw_I σ) (hq0 : f < o ∨ o + 4 ≤ f) (hq1 : f < w ∨ w + 9 ≤ f) : ∀ N_ : Nat, (∀ (k : Int) (hk : -1 ≤ k ∧ k ≤ 9) (τ : tw_M) (hIτ : tw_I τ) (hFτ : tw_F (fun c j => c = f) σ τ) (i0 : k < σ o 0) (i1 : ∀ gg qq : Nat → Int, RG o gg qq σ → FI (wW w σ) gg h g k (τ f 0) (τ f 1) (τ f 2) (τ f 3)) (hm : (k + 1).toNat < N_), tw_J G (tw_mt RX2 cX2_from 8 none 1) (tw_E G (q_X2_from f w o h g σ)) 29 [(0, vR f), (1, vR w), (2, vR o), (3, vI h), (4, vI g), (5, vI k)] [] τ) := by
  intro N_
  induction N_ with
  | zero => exact fun k hk τ hIτ hFτ i0 i1 hm => absurd hm (Nat.not_lt_zero _)
  | succ N_ ih =>
    intro k hk τ hIτ hFτ i0 i1 hm
    have RT : ∀ gg qq : Nat → Int, RG o gg qq σ → RG o gg qq τ := fun gg qq H => RG_F H (fun c j a b => hFτ c j (show ¬ (c = f) from by omega))
    have WT : wW w τ = wW w σ := wW_F (fun c j a b => hFτ c j (show ¬ (c = f) from by omega))
    have w7 : wW w σ 107 = τ (w + 1) 7 := (wW_r (j := 7) (by decide)).trans (hFτ (w + 1) 7 (show ¬ (w + 1 = f) from by omega)).symm
    have n0 : τ o 0 = σ o 0 := hFτ o 0 (show ¬ (o = f) from by omega)
    refine j_iload (pc := 29) dX2_from_29 rfl ?_
    refine j_ifR_lt (pc := 31) (tgt := 146) ⟨by omega, by omega⟩ dX2_from_31 rfl (fun h1 => ?_) (fun h1 => ?_)
    · refine j_aload_n (pc := 146) dX2_from_146 rfl rfl ?_
      refine j_aload_n (pc := 147) dX2_from_147 rfl rfl ?_
      refine j_iload_n (pc := 148) dX2_from_148 rfl rfl ?_
      refine j_aload_n (pc := 149) dX2_from_149 rfl rfl ?_
      refine j_getI (pc := 150) fl_X2_9 dX2_from_150 hf.1 rfl ?_
      have f2 : (-2147483648 : Int) ≤ τ f 0 ∧ τ f 0 ≤ 2147483647 := tw_Ig hf.2 hIτ 0
      refine j_callV (pc := 153) (As := [vI h, vI (τ f 0)]) (st := [vR f]) (c_X10_struckOf w hw h ⟨by omega, by omega⟩ (τ f 0) ⟨by omega, by omega⟩ τ hIτ) mv_X2_55 rfl rfl rfl hw.1.1 dX2_from_153 ⟨Nat.le_of_ble_eq_true rfl, Nat.le_of_ble_eq_true rfl⟩ ⟨Nat.le_refl _, Nat.le_refl _⟩ rfl (Nat.le_of_ble_eq_true rfl) rfl (fun z3 σ4 hz3 => ?_)
      obtain ⟨r6, rfl, hr6, rfl, q5_0⟩ := hz3
      replace q5_0 : r6 = strS (wW w τ) h (τ f 0) := q5_0
      refine j_st (st' := [vI r6, vR f]) rfl ?_
      have z4 := q5_0; rw [WT] at z4
      refine j_putI (pc := 156) fl_X2_24 fp_X2_4 dX2_from_156 hf.1 rfl (j_nm (fun σ7 (eσ7 : σ7 = tw_up τ f 4 r6) => ?_))
      have hIσ7 : tw_I σ7 := tw_I_upg hIτ eσ7 hf.2 (show (-2147483648 : Int) ≤ r6 ∧ r6 ≤ 2147483647 from ⟨by omega, by omega⟩)
      have hFσ7 : tw_F (fun c j => c = f) σ σ7 := tw_F_up hFτ eσ7 (show f = f from rfl)
      have W2 : wW w σ7 = wW w σ := wW_F (fun c j a b => hFσ7 c j (show ¬ (c = f) from by omega))
      refine j_aload_n (pc := 159) dX2_from_159 rfl rfl ?_
      refine j_aload_n (pc := 160) dX2_from_160 rfl rfl ?_
      refine j_iload_n (pc := 161) dX2_from_161 rfl rfl ?_
      refine j_aload_n (pc := 162) dX2_from_162 rfl rfl ?_
      refine j_getI (pc := 163) fl_X2_9 dX2_from_163 hf.1 rfl ?_
      refine j_topV (show σ7 f 0 = τ f 0 from (tw_ne1 eσ7 (by (first | decide | omega)))) ?_
      refine j_callV (pc := 166) (As := [vI h, vI (τ f 0)]) (st := [vR f]) (c_X10_harmOf w hw h ⟨by omega, by omega⟩ (τ f 0) ⟨by omega, by omega⟩ σ7 hIσ7) mv_X2_58 rfl rfl rfl hw.1.1 dX2_from_166 ⟨Nat.le_of_ble_eq_true rfl, Nat.le_of_ble_eq_true rfl⟩ ⟨Nat.le_refl _, Nat.le_refl _⟩ rfl (Nat.le_of_ble_eq_true rfl) rfl (fun z8 σ9 hz8 => ?_)
      obtain ⟨r11, rfl, hr11, rfl, q10_0⟩ := hz8
      replace q10_0 : r11 = harS (wW w σ7) h (τ f 0) := q10_0
      refine j_st (st' := [vI r11, vR f]) rfl ?_
      have z5 := q10_0; rw [W2] at z5
      refine j_putI (pc := 169) fl_X2_27 fp_X2_5 dX2_from_169 hf.1 rfl (j_nm (fun σ12 (eσ12 : σ12 = tw_up σ7 f 5 r11) => ?_))
      have hIσ12 : tw_I σ12 := tw_I_upg hIσ7 eσ12 hf.2 (show (-2147483648 : Int) ≤ r11 ∧ r11 ≤ 2147483647 from ⟨by omega, by omega⟩)
      have hFσ12 : tw_F (fun c j => c = f) σ σ12 := tw_F_up hFσ7 eσ12 (show f = f from rfl)
      have y13 : σ12 f 0 = τ f 0 := ((tw_ne1 eσ12 (by (first | decide | omega)))).trans (tw_ne1 eσ7 (by (first | decide | omega)))
      have y14 : σ12 f 1 = τ f 1 := ((tw_ne1 eσ12 (by (first | decide | omega)))).trans (tw_ne1 eσ7 (by (first | decide | omega)))
      have f15 : (-2147483648 : Int) ≤ τ f 1 ∧ τ f 1 ≤ 2147483647 := tw_Ig hf.2 hIτ 1
      have y16 : σ12 f 2 = τ f 2 := ((tw_ne1 eσ12 (by (first | decide | omega)))).trans (tw_ne1 eσ7 (by (first | decide | omega)))
      have f17 : (-2147483648 : Int) ≤ τ f 2 ∧ τ f 2 ≤ 2147483647 := tw_Ig hf.2 hIτ 2
      have y18 : σ12 f 3 = τ f 3 := ((tw_ne1 eσ12 (by (first | decide | omega)))).trans (tw_ne1 eσ7 (by (first | decide | omega)))
      have f19 : (-2147483648 : Int) ≤ τ f 3 ∧ τ f 3 ≤ 2147483647 := tw_Ig hf.2 hIτ 3
      have y20 : σ12 f 4 = r6 := ((tw_ne1 eσ12 (by (first | decide | omega)))).trans (tw_eq1 eσ7)
      have y21 : σ12 f 0 = τ f 0 := ((tw_ne1 eσ12 (by (first | decide | omega)))).trans (tw_ne1 eσ7 (by (first | decide | omega)))
      have y22 : σ12 f 5 = r11 := (tw_eq1 eσ12)
      have y23 : σ12 f 0 = τ f 0 := ((tw_ne1 eσ12 (by (first | decide | omega)))).trans (tw_ne1 eσ7 (by (first | decide | omega)))
      have y24 : σ12 f 5 = r11 := (tw_eq1 eσ12)
      exact j_vret (pc := 172) ⟨rfl, rfl⟩ dX2_from_172 rfl ⟨rfl, hIσ12, hFσ12, (fun gg qq H => by rw [show σ12 f 0 = _ from ((tw_ne1 eσ12 (by (first | decide | omega)))).trans (tw_ne1 eσ7 (by (first | decide | omega))), show σ12 f 1 = _ from ((tw_ne1 eσ12 (by (first | decide | omega)))).trans (tw_ne1 eσ7 (by (first | decide | omega))), show σ12 f 2 = _ from ((tw_ne1 eσ12 (by (first | decide | omega)))).trans (tw_ne1 eσ7 (by (first | decide | omega))), show σ12 f 3 = _ from ((tw_ne1 eσ12 (by (first | decide | omega)))).trans (tw_ne1 eσ7 (by (first | decide | omega)))]; exact FI_end (i1 gg qq H) (by omega)), (by rw [show σ12 f 4 = _ from ((tw_ne1 eσ12 (by (first | decide | omega)))).trans (tw_eq1 eσ7), show σ12 f 0 = _ from ((tw_ne1 eσ12 (by (first | decide | omega)))).trans (tw_ne1 eσ7 (by (first | decide | omega)))]; exact z4), (by rw [show σ12 f 5 = _ from (tw_eq1 eσ12), show σ12 f 0 = _ from ((tw_ne1 eσ12 (by (first | decide | omega)))).trans (tw_ne1 eσ7 (by (first | decide | omega)))]; exact z5), by omega⟩
    · refine j_aload_n (pc := 34) dX2_from_34 rfl rfl ?_
      refine j_getI (pc := 35) fl_X2_15 dX2_from_35 hf.1 rfl ?_
      have f25 : (-2147483648 : Int) ≤ τ f 1 ∧ τ f 1 ≤ 2147483647 := tw_Ig hf.2 hIτ 1
      refine j_ifR_ge (pc := 38) (tgt := 146) ⟨by omega, by omega⟩ dX2_from_38 rfl (fun h26 => ?_) (fun h26 => ?_)
      · refine j_aload_n (pc := 146) dX2_from_146 rfl rfl ?_
        refine j_aload_n (pc := 147) dX2_from_147 rfl rfl ?_
        refine j_iload_n (pc := 148) dX2_from_148 rfl rfl ?_
        refine j_aload_n (pc := 149) dX2_from_149 rfl rfl ?_
        refine j_getI (pc := 150) fl_X2_9 dX2_from_150 hf.1 rfl ?_
        have f27 : (-2147483648 : Int) ≤ τ f 0 ∧ τ f 0 ≤ 2147483647 := tw_Ig hf.2 hIτ 0
        refine j_callV (pc := 153) (As := [vI h, vI (τ f 0)]) (st := [vR f]) (c_X10_struckOf w hw h ⟨by omega, by omega⟩ (τ f 0) ⟨by omega, by omega⟩ τ hIτ) mv_X2_55 rfl rfl rfl hw.1.1 dX2_from_153 ⟨Nat.le_of_ble_eq_true rfl, Nat.le_of_ble_eq_true rfl⟩ ⟨Nat.le_refl _, Nat.le_refl _⟩ rfl (Nat.le_of_ble_eq_true rfl) rfl (fun z28 σ29 hz28 => ?_)
        obtain ⟨r31, rfl, hr31, rfl, q30_0⟩ := hz28
        replace q30_0 : r31 = strS (wW w τ) h (τ f 0) := q30_0
        refine j_st (st' := [vI r31, vR f]) rfl ?_
        have z4 := q30_0; rw [WT] at z4
        refine j_putI (pc := 156) fl_X2_24 fp_X2_4 dX2_from_156 hf.1 rfl (j_nm (fun σ32 (eσ32 : σ32 = tw_up τ f 4 r31) => ?_))
        have hIσ32 : tw_I σ32 := tw_I_upg hIτ eσ32 hf.2 (show (-2147483648 : Int) ≤ r31 ∧ r31 ≤ 2147483647 from ⟨by omega, by omega⟩)
        have hFσ32 : tw_F (fun c j => c = f) σ σ32 := tw_F_up hFτ eσ32 (show f = f from rfl)
        have W2 : wW w σ32 = wW w σ := wW_F (fun c j a b => hFσ32 c j (show ¬ (c = f) from by omega))
        refine j_aload_n (pc := 159) dX2_from_159 rfl rfl ?_
        refine j_aload_n (pc := 160) dX2_from_160 rfl rfl ?_
        refine j_iload_n (pc := 161) dX2_from_161 rfl rfl ?_
        refine j_aload_n (pc := 162) dX2_from_162 rfl rfl ?_
        refine j_getI (pc := 163) fl_X2_9 dX2_from_163 hf.1 rfl ?_
        refine j_topV (show σ32 f 0 = τ f 0 from (tw_ne1 eσ32 (by (first | decide | omega)))) ?_
        refine j_callV (pc := 166) (As := [vI h, vI (τ f 0)]) (st := [vR f]) (c_X10_harmOf w hw h ⟨by omega, by omega⟩ (τ f 0) ⟨by omega, by omega⟩ σ32 hIσ32) mv_X2_58 rfl rfl rfl hw.1.1 dX2_from_166 ⟨Nat.le_of_ble_eq_true rfl, Nat.le_of_ble_eq_true rfl⟩ ⟨Nat.le_refl _, Nat.le_refl _⟩ rfl (Nat.le_of_ble_eq_true rfl) rfl (fun z33 σ34 hz33 => ?_)
        obtain ⟨r36, rfl, hr36, rfl, q35_0⟩ := hz33
        replace q35_0 : r36 = harS (wW w σ32) h (τ f 0) := q35_0
        refine j_st (st' := [vI r36, vR f]) rfl ?_
        have z5 := q35_0; rw [W2] at z5
        refine j_putI (pc := 169) fl_X2_27 fp_X2_5 dX2_from_169 hf.1 rfl (j_nm (fun σ37 (eσ37 : σ37 = tw_up σ32 f 5 r36) => ?_))
        have hIσ37 : tw_I σ37 := tw_I_upg hIσ32 eσ37 hf.2 (show (-2147483648 : Int) ≤ r36 ∧ r36 ≤ 2147483647 from ⟨by omega, by omega⟩)
        have hFσ37 : tw_F (fun c j => c = f) σ σ37 := tw_F_up hFσ32 eσ37 (show f = f from rfl)
        have y38 : σ37 f 0 = τ f 0 := ((tw_ne1 eσ37 (by (first | decide | omega)))).trans (tw_ne1 eσ32 (by (first | decide | omega)))
        have y39 : σ37 f 1 = τ f 1 := ((tw_ne1 eσ37 (by (first | decide | omega)))).trans (tw_ne1 eσ32 (by (first | decide | omega)))
        have y40 : σ37 f 2 = τ f 2 := ((tw_ne1 eσ37 (by (first | decide | omega)))).trans (tw_ne1 eσ32 (by (first | decide | omega)))
        have f41 : (-2147483648 : Int) ≤ τ f 2 ∧ τ f 2 ≤ 2147483647 := tw_Ig hf.2 hIτ 2
        have y42 : σ37 f 3 = τ f 3 := ((tw_ne1 eσ37 (by (first | decide | omega)))).trans (tw_ne1 eσ32 (by (first | decide | omega)))
        have f43 : (-2147483648 : Int) ≤ τ f 3 ∧ τ f 3 ≤ 2147483647 := tw_Ig hf.2 hIτ 3
        have y44 : σ37 f 4 = r31 := ((tw_ne1 eσ37 (by (first | decide | omega)))).trans (tw_eq1 eσ32)
        have y45 : σ37 f 0 = τ f 0 := ((tw_ne1 eσ37 (by (first | decide | omega)))).trans (tw_ne1 eσ32 (by (first | decide | omega)))
        have y46 : σ37 f 5 = r36 := (tw_eq1 eσ37)
        have y47 : σ37 f 0 = τ f 0 := ((tw_ne1 eσ37 (by (first | decide | omega)))).trans (tw_ne1 eσ32 (by (first | decide | omega)))
        have y48 : σ37 f 5 = r36 := (tw_eq1 eσ37)
        exact j_vret (pc := 172) ⟨rfl, rfl⟩ dX2_from_172 rfl ⟨rfl, hIσ37, hFσ37, (fun gg qq H => by rw [show σ37 f 0 = _ from ((tw_ne1 eσ37 (by (first | decide | omega)))).trans (tw_ne1 eσ32 (by (first | decide | omega))), show σ37 f 1 = _ from ((tw_ne1 eσ37 (by (first | decide | omega)))).trans (tw_ne1 eσ32 (by (first | decide | omega))), show σ37 f 2 = _ from ((tw_ne1 eσ37 (by (first | decide | omega)))).trans (tw_ne1 eσ32 (by (first | decide | omega))), show σ37 f 3 = _ from ((tw_ne1 eσ37 (by (first | decide | omega)))).trans (tw_ne1 eσ32 (by (first | decide | omega)))]; exact FI_end (i1 gg qq H) (by omega)), (by rw [show σ37 f 4 = _ from ((tw_ne1 eσ37 (by (first | decide | omega)))).trans (tw_eq1 eσ32), show σ37 f 0 = _ from ((tw_ne1 eσ37 (by (first | decide | omega)))).trans (tw_ne1 eσ32 (by (first | decide | omega)))]; exact z4), (by rw [show σ37 f 5 = _ from (tw_eq1 eσ37), show σ37 f 0 = _ from ((tw_ne1 eσ37 (by (first | decide | omega)))).trans (tw_ne1 eσ32 (by (first | decide | omega)))]; exact z5), by omega⟩
      · refine j_aload_n (pc := 41) dX2_from_41 rfl rfl ?_
        refine j_getR (pc := 42) (r := o + 1) fl_X2_35 dX2_from_42 ho.1.1 rfl ?_
        refine j_iload (pc := 45) dX2_from_45 rfl ?_
        refine j_iald (pc := 47) dX2_from_47 ho.1.2.1 (by omega) (by omega) (by decide) ?_
        have f49 : (0 : Int) ≤ τ (o + 1) (k.toNat) ∧ τ (o + 1) (k.toNat) ≤ 40 := tw_Ig ho.2.2.1 hIτ (k.toNat)
        refine j_iload_n (pc := 48) dX2_from_48 rfl rfl ?_
        refine j_icmpR_le (pc := 49) (tgt := 55) ⟨by omega, by omega⟩ ⟨by omega, by omega⟩ dX2_from_49 rfl (fun h50 => ?_) (fun h50 => ?_)
        · refine j_aload_n (pc := 55) dX2_from_55 rfl rfl ?_
          refine j_iload_n (pc := 56) dX2_from_56 rfl rfl ?_
          refine j_aload_n (pc := 57) dX2_from_57 rfl rfl ?_
          refine j_getR (pc := 58) (r := o + 1) fl_X2_35 dX2_from_58 ho.1.1 rfl ?_
          refine j_iload (pc := 61) dX2_from_61 rfl ?_
          refine j_iald (pc := 63) dX2_from_63 ho.1.2.1 (by omega) (by omega) (by decide) ?_
          refine j_callV (pc := 64) (As := [vI h, vI (τ (o + 1) (k.toNat))]) (st := []) (c_X10_dropOf w hw h ⟨by omega, by omega⟩ (τ (o + 1) (k.toNat)) ⟨by omega, by omega⟩ τ hIτ) mv_X2_39 rfl rfl rfl hw.1.1 dX2_from_64 ⟨Nat.le_of_ble_eq_true rfl, Nat.le_of_ble_eq_true rfl⟩ ⟨Nat.le_refl _, Nat.le_refl _⟩ rfl (Nat.le_of_ble_eq_true rfl) rfl (fun z51 σ52 hz51 => ?_)
          obtain ⟨r54, rfl, hr54, rfl, q53_0⟩ := hz51
          replace q53_0 : r54 = dropS (wW w τ) h (τ (o + 1) (k.toNat)) := q53_0
          refine j_st (st' := [vI r54]) rfl ?_
          have hd := q53_0; rw [WT] at hd
          refine j_istore (pc := 67) (i := 6) (ls' := [(0, vR f), (1, vR w), (2, vR o), (3, vI h), (4, vI g), (5, vI k), (6, vI r54)]) [1, 2, 3, 4, 5, 6, 0] dX2_from_67 (Nat.le_of_ble_eq_true rfl) rfl rfl ?_
          refine j_aload_n (pc := 69) dX2_from_69 rfl rfl ?_
          refine j_iload_n (pc := 70) dX2_from_70 rfl rfl ?_
          refine j_iload (pc := 71) dX2_from_71 rfl ?_
          refine j_callV (pc := 73) (As := [vI h, vI r54]) (st := []) (c_X10_pullOf w hw h ⟨by omega, by omega⟩ r54 ⟨by omega, by omega⟩ τ hIτ) mv_X2_45 rfl rfl rfl hw.1.1 dX2_from_73 ⟨Nat.le_of_ble_eq_true rfl, Nat.le_of_ble_eq_true rfl⟩ ⟨Nat.le_refl _, Nat.le_refl _⟩ rfl (Nat.le_of_ble_eq_true rfl) rfl (fun z55 σ56 hz55 => ?_)
          obtain ⟨r58, rfl, hr58, rfl, q57_0⟩ := hz55
          replace q57_0 : r58 = pullS h r54 := q57_0
          refine j_st (st' := [vI r58]) rfl ?_
          have hu := q57_0
          refine j_istore (pc := 76) (i := 7) (ls' := [(0, vR f), (1, vR w), (2, vR o), (3, vI h), (4, vI g), (5, vI k), (6, vI r54), (7, vI r58)]) [1, 2, 3, 4, 5, 6, 7, 0] dX2_from_76 (Nat.le_of_ble_eq_true rfl) rfl rfl ?_
          refine j_iload (pc := 78) dX2_from_78 rfl ?_
          refine j_iload (pc := 80) dX2_from_80 rfl ?_
          refine j_ishr (pc := 82) dX2_from_82 (fun z59 ez59 => ?_)
          have hz59 : (-2147483648 : Int) ≤ z59 ∧ z59 ≤ 2147483647 := by rw [ez59]; exact shr_in _ _
          have b1 := ez59
          refine j_iconst (pc := 83) dX2_from_83 ?_
          refine j_iand (pc := 84) dX2_from_84 (fun z60 ez60 => ?_)
          have hz60 : (-2147483648 : Int) ≤ z60 ∧ z60 ≤ 2147483647 := by rw [ez60]; exact and_in _ _
          have b2 := ez60; rw [b1] at b2
          refine j_ifR_eq (pc := 85) (tgt := 127) ⟨by omega, by omega⟩ dX2_from_85 rfl (fun h61 => ?_) (fun h61 => ?_)
          · refine j_aload_n (pc := 127) dX2_from_127 rfl rfl ?_
            refine j_dup (pc := 128) dX2_from_128 rfl ?_
            refine j_getI (pc := 129) fl_X2_21 dX2_from_129 hf.1 rfl ?_
            have f62 : (-2147483648 : Int) ≤ τ f 3 ∧ τ f 3 ≤ 2147483647 := tw_Ig hf.2 hIτ 3
            refine j_iconst (pc := 132) dX2_from_132 ?_
            refine j_iload (pc := 133) dX2_from_133 rfl ?_
            refine j_ishl (pc := 135) dX2_from_135 (fun z63 ez63 => ?_)
            have hz63 : (-2147483648 : Int) ≤ z63 ∧ z63 ≤ 2147483647 := by rw [ez63]; exact shl_in _ _
            have s1 := ez63
            refine j_ior (pc := 136) dX2_from_136 (fun z64 ez64 => ?_)
            have hz64 : (-2147483648 : Int) ≤ z64 ∧ z64 ≤ 2147483647 := by rw [ez64]; exact or_in _ _
            have s2 := ez64; rw [s1] at s2
            refine j_putI (pc := 137) fl_X2_21 fp_X2_3 dX2_from_137 hf.1 rfl (j_nm (fun σ65 (eσ65 : σ65 = tw_up τ f 3 z64) => ?_))
            have hIσ65 : tw_I σ65 := tw_I_upg hIτ eσ65 hf.2 (show (-2147483648 : Int) ≤ z64 ∧ z64 ≤ 2147483647 from ⟨by omega, by omega⟩)
            have hFσ65 : tw_F (fun c j => c = f) σ σ65 := tw_F_up hFτ eσ65 (show f = f from rfl)
            refine j_iinc (pc := 140) (i := 5) (n := -1) (ls' := [(0, vR f), (1, vR w), (2, vR o), (3, vI h), (4, vI g), (5, vI (k + (-1)))]) [1, 2, 3, 4, 5, 0] dX2_from_140 rfl (Nat.le_of_ble_eq_true rfl) rfl rfl ?_
            refine j_goto (pc := 143) (tgt := 29) dX2_from_143 rfl ?_
            refine j_ls (ls' := [(0, vR f), (1, vR w), (2, vR o), (3, vI h), (4, vI g), (5, vI (k + (-1)))]) [0, 1, 2, 3, 4, 5] rfl ?_
            have y66 : σ65 f 0 = τ f 0 := (tw_ne1 eσ65 (by (first | decide | omega)))
            have f67 : (-2147483648 : Int) ≤ τ f 0 ∧ τ f 0 ≤ 2147483647 := tw_Ig hf.2 hIτ 0
            have y68 : σ65 f 1 = τ f 1 := (tw_ne1 eσ65 (by (first | decide | omega)))
            have y69 : σ65 f 2 = τ f 2 := (tw_ne1 eσ65 (by (first | decide | omega)))
            have f70 : (-2147483648 : Int) ≤ τ f 2 ∧ τ f 2 ≤ 2147483647 := tw_Ig hf.2 hIτ 2
            have y71 : σ65 f 3 = z64 := (tw_eq1 eσ65)
            exact ih (k + (-1)) ⟨by omega, by omega⟩ σ65 hIσ65 hFσ65 (show (k + (-1)) < σ o 0 from by omega) (show ∀ gg qq : Nat → Int, RG o gg qq σ → FI (wW w σ) gg h g (k + (-1)) (σ65 f 0) (σ65 f 1) (σ65 f 2) (σ65 f 3) from (fun gg qq H => by rw [show k + (-1) = k - 1 from by omega]; first | exact FI_above (RT gg qq H) ⟨by omega, by omega⟩ (i1 gg qq H) (by omega) (by omega) | (rw [show σ65 f 0 = _ from (tw_ne1 eσ65 (by (first | decide | omega))), show σ65 f 1 = _ from (tw_ne1 eσ65 (by (first | decide | omega))), show σ65 f 2 = _ from (tw_ne1 eσ65 (by (first | decide | omega))), show σ65 f 3 = _ from (tw_eq1 eσ65)]; first | exact FI_hold (RT gg qq H) ⟨by omega, by omega⟩ (i1 gg qq H) (by omega) (by omega) hd hu (by unfold bt; omega) (by omega) hs _ | exact FI_pop (RT gg qq H) ⟨by omega, by omega⟩ (i1 gg qq H) (by omega) (by omega) hd hu (by first | exact Or.inl (by unfold bt; omega) | exact Or.inr (by omega)) s2))) (show ((k + (-1)) + 1).toNat < N_ from by omega)
          · refine j_aload_n (pc := 88) dX2_from_88 rfl rfl ?_
            refine j_aload_n (pc := 89) dX2_from_89 rfl rfl ?_
            refine j_getR (pc := 90) (r := o + 2) fl_X2_48 dX2_from_90 ho.1.1 rfl ?_
            refine j_iload (pc := 93) dX2_from_93 rfl ?_
            refine j_iald (pc := 95) dX2_from_95 ho.1.2.2.1 (by omega) (by omega) (by decide) ?_
            have f72 : (0 : Int) ≤ τ (o + 2) (k.toNat) ∧ τ (o + 2) (k.toNat) ≤ 10 := tw_Ig ho.2.2.2.1 hIτ (k.toNat)
            refine j_iload (pc := 96) dX2_from_96 rfl ?_
            refine j_callV (pc := 98) (As := [vI (τ (o + 2) (k.toNat)), vI r58]) (st := []) (c_X10_holds w hw (τ (o + 2) (k.toNat)) ⟨by omega, by omega⟩ r58 ⟨by omega, by omega⟩ τ hIτ) mv_X2_51 rfl rfl rfl hw.1.1 dX2_from_98 ⟨Nat.le_of_ble_eq_true rfl, Nat.le_of_ble_eq_true rfl⟩ ⟨Nat.le_refl _, Nat.le_refl _⟩ rfl (Nat.le_of_ble_eq_true rfl) rfl (fun z73 σ74 hz73 => ?_)
            obtain ⟨r76, rfl, hr76, rfl, q75_0⟩ := hz73
            replace q75_0 : (r76 = 1 ∧ r58 ≤ (τ (o + 2) (k.toNat)) + τ (w + 1) 7) ∨ (r76 = 0 ∧ (τ (o + 2) (k.toNat)) + τ (w + 1) 7 < r58) := q75_0
            refine j_st (st' := [vI r76]) rfl ?_
            refine j_ifR_eq (pc := 101) (tgt := 127) ⟨by omega, by omega⟩ dX2_from_101 rfl (fun h77 => ?_) (fun h77 => ?_)
            · refine j_aload_n (pc := 127) dX2_from_127 rfl rfl ?_
              refine j_dup (pc := 128) dX2_from_128 rfl ?_
              refine j_getI (pc := 129) fl_X2_21 dX2_from_129 hf.1 rfl ?_
              have f78 : (-2147483648 : Int) ≤ τ f 3 ∧ τ f 3 ≤ 2147483647 := tw_Ig hf.2 hIτ 3
              refine j_iconst (pc := 132) dX2_from_132 ?_
              refine j_iload (pc := 133) dX2_from_133 rfl ?_
              refine j_ishl (pc := 135) dX2_from_135 (fun z79 ez79 => ?_)
              have hz79 : (-2147483648 : Int) ≤ z79 ∧ z79 ≤ 2147483647 := by rw [ez79]; exact shl_in _ _
              have s1 := ez79
              refine j_ior (pc := 136) dX2_from_136 (fun z80 ez80 => ?_)
              have hz80 : (-2147483648 : Int) ≤ z80 ∧ z80 ≤ 2147483647 := by rw [ez80]; exact or_in _ _
              have s2 := ez80; rw [s1] at s2
              refine j_putI (pc := 137) fl_X2_21 fp_X2_3 dX2_from_137 hf.1 rfl (j_nm (fun σ81 (eσ81 : σ81 = tw_up τ f 3 z80) => ?_))
              have hIσ81 : tw_I σ81 := tw_I_upg hIτ eσ81 hf.2 (show (-2147483648 : Int) ≤ z80 ∧ z80 ≤ 2147483647 from ⟨by omega, by omega⟩)
              have hFσ81 : tw_F (fun c j => c = f) σ σ81 := tw_F_up hFτ eσ81 (show f = f from rfl)
              refine j_iinc (pc := 140) (i := 5) (n := -1) (ls' := [(0, vR f), (1, vR w), (2, vR o), (3, vI h), (4, vI g), (5, vI (k + (-1)))]) [1, 2, 3, 4, 5, 0] dX2_from_140 rfl (Nat.le_of_ble_eq_true rfl) rfl rfl ?_
              refine j_goto (pc := 143) (tgt := 29) dX2_from_143 rfl ?_
              refine j_ls (ls' := [(0, vR f), (1, vR w), (2, vR o), (3, vI h), (4, vI g), (5, vI (k + (-1)))]) [0, 1, 2, 3, 4, 5] rfl ?_
              have y82 : σ81 f 0 = τ f 0 := (tw_ne1 eσ81 (by (first | decide | omega)))
              have f83 : (-2147483648 : Int) ≤ τ f 0 ∧ τ f 0 ≤ 2147483647 := tw_Ig hf.2 hIτ 0
              have y84 : σ81 f 1 = τ f 1 := (tw_ne1 eσ81 (by (first | decide | omega)))
              have y85 : σ81 f 2 = τ f 2 := (tw_ne1 eσ81 (by (first | decide | omega)))
              have f86 : (-2147483648 : Int) ≤ τ f 2 ∧ τ f 2 ≤ 2147483647 := tw_Ig hf.2 hIτ 2
              have y87 : σ81 f 3 = z80 := (tw_eq1 eσ81)
              exact ih (k + (-1)) ⟨by omega, by omega⟩ σ81 hIσ81 hFσ81 (show (k + (-1)) < σ o 0 from by omega) (show ∀ gg qq : Nat → Int, RG o gg qq σ → FI (wW w σ) gg h g (k + (-1)) (σ81 f 0) (σ81 f 1) (σ81 f 2) (σ81 f 3) from (fun gg qq H => by rw [show k + (-1) = k - 1 from by omega]; first | exact FI_above (RT gg qq H) ⟨by omega, by omega⟩ (i1 gg qq H) (by omega) (by omega) | (rw [show σ81 f 0 = _ from (tw_ne1 eσ81 (by (first | decide | omega))), show σ81 f 1 = _ from (tw_ne1 eσ81 (by (first | decide | omega))), show σ81 f 2 = _ from (tw_ne1 eσ81 (by (first | decide | omega))), show σ81 f 3 = _ from (tw_eq1 eσ81)]; first | exact FI_hold (RT gg qq H) ⟨by omega, by omega⟩ (i1 gg qq H) (by omega) (by omega) hd hu (by unfold bt; omega) (by omega) hs _ | exact FI_pop (RT gg qq H) ⟨by omega, by omega⟩ (i1 gg qq H) (by omega) (by omega) hd hu (by first | exact Or.inl (by unfold bt; omega) | exact Or.inr (by omega)) s2))) (show ((k + (-1)) + 1).toNat < N_ from by omega)
            · refine j_aload_n (pc := 104) dX2_from_104 rfl rfl ?_
              refine j_iload (pc := 105) dX2_from_105 rfl ?_
              refine j_putI (pc := 107) fl_X2_15 fp_X2_1 dX2_from_107 hf.1 rfl (j_nm (fun σ88 (eσ88 : σ88 = tw_up τ f 1 k) => ?_))
              have hIσ88 : tw_I σ88 := tw_I_upg hIτ eσ88 hf.2 (show (-2147483648 : Int) ≤ k ∧ k ≤ 2147483647 from ⟨by omega, by omega⟩)
              have hFσ88 : tw_F (fun c j => c = f) σ σ88 := tw_F_up hFτ eσ88 (show f = f from rfl)
              refine j_aload_n (pc := 110) dX2_from_110 rfl rfl ?_
              refine j_iload (pc := 111) dX2_from_111 rfl ?_
              refine j_putI (pc := 113) fl_X2_18 fp_X2_2 dX2_from_113 hf.1 rfl (j_nm (fun σ89 (eσ89 : σ89 = tw_up σ88 f 2 r58) => ?_))
              have hIσ89 : tw_I σ89 := tw_I_upg hIσ88 eσ89 hf.2 (show (-2147483648 : Int) ≤ r58 ∧ r58 ≤ 2147483647 from ⟨by omega, by omega⟩)
              have hFσ89 : tw_F (fun c j => c = f) σ σ89 := tw_F_up hFσ88 eσ89 (show f = f from rfl)
              refine j_aload_n (pc := 116) dX2_from_116 rfl rfl ?_
              refine j_iload_n (pc := 117) dX2_from_117 rfl rfl ?_
              refine j_iload (pc := 118) dX2_from_118 rfl ?_
              refine j_isub (pc := 120) dX2_from_120 ?_
              refine j_top (fun z90 ez90 hz90 => ?_)
              have hs := ez90
              refine j_putI (pc := 121) fl_X2_9 fp_X2_0 dX2_from_121 hf.1 rfl (j_nm (fun σ91 (eσ91 : σ91 = tw_up σ89 f 0 z90) => ?_))
              have hIσ91 : tw_I σ91 := tw_I_upg hIσ89 eσ91 hf.2 (show (-2147483648 : Int) ≤ z90 ∧ z90 ≤ 2147483647 from ⟨by omega, by omega⟩)
              have hFσ91 : tw_F (fun c j => c = f) σ σ91 := tw_F_up hFσ89 eσ91 (show f = f from rfl)
              refine j_goto (pc := 124) (tgt := 140) dX2_from_124 rfl ?_
              refine j_iinc (pc := 140) (i := 5) (n := -1) (ls' := [(0, vR f), (1, vR w), (2, vR o), (3, vI h), (4, vI g), (5, vI (k + (-1)))]) [1, 2, 3, 4, 5, 0] dX2_from_140 rfl (Nat.le_of_ble_eq_true rfl) rfl rfl ?_
              refine j_goto (pc := 143) (tgt := 29) dX2_from_143 rfl ?_
              refine j_ls (ls' := [(0, vR f), (1, vR w), (2, vR o), (3, vI h), (4, vI g), (5, vI (k + (-1)))]) [0, 1, 2, 3, 4, 5] rfl ?_
              have y92 : σ91 f 0 = z90 := (tw_eq1 eσ91)
              have y93 : σ91 f 1 = k := (((tw_ne1 eσ91 (by (first | decide | omega)))).trans (tw_ne1 eσ89 (by (first | decide | omega)))).trans (tw_eq1 eσ88)
              have y94 : σ91 f 2 = r58 := ((tw_ne1 eσ91 (by (first | decide | omega)))).trans (tw_eq1 eσ89)
              have y95 : σ91 f 3 = τ f 3 := (((tw_ne1 eσ91 (by (first | decide | omega)))).trans (tw_ne1 eσ89 (by (first | decide | omega)))).trans (tw_ne1 eσ88 (by (first | decide | omega)))
              have f96 : (-2147483648 : Int) ≤ τ f 3 ∧ τ f 3 ≤ 2147483647 := tw_Ig hf.2 hIτ 3
              exact ih (k + (-1)) ⟨by omega, by omega⟩ σ91 hIσ91 hFσ91 (show (k + (-1)) < σ o 0 from by omega) (show ∀ gg qq : Nat → Int, RG o gg qq σ → FI (wW w σ) gg h g (k + (-1)) (σ91 f 0) (σ91 f 1) (σ91 f 2) (σ91 f 3) from (fun gg qq H => by rw [show k + (-1) = k - 1 from by omega]; first | exact FI_above (RT gg qq H) ⟨by omega, by omega⟩ (i1 gg qq H) (by omega) (by omega) | (rw [show σ91 f 0 = _ from (tw_eq1 eσ91), show σ91 f 1 = _ from (((tw_ne1 eσ91 (by (first | decide | omega)))).trans (tw_ne1 eσ89 (by (first | decide | omega)))).trans (tw_eq1 eσ88), show σ91 f 2 = _ from ((tw_ne1 eσ91 (by (first | decide | omega)))).trans (tw_eq1 eσ89), show σ91 f 3 = _ from (((tw_ne1 eσ91 (by (first | decide | omega)))).trans (tw_ne1 eσ89 (by (first | decide | omega)))).trans (tw_ne1 eσ88 (by (first | decide | omega)))]; first | exact FI_hold (RT gg qq H) ⟨by omega, by omega⟩ (i1 gg qq H) (by omega) (by omega) hd hu (by unfold bt; omega) (by omega) hs _ | exact FI_pop (RT gg qq H) ⟨by omega, by omega⟩ (i1 gg qq H) (by omega) (by omega) hd hu (by first | exact Or.inl (by unfold bt; omega) | exact Or.inr (by omega)) s2))) (show ((k + (-1)) + 1).toNat < N_ from by omega)
        · refine j_goto (pc := 52) (tgt := 140) dX2_from_52 rfl ?_
          refine j_iinc (pc := 140) (i := 5) (n := -1) (ls' := [(0, vR f), (1, vR w), (2, vR o), (3, vI h), (4, vI g), (5, vI (k + (-1)))]) [1, 2, 3, 4, 5, 0] dX2_from_140 rfl (Nat.le_of_ble_eq_true rfl) rfl rfl ?_
          refine j_goto (pc := 143) (tgt := 29) dX2_from_143 rfl ?_
          refine j_ls (ls' := [(0, vR f), (1, vR w), (2, vR o), (3, vI h), (4, vI g), (5, vI (k + (-1)))]) [0, 1, 2, 3, 4, 5] rfl ?_
          exact ih (k + (-1)) ⟨by omega, by omega⟩ τ hIτ hFτ (show (k + (-1)) < σ o 0 from by omega) (show ∀ gg qq : Nat → Int, RG o gg qq σ → FI (wW w σ) gg h g (k + (-1)) (τ f 0) (τ f 1) (τ f 2) (τ f 3) from (fun gg qq H => by rw [show k + (-1) = k - 1 from by omega]; first | exact FI_above (RT gg qq H) ⟨by omega, by omega⟩ (i1 gg qq H) (by omega) (by omega) | (rw [show τ f 0 = _ from rfl, show τ f 1 = _ from rfl, show τ f 2 = _ from rfl, show τ f 3 = _ from rfl]; first | exact FI_hold (RT gg qq H) ⟨by omega, by omega⟩ (i1 gg qq H) (by omega) (by omega) hd hu (by unfold bt; omega) (by omega) hs _ | exact FI_pop (RT gg qq H) ⟨by omega, by omega⟩ (i1 gg qq H) (by omega) (by omega) hd hu (by first | exact Or.inl (by unfold bt; omega) | exact Or.inr (by omega)) s2))) (show ((k + (-1)) + 1).toNat < N_ from by omega)
set_option maxHeartbeats 4000000 in
set_option maxRecDepth 100000 in
theorem c_X2_from {G : tw_G} (f : Nat) (hf : IsFall G f) (w : Nat) (hw : IsWall G w) (o : Nat) (ho : IsRow G o) (h : Int) (hh : 1 ≤ h ∧ h ≤ 40) (g : Int) (hg : -2147483648 ≤ g ∧ g ≤ 2147483647) (σ : tw_M) (hI : tw_I σ) (hq0 : f < o ∨ o + 4 ≤ f) (hq1 : f < w ∨ w + 9 ≤ f) : tw_C G yX2_from cX2_from 8 none 1 [vR f, vR w, vR o, vI h, vI g] σ (q_X2_from f w o h g σ) := by
  refine tw_met [(0, vR f), (1, vR w), (2, vR o), (3, vI h), (4, vI g)] (by decide +kernel) rfl (Nat.le_of_ble_eq_true rfl) ?_
  refine j_aload_n (pc := 0) dX2_from_0 rfl rfl ?_
  refine j_iconst (pc := 1) dX2_from_1 ?_
  refine j_putI (pc := 2) fl_X2_9 fp_X2_0 dX2_from_2 hf.1 rfl (j_nm (fun σ97 (eσ97 : σ97 = tw_up σ f 0 0) => ?_))
  have hIσ97 : tw_I σ97 := tw_I_upg hI eσ97 hf.2 (show (-2147483648 : Int) ≤ 0 ∧ 0 ≤ 2147483647 from by decide)
  have hFσ97 : tw_F (fun c j => c = f) σ σ97 := tw_F_up (tw_F_rf) eσ97 (show f = f from rfl)
  refine j_aload_n (pc := 5) dX2_from_5 rfl rfl ?_
  refine j_bipush (pc := 6) dX2_from_6 rfl ?_
  refine j_putI (pc := 8) fl_X2_15 fp_X2_1 dX2_from_8 hf.1 rfl (j_nm (fun σ98 (eσ98 : σ98 = tw_up σ97 f 1 (-4)) => ?_))
  have hIσ98 : tw_I σ98 := tw_I_upg hIσ97 eσ98 hf.2 (show (-2147483648 : Int) ≤ -4 ∧ -4 ≤ 2147483647 from by decide)
  have hFσ98 : tw_F (fun c j => c = f) σ σ98 := tw_F_up hFσ97 eσ98 (show f = f from rfl)
  refine j_aload_n (pc := 11) dX2_from_11 rfl rfl ?_
  refine j_iconst (pc := 12) dX2_from_12 ?_
  refine j_putI (pc := 13) fl_X2_18 fp_X2_2 dX2_from_13 hf.1 rfl (j_nm (fun σ99 (eσ99 : σ99 = tw_up σ98 f 2 0) => ?_))
  have hIσ99 : tw_I σ99 := tw_I_upg hIσ98 eσ99 hf.2 (show (-2147483648 : Int) ≤ 0 ∧ 0 ≤ 2147483647 from by decide)
  have hFσ99 : tw_F (fun c j => c = f) σ σ99 := tw_F_up hFσ98 eσ99 (show f = f from rfl)
  refine j_aload_n (pc := 16) dX2_from_16 rfl rfl ?_
  refine j_iconst (pc := 17) dX2_from_17 ?_
  refine j_putI (pc := 18) fl_X2_21 fp_X2_3 dX2_from_18 hf.1 rfl (j_nm (fun σ100 (eσ100 : σ100 = tw_up σ99 f 3 0) => ?_))
  have hIσ100 : tw_I σ100 := tw_I_upg hIσ99 eσ100 hf.2 (show (-2147483648 : Int) ≤ 0 ∧ 0 ≤ 2147483647 from by decide)
  have hFσ100 : tw_F (fun c j => c = f) σ σ100 := tw_F_up hFσ99 eσ100 (show f = f from rfl)
  refine j_aload_n (pc := 21) dX2_from_21 rfl rfl ?_
  refine j_getI (pc := 22) fl_X2_30 dX2_from_22 ho.1.1 rfl ?_
  refine j_topV (show σ100 o 0 = σ o 0 from ((((tw_ne1 eσ100 (by (first | decide | omega)))).trans (tw_ne1 eσ99 (by (first | decide | omega)))).trans (tw_ne1 eσ98 (by (first | decide | omega)))).trans (tw_ne1 eσ97 (by (first | decide | omega)))) ?_
  have f101 : (0 : Int) ≤ σ o 0 ∧ σ o 0 ≤ 10 := tw_Ig ho.2.1 hI 0
  refine j_iconst (pc := 25) dX2_from_25 ?_
  refine j_isub (pc := 26) dX2_from_26 ?_
  refine j_istore (pc := 27) (i := 5) (ls' := [(0, vR f), (1, vR w), (2, vR o), (3, vI h), (4, vI g), (5, vI ((σ o 0) - 1))]) [1, 2, 3, 4, 5, 0] dX2_from_27 (Nat.le_of_ble_eq_true rfl) rfl rfl ?_
  refine j_ls (ls' := [(0, vR f), (1, vR w), (2, vR o), (3, vI h), (4, vI g), (5, vI ((σ o 0) - 1))]) [0, 1, 2, 3, 4, 5] rfl ?_
  have y102 : σ100 f 0 = 0 := ((((tw_ne1 eσ100 (by (first | decide | omega)))).trans (tw_ne1 eσ99 (by (first | decide | omega)))).trans (tw_ne1 eσ98 (by (first | decide | omega)))).trans (tw_eq1 eσ97)
  have y103 : σ100 f 1 = -4 := (((tw_ne1 eσ100 (by (first | decide | omega)))).trans (tw_ne1 eσ99 (by (first | decide | omega)))).trans (tw_eq1 eσ98)
  have y104 : σ100 f 2 = 0 := ((tw_ne1 eσ100 (by (first | decide | omega)))).trans (tw_eq1 eσ99)
  have y105 : σ100 f 3 = 0 := (tw_eq1 eσ100)
  exact (l_X2_from f hf w hw o ho h hh g hg σ hI hq0 hq1 (((((σ o 0) - 1) + 1).toNat) + 1)) ((σ o 0) - 1) ⟨by omega, by omega⟩ σ100 hIσ100 hFσ100 (show ((σ o 0) - 1) < σ o 0 from by omega) (show ∀ gg qq : Nat → Int, RG o gg qq σ → FI (wW w σ) gg h g ((σ o 0) - 1) (σ100 f 0) (σ100 f 1) (σ100 f 2) (σ100 f 3) from (fun gg qq H => by rw [show σ100 f 0 = _ from ((((tw_ne1 eσ100 (by (first | decide | omega)))).trans (tw_ne1 eσ99 (by (first | decide | omega)))).trans (tw_ne1 eσ98 (by (first | decide | omega)))).trans (tw_eq1 eσ97), show σ100 f 1 = _ from (((tw_ne1 eσ100 (by (first | decide | omega)))).trans (tw_ne1 eσ99 (by (first | decide | omega)))).trans (tw_eq1 eσ98), show σ100 f 2 = _ from ((tw_ne1 eσ100 (by (first | decide | omega)))).trans (tw_eq1 eσ99), show σ100 f 3 = _ from (tw_eq1 eσ100)]; exact FI_0 H (by omega))) (Nat.lt_succ_self _)
abbrev q_X2_isSo (f : Nat) (p : Int) (q : Int) (σ : tw_M) : Option tw_V → tw_M → Prop := fun z τ => ∃ r : Int, z = some (vI r) ∧ (0 ≤ r ∧ r ≤ 1) ∧ σ = τ ∧ True
set_option maxHeartbeats 4000000 in
set_option maxRecDepth 100000 in
theorem c_X2_isSo {G : tw_G} (f : Nat) (hf : IsFall G f) (p : Int) (hp : -2147483648 ≤ p ∧ p ≤ 2147483647) (q : Int) (hq : -2147483648 ≤ q ∧ q ≤ 2147483647) (σ : tw_M) (hI : tw_I σ) : tw_C G yX2_isSo cX2_isSo 3 (some .boolean) 1 [vR f, vI p, vI q] σ (q_X2_isSo f p q σ) := by
  refine tw_met [(0, vR f), (1, vI p), (2, vI q)] (by decide +kernel) rfl (Nat.le_of_ble_eq_true rfl) ?_
  refine j_aload_n (pc := 0) dX2_isSo_0 rfl rfl ?_
  refine j_getI (pc := 1) fl_X2_21 dX2_isSo_1 hf.1 rfl ?_
  have f1 : (-2147483648 : Int) ≤ σ f 3 ∧ σ f 3 ≤ 2147483647 := tw_Ig hf.2 hI 3
  refine j_iload_n (pc := 4) dX2_isSo_4 rfl rfl ?_
  refine j_icmpR_ne (pc := 5) (tgt := 24) ⟨by omega, by omega⟩ ⟨by omega, by omega⟩ dX2_isSo_5 rfl (fun h2 => ?_) (fun h2 => ?_)
  · refine j_iconst (pc := 24) dX2_isSo_24 ?_
    exact j_zret (pc := 25) ⟨rfl, rfl⟩ dX2_isSo_25 rfl (nar_bool (by omega) (by omega)) ⟨_, rfl, ⟨by omega, by omega⟩, rfl, trivial⟩
  · refine j_iconst (pc := 8) dX2_isSo_8 ?_
    refine j_aload_n (pc := 9) dX2_isSo_9 rfl rfl ?_
    refine j_getI (pc := 10) fl_X2_9 dX2_isSo_10 hf.1 rfl ?_
    have f3 : (-2147483648 : Int) ≤ σ f 0 ∧ σ f 0 ≤ 2147483647 := tw_Ig hf.2 hI 0
    refine j_mmax (pc := 13) mm_X2_61 dX2_isSo_13 ⟨Nat.le_of_ble_eq_true rfl, Nat.le_of_ble_eq_true rfl⟩ ⟨Nat.le_refl _, Nat.le_refl _⟩ rfl (fun z4 ez4 => ?_)
    have hz4 := tw_max_eq (a := 0) (b := σ f 0) ⟨by omega, by omega⟩ ⟨by omega, by omega⟩ ez4
    refine j_iload_n (pc := 16) dX2_isSo_16 rfl rfl ?_
    refine j_icmpR_ne (pc := 17) (tgt := 24) ⟨by omega, by omega⟩ ⟨by omega, by omega⟩ dX2_isSo_17 rfl (fun h5 => ?_) (fun h5 => ?_)
    · refine j_iconst (pc := 24) dX2_isSo_24 ?_
      exact j_zret (pc := 25) ⟨rfl, rfl⟩ dX2_isSo_25 rfl (nar_bool (by omega) (by omega)) ⟨_, rfl, ⟨by omega, by omega⟩, rfl, trivial⟩
    · refine j_iconst (pc := 20) dX2_isSo_20 ?_
      refine j_goto (pc := 21) (tgt := 25) dX2_isSo_21 rfl ?_
      exact j_zret (pc := 25) ⟨rfl, rfl⟩ dX2_isSo_25 rfl (nar_bool (by omega) (by omega)) ⟨_, rfl, ⟨by omega, by omega⟩, rfl, trivial⟩
abbrev q_X8_begin (s : Nat) (l : Int) (n : Int) (σ : tw_M) : Option tw_V → tw_M → Prop := fun z τ => z = none ∧ tw_I τ ∧ tw_F (fun c j => (s ≤ c ∧ c < s + 2)) σ τ ∧ (τ s 1 = 1) ∧ (τ s 2 = l) ∧ (τ s 3 = n) ∧ (∀ j : Nat, j < 40 → τ (s + 1) j = 0)
set_option maxHeartbeats 4000000 in
set_option maxRecDepth 100000 in
theorem l_X8_begin {G : tw_G} (s : Nat) (hs : IsSheet G s) (l : Int) (hl : -2147483648 ≤ l ∧ l ≤ 2147483647) (n : Int) (hn : 0 ≤ n ∧ n ≤ 40) (σ : tw_M) (hI : tw_I σ) : ∀ N_ : Nat, (∀ (i : Int) (hi : 0 ≤ i ∧ i ≤ 40) (τ : tw_M) (hIτ : tw_I τ) (hFτ : tw_F (fun c j => (s ≤ c ∧ c < s + 2)) σ τ) (i0 : τ s 1 = 1) (i1 : τ s 2 = l) (i2 : τ s 3 = n) (i3 : Cn (s + 1) (fun _ => 0) τ i) (hm : (40 - i).toNat < N_), tw_J G (tw_mt RX8 cX8_begin 4 none 0) (tw_E G (q_X8_begin s l n σ)) 17 [(0, vR s), (3, vI i)] [] τ) := by
  intro N_
  induction N_ with
  | zero => exact fun i hi τ hIτ hFτ i0 i1 i2 i3 hm => absurd hm (Nat.not_lt_zero _)
  | succ N_ ih =>
    intro i hi τ hIτ hFτ i0 i1 i2 i3 hm
    refine j_iload_n (pc := 17) dX8_begin_17 rfl rfl ?_
    refine j_aload_n (pc := 18) dX8_begin_18 rfl rfl ?_
    refine j_getR (pc := 19) (r := s + 1) fl_X8_9 dX8_begin_19 hs.1.1 rfl ?_
    refine j_alen (pc := 22) dX8_begin_22 hs.1.2 ?_
    refine j_topV (show _ = (40 : Int) from rfl) ?_
    refine j_icmpR_ge (pc := 23) (tgt := 39) ⟨by omega, by omega⟩ ⟨by omega, by omega⟩ dX8_begin_23 rfl (fun h1 => ?_) (fun h1 => ?_)
    · exact j_vret (pc := 39) ⟨rfl, rfl⟩ dX8_begin_39 rfl ⟨rfl, hIτ, hFτ, by omega, by omega, by omega, (fun j hj => i3 j (by omega))⟩
    · refine j_aload_n (pc := 26) dX8_begin_26 rfl rfl ?_
      refine j_getR (pc := 27) (r := s + 1) fl_X8_9 dX8_begin_27 hs.1.1 rfl ?_
      refine j_iload_n (pc := 30) dX8_begin_30 rfl rfl ?_
      refine j_iconst (pc := 31) dX8_begin_31 ?_
      refine j_iast (pc := 32) dX8_begin_32 hs.1.2 (by omega) (by omega) (by decide) (j_nm (fun σ2 (eσ2 : σ2 = tw_up τ (s + 1) (i.toNat) 0) => ?_))
      have hIσ2 : tw_I σ2 := tw_I_upg hIτ eσ2 hs.2.2 (show (-2147483648 : Int) ≤ 0 ∧ 0 ≤ 2147483647 from by decide)
      have hFσ2 : tw_F (fun c j => (s ≤ c ∧ c < s + 2)) σ σ2 := tw_F_up hFτ eσ2 (show (s ≤ s + 1 ∧ s + 1 < s + 2) from ⟨Nat.le_add_right _ _, (Nat.add_lt_add_left (by decide) _)⟩)
      refine j_iinc (pc := 33) (i := 3) (n := 1) (ls' := [(0, vR s), (3, vI (i + 1))]) [1, 0] dX8_begin_33 rfl (Nat.le_of_ble_eq_true rfl) rfl rfl ?_
      refine j_goto (pc := 36) (tgt := 17) dX8_begin_36 rfl ?_
      refine j_ls (ls' := [(0, vR s), (3, vI (i + 1))]) [0, 1] rfl ?_
      have y3 : σ2 s 1 = τ s 1 := (tw_ne1 eσ2 (by (first | decide | omega)))
      have f4 : (0 : Int) ≤ τ s 1 ∧ τ s 1 ≤ 1 := tw_Ig hs.2.1 hIτ 1
      have y5 : σ2 s 2 = τ s 2 := (tw_ne1 eσ2 (by (first | decide | omega)))
      have f6 : (-2147483648 : Int) ≤ τ s 2 ∧ τ s 2 ≤ 2147483647 := tw_Ig hs.2.1 hIτ 2
      have y7 : σ2 s 3 = τ s 3 := (tw_ne1 eσ2 (by (first | decide | omega)))
      have f8 : (0 : Int) ≤ τ s 3 ∧ τ s 3 ≤ 40 := tw_Ig hs.2.1 hIτ 3
      exact ih (i + 1) ⟨by omega, by omega⟩ σ2 hIσ2 hFσ2 (show σ2 s 1 = 1 from by omega) (show σ2 s 2 = l from by omega) (show σ2 s 3 = n from by omega) (show Cn (s + 1) (fun _ => 0) σ2 (i + 1) from (by first | exact Cn_0 | exact Cn_up eσ2 (by omega) i3 rfl (by omega))) (show (40 - (i + 1)).toNat < N_ from by omega)
set_option maxHeartbeats 4000000 in
set_option maxRecDepth 100000 in
theorem c_X8_begin {G : tw_G} (s : Nat) (hs : IsSheet G s) (l : Int) (hl : -2147483648 ≤ l ∧ l ≤ 2147483647) (n : Int) (hn : 0 ≤ n ∧ n ≤ 40) (σ : tw_M) (hI : tw_I σ) : tw_C G yX8_begin cX8_begin 4 none 0 [vR s, vI l, vI n] σ (q_X8_begin s l n σ) := by
  refine tw_met [(0, vR s), (1, vI l), (2, vI n)] (by decide +kernel) rfl (Nat.le_of_ble_eq_true rfl) ?_
  refine j_aload_n (pc := 0) dX8_begin_0 rfl rfl ?_
  refine j_iconst (pc := 1) dX8_begin_1 ?_
  refine j_putZ (pc := 2) (by omega) fl_X8_15 fp_X8_1 dX8_begin_2 hs.1.1 rfl (j_nm (fun σ9 (eσ9 : σ9 = tw_up σ s 1 1) => ?_))
  have hIσ9 : tw_I σ9 := tw_I_upg hI eσ9 hs.2.1 (show (0 : Int) ≤ 1 ∧ 1 ≤ 1 from by decide)
  have hFσ9 : tw_F (fun c j => (s ≤ c ∧ c < s + 2)) σ σ9 := tw_F_up (tw_F_rf) eσ9 (show (s ≤ s ∧ s < s + 2) from ⟨Nat.le_refl _, (Nat.lt_add_of_pos_right (by decide))⟩)
  refine j_aload_n (pc := 5) dX8_begin_5 rfl rfl ?_
  refine j_iload_n (pc := 6) dX8_begin_6 rfl rfl ?_
  refine j_putI (pc := 7) fl_X8_19 fp_X8_2 dX8_begin_7 hs.1.1 rfl (j_nm (fun σ10 (eσ10 : σ10 = tw_up σ9 s 2 l) => ?_))
  have hIσ10 : tw_I σ10 := tw_I_upg hIσ9 eσ10 hs.2.1 (show (-2147483648 : Int) ≤ l ∧ l ≤ 2147483647 from ⟨by omega, by omega⟩)
  have hFσ10 : tw_F (fun c j => (s ≤ c ∧ c < s + 2)) σ σ10 := tw_F_up hFσ9 eσ10 (show (s ≤ s ∧ s < s + 2) from ⟨Nat.le_refl _, (Nat.lt_add_of_pos_right (by decide))⟩)
  refine j_aload_n (pc := 10) dX8_begin_10 rfl rfl ?_
  refine j_iload_n (pc := 11) dX8_begin_11 rfl rfl ?_
  refine j_putI (pc := 12) fl_X8_23 fp_X8_3 dX8_begin_12 hs.1.1 rfl (j_nm (fun σ11 (eσ11 : σ11 = tw_up σ10 s 3 n) => ?_))
  have hIσ11 : tw_I σ11 := tw_I_upg hIσ10 eσ11 hs.2.1 (show (0 : Int) ≤ n ∧ n ≤ 40 from ⟨by omega, by omega⟩)
  have hFσ11 : tw_F (fun c j => (s ≤ c ∧ c < s + 2)) σ σ11 := tw_F_up hFσ10 eσ11 (show (s ≤ s ∧ s < s + 2) from ⟨Nat.le_refl _, (Nat.lt_add_of_pos_right (by decide))⟩)
  refine j_iconst (pc := 15) dX8_begin_15 ?_
  refine j_istore_n (pc := 16) (i := 3) (ls' := [(0, vR s), (3, vI 0)]) [1, 0] dX8_begin_16 rfl (Nat.le_of_ble_eq_true rfl) rfl rfl ?_
  refine j_ls (ls' := [(0, vR s), (3, vI 0)]) [0, 1] rfl ?_
  have y12 : σ11 s 1 = 1 := (((tw_ne1 eσ11 (by (first | decide | omega)))).trans (tw_ne1 eσ10 (by (first | decide | omega)))).trans (tw_eq1 eσ9)
  have y13 : σ11 s 2 = l := ((tw_ne1 eσ11 (by (first | decide | omega)))).trans (tw_eq1 eσ10)
  have y14 : σ11 s 3 = n := (tw_eq1 eσ11)
  exact (l_X8_begin s hs l hl n hn σ hI (((40 - (0 : Int)).toNat) + 1)) 0 (by (first | decide | exact ⟨by omega, by omega⟩)) σ11 hIσ11 hFσ11 (show σ11 s 1 = 1 from by omega) (show σ11 s 2 = l from by omega) (show σ11 s 3 = n from by omega) (show Cn (s + 1) (fun _ => 0) σ11 (0 : Int) from (by first | exact Cn_0 | exact Cn_up eσ11 (by omega) i3 rfl (by omega))) (Nat.lt_succ_self _)
abbrev q_X8_has (s : Nat) (i : Int) (σ : tw_M) : Option tw_V → tw_M → Prop := fun z τ => ∃ r : Int, z = some (vI r) ∧ (0 ≤ r ∧ r ≤ 1) ∧ σ = τ ∧ ((r = 1 ∧ σ s 1 = 1 ∧ 0 ≤ i ∧ i < σ s 3 ∧ i < 40) ∨ (r = 0 ∧ ¬ (σ s 1 = 1 ∧ 0 ≤ i ∧ i < σ s 3)))
set_option maxHeartbeats 4000000 in
set_option maxRecDepth 100000 in
theorem c_X8_has {G : tw_G} (s : Nat) (hs : IsSheet G s) (i : Int) (hi : -2147483648 ≤ i ∧ i ≤ 2147483647) (σ : tw_M) (hI : tw_I σ) : tw_C G yX8_has cX8_has 2 (some .boolean) 0 [vR s, vI i] σ (q_X8_has s i σ) := by
  refine tw_met [(0, vR s), (1, vI i)] (by decide +kernel) rfl (Nat.le_of_ble_eq_true rfl) ?_
  refine j_aload_n (pc := 0) dX8_has_0 rfl rfl ?_
  refine j_getI (pc := 1) fl_X8_15 dX8_has_1 hs.1.1 rfl ?_
  have f1 : (0 : Int) ≤ σ s 1 ∧ σ s 1 ≤ 1 := tw_Ig hs.2.1 hI 1
  refine j_ifR_eq (pc := 4) (tgt := 32) ⟨by omega, by omega⟩ dX8_has_4 rfl (fun h2 => ?_) (fun h2 => ?_)
  · refine j_iconst (pc := 32) dX8_has_32 ?_
    exact j_zret (pc := 33) ⟨rfl, rfl⟩ dX8_has_33 rfl (nar_bool (by omega) (by omega)) ⟨_, rfl, ⟨by omega, by omega⟩, rfl, by omega⟩
  · refine j_iload_n (pc := 7) dX8_has_7 rfl rfl ?_
    refine j_ifR_lt (pc := 8) (tgt := 32) ⟨by omega, by omega⟩ dX8_has_8 rfl (fun h3 => ?_) (fun h3 => ?_)
    · refine j_iconst (pc := 32) dX8_has_32 ?_
      exact j_zret (pc := 33) ⟨rfl, rfl⟩ dX8_has_33 rfl (nar_bool (by omega) (by omega)) ⟨_, rfl, ⟨by omega, by omega⟩, rfl, by omega⟩
    · refine j_iload_n (pc := 11) dX8_has_11 rfl rfl ?_
      refine j_aload_n (pc := 12) dX8_has_12 rfl rfl ?_
      refine j_getI (pc := 13) fl_X8_23 dX8_has_13 hs.1.1 rfl ?_
      have f4 : (0 : Int) ≤ σ s 3 ∧ σ s 3 ≤ 40 := tw_Ig hs.2.1 hI 3
      refine j_icmpR_ge (pc := 16) (tgt := 32) ⟨by omega, by omega⟩ ⟨by omega, by omega⟩ dX8_has_16 rfl (fun h5 => ?_) (fun h5 => ?_)
      · refine j_iconst (pc := 32) dX8_has_32 ?_
        exact j_zret (pc := 33) ⟨rfl, rfl⟩ dX8_has_33 rfl (nar_bool (by omega) (by omega)) ⟨_, rfl, ⟨by omega, by omega⟩, rfl, by omega⟩
      · refine j_iload_n (pc := 19) dX8_has_19 rfl rfl ?_
        refine j_aload_n (pc := 20) dX8_has_20 rfl rfl ?_
        refine j_getR (pc := 21) (r := s + 1) fl_X8_9 dX8_has_21 hs.1.1 rfl ?_
        refine j_alen (pc := 24) dX8_has_24 hs.1.2 ?_
        refine j_topV (show _ = (40 : Int) from rfl) ?_
        refine j_icmpR_ge (pc := 25) (tgt := 32) ⟨by omega, by omega⟩ ⟨by omega, by omega⟩ dX8_has_25 rfl (fun h6 => by exfalso; omega) (fun h6 => ?_)
        refine j_iconst (pc := 28) dX8_has_28 ?_
        refine j_goto (pc := 29) (tgt := 33) dX8_has_29 rfl ?_
        exact j_zret (pc := 33) ⟨rfl, rfl⟩ dX8_has_33 rfl (nar_bool (by omega) (by omega)) ⟨_, rfl, ⟨by omega, by omega⟩, rfl, by omega⟩
abbrev q_X8_set (s : Nat) (i : Int) (v : Int) (σ : tw_M) : Option tw_V → tw_M → Prop := fun z τ => z = none ∧ tw_I τ ∧ tw_F (fun c j => c = s + 1) σ τ ∧ (τ (s + 1) i.toNat = nrw (σ s 2) v) ∧ (∀ j : Nat, ¬ j = i.toNat → τ (s + 1) j = σ (s + 1) j)
set_option maxHeartbeats 4000000 in
set_option maxRecDepth 100000 in
theorem c_X8_set {G : tw_G} (s : Nat) (hs : IsSheet G s) (i : Int) (hi : 0 ≤ i ∧ i ≤ 39) (v : Int) (hv : -2147483648 ≤ v ∧ v ≤ 2147483647) (σ : tw_M) (hI : tw_I σ) : tw_C G yX8_set cX8_set 3 none 0 [vR s, vI i, vI v] σ (q_X8_set s i v σ) := by
  refine tw_met [(0, vR s), (1, vI i), (2, vI v)] (by decide +kernel) rfl (Nat.le_of_ble_eq_true rfl) ?_
  refine j_aload_n (pc := 0) dX8_set_0 rfl rfl ?_
  refine j_getR (pc := 1) (r := s + 1) fl_X8_9 dX8_set_1 hs.1.1 rfl ?_
  refine j_iload_n (pc := 4) dX8_set_4 rfl rfl ?_
  refine j_aload_n (pc := 5) dX8_set_5 rfl rfl ?_
  refine j_getI (pc := 6) fl_X8_19 dX8_set_6 hs.1.1 rfl ?_
  have f1 : (-2147483648 : Int) ≤ σ s 2 ∧ σ s 2 ≤ 2147483647 := tw_Ig hs.2.1 hI 2
  refine j_ifR_ne (pc := 9) (tgt := 17) ⟨by omega, by omega⟩ dX8_set_9 rfl (fun h2 => ?_) (fun h2 => ?_)
  · refine j_aload_n (pc := 17) dX8_set_17 rfl rfl ?_
    refine j_getI (pc := 18) fl_X8_19 dX8_set_18 hs.1.1 rfl ?_
    refine j_iconst (pc := 21) dX8_set_21 ?_
    refine j_icmpR_ne (pc := 22) (tgt := 30) ⟨by omega, by omega⟩ ⟨by omega, by omega⟩ dX8_set_22 rfl (fun h3 => ?_) (fun h3 => ?_)
    · refine j_iload_n (pc := 30) dX8_set_30 rfl rfl ?_
      have nv : v = nrw (σ s 2) v := by unfold nrw; rw [if_neg (by omega), if_neg (by omega)]
      refine j_iast (pc := 31) dX8_set_31 hs.1.2 (by omega) (by omega) (by decide) (j_nm (fun σ4 (eσ4 : σ4 = tw_up σ (s + 1) (i.toNat) v) => ?_))
      have hIσ4 : tw_I σ4 := tw_I_upg hI eσ4 hs.2.2 (show (-2147483648 : Int) ≤ v ∧ v ≤ 2147483647 from ⟨by omega, by omega⟩)
      have hFσ4 : tw_F (fun c j => c = s + 1) σ σ4 := tw_F_up (tw_F_rf) eσ4 (show s + 1 = s + 1 from rfl)
      have y5 : σ4 (s + 1) (i.toNat) = v := (tw_eq1 eσ4)
      exact j_vret (pc := 32) ⟨rfl, rfl⟩ dX8_set_32 rfl ⟨rfl, hIσ4, hFσ4, ((tw_eq1 eσ4).trans nv), (fun j hj => tw_ne1 eσ4 (Or.inr hj))⟩
    · refine j_iload_n (pc := 25) dX8_set_25 rfl rfl ?_
      refine j_i2s (pc := 26) dX8_set_26 (fun z6 ez6 => ?_)
      have hz6 : (-32768 : Int) ≤ z6 ∧ z6 ≤ 32767 := by rw [ez6]; exact i2s_in _
      refine j_goto (pc := 27) (tgt := 31) dX8_set_27 rfl ?_
      have nv : z6 = nrw (σ s 2) v := by unfold nrw; rw [if_neg (by omega), if_pos (by omega)]; exact ez6
      refine j_iast (pc := 31) dX8_set_31 hs.1.2 (by omega) (by omega) (by decide) (j_nm (fun σ7 (eσ7 : σ7 = tw_up σ (s + 1) (i.toNat) z6) => ?_))
      have hIσ7 : tw_I σ7 := tw_I_upg hI eσ7 hs.2.2 (show (-2147483648 : Int) ≤ z6 ∧ z6 ≤ 2147483647 from ⟨by omega, by omega⟩)
      have hFσ7 : tw_F (fun c j => c = s + 1) σ σ7 := tw_F_up (tw_F_rf) eσ7 (show s + 1 = s + 1 from rfl)
      have y8 : σ7 (s + 1) (i.toNat) = z6 := (tw_eq1 eσ7)
      exact j_vret (pc := 32) ⟨rfl, rfl⟩ dX8_set_32 rfl ⟨rfl, hIσ7, hFσ7, ((tw_eq1 eσ7).trans nv), (fun j hj => tw_ne1 eσ7 (Or.inr hj))⟩
  · refine j_iload_n (pc := 12) dX8_set_12 rfl rfl ?_
    refine j_i2b (pc := 13) dX8_set_13 (fun z9 ez9 => ?_)
    have hz9 : (-128 : Int) ≤ z9 ∧ z9 ≤ 127 := by rw [ez9]; exact i2b_in _
    refine j_goto (pc := 14) (tgt := 31) dX8_set_14 rfl ?_
    have nv : z9 = nrw (σ s 2) v := by unfold nrw; rw [if_pos (by omega)]; exact ez9
    refine j_iast (pc := 31) dX8_set_31 hs.1.2 (by omega) (by omega) (by decide) (j_nm (fun σ10 (eσ10 : σ10 = tw_up σ (s + 1) (i.toNat) z9) => ?_))
    have hIσ10 : tw_I σ10 := tw_I_upg hI eσ10 hs.2.2 (show (-2147483648 : Int) ≤ z9 ∧ z9 ≤ 2147483647 from ⟨by omega, by omega⟩)
    have hFσ10 : tw_F (fun c j => c = s + 1) σ σ10 := tw_F_up (tw_F_rf) eσ10 (show s + 1 = s + 1 from rfl)
    have y11 : σ10 (s + 1) (i.toNat) = z9 := (tw_eq1 eσ10)
    exact j_vret (pc := 32) ⟨rfl, rfl⟩ dX8_set_32 rfl ⟨rfl, hIσ10, hFσ10, ((tw_eq1 eσ10).trans nv), (fun j hj => tw_ne1 eσ10 (Or.inr hj))⟩
