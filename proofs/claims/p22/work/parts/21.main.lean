/-! 21.main -/
theorem dX11_plan_0 : decode cX11_plan 0 = .ok (.aload_n 0, 1) := by decide +kernel
theorem dX11_plan_1 : decode cX11_plan 1 = .ok (.getfield 67, 3) := by decide +kernel
theorem dX11_plan_4 : decode cX11_plan 4 = .ok (.invokevirtual 281, 3) := by decide +kernel
theorem dX11_plan_7 : decode cX11_plan 7 = .ok (.aload_n 0, 1) := by decide +kernel
theorem dX11_plan_8 : decode cX11_plan 8 = .ok (.getfield 67, 3) := by decide +kernel
theorem dX11_plan_11 : decode cX11_plan 11 = .ok (.getfield 284, 3) := by decide +kernel
theorem dX11_plan_14 : decode cX11_plan 14 = .ok (.ifCond .eq 16, 3) := by decide +kernel
theorem dX11_plan_17 : decode cX11_plan 17 = .ok (.aload_n 0, 1) := by decide +kernel
theorem dX11_plan_18 : decode cX11_plan 18 = .ok (.getfield 67, 3) := by decide +kernel
theorem dX11_plan_21 : decode cX11_plan 21 = .ok (.getfield 287, 3) := by decide +kernel
theorem dX11_plan_24 : decode cX11_plan 24 = .ok (.getfield 187, 3) := by decide +kernel
theorem dX11_plan_27 : decode cX11_plan 27 = .ok (.goto 4, 3) := by decide +kernel
theorem dX11_plan_30 : decode cX11_plan 30 = .ok (.iconst 0, 1) := by decide +kernel
theorem dX11_plan_31 : decode cX11_plan 31 = .ok (.istore_n 2, 1) := by decide +kernel
theorem dX11_plan_32 : decode cX11_plan 32 = .ok (.iload_n 1, 1) := by decide +kernel
theorem dX11_plan_33 : decode cX11_plan 33 = .ok (.iconst 2, 1) := by decide +kernel
theorem dX11_plan_34 : decode cX11_plan 34 = .ok (.iload_n 2, 1) := by decide +kernel
theorem dX11_plan_35 : decode cX11_plan 35 = .ok (.invokestatic 290, 3) := by decide +kernel
theorem dX11_plan_38 : decode cX11_plan 38 = .ok (.ifCond .ne 5, 3) := by decide +kernel
theorem dX11_plan_41 : decode cX11_plan 41 = .ok (.iconst (-1), 1) := by decide +kernel
theorem dX11_plan_42 : decode cX11_plan 42 = .ok (.ireturn, 1) := by decide +kernel
theorem dX11_plan_43 : decode cX11_plan 43 = .ok (.aload_n 0, 1) := by decide +kernel
theorem dX11_plan_44 : decode cX11_plan 44 = .ok (.getfield 67, 3) := by decide +kernel
theorem dX11_plan_47 : decode cX11_plan 47 = .ok (.getfield 284, 3) := by decide +kernel
theorem dX11_plan_50 : decode cX11_plan 50 = .ok (.ifCond .ne 6, 3) := by decide +kernel
theorem dX11_plan_53 : decode cX11_plan 53 = .ok (.bipush (-4), 2) := by decide +kernel
theorem dX11_plan_55 : decode cX11_plan 55 = .ok (.ireturn, 1) := by decide +kernel
theorem dX11_plan_56 : decode cX11_plan 56 = .ok (.iload_n 1, 1) := by decide +kernel
theorem dX11_plan_57 : decode cX11_plan 57 = .ok (.ifCond .ne 11, 3) := by decide +kernel
theorem dX11_plan_60 : decode cX11_plan 60 = .ok (.aload_n 0, 1) := by decide +kernel
theorem dX11_plan_61 : decode cX11_plan 61 = .ok (.getfield 67, 3) := by decide +kernel
theorem dX11_plan_64 : decode cX11_plan 64 = .ok (.getfield 294, 3) := by decide +kernel
theorem dX11_plan_67 : decode cX11_plan 67 = .ok (.ireturn, 1) := by decide +kernel
theorem dX11_plan_68 : decode cX11_plan 68 = .ok (.iload_n 1, 1) := by decide +kernel
theorem dX11_plan_69 : decode cX11_plan 69 = .ok (.iconst 1, 1) := by decide +kernel
theorem dX11_plan_70 : decode cX11_plan 70 = .ok (.if_icmp .ne 7, 3) := by decide +kernel
theorem dX11_plan_73 : decode cX11_plan 73 = .ok (.iload_n 2, 1) := by decide +kernel
theorem dX11_plan_74 : decode cX11_plan 74 = .ok (.goto 18, 3) := by decide +kernel
theorem dX11_plan_77 : decode cX11_plan 77 = .ok (.aload_n 0, 1) := by decide +kernel
theorem dX11_plan_78 : decode cX11_plan 78 = .ok (.getfield 67, 3) := by decide +kernel
theorem dX11_plan_81 : decode cX11_plan 81 = .ok (.getfield 287, 3) := by decide +kernel
theorem dX11_plan_84 : decode cX11_plan 84 = .ok (.getfield 190, 3) := by decide +kernel
theorem dX11_plan_87 : decode cX11_plan 87 = .ok (.iload_n 1, 1) := by decide +kernel
theorem dX11_plan_88 : decode cX11_plan 88 = .ok (.bipush 10, 2) := by decide +kernel
theorem dX11_plan_90 : decode cX11_plan 90 = .ok (.isub, 1) := by decide +kernel
theorem dX11_plan_91 : decode cX11_plan 91 = .ok (.iaload, 1) := by decide +kernel
theorem dX11_plan_92 : decode cX11_plan 92 = .ok (.ireturn, 1) := by decide +kernel
theorem dX11_keep_0 : decode cX11_keep 0 = .ok (.iload_n 1, 1) := by decide +kernel
theorem dX11_keep_1 : decode cX11_keep 1 = .ok (.iconst 1, 1) := by decide +kernel
theorem dX11_keep_2 : decode cX11_keep 2 = .ok (.if_icmp .lt 18, 3) := by decide +kernel
theorem dX11_keep_5 : decode cX11_keep 5 = .ok (.iload_n 1, 1) := by decide +kernel
theorem dX11_keep_6 : decode cX11_keep 6 = .ok (.bipush 40, 2) := by decide +kernel
theorem dX11_keep_8 : decode cX11_keep 8 = .ok (.if_icmp .gt 12, 3) := by decide +kernel
theorem dX11_keep_11 : decode cX11_keep 11 = .ok (.iload_n 2, 1) := by decide +kernel
theorem dX11_keep_12 : decode cX11_keep 12 = .ok (.ifCond .lt 8, 3) := by decide +kernel
theorem dX11_keep_15 : decode cX11_keep 15 = .ok (.iload_n 2, 1) := by decide +kernel
theorem dX11_keep_16 : decode cX11_keep 16 = .ok (.iconst 2, 1) := by decide +kernel
theorem dX11_keep_17 : decode cX11_keep 17 = .ok (.if_icmp .le 5, 3) := by decide +kernel
theorem dX11_keep_20 : decode cX11_keep 20 = .ok (.iconst (-1), 1) := by decide +kernel
theorem dX11_keep_21 : decode cX11_keep 21 = .ok (.ireturn, 1) := by decide +kernel
theorem dX11_keep_22 : decode cX11_keep 22 = .ok (.aload_n 0, 1) := by decide +kernel
theorem dX11_keep_23 : decode cX11_keep 23 = .ok (.getfield 67, 3) := by decide +kernel
theorem dX11_keep_26 : decode cX11_keep 26 = .ok (.iload_n 1, 1) := by decide +kernel
theorem dX11_keep_27 : decode cX11_keep 27 = .ok (.invokevirtual 297, 3) := by decide +kernel
theorem dX11_keep_30 : decode cX11_keep 30 = .ok (.iload_n 2, 1) := by decide +kernel
theorem dX11_keep_31 : decode cX11_keep 31 = .ok (.ifCond .ne 11, 3) := by decide +kernel
theorem dX11_keep_34 : decode cX11_keep 34 = .ok (.aload_n 0, 1) := by decide +kernel
theorem dX11_keep_35 : decode cX11_keep 35 = .ok (.getfield 67, 3) := by decide +kernel
theorem dX11_keep_38 : decode cX11_keep 38 = .ok (.invokevirtual 301, 3) := by decide +kernel
theorem dX11_keep_41 : decode cX11_keep 41 = .ok (.ireturn, 1) := by decide +kernel
theorem dX11_keep_42 : decode cX11_keep 42 = .ok (.iload_n 2, 1) := by decide +kernel
theorem dX11_keep_43 : decode cX11_keep 43 = .ok (.iconst 1, 1) := by decide +kernel
theorem dX11_keep_44 : decode cX11_keep 44 = .ok (.if_icmp .ne 13, 3) := by decide +kernel
theorem dX11_keep_47 : decode cX11_keep 47 = .ok (.aload_n 0, 1) := by decide +kernel
theorem dX11_keep_48 : decode cX11_keep 48 = .ok (.getfield 67, 3) := by decide +kernel
theorem dX11_keep_51 : decode cX11_keep 51 = .ok (.invokevirtual 304, 3) := by decide +kernel
theorem dX11_keep_54 : decode cX11_keep 54 = .ok (.goto 18, 3) := by decide +kernel
theorem dX11_keep_57 : decode cX11_keep 57 = .ok (.aload_n 0, 1) := by decide +kernel
theorem dX11_keep_58 : decode cX11_keep 58 = .ok (.getfield 67, 3) := by decide +kernel
theorem dX11_keep_61 : decode cX11_keep 61 = .ok (.invokevirtual 307, 3) := by decide +kernel
theorem dX11_keep_64 : decode cX11_keep 64 = .ok (.ifCond .eq 7, 3) := by decide +kernel
theorem dX11_keep_67 : decode cX11_keep 67 = .ok (.iconst 1, 1) := by decide +kernel
theorem dX11_keep_68 : decode cX11_keep 68 = .ok (.goto 4, 3) := by decide +kernel
theorem dX11_keep_71 : decode cX11_keep 71 = .ok (.iconst 0, 1) := by decide +kernel
theorem dX11_keep_72 : decode cX11_keep 72 = .ok (.ireturn, 1) := by decide +kernel
theorem dX11_best_0 : decode cX11_best 0 = .ok (.iload_n 1, 1) := by decide +kernel
theorem dX11_best_1 : decode cX11_best 1 = .ok (.ifCond .lt 8, 3) := by decide +kernel
theorem dX11_best_4 : decode cX11_best 4 = .ok (.iload_n 1, 1) := by decide +kernel
theorem dX11_best_5 : decode cX11_best 5 = .ok (.iconst 2, 1) := by decide +kernel
theorem dX11_best_6 : decode cX11_best 6 = .ok (.if_icmp .le 5, 3) := by decide +kernel
theorem dX11_best_9 : decode cX11_best 9 = .ok (.iconst (-1), 1) := by decide +kernel
theorem dX11_best_10 : decode cX11_best 10 = .ok (.ireturn, 1) := by decide +kernel
theorem dX11_best_11 : decode cX11_best 11 = .ok (.aload_n 0, 1) := by decide +kernel
theorem dX11_best_12 : decode cX11_best 12 = .ok (.getfield 67, 3) := by decide +kernel
theorem dX11_best_15 : decode cX11_best 15 = .ok (.invokevirtual 311, 3) := by decide +kernel
theorem dX11_best_18 : decode cX11_best 18 = .ok (.aload_n 0, 1) := by decide +kernel
theorem dX11_best_19 : decode cX11_best 19 = .ok (.getfield 67, 3) := by decide +kernel
theorem dX11_best_22 : decode cX11_best 22 = .ok (.getfield 284, 3) := by decide +kernel
theorem dX11_best_25 : decode cX11_best 25 = .ok (.ifCond .eq 13, 3) := by decide +kernel
theorem dX11_best_28 : decode cX11_best 28 = .ok (.aload_n 0, 1) := by decide +kernel
theorem dX11_best_29 : decode cX11_best 29 = .ok (.getfield 67, 3) := by decide +kernel
theorem dX11_best_32 : decode cX11_best 32 = .ok (.getfield 314, 3) := by decide +kernel
theorem dX11_best_35 : decode cX11_best 35 = .ok (.ifCond .ne 6, 3) := by decide +kernel
theorem dX11_best_38 : decode cX11_best 38 = .ok (.bipush (-4), 2) := by decide +kernel
theorem dX11_best_40 : decode cX11_best 40 = .ok (.ireturn, 1) := by decide +kernel
theorem dX11_best_41 : decode cX11_best 41 = .ok (.iload_n 1, 1) := by decide +kernel
theorem dX11_best_42 : decode cX11_best 42 = .ok (.ifCond .ne 11, 3) := by decide +kernel
theorem dX11_best_45 : decode cX11_best 45 = .ok (.aload_n 0, 1) := by decide +kernel
theorem dX11_best_46 : decode cX11_best 46 = .ok (.getfield 67, 3) := by decide +kernel
theorem dX11_best_49 : decode cX11_best 49 = .ok (.getfield 314, 3) := by decide +kernel
theorem dX11_best_52 : decode cX11_best 52 = .ok (.ireturn, 1) := by decide +kernel
theorem dX11_best_53 : decode cX11_best 53 = .ok (.iload_n 1, 1) := by decide +kernel
theorem dX11_best_54 : decode cX11_best 54 = .ok (.iconst 1, 1) := by decide +kernel
theorem dX11_best_55 : decode cX11_best 55 = .ok (.if_icmp .ne 13, 3) := by decide +kernel
theorem dX11_best_58 : decode cX11_best 58 = .ok (.aload_n 0, 1) := by decide +kernel
theorem dX11_best_59 : decode cX11_best 59 = .ok (.getfield 67, 3) := by decide +kernel
theorem dX11_best_62 : decode cX11_best 62 = .ok (.getfield 317, 3) := by decide +kernel
theorem dX11_best_65 : decode cX11_best 65 = .ok (.goto 18, 3) := by decide +kernel
theorem dX11_best_68 : decode cX11_best 68 = .ok (.aload_n 0, 1) := by decide +kernel
theorem dX11_best_69 : decode cX11_best 69 = .ok (.getfield 67, 3) := by decide +kernel
theorem dX11_best_72 : decode cX11_best 72 = .ok (.getfield 317, 3) := by decide +kernel
theorem dX11_best_75 : decode cX11_best 75 = .ok (.aload_n 0, 1) := by decide +kernel
theorem dX11_best_76 : decode cX11_best 76 = .ok (.getfield 67, 3) := by decide +kernel
theorem dX11_best_79 : decode cX11_best 79 = .ok (.getfield 294, 3) := by decide +kernel
theorem dX11_best_82 : decode cX11_best 82 = .ok (.isub, 1) := by decide +kernel
theorem dX11_best_83 : decode cX11_best 83 = .ok (.ireturn, 1) := by decide +kernel
theorem dX11_adopt_0 : decode cX11_adopt 0 = .ok (.aload_n 0, 1) := by decide +kernel
theorem dX11_adopt_1 : decode cX11_adopt 1 = .ok (.getfield 67, 3) := by decide +kernel
theorem dX11_adopt_4 : decode cX11_adopt 4 = .ok (.invokevirtual 281, 3) := by decide +kernel
theorem dX11_adopt_7 : decode cX11_adopt 7 = .ok (.aload_n 0, 1) := by decide +kernel
theorem dX11_adopt_8 : decode cX11_adopt 8 = .ok (.getfield 67, 3) := by decide +kernel
theorem dX11_adopt_11 : decode cX11_adopt 11 = .ok (.getfield 284, 3) := by decide +kernel
theorem dX11_adopt_14 : decode cX11_adopt 14 = .ok (.ifCond .ne 6, 3) := by decide +kernel
theorem dX11_adopt_17 : decode cX11_adopt 17 = .ok (.bipush (-4), 2) := by decide +kernel
theorem dX11_adopt_19 : decode cX11_adopt 19 = .ok (.ireturn, 1) := by decide +kernel
theorem dX11_adopt_20 : decode cX11_adopt 20 = .ok (.aload_n 0, 1) := by decide +kernel
theorem dX11_adopt_21 : decode cX11_adopt 21 = .ok (.getfield 26, 3) := by decide +kernel
theorem dX11_adopt_24 : decode cX11_adopt 24 = .ok (.invokevirtual 207, 3) := by decide +kernel
theorem dX11_adopt_27 : decode cX11_adopt 27 = .ok (.pop, 1) := by decide +kernel
theorem dX11_adopt_28 : decode cX11_adopt 28 = .ok (.aload_n 0, 1) := by decide +kernel
theorem dX11_adopt_29 : decode cX11_adopt 29 = .ok (.getfield 67, 3) := by decide +kernel
theorem dX11_adopt_32 : decode cX11_adopt 32 = .ok (.getfield 287, 3) := by decide +kernel
theorem dX11_adopt_35 : decode cX11_adopt 35 = .ok (.astore_n 1, 1) := by decide +kernel
theorem dX11_adopt_36 : decode cX11_adopt 36 = .ok (.iconst 0, 1) := by decide +kernel
theorem dX11_adopt_37 : decode cX11_adopt 37 = .ok (.istore_n 2, 1) := by decide +kernel
theorem dX11_adopt_38 : decode cX11_adopt 38 = .ok (.iload_n 2, 1) := by decide +kernel
theorem dX11_adopt_39 : decode cX11_adopt 39 = .ok (.aload_n 1, 1) := by decide +kernel
theorem dX11_adopt_40 : decode cX11_adopt 40 = .ok (.getfield 187, 3) := by decide +kernel
theorem dX11_adopt_43 : decode cX11_adopt 43 = .ok (.if_icmp .ge 33, 3) := by decide +kernel
theorem dX11_adopt_46 : decode cX11_adopt 46 = .ok (.aload_n 0, 1) := by decide +kernel
theorem dX11_adopt_47 : decode cX11_adopt 47 = .ok (.getfield 26, 3) := by decide +kernel
theorem dX11_adopt_50 : decode cX11_adopt 50 = .ok (.aload_n 0, 1) := by decide +kernel
theorem dX11_adopt_51 : decode cX11_adopt 51 = .ok (.getfield 10, 3) := by decide +kernel
theorem dX11_adopt_54 : decode cX11_adopt 54 = .ok (.aload_n 1, 1) := by decide +kernel
theorem dX11_adopt_55 : decode cX11_adopt 55 = .ok (.getfield 190, 3) := by decide +kernel
theorem dX11_adopt_58 : decode cX11_adopt 58 = .ok (.iload_n 2, 1) := by decide +kernel
theorem dX11_adopt_59 : decode cX11_adopt 59 = .ok (.iaload, 1) := by decide +kernel
theorem dX11_adopt_60 : decode cX11_adopt 60 = .ok (.aload_n 1, 1) := by decide +kernel
theorem dX11_adopt_61 : decode cX11_adopt 61 = .ok (.getfield 193, 3) := by decide +kernel
theorem dX11_adopt_64 : decode cX11_adopt 64 = .ok (.iload_n 2, 1) := by decide +kernel
theorem dX11_adopt_65 : decode cX11_adopt 65 = .ok (.iaload, 1) := by decide +kernel
theorem dX11_adopt_66 : decode cX11_adopt 66 = .ok (.invokevirtual 178, 3) := by decide +kernel
theorem dX11_adopt_69 : decode cX11_adopt 69 = .ok (.pop, 1) := by decide +kernel
theorem dX11_adopt_70 : decode cX11_adopt 70 = .ok (.iinc 2 1, 3) := by decide +kernel
theorem dX11_adopt_73 : decode cX11_adopt 73 = .ok (.goto (-35), 3) := by decide +kernel
theorem dX11_adopt_76 : decode cX11_adopt 76 = .ok (.aload_n 0, 1) := by decide +kernel
theorem dX11_adopt_77 : decode cX11_adopt 77 = .ok (.getfield 26, 3) := by decide +kernel
theorem dX11_adopt_80 : decode cX11_adopt 80 = .ok (.getfield 168, 3) := by decide +kernel
theorem dX11_adopt_83 : decode cX11_adopt 83 = .ok (.getfield 187, 3) := by decide +kernel
theorem dX11_adopt_86 : decode cX11_adopt 86 = .ok (.ireturn, 1) := by decide +kernel
theorem dX11_drag_0 : decode cX11_drag 0 = .ok (.aload_n 0, 1) := by decide +kernel
theorem dX11_drag_1 : decode cX11_drag 1 = .ok (.getfield 26, 3) := by decide +kernel
theorem dX11_drag_4 : decode cX11_drag 4 = .ok (.getfield 168, 3) := by decide +kernel
theorem dX11_drag_7 : decode cX11_drag 7 = .ok (.astore_n 2, 1) := by decide +kernel
theorem dX11_drag_8 : decode cX11_drag 8 = .ok (.iload_n 1, 1) := by decide +kernel
theorem dX11_drag_9 : decode cX11_drag 9 = .ok (.tableswitch 65 0 2 #[27, 36, 45], 27) := by decide +kernel
theorem dX11_drag_36 : decode cX11_drag 36 = .ok (.aload_n 2, 1) := by decide +kernel
theorem dX11_drag_37 : decode cX11_drag 37 = .ok (.aload_n 0, 1) := by decide +kernel
theorem dX11_drag_38 : decode cX11_drag 38 = .ok (.getfield 10, 3) := by decide +kernel
theorem dX11_drag_41 : decode cX11_drag 41 = .ok (.invokevirtual 320, 3) := by decide +kernel
theorem dX11_drag_44 : decode cX11_drag 44 = .ok (.ireturn, 1) := by decide +kernel
theorem dX11_drag_45 : decode cX11_drag 45 = .ok (.aload_n 2, 1) := by decide +kernel
theorem dX11_drag_46 : decode cX11_drag 46 = .ok (.aload_n 0, 1) := by decide +kernel
theorem dX11_drag_47 : decode cX11_drag 47 = .ok (.getfield 10, 3) := by decide +kernel
theorem dX11_drag_50 : decode cX11_drag 50 = .ok (.invokevirtual 324, 3) := by decide +kernel
theorem dX11_drag_53 : decode cX11_drag 53 = .ok (.ireturn, 1) := by decide +kernel
theorem dX11_drag_54 : decode cX11_drag 54 = .ok (.aload_n 0, 1) := by decide +kernel
theorem dX11_drag_55 : decode cX11_drag 55 = .ok (.getfield 10, 3) := by decide +kernel
theorem dX11_drag_58 : decode cX11_drag 58 = .ok (.invokevirtual 327, 3) := by decide +kernel
theorem dX11_drag_61 : decode cX11_drag 61 = .ok (.aload_n 2, 1) := by decide +kernel
theorem dX11_drag_62 : decode cX11_drag 62 = .ok (.aload_n 0, 1) := by decide +kernel
theorem dX11_drag_63 : decode cX11_drag 63 = .ok (.getfield 10, 3) := by decide +kernel
theorem dX11_drag_66 : decode cX11_drag 66 = .ok (.invokevirtual 320, 3) := by decide +kernel
theorem dX11_drag_69 : decode cX11_drag 69 = .ok (.bipush 10, 2) := by decide +kernel
theorem dX11_drag_71 : decode cX11_drag 71 = .ok (.idiv, 1) := by decide +kernel
theorem dX11_drag_72 : decode cX11_drag 72 = .ok (.iadd, 1) := by decide +kernel
theorem dX11_drag_73 : decode cX11_drag 73 = .ok (.ireturn, 1) := by decide +kernel
theorem dX11_drag_74 : decode cX11_drag 74 = .ok (.iconst (-1), 1) := by decide +kernel
theorem dX11_drag_75 : decode cX11_drag 75 = .ok (.ireturn, 1) := by decide +kernel
theorem dX11_slings_0 : decode cX11_slings 0 = .ok (.iload_n 1, 1) := by decide +kernel
theorem dX11_slings_1 : decode cX11_slings 1 = .ok (.ifCond .lt 16, 3) := by decide +kernel
theorem dX11_slings_4 : decode cX11_slings 4 = .ok (.iload_n 1, 1) := by decide +kernel
theorem dX11_slings_5 : decode cX11_slings 5 = .ok (.bipush 10, 2) := by decide +kernel
theorem dX11_slings_7 : decode cX11_slings 7 = .ok (.if_icmp .gt 10, 3) := by decide +kernel
theorem dX11_slings_10 : decode cX11_slings 10 = .ok (.iload_n 2, 1) := by decide +kernel
theorem dX11_slings_11 : decode cX11_slings 11 = .ok (.invokestatic 242, 3) := by decide +kernel
theorem dX11_slings_14 : decode cX11_slings 14 = .ok (.ifCond .ne 5, 3) := by decide +kernel
theorem dX11_slings_17 : decode cX11_slings 17 = .ok (.iconst (-1), 1) := by decide +kernel
theorem dX11_slings_18 : decode cX11_slings 18 = .ok (.ireturn, 1) := by decide +kernel
theorem dX11_slings_19 : decode cX11_slings 19 = .ok (.aload_n 0, 1) := by decide +kernel
theorem dX11_slings_20 : decode cX11_slings 20 = .ok (.getfield 26, 3) := by decide +kernel
theorem dX11_slings_23 : decode cX11_slings 23 = .ok (.getfield 168, 3) := by decide +kernel
theorem dX11_slings_26 : decode cX11_slings 26 = .ok (.aload_n 0, 1) := by decide +kernel
theorem dX11_slings_27 : decode cX11_slings 27 = .ok (.getfield 10, 3) := by decide +kernel
theorem dX11_slings_30 : decode cX11_slings 30 = .ok (.iload_n 1, 1) := by decide +kernel
theorem dX11_slings_31 : decode cX11_slings 31 = .ok (.invokevirtual 330, 3) := by decide +kernel
theorem dX11_slings_34 : decode cX11_slings 34 = .ok (.istore_n 3, 1) := by decide +kernel
theorem dX11_slings_35 : decode cX11_slings 35 = .ok (.iload_n 2, 1) := by decide +kernel
theorem dX11_slings_36 : decode cX11_slings 36 = .ok (.ifCond .ne 21, 3) := by decide +kernel
theorem dX11_slings_39 : decode cX11_slings 39 = .ok (.aload_n 0, 1) := by decide +kernel
theorem dX11_slings_40 : decode cX11_slings 40 = .ok (.getfield 26, 3) := by decide +kernel
theorem dX11_slings_43 : decode cX11_slings 43 = .ok (.getfield 168, 3) := by decide +kernel
theorem dX11_slings_46 : decode cX11_slings 46 = .ok (.aload_n 0, 1) := by decide +kernel
theorem dX11_slings_47 : decode cX11_slings 47 = .ok (.getfield 10, 3) := by decide +kernel
theorem dX11_slings_50 : decode cX11_slings 50 = .ok (.iload_n 3, 1) := by decide +kernel
theorem dX11_slings_51 : decode cX11_slings 51 = .ok (.invokevirtual 333, 3) := by decide +kernel
theorem dX11_slings_54 : decode cX11_slings 54 = .ok (.goto 4, 3) := by decide +kernel
theorem dX11_slings_57 : decode cX11_slings 57 = .ok (.iload_n 3, 1) := by decide +kernel
theorem dX11_slings_58 : decode cX11_slings 58 = .ok (.ireturn, 1) := by decide +kernel
theorem dX11_pitches_0 : decode cX11_pitches 0 = .ok (.aload_n 0, 1) := by decide +kernel
theorem dX11_pitches_1 : decode cX11_pitches 1 = .ok (.getfield 74, 3) := by decide +kernel
theorem dX11_pitches_4 : decode cX11_pitches 4 = .ok (.invokevirtual 336, 3) := by decide +kernel
theorem dX11_pitches_7 : decode cX11_pitches 7 = .ok (.iload_n 1, 1) := by decide +kernel
theorem dX11_pitches_8 : decode cX11_pitches 8 = .ok (.iconst 1, 1) := by decide +kernel
theorem dX11_pitches_9 : decode cX11_pitches 9 = .ok (.aload_n 0, 1) := by decide +kernel
theorem dX11_pitches_10 : decode cX11_pitches 10 = .ok (.getfield 74, 3) := by decide +kernel
theorem dX11_pitches_13 : decode cX11_pitches 13 = .ok (.getfield 339, 3) := by decide +kernel
theorem dX11_pitches_16 : decode cX11_pitches 16 = .ok (.invokestatic 290, 3) := by decide +kernel
theorem dX11_pitches_19 : decode cX11_pitches 19 = .ok (.ifCond .ne 5, 3) := by decide +kernel
theorem dX11_pitches_22 : decode cX11_pitches 22 = .ok (.iconst (-1), 1) := by decide +kernel
theorem dX11_pitches_23 : decode cX11_pitches 23 = .ok (.ireturn, 1) := by decide +kernel
theorem dX11_pitches_24 : decode cX11_pitches 24 = .ok (.aload_n 0, 1) := by decide +kernel
theorem dX11_pitches_25 : decode cX11_pitches 25 = .ok (.getfield 74, 3) := by decide +kernel
theorem dX11_pitches_28 : decode cX11_pitches 28 = .ok (.getfield 339, 3) := by decide +kernel
theorem dX11_pitches_31 : decode cX11_pitches 31 = .ok (.ifCond .ne 6, 3) := by decide +kernel
theorem dX11_pitches_34 : decode cX11_pitches 34 = .ok (.bipush (-4), 2) := by decide +kernel
theorem dX11_pitches_36 : decode cX11_pitches 36 = .ok (.ireturn, 1) := by decide +kernel
theorem dX11_pitches_37 : decode cX11_pitches 37 = .ok (.iload_n 1, 1) := by decide +kernel
theorem dX11_pitches_38 : decode cX11_pitches 38 = .ok (.ifCond .ne 13, 3) := by decide +kernel
theorem dX11_pitches_41 : decode cX11_pitches 41 = .ok (.aload_n 0, 1) := by decide +kernel
theorem dX11_pitches_42 : decode cX11_pitches 42 = .ok (.getfield 74, 3) := by decide +kernel
theorem dX11_pitches_45 : decode cX11_pitches 45 = .ok (.getfield 339, 3) := by decide +kernel
theorem dX11_pitches_48 : decode cX11_pitches 48 = .ok (.goto 15, 3) := by decide +kernel
theorem dX11_pitches_51 : decode cX11_pitches 51 = .ok (.aload_n 0, 1) := by decide +kernel
theorem dX11_pitches_52 : decode cX11_pitches 52 = .ok (.getfield 74, 3) := by decide +kernel
theorem dX11_pitches_55 : decode cX11_pitches 55 = .ok (.getfield 340, 3) := by decide +kernel
theorem dX11_pitches_58 : decode cX11_pitches 58 = .ok (.iload_n 1, 1) := by decide +kernel
theorem dX11_pitches_59 : decode cX11_pitches 59 = .ok (.bipush 10, 2) := by decide +kernel
theorem dX11_pitches_61 : decode cX11_pitches 61 = .ok (.isub, 1) := by decide +kernel
theorem dX11_pitches_62 : decode cX11_pitches 62 = .ok (.iaload, 1) := by decide +kernel
theorem dX11_pitches_63 : decode cX11_pitches 63 = .ok (.ireturn, 1) := by decide +kernel
theorem dX11_leads_0 : decode cX11_leads 0 = .ok (.iload_n 1, 1) := by decide +kernel
theorem dX11_leads_1 : decode cX11_leads 1 = .ok (.iconst 1, 1) := by decide +kernel
theorem dX11_leads_2 : decode cX11_leads 2 = .ok (.if_icmp .lt 20, 3) := by decide +kernel
theorem dX11_leads_5 : decode cX11_leads 5 = .ok (.iload_n 1, 1) := by decide +kernel
theorem dX11_leads_6 : decode cX11_leads 6 = .ok (.bipush 9, 2) := by decide +kernel
theorem dX11_leads_8 : decode cX11_leads 8 = .ok (.if_icmp .gt 14, 3) := by decide +kernel
theorem dX11_leads_11 : decode cX11_leads 11 = .ok (.iload_n 2, 1) := by decide +kernel
theorem dX11_leads_12 : decode cX11_leads 12 = .ok (.iconst 1, 1) := by decide +kernel
theorem dX11_leads_13 : decode cX11_leads 13 = .ok (.if_icmp .lt 9, 3) := by decide +kernel
theorem dX11_leads_16 : decode cX11_leads 16 = .ok (.iload_n 2, 1) := by decide +kernel
theorem dX11_leads_17 : decode cX11_leads 17 = .ok (.bipush 9, 2) := by decide +kernel
theorem dX11_leads_19 : decode cX11_leads 19 = .ok (.if_icmp .le 5, 3) := by decide +kernel
theorem dX11_leads_22 : decode cX11_leads 22 = .ok (.iconst (-1), 1) := by decide +kernel
theorem dX11_leads_23 : decode cX11_leads 23 = .ok (.ireturn, 1) := by decide +kernel
theorem dX11_leads_24 : decode cX11_leads 24 = .ok (.aload_n 0, 1) := by decide +kernel
theorem dX11_leads_25 : decode cX11_leads 25 = .ok (.getfield 74, 3) := by decide +kernel
theorem dX11_leads_28 : decode cX11_leads 28 = .ok (.invokevirtual 336, 3) := by decide +kernel
theorem dX11_leads_31 : decode cX11_leads 31 = .ok (.iload 4, 2) := by decide +kernel
theorem dX11_leads_33 : decode cX11_leads 33 = .ok (.iconst 1, 1) := by decide +kernel
theorem dX11_leads_34 : decode cX11_leads 34 = .ok (.aload_n 0, 1) := by decide +kernel
theorem dX11_leads_35 : decode cX11_leads 35 = .ok (.getfield 74, 3) := by decide +kernel
theorem dX11_leads_38 : decode cX11_leads 38 = .ok (.getfield 339, 3) := by decide +kernel
theorem dX11_leads_41 : decode cX11_leads 41 = .ok (.invokestatic 290, 3) := by decide +kernel
theorem dX11_leads_44 : decode cX11_leads 44 = .ok (.ifCond .ne 5, 3) := by decide +kernel
theorem dX11_leads_47 : decode cX11_leads 47 = .ok (.iconst (-1), 1) := by decide +kernel
theorem dX11_leads_48 : decode cX11_leads 48 = .ok (.ireturn, 1) := by decide +kernel
theorem dX11_leads_49 : decode cX11_leads 49 = .ok (.aload_n 0, 1) := by decide +kernel
theorem dX11_leads_50 : decode cX11_leads 50 = .ok (.getfield 74, 3) := by decide +kernel
theorem dX11_leads_53 : decode cX11_leads 53 = .ok (.getfield 339, 3) := by decide +kernel
theorem dX11_leads_56 : decode cX11_leads 56 = .ok (.ifCond .ne 6, 3) := by decide +kernel
theorem dX11_leads_59 : decode cX11_leads 59 = .ok (.bipush (-4), 2) := by decide +kernel
theorem dX11_leads_61 : decode cX11_leads 61 = .ok (.ireturn, 1) := by decide +kernel
theorem dX11_leads_62 : decode cX11_leads 62 = .ok (.iload_n 3, 1) := by decide +kernel
theorem dX11_leads_63 : decode cX11_leads 63 = .ok (.ifCond .eq 15, 3) := by decide +kernel
theorem dX11_leads_66 : decode cX11_leads 66 = .ok (.aload_n 0, 1) := by decide +kernel
theorem dX11_leads_67 : decode cX11_leads 67 = .ok (.getfield 74, 3) := by decide +kernel
theorem dX11_leads_70 : decode cX11_leads 70 = .ok (.iload_n 1, 1) := by decide +kernel
theorem dX11_leads_71 : decode cX11_leads 71 = .ok (.iload_n 2, 1) := by decide +kernel
theorem dX11_leads_72 : decode cX11_leads 72 = .ok (.invokevirtual 343, 3) := by decide +kernel
theorem dX11_leads_75 : decode cX11_leads 75 = .ok (.goto 12, 3) := by decide +kernel
theorem dX11_leads_78 : decode cX11_leads 78 = .ok (.aload_n 0, 1) := by decide +kernel
theorem dX11_leads_79 : decode cX11_leads 79 = .ok (.getfield 74, 3) := by decide +kernel
theorem dX11_leads_82 : decode cX11_leads 82 = .ok (.iload_n 1, 1) := by decide +kernel
theorem dX11_leads_83 : decode cX11_leads 83 = .ok (.iload_n 2, 1) := by decide +kernel
theorem dX11_leads_84 : decode cX11_leads 84 = .ok (.invokevirtual 347, 3) := by decide +kernel
theorem dX11_leads_87 : decode cX11_leads 87 = .ok (.iload 4, 2) := by decide +kernel
theorem dX11_leads_89 : decode cX11_leads 89 = .ok (.ifCond .ne 13, 3) := by decide +kernel
theorem dX11_leads_92 : decode cX11_leads 92 = .ok (.aload_n 0, 1) := by decide +kernel
theorem dX11_leads_93 : decode cX11_leads 93 = .ok (.getfield 74, 3) := by decide +kernel
theorem dX11_leads_96 : decode cX11_leads 96 = .ok (.getfield 350, 3) := by decide +kernel
theorem dX11_leads_99 : decode cX11_leads 99 = .ok (.goto 16, 3) := by decide +kernel
theorem dX11_leads_102 : decode cX11_leads 102 = .ok (.aload_n 0, 1) := by decide +kernel
theorem dX11_leads_103 : decode cX11_leads 103 = .ok (.getfield 74, 3) := by decide +kernel
theorem dX11_leads_106 : decode cX11_leads 106 = .ok (.getfield 353, 3) := by decide +kernel
theorem dX11_leads_109 : decode cX11_leads 109 = .ok (.iload 4, 2) := by decide +kernel
theorem dX11_leads_111 : decode cX11_leads 111 = .ok (.bipush 10, 2) := by decide +kernel
theorem dX11_leads_113 : decode cX11_leads 113 = .ok (.isub, 1) := by decide +kernel
theorem dX11_leads_114 : decode cX11_leads 114 = .ok (.iaload, 1) := by decide +kernel
theorem dX11_leads_115 : decode cX11_leads 115 = .ok (.ireturn, 1) := by decide +kernel
theorem dX11_down_0 : decode cX11_down 0 = .ok (.iload_n 1, 1) := by decide +kernel
theorem dX11_down_1 : decode cX11_down 1 = .ok (.ifCond .eq 16, 3) := by decide +kernel
theorem dX11_down_4 : decode cX11_down 4 = .ok (.aload_n 0, 1) := by decide +kernel
theorem dX11_down_5 : decode cX11_down 5 = .ok (.getfield 10, 3) := by decide +kernel
theorem dX11_down_8 : decode cX11_down 8 = .ok (.iload_n 1, 1) := by decide +kernel
theorem dX11_down_9 : decode cX11_down 9 = .ok (.invokevirtual 149, 3) := by decide +kernel
theorem dX11_down_12 : decode cX11_down 12 = .ok (.ifCond .ne 5, 3) := by decide +kernel
theorem dX11_down_15 : decode cX11_down 15 = .ok (.iconst (-1), 1) := by decide +kernel
theorem dX11_down_16 : decode cX11_down 16 = .ok (.ireturn, 1) := by decide +kernel
theorem dX11_down_17 : decode cX11_down 17 = .ok (.aload_n 0, 1) := by decide +kernel
theorem dX11_down_18 : decode cX11_down 18 = .ok (.getfield 74, 3) := by decide +kernel
theorem dX11_down_21 : decode cX11_down 21 = .ok (.iload_n 1, 1) := by decide +kernel
theorem dX11_down_22 : decode cX11_down 22 = .ok (.invokevirtual 356, 3) := by decide +kernel
theorem dX11_down_25 : decode cX11_down 25 = .ok (.istore_n 2, 1) := by decide +kernel
theorem dX11_down_26 : decode cX11_down 26 = .ok (.iload_n 2, 1) := by decide +kernel
theorem dX11_down_27 : decode cX11_down 27 = .ok (.ifCond .ge 8, 3) := by decide +kernel
theorem dX11_down_30 : decode cX11_down 30 = .ok (.bipush (-4), 2) := by decide +kernel
theorem dX11_down_32 : decode cX11_down 32 = .ok (.goto 4, 3) := by decide +kernel
theorem dX11_down_35 : decode cX11_down 35 = .ok (.iload_n 2, 1) := by decide +kernel
theorem dX11_down_36 : decode cX11_down 36 = .ok (.ireturn, 1) := by decide +kernel
theorem dX11_tried_0 : decode cX11_tried 0 = .ok (.iload_n 1, 1) := by decide +kernel
theorem dX11_tried_1 : decode cX11_tried 1 = .ok (.invokestatic 242, 3) := by decide +kernel
theorem dX11_tried_4 : decode cX11_tried 4 = .ok (.ifCond .ne 5, 3) := by decide +kernel
theorem dX11_tried_7 : decode cX11_tried 7 = .ok (.iconst (-1), 1) := by decide +kernel
theorem dX11_tried_8 : decode cX11_tried 8 = .ok (.ireturn, 1) := by decide +kernel
theorem dX11_tried_9 : decode cX11_tried 9 = .ok (.aload_n 0, 1) := by decide +kernel
theorem dX11_tried_10 : decode cX11_tried 10 = .ok (.getfield 26, 3) := by decide +kernel
theorem dX11_tried_13 : decode cX11_tried 13 = .ok (.invokevirtual 359, 3) := by decide +kernel
theorem dX11_tried_16 : decode cX11_tried 16 = .ok (.sipush 999, 3) := by decide +kernel
theorem dX11_tried_19 : decode cX11_tried 19 = .ok (.if_icmp .lt 6, 3) := by decide +kernel
theorem dX11_tried_22 : decode cX11_tried 22 = .ok (.bipush (-3), 2) := by decide +kernel
theorem dX11_tried_24 : decode cX11_tried 24 = .ok (.ireturn, 1) := by decide +kernel
theorem dX11_tried_25 : decode cX11_tried 25 = .ok (.aload_n 0, 1) := by decide +kernel
theorem dX11_tried_26 : decode cX11_tried 26 = .ok (.getfield 26, 3) := by decide +kernel
theorem dX11_tried_29 : decode cX11_tried 29 = .ok (.getfield 362, 3) := by decide +kernel
theorem dX11_tried_32 : decode cX11_tried 32 = .ok (.iload_n 1, 1) := by decide +kernel
theorem dX11_tried_33 : decode cX11_tried 33 = .ok (.dup2, 1) := by decide +kernel
theorem dX11_tried_34 : decode cX11_tried 34 = .ok (.iaload, 1) := by decide +kernel
theorem dX11_tried_35 : decode cX11_tried 35 = .ok (.iconst 1, 1) := by decide +kernel
theorem dX11_tried_36 : decode cX11_tried 36 = .ok (.iadd, 1) := by decide +kernel
theorem dX11_tried_37 : decode cX11_tried 37 = .ok (.iastore, 1) := by decide +kernel
theorem dX11_tried_38 : decode cX11_tried 38 = .ok (.iload_n 2, 1) := by decide +kernel
theorem dX11_tried_39 : decode cX11_tried 39 = .ok (.ifCond .eq 16, 3) := by decide +kernel
theorem dX11_tried_42 : decode cX11_tried 42 = .ok (.aload_n 0, 1) := by decide +kernel
theorem dX11_tried_43 : decode cX11_tried 43 = .ok (.getfield 26, 3) := by decide +kernel
theorem dX11_tried_46 : decode cX11_tried 46 = .ok (.getfield 365, 3) := by decide +kernel
theorem dX11_tried_49 : decode cX11_tried 49 = .ok (.iload_n 1, 1) := by decide +kernel
theorem dX11_tried_50 : decode cX11_tried 50 = .ok (.dup2, 1) := by decide +kernel
theorem dX11_tried_51 : decode cX11_tried 51 = .ok (.iaload, 1) := by decide +kernel
theorem dX11_tried_52 : decode cX11_tried 52 = .ok (.iconst 1, 1) := by decide +kernel
theorem dX11_tried_53 : decode cX11_tried 53 = .ok (.iadd, 1) := by decide +kernel
theorem dX11_tried_54 : decode cX11_tried 54 = .ok (.iastore, 1) := by decide +kernel
theorem dX11_tried_55 : decode cX11_tried 55 = .ok (.aload_n 0, 1) := by decide +kernel
theorem dX11_tried_56 : decode cX11_tried 56 = .ok (.getfield 26, 3) := by decide +kernel
theorem dX11_tried_59 : decode cX11_tried 59 = .ok (.getfield 362, 3) := by decide +kernel
theorem dX11_tried_62 : decode cX11_tried 62 = .ok (.iload_n 1, 1) := by decide +kernel
theorem dX11_tried_63 : decode cX11_tried 63 = .ok (.iaload, 1) := by decide +kernel
theorem dX11_tried_64 : decode cX11_tried 64 = .ok (.ireturn, 1) := by decide +kernel
theorem dX11_eye_0 : decode cX11_eye 0 = .ok (.iload_n 1, 1) := by decide +kernel
theorem dX11_eye_1 : decode cX11_eye 1 = .ok (.invokestatic 242, 3) := by decide +kernel
theorem dX11_eye_4 : decode cX11_eye 4 = .ok (.ifCond .eq 10, 3) := by decide +kernel
theorem dX11_eye_7 : decode cX11_eye 7 = .ok (.iload_n 2, 1) := by decide +kernel
theorem dX11_eye_8 : decode cX11_eye 8 = .ok (.invokestatic 242, 3) := by decide +kernel
theorem dX11_eye_11 : decode cX11_eye 11 = .ok (.ifCond .ne 5, 3) := by decide +kernel
theorem dX11_eye_14 : decode cX11_eye 14 = .ok (.iconst (-1), 1) := by decide +kernel
theorem dX11_eye_15 : decode cX11_eye 15 = .ok (.ireturn, 1) := by decide +kernel
theorem dX11_eye_16 : decode cX11_eye 16 = .ok (.aload_n 0, 1) := by decide +kernel
theorem dX11_eye_17 : decode cX11_eye 17 = .ok (.getfield 26, 3) := by decide +kernel
theorem dX11_eye_20 : decode cX11_eye 20 = .ok (.getfield 362, 3) := by decide +kernel
theorem dX11_eye_23 : decode cX11_eye 23 = .ok (.iload_n 1, 1) := by decide +kernel
theorem dX11_eye_24 : decode cX11_eye 24 = .ok (.iaload, 1) := by decide +kernel
theorem dX11_eye_25 : decode cX11_eye 25 = .ok (.ifCond .ne 6, 3) := by decide +kernel
theorem dX11_eye_28 : decode cX11_eye 28 = .ok (.bipush (-4), 2) := by decide +kernel
theorem dX11_eye_30 : decode cX11_eye 30 = .ok (.ireturn, 1) := by decide +kernel
theorem dX11_eye_31 : decode cX11_eye 31 = .ok (.aload_n 0, 1) := by decide +kernel
theorem dX11_eye_32 : decode cX11_eye 32 = .ok (.getfield 58, 3) := by decide +kernel
theorem dX11_eye_35 : decode cX11_eye 35 = .ok (.aload_n 0, 1) := by decide +kernel
theorem dX11_eye_36 : decode cX11_eye 36 = .ok (.getfield 26, 3) := by decide +kernel
theorem dX11_eye_39 : decode cX11_eye 39 = .ok (.getfield 365, 3) := by decide +kernel
theorem dX11_eye_42 : decode cX11_eye 42 = .ok (.iload_n 1, 1) := by decide +kernel
theorem dX11_eye_43 : decode cX11_eye 43 = .ok (.iaload, 1) := by decide +kernel
theorem dX11_eye_44 : decode cX11_eye 44 = .ok (.i2l, 1) := by decide +kernel
theorem dX11_eye_45 : decode cX11_eye 45 = .ok (.aload_n 0, 1) := by decide +kernel
theorem dX11_eye_46 : decode cX11_eye 46 = .ok (.getfield 26, 3) := by decide +kernel
theorem dX11_eye_49 : decode cX11_eye 49 = .ok (.getfield 362, 3) := by decide +kernel
theorem dX11_eye_52 : decode cX11_eye 52 = .ok (.iload_n 1, 1) := by decide +kernel
theorem dX11_eye_53 : decode cX11_eye 53 = .ok (.iaload, 1) := by decide +kernel
theorem dX11_eye_54 : decode cX11_eye 54 = .ok (.i2l, 1) := by decide +kernel
theorem dX11_eye_55 : decode cX11_eye 55 = .ok (.invokevirtual 368, 3) := by decide +kernel
theorem dX11_eye_58 : decode cX11_eye 58 = .ok (.aload_n 0, 1) := by decide +kernel
theorem dX11_eye_59 : decode cX11_eye 59 = .ok (.getfield 58, 3) := by decide +kernel
theorem dX11_eye_62 : decode cX11_eye 62 = .ok (.iload_n 2, 1) := by decide +kernel
theorem dX11_eye_63 : decode cX11_eye 63 = .ok (.invokevirtual 251, 3) := by decide +kernel
theorem dX11_eye_66 : decode cX11_eye 66 = .ok (.l2i, 1) := by decide +kernel
theorem dX11_eye_67 : decode cX11_eye 67 = .ok (.ireturn, 1) := by decide +kernel
theorem dX11_learn_0 : decode cX11_learn 0 = .ok (.aload_n 0, 1) := by decide +kernel
theorem dX11_learn_1 : decode cX11_learn 1 = .ok (.getfield 26, 3) := by decide +kernel
theorem dX11_learn_4 : decode cX11_learn 4 = .ok (.iconst 0, 1) := by decide +kernel
theorem dX11_learn_5 : decode cX11_learn 5 = .ok (.aload_n 0, 1) := by decide +kernel
theorem dX11_learn_6 : decode cX11_learn 6 = .ok (.getfield 26, 3) := by decide +kernel
theorem dX11_learn_9 : decode cX11_learn 9 = .ok (.getfield 136, 3) := by decide +kernel
theorem dX11_learn_12 : decode cX11_learn 12 = .ok (.invokevirtual 372, 3) := by decide +kernel
theorem dX11_learn_15 : decode cX11_learn 15 = .ok (.istore_n 1, 1) := by decide +kernel
theorem dX11_learn_16 : decode cX11_learn 16 = .ok (.aload_n 0, 1) := by decide +kernel
theorem dX11_learn_17 : decode cX11_learn 17 = .ok (.getfield 26, 3) := by decide +kernel
theorem dX11_learn_20 : decode cX11_learn 20 = .ok (.iconst 1, 1) := by decide +kernel
theorem dX11_learn_21 : decode cX11_learn 21 = .ok (.aload_n 0, 1) := by decide +kernel
theorem dX11_learn_22 : decode cX11_learn 22 = .ok (.getfield 26, 3) := by decide +kernel
theorem dX11_learn_25 : decode cX11_learn 25 = .ok (.getfield 139, 3) := by decide +kernel
theorem dX11_learn_28 : decode cX11_learn 28 = .ok (.invokevirtual 372, 3) := by decide +kernel
theorem dX11_learn_31 : decode cX11_learn 31 = .ok (.istore_n 2, 1) := by decide +kernel
theorem dX11_learn_32 : decode cX11_learn 32 = .ok (.iload_n 1, 1) := by decide +kernel
theorem dX11_learn_33 : decode cX11_learn 33 = .ok (.aload_n 0, 1) := by decide +kernel
theorem dX11_learn_34 : decode cX11_learn 34 = .ok (.getfield 26, 3) := by decide +kernel
theorem dX11_learn_37 : decode cX11_learn 37 = .ok (.getfield 136, 3) := by decide +kernel
theorem dX11_learn_40 : decode cX11_learn 40 = .ok (.if_icmp .eq 7, 3) := by decide +kernel
theorem dX11_learn_43 : decode cX11_learn 43 = .ok (.iconst 1, 1) := by decide +kernel
theorem dX11_learn_44 : decode cX11_learn 44 = .ok (.goto 4, 3) := by decide +kernel
theorem dX11_learn_47 : decode cX11_learn 47 = .ok (.iconst 0, 1) := by decide +kernel
theorem dX11_learn_48 : decode cX11_learn 48 = .ok (.iload_n 2, 1) := by decide +kernel
theorem dX11_learn_49 : decode cX11_learn 49 = .ok (.aload_n 0, 1) := by decide +kernel
theorem dX11_learn_50 : decode cX11_learn 50 = .ok (.getfield 26, 3) := by decide +kernel
theorem dX11_learn_53 : decode cX11_learn 53 = .ok (.getfield 139, 3) := by decide +kernel
theorem dX11_learn_56 : decode cX11_learn 56 = .ok (.if_icmp .eq 7, 3) := by decide +kernel
theorem dX11_learn_59 : decode cX11_learn 59 = .ok (.iconst 1, 1) := by decide +kernel
theorem dX11_learn_60 : decode cX11_learn 60 = .ok (.goto 4, 3) := by decide +kernel
theorem dX11_learn_63 : decode cX11_learn 63 = .ok (.iconst 0, 1) := by decide +kernel
theorem dX11_learn_64 : decode cX11_learn 64 = .ok (.iadd, 1) := by decide +kernel
theorem dX11_learn_65 : decode cX11_learn 65 = .ok (.istore_n 3, 1) := by decide +kernel
theorem dX11_learn_66 : decode cX11_learn 66 = .ok (.aload_n 0, 1) := by decide +kernel
theorem dX11_learn_67 : decode cX11_learn 67 = .ok (.getfield 26, 3) := by decide +kernel
theorem dX11_learn_70 : decode cX11_learn 70 = .ok (.iload_n 1, 1) := by decide +kernel
theorem dX11_learn_71 : decode cX11_learn 71 = .ok (.putfield 136, 3) := by decide +kernel
theorem dX11_learn_74 : decode cX11_learn 74 = .ok (.aload_n 0, 1) := by decide +kernel
theorem dX11_learn_75 : decode cX11_learn 75 = .ok (.getfield 26, 3) := by decide +kernel
theorem dX11_learn_78 : decode cX11_learn 78 = .ok (.iload_n 2, 1) := by decide +kernel
theorem dX11_learn_79 : decode cX11_learn 79 = .ok (.putfield 139, 3) := by decide +kernel
theorem dX11_learn_82 : decode cX11_learn 82 = .ok (.iload_n 3, 1) := by decide +kernel
theorem dX11_learn_83 : decode cX11_learn 83 = .ok (.ireturn, 1) := by decide +kernel
theorem dX11_story_0 : decode cX11_story 0 = .ok (.aload_n 0, 1) := by decide +kernel
theorem dX11_story_1 : decode cX11_story 1 = .ok (.iload_n 1, 1) := by decide +kernel
theorem dX11_story_2 : decode cX11_story 2 = .ok (.iload_n 2, 1) := by decide +kernel
theorem dX11_story_3 : decode cX11_story 3 = .ok (.invokevirtual 375, 3) := by decide +kernel
theorem dX11_story_6 : decode cX11_story 6 = .ok (.ifCond .ne 7, 3) := by decide +kernel
theorem dX11_story_9 : decode cX11_story 9 = .ok (.ldc2_w 245, 3) := by decide +kernel
theorem dX11_story_12 : decode cX11_story 12 = .ok (.lreturn, 1) := by decide +kernel
theorem dX11_story_13 : decode cX11_story 13 = .ok (.lconst 0, 1) := by decide +kernel
theorem dX11_story_14 : decode cX11_story 14 = .ok (.lstore_n 3, 1) := by decide +kernel
theorem dX11_story_15 : decode cX11_story 15 = .ok (.iconst 1, 1) := by decide +kernel
theorem dX11_story_16 : decode cX11_story 16 = .ok (.istore 5, 2) := by decide +kernel
theorem dX11_story_18 : decode cX11_story 18 = .ok (.iload 5, 2) := by decide +kernel
theorem dX11_story_20 : decode cX11_story 20 = .ok (.aload_n 0, 1) := by decide +kernel
theorem dX11_story_21 : decode cX11_story 21 = .ok (.getfield 10, 3) := by decide +kernel
theorem dX11_story_24 : decode cX11_story 24 = .ok (.invokevirtual 327, 3) := by decide +kernel
theorem dX11_story_27 : decode cX11_story 27 = .ok (.if_icmp .gt 62, 3) := by decide +kernel
theorem dX11_story_30 : decode cX11_story 30 = .ok (.aload_n 0, 1) := by decide +kernel
theorem dX11_story_31 : decode cX11_story 31 = .ok (.getfield 42, 3) := by decide +kernel
theorem dX11_story_34 : decode cX11_story 34 = .ok (.aload_n 0, 1) := by decide +kernel
theorem dX11_story_35 : decode cX11_story 35 = .ok (.getfield 10, 3) := by decide +kernel
theorem dX11_story_38 : decode cX11_story 38 = .ok (.aload_n 0, 1) := by decide +kernel
theorem dX11_story_39 : decode cX11_story 39 = .ok (.getfield 26, 3) := by decide +kernel
theorem dX11_story_42 : decode cX11_story 42 = .ok (.getfield 168, 3) := by decide +kernel
theorem dX11_story_45 : decode cX11_story 45 = .ok (.iload 5, 2) := by decide +kernel
theorem dX11_story_47 : decode cX11_story 47 = .ok (.aload_n 0, 1) := by decide +kernel
theorem dX11_story_48 : decode cX11_story 48 = .ok (.getfield 26, 3) := by decide +kernel
theorem dX11_story_51 : decode cX11_story 51 = .ok (.getfield 168, 3) := by decide +kernel
theorem dX11_story_54 : decode cX11_story 54 = .ok (.invokevirtual 255, 3) := by decide +kernel
theorem dX11_story_57 : decode cX11_story 57 = .ok (.iload_n 1, 1) := by decide +kernel
theorem dX11_story_58 : decode cX11_story 58 = .ok (.iconst (-1), 1) := by decide +kernel
theorem dX11_story_59 : decode cX11_story 59 = .ok (.ixor, 1) := by decide +kernel
theorem dX11_story_60 : decode cX11_story 60 = .ok (.iand, 1) := by decide +kernel
theorem dX11_story_61 : decode cX11_story 61 = .ok (.invokevirtual 214, 3) := by decide +kernel
theorem dX11_story_64 : decode cX11_story 64 = .ok (.aload_n 0, 1) := by decide +kernel
theorem dX11_story_65 : decode cX11_story 65 = .ok (.getfield 42, 3) := by decide +kernel
theorem dX11_story_68 : decode cX11_story 68 = .ok (.iload_n 1, 1) := by decide +kernel
theorem dX11_story_69 : decode cX11_story 69 = .ok (.iload_n 2, 1) := by decide +kernel
theorem dX11_story_70 : decode cX11_story 70 = .ok (.invokevirtual 379, 3) := by decide +kernel
theorem dX11_story_73 : decode cX11_story 73 = .ok (.ifCond .eq 10, 3) := by decide +kernel
theorem dX11_story_76 : decode cX11_story 76 = .ok (.lload_n 3, 1) := by decide +kernel
theorem dX11_story_77 : decode cX11_story 77 = .ok (.lconst 1, 1) := by decide +kernel
theorem dX11_story_78 : decode cX11_story 78 = .ok (.iload 5, 2) := by decide +kernel
theorem dX11_story_80 : decode cX11_story 80 = .ok (.lshl, 1) := by decide +kernel
theorem dX11_story_81 : decode cX11_story 81 = .ok (.lor, 1) := by decide +kernel
theorem dX11_story_82 : decode cX11_story 82 = .ok (.lstore_n 3, 1) := by decide +kernel
theorem dX11_story_83 : decode cX11_story 83 = .ok (.iinc 5 1, 3) := by decide +kernel
theorem dX11_story_86 : decode cX11_story 86 = .ok (.goto (-68), 3) := by decide +kernel
theorem dX11_story_89 : decode cX11_story 89 = .ok (.lload_n 3, 1) := by decide +kernel
theorem dX11_story_90 : decode cX11_story 90 = .ok (.lreturn, 1) := by decide +kernel
theorem dX11_odds_0 : decode cX11_odds 0 = .ok (.aload_n 0, 1) := by decide +kernel
theorem dX11_odds_1 : decode cX11_odds 1 = .ok (.iload_n 1, 1) := by decide +kernel
theorem dX11_odds_2 : decode cX11_odds 2 = .ok (.iload_n 2, 1) := by decide +kernel
theorem dX11_odds_3 : decode cX11_odds 3 = .ok (.invokevirtual 375, 3) := by decide +kernel
theorem dX11_odds_6 : decode cX11_odds 6 = .ok (.ifCond .eq 22, 3) := by decide +kernel
theorem dX11_odds_9 : decode cX11_odds 9 = .ok (.aload_n 0, 1) := by decide +kernel
theorem dX11_odds_10 : decode cX11_odds 10 = .ok (.getfield 10, 3) := by decide +kernel
theorem dX11_odds_13 : decode cX11_odds 13 = .ok (.iload_n 3, 1) := by decide +kernel
theorem dX11_odds_14 : decode cX11_odds 14 = .ok (.invokevirtual 149, 3) := by decide +kernel
theorem dX11_odds_17 : decode cX11_odds 17 = .ok (.ifCond .eq 11, 3) := by decide +kernel
theorem dX11_odds_20 : decode cX11_odds 20 = .ok (.iload 4, 2) := by decide +kernel
theorem dX11_odds_22 : decode cX11_odds 22 = .ok (.invokestatic 242, 3) := by decide +kernel
theorem dX11_odds_25 : decode cX11_odds 25 = .ok (.ifCond .ne 7, 3) := by decide +kernel
theorem dX11_odds_28 : decode cX11_odds 28 = .ok (.ldc2_w 245, 3) := by decide +kernel
theorem dX11_odds_31 : decode cX11_odds 31 = .ok (.lreturn, 1) := by decide +kernel
theorem dX11_odds_32 : decode cX11_odds 32 = .ok (.lconst 0, 1) := by decide +kernel
theorem dX11_odds_33 : decode cX11_odds 33 = .ok (.lstore 5, 2) := by decide +kernel
theorem dX11_odds_35 : decode cX11_odds 35 = .ok (.lconst 0, 1) := by decide +kernel
theorem dX11_odds_36 : decode cX11_odds 36 = .ok (.lstore 7, 2) := by decide +kernel
theorem dX11_odds_38 : decode cX11_odds 38 = .ok (.iconst 1, 1) := by decide +kernel
theorem dX11_odds_39 : decode cX11_odds 39 = .ok (.istore 9, 2) := by decide +kernel
theorem dX11_odds_41 : decode cX11_odds 41 = .ok (.iload 9, 2) := by decide +kernel
theorem dX11_odds_43 : decode cX11_odds 43 = .ok (.aload_n 0, 1) := by decide +kernel
theorem dX11_odds_44 : decode cX11_odds 44 = .ok (.getfield 10, 3) := by decide +kernel
theorem dX11_odds_47 : decode cX11_odds 47 = .ok (.invokevirtual 327, 3) := by decide +kernel
theorem dX11_odds_50 : decode cX11_odds 50 = .ok (.if_icmp .gt 43, 3) := by decide +kernel
theorem dX11_odds_53 : decode cX11_odds 53 = .ok (.aload_n 0, 1) := by decide +kernel
theorem dX11_odds_54 : decode cX11_odds 54 = .ok (.getfield 58, 3) := by decide +kernel
theorem dX11_odds_57 : decode cX11_odds 57 = .ok (.aload_n 0, 1) := by decide +kernel
theorem dX11_odds_58 : decode cX11_odds 58 = .ok (.getfield 26, 3) := by decide +kernel
theorem dX11_odds_61 : decode cX11_odds 61 = .ok (.iload 9, 2) := by decide +kernel
theorem dX11_odds_63 : decode cX11_odds 63 = .ok (.iload_n 1, 1) := by decide +kernel
theorem dX11_odds_64 : decode cX11_odds 64 = .ok (.iload_n 2, 1) := by decide +kernel
theorem dX11_odds_65 : decode cX11_odds 65 = .ok (.invokevirtual 382, 3) := by decide +kernel
theorem dX11_odds_68 : decode cX11_odds 68 = .ok (.lstore 10, 2) := by decide +kernel
theorem dX11_odds_70 : decode cX11_odds 70 = .ok (.lload 5, 2) := by decide +kernel
theorem dX11_odds_72 : decode cX11_odds 72 = .ok (.lload 10, 2) := by decide +kernel
theorem dX11_odds_74 : decode cX11_odds 74 = .ok (.ladd, 1) := by decide +kernel
theorem dX11_odds_75 : decode cX11_odds 75 = .ok (.lstore 5, 2) := by decide +kernel
theorem dX11_odds_77 : decode cX11_odds 77 = .ok (.iload 9, 2) := by decide +kernel
theorem dX11_odds_79 : decode cX11_odds 79 = .ok (.iload_n 3, 1) := by decide +kernel
theorem dX11_odds_80 : decode cX11_odds 80 = .ok (.if_icmp .ne 7, 3) := by decide +kernel
theorem dX11_odds_83 : decode cX11_odds 83 = .ok (.lload 10, 2) := by decide +kernel
theorem dX11_odds_85 : decode cX11_odds 85 = .ok (.lstore 7, 2) := by decide +kernel
theorem dX11_odds_87 : decode cX11_odds 87 = .ok (.iinc 9 1, 3) := by decide +kernel
theorem dX11_odds_90 : decode cX11_odds 90 = .ok (.goto (-49), 3) := by decide +kernel
theorem dX11_odds_93 : decode cX11_odds 93 = .ok (.lload 5, 2) := by decide +kernel
theorem dX11_odds_95 : decode cX11_odds 95 = .ok (.lconst 0, 1) := by decide +kernel
theorem dX11_odds_96 : decode cX11_odds 96 = .ok (.lcmp, 1) := by decide +kernel
theorem dX11_odds_97 : decode cX11_odds 97 = .ok (.ifCond .ne 7, 3) := by decide +kernel
theorem dX11_odds_100 : decode cX11_odds 100 = .ok (.ldc2_w 386, 3) := by decide +kernel
theorem dX11_odds_103 : decode cX11_odds 103 = .ok (.lreturn, 1) := by decide +kernel
theorem dX11_odds_104 : decode cX11_odds 104 = .ok (.aload_n 0, 1) := by decide +kernel
theorem dX11_odds_105 : decode cX11_odds 105 = .ok (.getfield 58, 3) := by decide +kernel
theorem dX11_odds_108 : decode cX11_odds 108 = .ok (.lload 7, 2) := by decide +kernel
theorem dX11_odds_110 : decode cX11_odds 110 = .ok (.lload 5, 2) := by decide +kernel
theorem dX11_odds_112 : decode cX11_odds 112 = .ok (.invokevirtual 368, 3) := by decide +kernel
theorem dX11_odds_115 : decode cX11_odds 115 = .ok (.aload_n 0, 1) := by decide +kernel
theorem dX11_odds_116 : decode cX11_odds 116 = .ok (.getfield 58, 3) := by decide +kernel
theorem dX11_odds_119 : decode cX11_odds 119 = .ok (.iload 4, 2) := by decide +kernel
theorem dX11_odds_121 : decode cX11_odds 121 = .ok (.invokevirtual 251, 3) := by decide +kernel
theorem dX11_odds_124 : decode cX11_odds 124 = .ok (.lreturn, 1) := by decide +kernel
theorem dX11_bolts_0 : decode cX11_bolts 0 = .ok (.aload_n 0, 1) := by decide +kernel
theorem dX11_bolts_1 : decode cX11_bolts 1 = .ok (.getfield 81, 3) := by decide +kernel
theorem dX11_bolts_4 : decode cX11_bolts 4 = .ok (.invokevirtual 388, 3) := by decide +kernel
theorem dX11_bolts_7 : decode cX11_bolts 7 = .ok (.iload_n 1, 1) := by decide +kernel
theorem dX11_bolts_8 : decode cX11_bolts 8 = .ok (.iconst 1, 1) := by decide +kernel
theorem dX11_bolts_9 : decode cX11_bolts 9 = .ok (.aload_n 0, 1) := by decide +kernel
theorem dX11_bolts_10 : decode cX11_bolts 10 = .ok (.getfield 81, 3) := by decide +kernel
theorem dX11_bolts_13 : decode cX11_bolts 13 = .ok (.getfield 391, 3) := by decide +kernel
theorem dX11_bolts_16 : decode cX11_bolts 16 = .ok (.invokestatic 290, 3) := by decide +kernel
theorem dX11_bolts_19 : decode cX11_bolts 19 = .ok (.ifCond .ne 5, 3) := by decide +kernel
theorem dX11_bolts_22 : decode cX11_bolts 22 = .ok (.iconst (-1), 1) := by decide +kernel
theorem dX11_bolts_23 : decode cX11_bolts 23 = .ok (.ireturn, 1) := by decide +kernel
theorem dX11_bolts_24 : decode cX11_bolts 24 = .ok (.aload_n 0, 1) := by decide +kernel
theorem dX11_bolts_25 : decode cX11_bolts 25 = .ok (.getfield 81, 3) := by decide +kernel
theorem dX11_bolts_28 : decode cX11_bolts 28 = .ok (.getfield 392, 3) := by decide +kernel
theorem dX11_bolts_31 : decode cX11_bolts 31 = .ok (.ifCond .ne 6, 3) := by decide +kernel
theorem dX11_bolts_34 : decode cX11_bolts 34 = .ok (.bipush (-4), 2) := by decide +kernel
theorem dX11_bolts_36 : decode cX11_bolts 36 = .ok (.ireturn, 1) := by decide +kernel
theorem dX11_bolts_37 : decode cX11_bolts 37 = .ok (.iload_n 1, 1) := by decide +kernel
theorem dX11_bolts_38 : decode cX11_bolts 38 = .ok (.ifCond .ne 13, 3) := by decide +kernel
theorem dX11_bolts_41 : decode cX11_bolts 41 = .ok (.aload_n 0, 1) := by decide +kernel
theorem dX11_bolts_42 : decode cX11_bolts 42 = .ok (.getfield 81, 3) := by decide +kernel
theorem dX11_bolts_45 : decode cX11_bolts 45 = .ok (.getfield 391, 3) := by decide +kernel
theorem dX11_bolts_48 : decode cX11_bolts 48 = .ok (.goto 15, 3) := by decide +kernel
theorem dX11_bolts_51 : decode cX11_bolts 51 = .ok (.aload_n 0, 1) := by decide +kernel
theorem dX11_bolts_52 : decode cX11_bolts 52 = .ok (.getfield 81, 3) := by decide +kernel
theorem dX11_bolts_55 : decode cX11_bolts 55 = .ok (.getfield 395, 3) := by decide +kernel
theorem dX11_bolts_58 : decode cX11_bolts 58 = .ok (.iload_n 1, 1) := by decide +kernel
theorem dX11_bolts_59 : decode cX11_bolts 59 = .ok (.bipush 10, 2) := by decide +kernel
theorem dX11_bolts_61 : decode cX11_bolts 61 = .ok (.isub, 1) := by decide +kernel
theorem dX11_bolts_62 : decode cX11_bolts 62 = .ok (.iaload, 1) := by decide +kernel
theorem dX11_bolts_63 : decode cX11_bolts 63 = .ok (.ireturn, 1) := by decide +kernel
theorem dX11_image_0 : decode cX11_image 0 = .ok (.iload_n 1, 1) := by decide +kernel
theorem dX11_image_1 : decode cX11_image 1 = .ok (.invokestatic 242, 3) := by decide +kernel
theorem dX11_image_4 : decode cX11_image 4 = .ok (.ifCond .ne 5, 3) := by decide +kernel
theorem dX11_image_7 : decode cX11_image 7 = .ok (.iconst (-1), 1) := by decide +kernel
theorem dX11_image_8 : decode cX11_image 8 = .ok (.ireturn, 1) := by decide +kernel
theorem dX11_image_9 : decode cX11_image 9 = .ok (.iload_n 1, 1) := by decide +kernel
theorem dX11_image_10 : decode cX11_image 10 = .ok (.ifCond .ne 10, 3) := by decide +kernel
theorem dX11_image_13 : decode cX11_image 13 = .ok (.aload_n 0, 1) := by decide +kernel
theorem dX11_image_14 : decode cX11_image 14 = .ok (.getfield 30, 3) := by decide +kernel
theorem dX11_image_17 : decode cX11_image 17 = .ok (.goto 7, 3) := by decide +kernel
theorem dX11_image_20 : decode cX11_image 20 = .ok (.aload_n 0, 1) := by decide +kernel
theorem dX11_image_21 : decode cX11_image 21 = .ok (.getfield 33, 3) := by decide +kernel
theorem dX11_image_24 : decode cX11_image 24 = .ok (.astore_n 2, 1) := by decide +kernel
theorem dX11_image_25 : decode cX11_image 25 = .ok (.aload_n 2, 1) := by decide +kernel
theorem dX11_image_26 : decode cX11_image 26 = .ok (.getfield 124, 3) := by decide +kernel
theorem dX11_image_29 : decode cX11_image 29 = .ok (.ifCond .eq 7, 3) := by decide +kernel
theorem dX11_image_32 : decode cX11_image 32 = .ok (.iconst 1, 1) := by decide +kernel
theorem dX11_image_33 : decode cX11_image 33 = .ok (.goto 4, 3) := by decide +kernel
theorem dX11_image_36 : decode cX11_image 36 = .ok (.iconst 0, 1) := by decide +kernel
theorem dX11_image_37 : decode cX11_image 37 = .ok (.istore_n 3, 1) := by decide +kernel
theorem dX11_image_38 : decode cX11_image 38 = .ok (.aload_n 2, 1) := by decide +kernel
theorem dX11_image_39 : decode cX11_image 39 = .ok (.aload_n 0, 1) := by decide +kernel
theorem dX11_image_40 : decode cX11_image 40 = .ok (.getfield 26, 3) := by decide +kernel
theorem dX11_image_43 : decode cX11_image 43 = .ok (.invokevirtual 398, 3) := by decide +kernel
theorem dX11_image_46 : decode cX11_image 46 = .ok (.aload_n 2, 1) := by decide +kernel
theorem dX11_image_47 : decode cX11_image 47 = .ok (.iconst 1, 1) := by decide +kernel
theorem dX11_image_48 : decode cX11_image 48 = .ok (.putfield 124, 3) := by decide +kernel
theorem dX11_image_51 : decode cX11_image 51 = .ok (.iload_n 3, 1) := by decide +kernel
theorem dX11_image_52 : decode cX11_image 52 = .ok (.ireturn, 1) := by decide +kernel
theorem dX11_back_0 : decode cX11_back 0 = .ok (.iload_n 1, 1) := by decide +kernel
theorem dX11_back_1 : decode cX11_back 1 = .ok (.invokestatic 242, 3) := by decide +kernel
theorem dX11_back_4 : decode cX11_back 4 = .ok (.ifCond .ne 5, 3) := by decide +kernel
theorem dX11_back_7 : decode cX11_back 7 = .ok (.iconst (-1), 1) := by decide +kernel
theorem dX11_back_8 : decode cX11_back 8 = .ok (.ireturn, 1) := by decide +kernel
theorem dX11_back_9 : decode cX11_back 9 = .ok (.iload_n 1, 1) := by decide +kernel
theorem dX11_back_10 : decode cX11_back 10 = .ok (.ifCond .ne 10, 3) := by decide +kernel
theorem dX11_back_13 : decode cX11_back 13 = .ok (.aload_n 0, 1) := by decide +kernel
theorem dX11_back_14 : decode cX11_back 14 = .ok (.getfield 30, 3) := by decide +kernel
theorem dX11_back_17 : decode cX11_back 17 = .ok (.goto 7, 3) := by decide +kernel
theorem dX11_back_20 : decode cX11_back 20 = .ok (.aload_n 0, 1) := by decide +kernel
theorem dX11_back_21 : decode cX11_back 21 = .ok (.getfield 33, 3) := by decide +kernel
theorem dX11_back_24 : decode cX11_back 24 = .ok (.astore_n 2, 1) := by decide +kernel
theorem dX11_back_25 : decode cX11_back 25 = .ok (.aload_n 2, 1) := by decide +kernel
theorem dX11_back_26 : decode cX11_back 26 = .ok (.getfield 124, 3) := by decide +kernel
theorem dX11_back_29 : decode cX11_back 29 = .ok (.ifCond .ne 6, 3) := by decide +kernel
theorem dX11_back_32 : decode cX11_back 32 = .ok (.bipush (-2), 2) := by decide +kernel
theorem dX11_back_34 : decode cX11_back 34 = .ok (.ireturn, 1) := by decide +kernel
theorem dX11_back_35 : decode cX11_back 35 = .ok (.aload_n 0, 1) := by decide +kernel
theorem dX11_back_36 : decode cX11_back 36 = .ok (.getfield 26, 3) := by decide +kernel
theorem dX11_back_39 : decode cX11_back 39 = .ok (.aload_n 2, 1) := by decide +kernel
theorem dX11_back_40 : decode cX11_back 40 = .ok (.invokevirtual 398, 3) := by decide +kernel
theorem dX11_back_43 : decode cX11_back 43 = .ok (.aload_n 0, 1) := by decide +kernel
theorem dX11_back_44 : decode cX11_back 44 = .ok (.getfield 26, 3) := by decide +kernel
theorem dX11_back_47 : decode cX11_back 47 = .ok (.getfield 168, 3) := by decide +kernel
theorem dX11_back_50 : decode cX11_back 50 = .ok (.getfield 187, 3) := by decide +kernel
theorem dX11_back_53 : decode cX11_back 53 = .ok (.ireturn, 1) := by decide +kernel
theorem dX11_sheet_0 : decode cX11_sheet 0 = .ok (.aload_n 0, 1) := by decide +kernel
theorem dX11_sheet_1 : decode cX11_sheet 1 = .ok (.iload_n 1, 1) := by decide +kernel
theorem dX11_sheet_2 : decode cX11_sheet 2 = .ok (.invokevirtual 401, 3) := by decide +kernel
theorem dX11_sheet_5 : decode cX11_sheet 5 = .ok (.ifCond .eq 16, 3) := by decide +kernel
theorem dX11_sheet_8 : decode cX11_sheet 8 = .ok (.iload_n 2, 1) := by decide +kernel
theorem dX11_sheet_9 : decode cX11_sheet 9 = .ok (.invokestatic 404, 3) := by decide +kernel
theorem dX11_sheet_12 : decode cX11_sheet 12 = .ok (.ifCond .eq 9, 3) := by decide +kernel
theorem dX11_sheet_15 : decode cX11_sheet 15 = .ok (.iload_n 3, 1) := by decide +kernel
theorem dX11_sheet_16 : decode cX11_sheet 16 = .ok (.bipush 40, 2) := by decide +kernel
theorem dX11_sheet_18 : decode cX11_sheet 18 = .ok (.if_icmp .le 5, 3) := by decide +kernel
theorem dX11_sheet_21 : decode cX11_sheet 21 = .ok (.iconst (-1), 1) := by decide +kernel
theorem dX11_sheet_22 : decode cX11_sheet 22 = .ok (.ireturn, 1) := by decide +kernel
theorem dX11_sheet_23 : decode cX11_sheet 23 = .ok (.iload_n 3, 1) := by decide +kernel
theorem dX11_sheet_24 : decode cX11_sheet 24 = .ok (.ifCond .ge 6, 3) := by decide +kernel
theorem dX11_sheet_27 : decode cX11_sheet 27 = .ok (.bipush (-14), 2) := by decide +kernel
theorem dX11_sheet_29 : decode cX11_sheet 29 = .ok (.ireturn, 1) := by decide +kernel
theorem dX11_sheet_30 : decode cX11_sheet 30 = .ok (.aload_n 0, 1) := by decide +kernel
theorem dX11_sheet_31 : decode cX11_sheet 31 = .ok (.getfield 87, 3) := by decide +kernel
theorem dX11_sheet_34 : decode cX11_sheet 34 = .ok (.iload_n 1, 1) := by decide +kernel
theorem dX11_sheet_35 : decode cX11_sheet 35 = .ok (.aaload, 1) := by decide +kernel
theorem dX11_sheet_36 : decode cX11_sheet 36 = .ok (.iload_n 2, 1) := by decide +kernel
theorem dX11_sheet_37 : decode cX11_sheet 37 = .ok (.iload_n 3, 1) := by decide +kernel
theorem dX11_sheet_38 : decode cX11_sheet 38 = .ok (.invokevirtual 407, 3) := by decide +kernel
theorem dX11_sheet_41 : decode cX11_sheet 41 = .ok (.iconst 1, 1) := by decide +kernel
theorem dX11_sheet_42 : decode cX11_sheet 42 = .ok (.ireturn, 1) := by decide +kernel
theorem dX11_lay_0 : decode cX11_lay 0 = .ok (.aload_n 0, 1) := by decide +kernel
theorem dX11_lay_1 : decode cX11_lay 1 = .ok (.iload_n 1, 1) := by decide +kernel
theorem dX11_lay_2 : decode cX11_lay 2 = .ok (.invokevirtual 401, 3) := by decide +kernel
theorem dX11_lay_5 : decode cX11_lay 5 = .ok (.ifCond .ne 5, 3) := by decide +kernel
theorem dX11_lay_8 : decode cX11_lay 8 = .ok (.iconst (-1), 1) := by decide +kernel
theorem dX11_lay_9 : decode cX11_lay 9 = .ok (.ireturn, 1) := by decide +kernel
theorem dX11_lay_10 : decode cX11_lay 10 = .ok (.aload_n 0, 1) := by decide +kernel
theorem dX11_lay_11 : decode cX11_lay 11 = .ok (.getfield 87, 3) := by decide +kernel
theorem dX11_lay_14 : decode cX11_lay 14 = .ok (.iload_n 1, 1) := by decide +kernel
theorem dX11_lay_15 : decode cX11_lay 15 = .ok (.aaload, 1) := by decide +kernel
theorem dX11_lay_16 : decode cX11_lay 16 = .ok (.astore 4, 2) := by decide +kernel
theorem dX11_lay_18 : decode cX11_lay 18 = .ok (.aload 4, 2) := by decide +kernel
theorem dX11_lay_20 : decode cX11_lay 20 = .ok (.getfield 409, 3) := by decide +kernel
theorem dX11_lay_23 : decode cX11_lay 23 = .ok (.ifCond .ne 6, 3) := by decide +kernel
theorem dX11_lay_26 : decode cX11_lay 26 = .ok (.bipush (-11), 2) := by decide +kernel
theorem dX11_lay_28 : decode cX11_lay 28 = .ok (.ireturn, 1) := by decide +kernel
theorem dX11_lay_29 : decode cX11_lay 29 = .ok (.aload 4, 2) := by decide +kernel
theorem dX11_lay_31 : decode cX11_lay 31 = .ok (.iload_n 2, 1) := by decide +kernel
theorem dX11_lay_32 : decode cX11_lay 32 = .ok (.invokevirtual 412, 3) := by decide +kernel
theorem dX11_lay_35 : decode cX11_lay 35 = .ok (.ifCond .ne 6, 3) := by decide +kernel
theorem dX11_lay_38 : decode cX11_lay 38 = .ok (.bipush (-12), 2) := by decide +kernel
theorem dX11_lay_40 : decode cX11_lay 40 = .ok (.ireturn, 1) := by decide +kernel
theorem dX11_lay_41 : decode cX11_lay 41 = .ok (.aload 4, 2) := by decide +kernel
theorem dX11_lay_43 : decode cX11_lay 43 = .ok (.iload_n 2, 1) := by decide +kernel
theorem dX11_lay_44 : decode cX11_lay 44 = .ok (.iload_n 3, 1) := by decide +kernel
theorem dX11_lay_45 : decode cX11_lay 45 = .ok (.invokevirtual 413, 3) := by decide +kernel
theorem dX11_lay_48 : decode cX11_lay 48 = .ok (.iconst 1, 1) := by decide +kernel
theorem dX11_lay_49 : decode cX11_lay 49 = .ok (.ireturn, 1) := by decide +kernel
theorem dX11_read_0 : decode cX11_read 0 = .ok (.aload_n 0, 1) := by decide +kernel
theorem dX11_read_1 : decode cX11_read 1 = .ok (.iload_n 1, 1) := by decide +kernel
theorem dX11_read_2 : decode cX11_read 2 = .ok (.invokevirtual 401, 3) := by decide +kernel
theorem dX11_read_5 : decode cX11_read 5 = .ok (.ifCond .eq 22, 3) := by decide +kernel
theorem dX11_read_8 : decode cX11_read 8 = .ok (.iload_n 2, 1) := by decide +kernel
theorem dX11_read_9 : decode cX11_read 9 = .ok (.invokestatic 404, 3) := by decide +kernel
theorem dX11_read_12 : decode cX11_read 12 = .ok (.ifCond .eq 15, 3) := by decide +kernel
theorem dX11_read_15 : decode cX11_read 15 = .ok (.iload 4, 2) := by decide +kernel
theorem dX11_read_17 : decode cX11_read 17 = .ok (.ifCond .lt 10, 3) := by decide +kernel
theorem dX11_read_20 : decode cX11_read 20 = .ok (.iload 4, 2) := by decide +kernel
theorem dX11_read_22 : decode cX11_read 22 = .ok (.bipush 10, 2) := by decide +kernel
theorem dX11_read_24 : decode cX11_read 24 = .ok (.if_icmp .le 5, 3) := by decide +kernel
theorem dX11_read_27 : decode cX11_read 27 = .ok (.iconst (-1), 1) := by decide +kernel
theorem dX11_read_28 : decode cX11_read 28 = .ok (.ireturn, 1) := by decide +kernel
theorem dX11_read_29 : decode cX11_read 29 = .ok (.aload_n 0, 1) := by decide +kernel
theorem dX11_read_30 : decode cX11_read 30 = .ok (.getfield 87, 3) := by decide +kernel
theorem dX11_read_33 : decode cX11_read 33 = .ok (.iload_n 1, 1) := by decide +kernel
theorem dX11_read_34 : decode cX11_read 34 = .ok (.aaload, 1) := by decide +kernel
theorem dX11_read_35 : decode cX11_read 35 = .ok (.astore 5, 2) := by decide +kernel
theorem dX11_read_37 : decode cX11_read 37 = .ok (.iconst 0, 1) := by decide +kernel
theorem dX11_read_38 : decode cX11_read 38 = .ok (.istore 6, 2) := by decide +kernel
theorem dX11_read_40 : decode cX11_read 40 = .ok (.iconst 0, 1) := by decide +kernel
theorem dX11_read_41 : decode cX11_read 41 = .ok (.istore 7, 2) := by decide +kernel
theorem dX11_read_43 : decode cX11_read 43 = .ok (.iload 4, 2) := by decide +kernel
theorem dX11_read_45 : decode cX11_read 45 = .ok (.ifCond .le 31, 3) := by decide +kernel
theorem dX11_read_48 : decode cX11_read 48 = .ok (.aload 5, 2) := by decide +kernel
theorem dX11_read_50 : decode cX11_read 50 = .ok (.getfield 409, 3) := by decide +kernel
theorem dX11_read_53 : decode cX11_read 53 = .ok (.ifCond .ne 7, 3) := by decide +kernel
theorem dX11_read_56 : decode cX11_read 56 = .ok (.iconst 1, 1) := by decide +kernel
theorem dX11_read_57 : decode cX11_read 57 = .ok (.goto 17, 3) := by decide +kernel
theorem dX11_read_60 : decode cX11_read 60 = .ok (.aload 5, 2) := by decide +kernel
theorem dX11_read_62 : decode cX11_read 62 = .ok (.getfield 416, 3) := by decide +kernel
theorem dX11_read_65 : decode cX11_read 65 = .ok (.iload_n 2, 1) := by decide +kernel
theorem dX11_read_66 : decode cX11_read 66 = .ok (.if_icmp .eq 7, 3) := by decide +kernel
theorem dX11_read_69 : decode cX11_read 69 = .ok (.iconst 3, 1) := by decide +kernel
theorem dX11_read_70 : decode cX11_read 70 = .ok (.goto 4, 3) := by decide +kernel
theorem dX11_read_73 : decode cX11_read 73 = .ok (.iconst 0, 1) := by decide +kernel
theorem dX11_read_74 : decode cX11_read 74 = .ok (.istore 6, 2) := by decide +kernel
theorem dX11_read_76 : decode cX11_read 76 = .ok (.aload_n 0, 1) := by decide +kernel
theorem dX11_read_77 : decode cX11_read 77 = .ok (.getfield 36, 3) := by decide +kernel
theorem dX11_read_80 : decode cX11_read 80 = .ok (.aload_n 0, 1) := by decide +kernel
theorem dX11_read_81 : decode cX11_read 81 = .ok (.getfield 26, 3) := by decide +kernel
theorem dX11_read_84 : decode cX11_read 84 = .ok (.invokevirtual 398, 3) := by decide +kernel
theorem dX11_read_87 : decode cX11_read 87 = .ok (.iconst 0, 1) := by decide +kernel
theorem dX11_read_88 : decode cX11_read 88 = .ok (.istore 8, 2) := by decide +kernel
theorem dX11_read_90 : decode cX11_read 90 = .ok (.iload 8, 2) := by decide +kernel
theorem dX11_read_92 : decode cX11_read 92 = .ok (.iload 4, 2) := by decide +kernel
theorem dX11_read_94 : decode cX11_read 94 = .ok (.if_icmp .ge 102, 3) := by decide +kernel
theorem dX11_read_97 : decode cX11_read 97 = .ok (.iload 6, 2) := by decide +kernel
theorem dX11_read_99 : decode cX11_read 99 = .ok (.ifCond .ne 97, 3) := by decide +kernel
theorem dX11_read_102 : decode cX11_read 102 = .ok (.iload_n 3, 1) := by decide +kernel
theorem dX11_read_103 : decode cX11_read 103 = .ok (.iconst 2, 1) := by decide +kernel
theorem dX11_read_104 : decode cX11_read 104 = .ok (.iload 8, 2) := by decide +kernel
theorem dX11_read_106 : decode cX11_read 106 = .ok (.imul, 1) := by decide +kernel
theorem dX11_read_107 : decode cX11_read 107 = .ok (.iadd, 1) := by decide +kernel
theorem dX11_read_108 : decode cX11_read 108 = .ok (.istore 9, 2) := by decide +kernel
theorem dX11_read_110 : decode cX11_read 110 = .ok (.aload 5, 2) := by decide +kernel
theorem dX11_read_112 : decode cX11_read 112 = .ok (.iload 9, 2) := by decide +kernel
theorem dX11_read_114 : decode cX11_read 114 = .ok (.invokevirtual 412, 3) := by decide +kernel
theorem dX11_read_117 : decode cX11_read 117 = .ok (.ifCond .eq 15, 3) := by decide +kernel
theorem dX11_read_120 : decode cX11_read 120 = .ok (.aload 5, 2) := by decide +kernel
theorem dX11_read_122 : decode cX11_read 122 = .ok (.iload 9, 2) := by decide +kernel
theorem dX11_read_124 : decode cX11_read 124 = .ok (.iconst 1, 1) := by decide +kernel
theorem dX11_read_125 : decode cX11_read 125 = .ok (.iadd, 1) := by decide +kernel
theorem dX11_read_126 : decode cX11_read 126 = .ok (.invokevirtual 412, 3) := by decide +kernel
theorem dX11_read_129 : decode cX11_read 129 = .ok (.ifCond .ne 9, 3) := by decide +kernel
theorem dX11_read_132 : decode cX11_read 132 = .ok (.iconst 2, 1) := by decide +kernel
theorem dX11_read_133 : decode cX11_read 133 = .ok (.istore 6, 2) := by decide +kernel
theorem dX11_read_135 : decode cX11_read 135 = .ok (.goto 55, 3) := by decide +kernel
theorem dX11_read_138 : decode cX11_read 138 = .ok (.aload_n 0, 1) := by decide +kernel
theorem dX11_read_139 : decode cX11_read 139 = .ok (.getfield 26, 3) := by decide +kernel
theorem dX11_read_142 : decode cX11_read 142 = .ok (.aload_n 0, 1) := by decide +kernel
theorem dX11_read_143 : decode cX11_read 143 = .ok (.getfield 10, 3) := by decide +kernel
theorem dX11_read_146 : decode cX11_read 146 = .ok (.aload 5, 2) := by decide +kernel
theorem dX11_read_148 : decode cX11_read 148 = .ok (.getfield 419, 3) := by decide +kernel
theorem dX11_read_151 : decode cX11_read 151 = .ok (.iload 9, 2) := by decide +kernel
theorem dX11_read_153 : decode cX11_read 153 = .ok (.iaload, 1) := by decide +kernel
theorem dX11_read_154 : decode cX11_read 154 = .ok (.aload 5, 2) := by decide +kernel
theorem dX11_read_156 : decode cX11_read 156 = .ok (.getfield 419, 3) := by decide +kernel
theorem dX11_read_159 : decode cX11_read 159 = .ok (.iload 9, 2) := by decide +kernel
theorem dX11_read_161 : decode cX11_read 161 = .ok (.iconst 1, 1) := by decide +kernel
theorem dX11_read_162 : decode cX11_read 162 = .ok (.iadd, 1) := by decide +kernel
theorem dX11_read_163 : decode cX11_read 163 = .ok (.iaload, 1) := by decide +kernel
theorem dX11_read_164 : decode cX11_read 164 = .ok (.invokevirtual 178, 3) := by decide +kernel
theorem dX11_read_167 : decode cX11_read 167 = .ok (.ifCond .ge 20, 3) := by decide +kernel
theorem dX11_read_170 : decode cX11_read 170 = .ok (.aload_n 0, 1) := by decide +kernel
theorem dX11_read_171 : decode cX11_read 171 = .ok (.getfield 26, 3) := by decide +kernel
theorem dX11_read_174 : decode cX11_read 174 = .ok (.aload_n 0, 1) := by decide +kernel
theorem dX11_read_175 : decode cX11_read 175 = .ok (.getfield 36, 3) := by decide +kernel
theorem dX11_read_178 : decode cX11_read 178 = .ok (.invokevirtual 398, 3) := by decide +kernel
theorem dX11_read_181 : decode cX11_read 181 = .ok (.bipush (-20), 2) := by decide +kernel
theorem dX11_read_183 : decode cX11_read 183 = .ok (.iload 8, 2) := by decide +kernel
theorem dX11_read_185 : decode cX11_read 185 = .ok (.isub, 1) := by decide +kernel
theorem dX11_read_186 : decode cX11_read 186 = .ok (.ireturn, 1) := by decide +kernel
theorem dX11_read_187 : decode cX11_read 187 = .ok (.iinc 7 1, 3) := by decide +kernel
theorem dX11_read_190 : decode cX11_read 190 = .ok (.iinc 8 1, 3) := by decide +kernel
theorem dX11_read_193 : decode cX11_read 193 = .ok (.goto (-103), 3) := by decide +kernel
theorem dX11_read_196 : decode cX11_read 196 = .ok (.aload_n 0, 1) := by decide +kernel
theorem dX11_read_197 : decode cX11_read 197 = .ok (.iload 6, 2) := by decide +kernel
theorem dX11_read_199 : decode cX11_read 199 = .ok (.putfield 95, 3) := by decide +kernel
theorem dX11_read_202 : decode cX11_read 202 = .ok (.iload 7, 2) := by decide +kernel
theorem dX11_read_204 : decode cX11_read 204 = .ok (.ireturn, 1) := by decide +kernel
theorem dX11_torn_0 : decode cX11_torn 0 = .ok (.aload_n 0, 1) := by decide +kernel
theorem dX11_torn_1 : decode cX11_torn 1 = .ok (.getfield 95, 3) := by decide +kernel
theorem dX11_torn_4 : decode cX11_torn 4 = .ok (.ireturn, 1) := by decide +kernel
theorem dX11_count_0 : decode cX11_count 0 = .ok (.iload_n 1, 1) := by decide +kernel
theorem dX11_count_1 : decode cX11_count 1 = .ok (.tableswitch 190 0 8 #[51, 62, 77, 92, 107, 115, 123, 155, 163], 51) := by decide +kernel
theorem dX11_count_52 : decode cX11_count 52 = .ok (.aload_n 0, 1) := by decide +kernel
theorem dX11_count_53 : decode cX11_count 53 = .ok (.getfield 26, 3) := by decide +kernel
theorem dX11_count_56 : decode cX11_count 56 = .ok (.getfield 168, 3) := by decide +kernel
theorem dX11_count_59 : decode cX11_count 59 = .ok (.getfield 187, 3) := by decide +kernel
theorem dX11_count_62 : decode cX11_count 62 = .ok (.ireturn, 1) := by decide +kernel
theorem dX11_count_63 : decode cX11_count 63 = .ok (.aload_n 0, 1) := by decide +kernel
theorem dX11_count_64 : decode cX11_count 64 = .ok (.getfield 10, 3) := by decide +kernel
theorem dX11_count_67 : decode cX11_count 67 = .ok (.aload_n 0, 1) := by decide +kernel
theorem dX11_count_68 : decode cX11_count 68 = .ok (.getfield 10, 3) := by decide +kernel
theorem dX11_count_71 : decode cX11_count 71 = .ok (.getfield 156, 3) := by decide +kernel
theorem dX11_count_74 : decode cX11_count 74 = .ok (.invokevirtual 422, 3) := by decide +kernel
theorem dX11_count_77 : decode cX11_count 77 = .ok (.ireturn, 1) := by decide +kernel
theorem dX11_count_78 : decode cX11_count 78 = .ok (.aload_n 0, 1) := by decide +kernel
theorem dX11_count_79 : decode cX11_count 79 = .ok (.getfield 10, 3) := by decide +kernel
theorem dX11_count_82 : decode cX11_count 82 = .ok (.aload_n 0, 1) := by decide +kernel
theorem dX11_count_83 : decode cX11_count 83 = .ok (.getfield 10, 3) := by decide +kernel
theorem dX11_count_86 : decode cX11_count 86 = .ok (.getfield 159, 3) := by decide +kernel
theorem dX11_count_89 : decode cX11_count 89 = .ok (.invokevirtual 422, 3) := by decide +kernel
theorem dX11_count_92 : decode cX11_count 92 = .ok (.ireturn, 1) := by decide +kernel
theorem dX11_count_93 : decode cX11_count 93 = .ok (.aload_n 0, 1) := by decide +kernel
theorem dX11_count_94 : decode cX11_count 94 = .ok (.getfield 10, 3) := by decide +kernel
theorem dX11_count_97 : decode cX11_count 97 = .ok (.aload_n 0, 1) := by decide +kernel
theorem dX11_count_98 : decode cX11_count 98 = .ok (.getfield 10, 3) := by decide +kernel
theorem dX11_count_101 : decode cX11_count 101 = .ok (.getfield 162, 3) := by decide +kernel
theorem dX11_count_104 : decode cX11_count 104 = .ok (.invokevirtual 422, 3) := by decide +kernel
theorem dX11_count_107 : decode cX11_count 107 = .ok (.ireturn, 1) := by decide +kernel
theorem dX11_count_108 : decode cX11_count 108 = .ok (.aload_n 0, 1) := by decide +kernel
theorem dX11_count_109 : decode cX11_count 109 = .ok (.getfield 26, 3) := by decide +kernel
theorem dX11_count_112 : decode cX11_count 112 = .ok (.invokevirtual 426, 3) := by decide +kernel
theorem dX11_count_115 : decode cX11_count 115 = .ok (.ireturn, 1) := by decide +kernel
theorem dX11_count_116 : decode cX11_count 116 = .ok (.aload_n 0, 1) := by decide +kernel
theorem dX11_count_117 : decode cX11_count 117 = .ok (.getfield 26, 3) := by decide +kernel
theorem dX11_count_120 : decode cX11_count 120 = .ok (.invokevirtual 359, 3) := by decide +kernel
theorem dX11_count_123 : decode cX11_count 123 = .ok (.ireturn, 1) := by decide +kernel
theorem dX11_count_124 : decode cX11_count 124 = .ok (.aload_n 0, 1) := by decide +kernel
theorem dX11_count_125 : decode cX11_count 125 = .ok (.getfield 30, 3) := by decide +kernel
theorem dX11_count_128 : decode cX11_count 128 = .ok (.getfield 124, 3) := by decide +kernel
theorem dX11_count_131 : decode cX11_count 131 = .ok (.ifCond .eq 7, 3) := by decide +kernel
theorem dX11_count_134 : decode cX11_count 134 = .ok (.iconst 1, 1) := by decide +kernel
theorem dX11_count_135 : decode cX11_count 135 = .ok (.goto 4, 3) := by decide +kernel
theorem dX11_count_138 : decode cX11_count 138 = .ok (.iconst 0, 1) := by decide +kernel
theorem dX11_count_139 : decode cX11_count 139 = .ok (.aload_n 0, 1) := by decide +kernel
theorem dX11_count_140 : decode cX11_count 140 = .ok (.getfield 33, 3) := by decide +kernel
theorem dX11_count_143 : decode cX11_count 143 = .ok (.getfield 124, 3) := by decide +kernel
theorem dX11_count_146 : decode cX11_count 146 = .ok (.ifCond .eq 7, 3) := by decide +kernel
theorem dX11_count_149 : decode cX11_count 149 = .ok (.iconst 1, 1) := by decide +kernel
theorem dX11_count_150 : decode cX11_count 150 = .ok (.goto 4, 3) := by decide +kernel
theorem dX11_count_153 : decode cX11_count 153 = .ok (.iconst 0, 1) := by decide +kernel
theorem dX11_count_154 : decode cX11_count 154 = .ok (.iadd, 1) := by decide +kernel
theorem dX11_count_155 : decode cX11_count 155 = .ok (.ireturn, 1) := by decide +kernel
theorem dX11_count_156 : decode cX11_count 156 = .ok (.aload_n 0, 1) := by decide +kernel
theorem dX11_count_157 : decode cX11_count 157 = .ok (.getfield 19, 3) := by decide +kernel
theorem dX11_count_160 : decode cX11_count 160 = .ok (.getfield 106, 3) := by decide +kernel
theorem dX11_count_163 : decode cX11_count 163 = .ok (.ireturn, 1) := by decide +kernel
theorem dX11_count_164 : decode cX11_count 164 = .ok (.aload_n 0, 1) := by decide +kernel
theorem dX11_count_165 : decode cX11_count 165 = .ok (.getfield 87, 3) := by decide +kernel
theorem dX11_count_168 : decode cX11_count 168 = .ok (.iconst 0, 1) := by decide +kernel
theorem dX11_count_169 : decode cX11_count 169 = .ok (.aaload, 1) := by decide +kernel
theorem dX11_count_170 : decode cX11_count 170 = .ok (.getfield 409, 3) := by decide +kernel
theorem dX11_count_173 : decode cX11_count 173 = .ok (.ifCond .eq 15, 3) := by decide +kernel
theorem dX11_count_176 : decode cX11_count 176 = .ok (.aload_n 0, 1) := by decide +kernel
theorem dX11_count_177 : decode cX11_count 177 = .ok (.getfield 87, 3) := by decide +kernel
theorem dX11_count_180 : decode cX11_count 180 = .ok (.iconst 0, 1) := by decide +kernel
theorem dX11_count_181 : decode cX11_count 181 = .ok (.aaload, 1) := by decide +kernel
theorem dX11_count_182 : decode cX11_count 182 = .ok (.getfield 429, 3) := by decide +kernel
theorem dX11_count_185 : decode cX11_count 185 = .ok (.goto 5, 3) := by decide +kernel
theorem dX11_count_188 : decode cX11_count 188 = .ok (.bipush (-4), 2) := by decide +kernel
theorem dX11_count_190 : decode cX11_count 190 = .ok (.ireturn, 1) := by decide +kernel
theorem dX11_count_191 : decode cX11_count 191 = .ok (.iconst (-1), 1) := by decide +kernel
theorem dX11_count_192 : decode cX11_count 192 = .ok (.ireturn, 1) := by decide +kernel
abbrev q_X11_plan (w : Int) (σ : tw_M) : Option tw_V → tw_M → Prop := fun z τ => ∃ r : Int, z = some (vI r) ∧ (-2147483648 ≤ r ∧ r ≤ 2147483647) ∧ tw_I τ ∧ tw_F (fun c j => (56 ≤ c ∧ c < 58) ∨ (c = 60 ∧ (j = 5 ∨ j = 6 ∨ j = 8 ∨ j = 10 ∨ j = 11)) ∨ (61 ≤ c ∧ c < 71)) σ τ ∧ (∀ rk : Nat → Int, WOK (wW 1 σ) → (∀ s : Int, 1 ≤ s → s ≤ 10 → σ 3 s.toNat = rk s.toNat) → (¬ σ 60 6 = 0 → PLN (wW 1 σ) rk σ) → ¬ τ 60 6 = 0 → PLN (wW 1 σ) rk τ)
set_option maxHeartbeats 4000000 in
set_option maxRecDepth 100000 in
theorem c_X11_plan {G : tw_G} (hX : tw_isX G) (w : Int) (hw : -2147483648 ≤ w ∧ w ≤ 2147483647) (σ : tw_M) (hI : tw_I σ) : tw_C G yX11_plan cX11_plan 3 (some .int) 45 [vR 0, vI w] σ (q_X11_plan w σ) := by
  refine tw_met [(0, vR 0), (1, vI w)] (by decide +kernel) rfl (Nat.le_of_ble_eq_true rfl) ?_
  refine j_aload_n (pc := 0) dX11_plan_0 rfl rfl ?_
  refine j_getR (pc := 1) (r := 60) fl_X11_67 dX11_plan_1 (a_0 hX) rfl ?_
  refine j_callV (pc := 4) (As := []) (st := []) (c_X5_findPlan hX σ hI) mv_X11_281 rfl rfl rfl (a_60 hX) dX11_plan_4 ⟨Nat.le_of_ble_eq_true rfl, Nat.le_of_ble_eq_true rfl⟩ ⟨Nat.le_refl _, Nat.le_refl _⟩ rfl (Nat.le_of_ble_eq_true rfl) rfl (fun z1 σ2 hz1 => ?_)
  obtain ⟨rfl, hIσ2, hGσ2, q3_0⟩ := hz1
  replace q3_0 : ∀ rk : Nat → Int, WOK (wW 1 σ) → (∀ s : Int, 1 ≤ s → s ≤ 10 → σ 3 s.toNat = rk s.toNat) → (¬ σ 60 6 = 0 → PLN (wW 1 σ) rk σ) → PLN (wW 1 σ) rk σ2 ∧ σ2 60 6 = 1 := q3_0
  have hFσ2 : tw_F (fun c j => (56 ≤ c ∧ c < 58) ∨ (c = 60 ∧ (j = 5 ∨ j = 6 ∨ j = 8 ∨ j = 10 ∨ j = 11)) ∨ (61 ≤ c ∧ c < 71)) σ σ2 := tw_F_tr (tw_F_rf) hGσ2 (fun c j q => (show (56 ≤ c ∧ c < 58) ∨ (c = 60 ∧ (j = 5 ∨ j = 6 ∨ j = 8 ∨ j = 10 ∨ j = 11)) ∨ (61 ≤ c ∧ c < 71) from by replace q : (56 ≤ c ∧ c < 58) ∨ (c = 60 ∧ (j = 5 ∨ j = 6 ∨ j = 8 ∨ j = 10 ∨ j = 11)) ∨ (61 ≤ c ∧ c < 71) := q; exact q))
  refine j_st (st' := []) rfl ?_
  have pA := q3_0
  refine j_aload_n (pc := 7) dX11_plan_7 rfl rfl ?_
  refine j_getR (pc := 8) (r := 60) fl_X11_67 dX11_plan_8 (a_0 hX) rfl ?_
  refine j_getI (pc := 11) fl_X11_284 dX11_plan_11 (a_60 hX) rfl ?_
  have f5 : (0 : Int) ≤ σ2 60 10 ∧ σ2 60 10 ≤ 1 := hIσ2 60 10
  refine j_ifR_eq (pc := 14) (tgt := 30) ⟨by omega, by omega⟩ dX11_plan_14 rfl (fun h6 => ?_) (fun h6 => ?_)
  · refine j_iconst (pc := 30) dX11_plan_30 ?_
    refine j_istore_n (pc := 31) (i := 2) (ls' := [(0, vR 0), (1, vI w), (2, vI 0)]) [1, 2, 0] dX11_plan_31 rfl (Nat.le_of_ble_eq_true rfl) rfl rfl ?_
    refine j_iload_n (pc := 32) dX11_plan_32 rfl rfl ?_
    refine j_iconst (pc := 33) dX11_plan_33 ?_
    refine j_iload_n (pc := 34) dX11_plan_34 rfl rfl ?_
    refine j_callS (pc := 35) (As := [vI w, vI 2, vI 0]) (st := []) (c_X11_isOf w ⟨by omega, by omega⟩ 2 (by (first | decide | exact ⟨by omega, by omega⟩)) 0 (by (first | decide | exact ⟨by omega, by omega⟩)) σ2 hIσ2) ms_X11_290 rfl dX11_plan_35 ⟨Nat.le_of_ble_eq_true rfl, Nat.le_of_ble_eq_true rfl⟩ ⟨Nat.le_refl _, Nat.le_refl _⟩ rfl (Nat.le_of_ble_eq_true rfl) rfl (fun z7 σ8 hz7 => ?_)
    obtain ⟨r10, rfl, hr10, rfl, q9_0⟩ := hz7
    replace q9_0 : (r10 = 1 ∧ ((0 ≤ w ∧ w < (2 : Int)) ∨ (10 ≤ w ∧ w - 10 < (0 : Int)))) ∨ (r10 = 0 ∧ ¬ ((0 ≤ w ∧ w < (2 : Int)) ∨ (10 ≤ w ∧ w - 10 < (0 : Int)))) := q9_0
    refine j_st (st' := [vI r10]) rfl ?_
    refine j_ifR_ne (pc := 38) (tgt := 43) ⟨by omega, by omega⟩ dX11_plan_38 rfl (fun h11 => ?_) (fun h11 => ?_)
    · refine j_aload_n (pc := 43) dX11_plan_43 rfl rfl ?_
      refine j_getR (pc := 44) (r := 60) fl_X11_67 dX11_plan_44 (a_0 hX) rfl ?_
      refine j_getI (pc := 47) fl_X11_284 dX11_plan_47 (a_60 hX) rfl ?_
      refine j_ifR_ne (pc := 50) (tgt := 56) ⟨by omega, by omega⟩ dX11_plan_50 rfl (fun h12 => by exfalso; omega) (fun h12 => ?_)
      refine j_bipush (pc := 53) dX11_plan_53 rfl ?_
      exact j_iret (pc := 55) ⟨rfl, rfl⟩ dX11_plan_55 rfl ⟨_, rfl, ⟨by omega, by omega⟩, hIσ2, hFσ2, (fun rk a b c d => (pA rk a b c).1)⟩
    · refine j_iconst (pc := 41) dX11_plan_41 ?_
      exact j_iret (pc := 42) ⟨rfl, rfl⟩ dX11_plan_42 rfl ⟨_, rfl, ⟨by omega, by omega⟩, hIσ2, hFσ2, (fun rk a b c d => (pA rk a b c).1)⟩
  · refine j_aload_n (pc := 17) dX11_plan_17 rfl rfl ?_
    refine j_getR (pc := 18) (r := 60) fl_X11_67 dX11_plan_18 (a_0 hX) rfl ?_
    refine j_getR (pc := 21) (r := 67) fl_X11_287 dX11_plan_21 (a_60 hX) rfl ?_
    refine j_getI (pc := 24) fl_X11_187 dX11_plan_24 (a_67 hX) rfl ?_
    have f13 : (0 : Int) ≤ σ2 67 0 ∧ σ2 67 0 ≤ 10 := hIσ2 67 0
    refine j_goto (pc := 27) (tgt := 31) dX11_plan_27 rfl ?_
    refine j_istore_n (pc := 31) (i := 2) (ls' := [(0, vR 0), (1, vI w), (2, vI (σ2 67 0))]) [1, 2, 0] dX11_plan_31 rfl (Nat.le_of_ble_eq_true rfl) rfl rfl ?_
    refine j_iload_n (pc := 32) dX11_plan_32 rfl rfl ?_
    refine j_iconst (pc := 33) dX11_plan_33 ?_
    refine j_iload_n (pc := 34) dX11_plan_34 rfl rfl ?_
    refine j_callS (pc := 35) (As := [vI w, vI 2, vI (σ2 67 0)]) (st := []) (c_X11_isOf w ⟨by omega, by omega⟩ 2 (by (first | decide | exact ⟨by omega, by omega⟩)) (σ2 67 0) ⟨by omega, by omega⟩ σ2 hIσ2) ms_X11_290 rfl dX11_plan_35 ⟨Nat.le_of_ble_eq_true rfl, Nat.le_of_ble_eq_true rfl⟩ ⟨Nat.le_refl _, Nat.le_refl _⟩ rfl (Nat.le_of_ble_eq_true rfl) rfl (fun z14 σ15 hz14 => ?_)
    obtain ⟨r17, rfl, hr17, rfl, q16_0⟩ := hz14
    replace q16_0 : (r17 = 1 ∧ ((0 ≤ w ∧ w < (2 : Int)) ∨ (10 ≤ w ∧ w - 10 < (σ2 67 0)))) ∨ (r17 = 0 ∧ ¬ ((0 ≤ w ∧ w < (2 : Int)) ∨ (10 ≤ w ∧ w - 10 < (σ2 67 0)))) := q16_0
    refine j_st (st' := [vI r17]) rfl ?_
    refine j_ifR_ne (pc := 38) (tgt := 43) ⟨by omega, by omega⟩ dX11_plan_38 rfl (fun h18 => ?_) (fun h18 => ?_)
    · refine j_aload_n (pc := 43) dX11_plan_43 rfl rfl ?_
      refine j_getR (pc := 44) (r := 60) fl_X11_67 dX11_plan_44 (a_0 hX) rfl ?_
      refine j_getI (pc := 47) fl_X11_284 dX11_plan_47 (a_60 hX) rfl ?_
      refine j_ifR_ne (pc := 50) (tgt := 56) ⟨by omega, by omega⟩ dX11_plan_50 rfl (fun h19 => ?_) (fun h19 => by exfalso; omega)
      refine j_iload_n (pc := 56) dX11_plan_56 rfl rfl ?_
      refine j_ifR_ne (pc := 57) (tgt := 68) ⟨by omega, by omega⟩ dX11_plan_57 rfl (fun h20 => ?_) (fun h20 => ?_)
      · refine j_iload_n (pc := 68) dX11_plan_68 rfl rfl ?_
        refine j_iconst (pc := 69) dX11_plan_69 ?_
        refine j_icmpR_ne (pc := 70) (tgt := 77) ⟨by omega, by omega⟩ ⟨by omega, by omega⟩ dX11_plan_70 rfl (fun h21 => ?_) (fun h21 => ?_)
        · refine j_aload_n (pc := 77) dX11_plan_77 rfl rfl ?_
          refine j_getR (pc := 78) (r := 60) fl_X11_67 dX11_plan_78 (a_0 hX) rfl ?_
          refine j_getR (pc := 81) (r := 67) fl_X11_287 dX11_plan_81 (a_60 hX) rfl ?_
          refine j_getR (pc := 84) (r := 68) fl_X11_190 dX11_plan_84 (a_67 hX) rfl ?_
          refine j_iload_n (pc := 87) dX11_plan_87 rfl rfl ?_
          refine j_bipush (pc := 88) dX11_plan_88 rfl ?_
          refine j_isub (pc := 90) dX11_plan_90 ?_
          refine j_iald (pc := 91) dX11_plan_91 (a_68 hX) (by omega) (by omega) (by decide) ?_
          have f22 : (0 : Int) ≤ σ2 68 ((w - 10).toNat) ∧ σ2 68 ((w - 10).toNat) ≤ 40 := hIσ2 68 ((w - 10).toNat)
          exact j_iret (pc := 92) ⟨rfl, rfl⟩ dX11_plan_92 rfl ⟨_, rfl, ⟨by omega, by omega⟩, hIσ2, hFσ2, (fun rk a b c d => (pA rk a b c).1)⟩
        · refine j_iload_n (pc := 73) dX11_plan_73 rfl rfl ?_
          refine j_goto (pc := 74) (tgt := 92) dX11_plan_74 rfl ?_
          exact j_iret (pc := 92) ⟨rfl, rfl⟩ dX11_plan_92 rfl ⟨_, rfl, ⟨by omega, by omega⟩, hIσ2, hFσ2, (fun rk a b c d => (pA rk a b c).1)⟩
      · refine j_aload_n (pc := 60) dX11_plan_60 rfl rfl ?_
        refine j_getR (pc := 61) (r := 60) fl_X11_67 dX11_plan_61 (a_0 hX) rfl ?_
        refine j_getI (pc := 64) fl_X11_294 dX11_plan_64 (a_60 hX) rfl ?_
        have f23 : (-2147483648 : Int) ≤ σ2 60 11 ∧ σ2 60 11 ≤ 2147483647 := hIσ2 60 11
        exact j_iret (pc := 67) ⟨rfl, rfl⟩ dX11_plan_67 rfl ⟨_, rfl, ⟨by omega, by omega⟩, hIσ2, hFσ2, (fun rk a b c d => (pA rk a b c).1)⟩
    · refine j_iconst (pc := 41) dX11_plan_41 ?_
      exact j_iret (pc := 42) ⟨rfl, rfl⟩ dX11_plan_42 rfl ⟨_, rfl, ⟨by omega, by omega⟩, hIσ2, hFσ2, (fun rk a b c d => (pA rk a b c).1)⟩
abbrev q_X11_keep (k : Int) (w : Int) (σ : tw_M) : Option tw_V → tw_M → Prop := fun z τ => ∃ r : Int, z = some (vI r) ∧ (-2147483648 ≤ r ∧ r ≤ 2147483647) ∧ tw_I τ ∧ tw_F (fun c j => (56 ≤ c ∧ c < 58) ∨ (c = 60 ∧ (j = 5)) ∨ (61 ≤ c ∧ c < 67)) σ τ ∧ True
set_option maxHeartbeats 4000000 in
set_option maxRecDepth 100000 in
theorem c_X11_keep {G : tw_G} (hX : tw_isX G) (k : Int) (hk : -2147483648 ≤ k ∧ k ≤ 2147483647) (w : Int) (hw : -2147483648 ≤ w ∧ w ≤ 2147483647) (σ : tw_M) (hI : tw_I σ) : tw_C G yX11_keep cX11_keep 3 (some .int) 5 [vR 0, vI k, vI w] σ (q_X11_keep k w σ) := by
  refine tw_met [(0, vR 0), (1, vI k), (2, vI w)] (by decide +kernel) rfl (Nat.le_of_ble_eq_true rfl) ?_
  refine j_iload_n (pc := 0) dX11_keep_0 rfl rfl ?_
  refine j_iconst (pc := 1) dX11_keep_1 ?_
  refine j_icmpR_lt (pc := 2) (tgt := 20) ⟨by omega, by omega⟩ ⟨by omega, by omega⟩ dX11_keep_2 rfl (fun h1 => ?_) (fun h1 => ?_)
  · refine j_iconst (pc := 20) dX11_keep_20 ?_
    exact j_iret (pc := 21) ⟨rfl, rfl⟩ dX11_keep_21 rfl ⟨_, rfl, ⟨by omega, by omega⟩, hI, (tw_F_rf), trivial⟩
  · refine j_iload_n (pc := 5) dX11_keep_5 rfl rfl ?_
    refine j_bipush (pc := 6) dX11_keep_6 rfl ?_
    refine j_icmpR_gt (pc := 8) (tgt := 20) ⟨by omega, by omega⟩ ⟨by omega, by omega⟩ dX11_keep_8 rfl (fun h2 => ?_) (fun h2 => ?_)
    · refine j_iconst (pc := 20) dX11_keep_20 ?_
      exact j_iret (pc := 21) ⟨rfl, rfl⟩ dX11_keep_21 rfl ⟨_, rfl, ⟨by omega, by omega⟩, hI, (tw_F_rf), trivial⟩
    · refine j_iload_n (pc := 11) dX11_keep_11 rfl rfl ?_
      refine j_ifR_lt (pc := 12) (tgt := 20) ⟨by omega, by omega⟩ dX11_keep_12 rfl (fun h3 => ?_) (fun h3 => ?_)
      · refine j_iconst (pc := 20) dX11_keep_20 ?_
        exact j_iret (pc := 21) ⟨rfl, rfl⟩ dX11_keep_21 rfl ⟨_, rfl, ⟨by omega, by omega⟩, hI, (tw_F_rf), trivial⟩
      · refine j_iload_n (pc := 15) dX11_keep_15 rfl rfl ?_
        refine j_iconst (pc := 16) dX11_keep_16 ?_
        refine j_icmpR_le (pc := 17) (tgt := 22) ⟨by omega, by omega⟩ ⟨by omega, by omega⟩ dX11_keep_17 rfl (fun h4 => ?_) (fun h4 => ?_)
        · refine j_aload_n (pc := 22) dX11_keep_22 rfl rfl ?_
          refine j_getR (pc := 23) (r := 60) fl_X11_67 dX11_keep_23 (a_0 hX) rfl ?_
          refine j_iload_n (pc := 26) dX11_keep_26 rfl rfl ?_
          refine j_callV (pc := 27) (As := [vI k]) (st := []) (c_X5_follow hX k ⟨by omega, by omega⟩ σ hI) mv_X11_297 rfl rfl rfl (a_60 hX) dX11_keep_27 ⟨Nat.le_of_ble_eq_true rfl, Nat.le_of_ble_eq_true rfl⟩ ⟨Nat.le_refl _, Nat.le_refl _⟩ rfl (Nat.le_of_ble_eq_true rfl) rfl (fun z5 σ6 hz5 => ?_)
          obtain ⟨rfl, hIσ6, hGσ6, -⟩ := hz5
          have hFσ6 : tw_F (fun c j => (56 ≤ c ∧ c < 58) ∨ (c = 60 ∧ (j = 5)) ∨ (61 ≤ c ∧ c < 67)) σ σ6 := tw_F_tr (tw_F_rf) hGσ6 (fun c j q => (show (56 ≤ c ∧ c < 58) ∨ (c = 60 ∧ (j = 5)) ∨ (61 ≤ c ∧ c < 67) from by replace q : (c = 60 ∧ (j = 5)) ∨ (61 ≤ c ∧ c < 67) := q; exact (q.elim (fun q => (Or.inr (Or.inl q))) (fun q => (Or.inr (Or.inr q))))))
          refine j_st (st' := []) rfl ?_
          refine j_iload_n (pc := 30) dX11_keep_30 rfl rfl ?_
          refine j_ifR_ne (pc := 31) (tgt := 42) ⟨by omega, by omega⟩ dX11_keep_31 rfl (fun h9 => ?_) (fun h9 => ?_)
          · refine j_iload_n (pc := 42) dX11_keep_42 rfl rfl ?_
            refine j_iconst (pc := 43) dX11_keep_43 ?_
            refine j_icmpR_ne (pc := 44) (tgt := 57) ⟨by omega, by omega⟩ ⟨by omega, by omega⟩ dX11_keep_44 rfl (fun h10 => ?_) (fun h10 => ?_)
            · refine j_aload_n (pc := 57) dX11_keep_57 rfl rfl ?_
              refine j_getR (pc := 58) (r := 60) fl_X11_67 dX11_keep_58 (a_0 hX) rfl ?_
              refine j_callV (pc := 61) (As := []) (st := []) (c_X5_ruleIsTooMuch hX σ6 hIσ6) mv_X11_307 rfl rfl rfl (a_60 hX) dX11_keep_61 ⟨Nat.le_of_ble_eq_true rfl, Nat.le_of_ble_eq_true rfl⟩ ⟨Nat.le_refl _, Nat.le_refl _⟩ rfl (Nat.le_of_ble_eq_true rfl) rfl (fun z11 σ12 hz11 => ?_)
              obtain ⟨r14, rfl, hr14, hIσ12, hGσ12, -⟩ := hz11
              have hFσ12 : tw_F (fun c j => (56 ≤ c ∧ c < 58) ∨ (c = 60 ∧ (j = 5)) ∨ (61 ≤ c ∧ c < 67)) σ σ12 := tw_F_tr hFσ6 hGσ12 (fun c j q => (show (56 ≤ c ∧ c < 58) ∨ (c = 60 ∧ (j = 5)) ∨ (61 ≤ c ∧ c < 67) from by replace q : (56 ≤ c ∧ c < 58) := q; exact (Or.inl q)))
              refine j_st (st' := [vI r14]) rfl ?_
              refine j_ifR_eq (pc := 64) (tgt := 71) ⟨by omega, by omega⟩ dX11_keep_64 rfl (fun h15 => ?_) (fun h15 => ?_)
              · refine j_iconst (pc := 71) dX11_keep_71 ?_
                exact j_iret (pc := 72) ⟨rfl, rfl⟩ dX11_keep_72 rfl ⟨_, rfl, ⟨by omega, by omega⟩, hIσ12, hFσ12, trivial⟩
              · refine j_iconst (pc := 67) dX11_keep_67 ?_
                refine j_goto (pc := 68) (tgt := 72) dX11_keep_68 rfl ?_
                exact j_iret (pc := 72) ⟨rfl, rfl⟩ dX11_keep_72 rfl ⟨_, rfl, ⟨by omega, by omega⟩, hIσ12, hFσ12, trivial⟩
            · refine j_aload_n (pc := 47) dX11_keep_47 rfl rfl ?_
              refine j_getR (pc := 48) (r := 60) fl_X11_67 dX11_keep_48 (a_0 hX) rfl ?_
              refine j_callV (pc := 51) (As := []) (st := []) (c_X5_ruleSize hX σ6 hIσ6) mv_X11_304 rfl rfl rfl (a_60 hX) dX11_keep_51 ⟨Nat.le_of_ble_eq_true rfl, Nat.le_of_ble_eq_true rfl⟩ ⟨Nat.le_refl _, Nat.le_refl _⟩ rfl (Nat.le_of_ble_eq_true rfl) rfl (fun z16 σ17 hz16 => ?_)
              obtain ⟨r19, rfl, hr19, rfl, -⟩ := hz16
              refine j_st (st' := [vI r19]) rfl ?_
              refine j_goto (pc := 54) (tgt := 72) dX11_keep_54 rfl ?_
              exact j_iret (pc := 72) ⟨rfl, rfl⟩ dX11_keep_72 rfl ⟨_, rfl, ⟨by omega, by omega⟩, hIσ6, hFσ6, trivial⟩
          · refine j_aload_n (pc := 34) dX11_keep_34 rfl rfl ?_
            refine j_getR (pc := 35) (r := 60) fl_X11_67 dX11_keep_35 (a_0 hX) rfl ?_
            refine j_callV (pc := 38) (As := []) (st := []) (c_X5_ruleRisk hX σ6 hIσ6) mv_X11_301 rfl rfl rfl (a_60 hX) dX11_keep_38 ⟨Nat.le_of_ble_eq_true rfl, Nat.le_of_ble_eq_true rfl⟩ ⟨Nat.le_refl _, Nat.le_refl _⟩ rfl (Nat.le_of_ble_eq_true rfl) rfl (fun z20 σ21 hz20 => ?_)
            obtain ⟨r23, rfl, hr23, hIσ21, hGσ21, -⟩ := hz20
            have hFσ21 : tw_F (fun c j => (56 ≤ c ∧ c < 58) ∨ (c = 60 ∧ (j = 5)) ∨ (61 ≤ c ∧ c < 67)) σ σ21 := tw_F_tr hFσ6 hGσ21 (fun c j q => (show (56 ≤ c ∧ c < 58) ∨ (c = 60 ∧ (j = 5)) ∨ (61 ≤ c ∧ c < 67) from by replace q : (56 ≤ c ∧ c < 58) := q; exact (Or.inl q)))
            refine j_st (st' := [vI r23]) rfl ?_
            exact j_iret (pc := 41) ⟨rfl, rfl⟩ dX11_keep_41 rfl ⟨_, rfl, ⟨by omega, by omega⟩, hIσ21, hFσ21, trivial⟩
        · refine j_iconst (pc := 20) dX11_keep_20 ?_
          exact j_iret (pc := 21) ⟨rfl, rfl⟩ dX11_keep_21 rfl ⟨_, rfl, ⟨by omega, by omega⟩, hI, (tw_F_rf), trivial⟩
abbrev q_X11_best (w : Int) (σ : tw_M) : Option tw_V → tw_M → Prop := fun z τ => ∃ r : Int, z = some (vI r) ∧ (-2147483648 ≤ r ∧ r ≤ 2147483647) ∧ tw_I τ ∧ tw_F (fun c j => (56 ≤ c ∧ c < 58) ∨ (c = 60 ∧ (j = 5 ∨ j = 6 ∨ j = 7 ∨ j = 8 ∨ j = 10 ∨ j = 11 ∨ j = 12 ∨ j = 13)) ∨ (61 ≤ c ∧ c < 71)) σ τ ∧ (∀ rk : Nat → Int, WOK (wW 1 σ) → (∀ s : Int, 1 ≤ s → s ≤ 10 → σ 3 s.toNat = rk s.toNat) → (¬ σ 60 6 = 0 → PLN (wW 1 σ) rk σ) → ¬ τ 60 6 = 0 → PLN (wW 1 σ) rk τ)
set_option maxHeartbeats 4000000 in
set_option maxRecDepth 100000 in
theorem c_X11_best {G : tw_G} (hX : tw_isX G) (w : Int) (hw : -2147483648 ≤ w ∧ w ≤ 2147483647) (σ : tw_M) (hI : tw_I σ) : tw_C G yX11_best cX11_best 2 (some .int) 46 [vR 0, vI w] σ (q_X11_best w σ) := by
  refine tw_met [(0, vR 0), (1, vI w)] (by decide +kernel) rfl (Nat.le_of_ble_eq_true rfl) ?_
  refine j_iload_n (pc := 0) dX11_best_0 rfl rfl ?_
  refine j_ifR_lt (pc := 1) (tgt := 9) ⟨by omega, by omega⟩ dX11_best_1 rfl (fun h1 => ?_) (fun h1 => ?_)
  · refine j_iconst (pc := 9) dX11_best_9 ?_
    exact j_iret (pc := 10) ⟨rfl, rfl⟩ dX11_best_10 rfl ⟨_, rfl, ⟨by omega, by omega⟩, hI, (tw_F_rf), (fun rk a b c d => by first | exact c d | exact pA rk a b c d)⟩
  · refine j_iload_n (pc := 4) dX11_best_4 rfl rfl ?_
    refine j_iconst (pc := 5) dX11_best_5 ?_
    refine j_icmpR_le (pc := 6) (tgt := 11) ⟨by omega, by omega⟩ ⟨by omega, by omega⟩ dX11_best_6 rfl (fun h2 => ?_) (fun h2 => ?_)
    · refine j_aload_n (pc := 11) dX11_best_11 rfl rfl ?_
      refine j_getR (pc := 12) (r := 60) fl_X11_67 dX11_best_12 (a_0 hX) rfl ?_
      refine j_callV (pc := 15) (As := []) (st := []) (c_X5_findBest hX σ hI) mv_X11_311 rfl rfl rfl (a_60 hX) dX11_best_15 ⟨Nat.le_of_ble_eq_true rfl, Nat.le_of_ble_eq_true rfl⟩ ⟨Nat.le_refl _, Nat.le_refl _⟩ rfl (Nat.le_of_ble_eq_true rfl) rfl (fun z3 σ4 hz3 => ?_)
      obtain ⟨rfl, hIσ4, hGσ4, q5_0⟩ := hz3
      replace q5_0 : ∀ rk : Nat → Int, WOK (wW 1 σ) → (∀ s : Int, 1 ≤ s → s ≤ 10 → σ 3 s.toNat = rk s.toNat) → (¬ σ 60 6 = 0 → PLN (wW 1 σ) rk σ) → ¬ σ4 60 6 = 0 → PLN (wW 1 σ) rk σ4 := q5_0
      have hFσ4 : tw_F (fun c j => (56 ≤ c ∧ c < 58) ∨ (c = 60 ∧ (j = 5 ∨ j = 6 ∨ j = 7 ∨ j = 8 ∨ j = 10 ∨ j = 11 ∨ j = 12 ∨ j = 13)) ∨ (61 ≤ c ∧ c < 71)) σ σ4 := tw_F_tr (tw_F_rf) hGσ4 (fun c j q => (show (56 ≤ c ∧ c < 58) ∨ (c = 60 ∧ (j = 5 ∨ j = 6 ∨ j = 7 ∨ j = 8 ∨ j = 10 ∨ j = 11 ∨ j = 12 ∨ j = 13)) ∨ (61 ≤ c ∧ c < 71) from by replace q : (56 ≤ c ∧ c < 58) ∨ (c = 60 ∧ (j = 5 ∨ j = 6 ∨ j = 7 ∨ j = 8 ∨ j = 10 ∨ j = 11 ∨ j = 12 ∨ j = 13)) ∨ (61 ≤ c ∧ c < 71) := q; exact q))
      refine j_st (st' := []) rfl ?_
      have pA := q5_0
      refine j_aload_n (pc := 18) dX11_best_18 rfl rfl ?_
      refine j_getR (pc := 19) (r := 60) fl_X11_67 dX11_best_19 (a_0 hX) rfl ?_
      refine j_getI (pc := 22) fl_X11_284 dX11_best_22 (a_60 hX) rfl ?_
      have f7 : (0 : Int) ≤ σ4 60 10 ∧ σ4 60 10 ≤ 1 := hIσ4 60 10
      refine j_ifR_eq (pc := 25) (tgt := 38) ⟨by omega, by omega⟩ dX11_best_25 rfl (fun h8 => ?_) (fun h8 => ?_)
      · refine j_bipush (pc := 38) dX11_best_38 rfl ?_
        exact j_iret (pc := 40) ⟨rfl, rfl⟩ dX11_best_40 rfl ⟨_, rfl, ⟨by omega, by omega⟩, hIσ4, hFσ4, (fun rk a b c d => by first | exact c d | exact pA rk a b c d)⟩
      · refine j_aload_n (pc := 28) dX11_best_28 rfl rfl ?_
        refine j_getR (pc := 29) (r := 60) fl_X11_67 dX11_best_29 (a_0 hX) rfl ?_
        refine j_getI (pc := 32) fl_X11_314 dX11_best_32 (a_60 hX) rfl ?_
        have f9 : (0 : Int) ≤ σ4 60 12 ∧ σ4 60 12 ≤ 40 := hIσ4 60 12
        refine j_ifR_ne (pc := 35) (tgt := 41) ⟨by omega, by omega⟩ dX11_best_35 rfl (fun h10 => ?_) (fun h10 => ?_)
        · refine j_iload_n (pc := 41) dX11_best_41 rfl rfl ?_
          refine j_ifR_ne (pc := 42) (tgt := 53) ⟨by omega, by omega⟩ dX11_best_42 rfl (fun h11 => ?_) (fun h11 => ?_)
          · refine j_iload_n (pc := 53) dX11_best_53 rfl rfl ?_
            refine j_iconst (pc := 54) dX11_best_54 ?_
            refine j_icmpR_ne (pc := 55) (tgt := 68) ⟨by omega, by omega⟩ ⟨by omega, by omega⟩ dX11_best_55 rfl (fun h12 => ?_) (fun h12 => ?_)
            · refine j_aload_n (pc := 68) dX11_best_68 rfl rfl ?_
              refine j_getR (pc := 69) (r := 60) fl_X11_67 dX11_best_69 (a_0 hX) rfl ?_
              refine j_getI (pc := 72) fl_X11_317 dX11_best_72 (a_60 hX) rfl ?_
              have f13 : (-2147483648 : Int) ≤ σ4 60 13 ∧ σ4 60 13 ≤ 2147483647 := hIσ4 60 13
              refine j_aload_n (pc := 75) dX11_best_75 rfl rfl ?_
              refine j_getR (pc := 76) (r := 60) fl_X11_67 dX11_best_76 (a_0 hX) rfl ?_
              refine j_getI (pc := 79) fl_X11_294 dX11_best_79 (a_60 hX) rfl ?_
              have f14 : (-2147483648 : Int) ≤ σ4 60 11 ∧ σ4 60 11 ≤ 2147483647 := hIσ4 60 11
              refine j_isub (pc := 82) dX11_best_82 ?_
              refine j_top (fun z15 ez15 hz15 => ?_)
              exact j_iret (pc := 83) ⟨rfl, rfl⟩ dX11_best_83 rfl ⟨_, rfl, ⟨by omega, by omega⟩, hIσ4, hFσ4, (fun rk a b c d => by first | exact c d | exact pA rk a b c d)⟩
            · refine j_aload_n (pc := 58) dX11_best_58 rfl rfl ?_
              refine j_getR (pc := 59) (r := 60) fl_X11_67 dX11_best_59 (a_0 hX) rfl ?_
              refine j_getI (pc := 62) fl_X11_317 dX11_best_62 (a_60 hX) rfl ?_
              have f16 : (-2147483648 : Int) ≤ σ4 60 13 ∧ σ4 60 13 ≤ 2147483647 := hIσ4 60 13
              refine j_goto (pc := 65) (tgt := 83) dX11_best_65 rfl ?_
              exact j_iret (pc := 83) ⟨rfl, rfl⟩ dX11_best_83 rfl ⟨_, rfl, ⟨by omega, by omega⟩, hIσ4, hFσ4, (fun rk a b c d => by first | exact c d | exact pA rk a b c d)⟩
          · refine j_aload_n (pc := 45) dX11_best_45 rfl rfl ?_
            refine j_getR (pc := 46) (r := 60) fl_X11_67 dX11_best_46 (a_0 hX) rfl ?_
            refine j_getI (pc := 49) fl_X11_314 dX11_best_49 (a_60 hX) rfl ?_
            exact j_iret (pc := 52) ⟨rfl, rfl⟩ dX11_best_52 rfl ⟨_, rfl, ⟨by omega, by omega⟩, hIσ4, hFσ4, (fun rk a b c d => by first | exact c d | exact pA rk a b c d)⟩
        · refine j_bipush (pc := 38) dX11_best_38 rfl ?_
          exact j_iret (pc := 40) ⟨rfl, rfl⟩ dX11_best_40 rfl ⟨_, rfl, ⟨by omega, by omega⟩, hIσ4, hFσ4, (fun rk a b c d => by first | exact c d | exact pA rk a b c d)⟩
    · refine j_iconst (pc := 9) dX11_best_9 ?_
      exact j_iret (pc := 10) ⟨rfl, rfl⟩ dX11_best_10 rfl ⟨_, rfl, ⟨by omega, by omega⟩, hI, (tw_F_rf), (fun rk a b c d => by first | exact c d | exact pA rk a b c d)⟩
abbrev q_X11_adopt  (σ : tw_M) : Option tw_V → tw_M → Prop := fun z τ => ∃ r : Int, z = some (vI r) ∧ (-2147483648 ≤ r ∧ r ≤ 2147483647) ∧ tw_I τ ∧ tw_F (fun c j => (56 ≤ c ∧ c < 58) ∨ (c = 60 ∧ (j = 5 ∨ j = 6 ∨ j = 8 ∨ j = 10 ∨ j = 11)) ∨ (61 ≤ c ∧ c < 71) ∨ (24 ≤ c ∧ c < 29)) σ τ ∧ (∀ rk : Nat → Int, ADQ rk σ → ADE (wW 1 σ) rk r σ τ)
set_option maxHeartbeats 4000000 in
set_option maxRecDepth 100000 in
theorem l_X11_adopt {G : tw_G} (hX : tw_isX G) (σ : tw_M) (hI : tw_I σ) : ∀ N_ : Nat, (∀ (k : Int) (hk : 0 ≤ k ∧ k ≤ 10) (τ : tw_M) (hIτ : tw_I τ) (hFτ : tw_F (fun c j => (56 ≤ c ∧ c < 58) ∨ (c = 60 ∧ (j = 5 ∨ j = 6 ∨ j = 8 ∨ j = 10 ∨ j = 11)) ∨ (61 ≤ c ∧ c < 71) ∨ (24 ≤ c ∧ c < 29)) σ τ) (i0 : ∀ rk : Nat → Int, ADQ rk σ → ADI (wW 1 σ) rk k τ) (hm : (10 - k).toNat < N_), tw_J G (tw_mt RX11 cX11_adopt 3 (some .int) 45) (tw_E G (q_X11_adopt σ)) 38 [(0, vR 0), (1, vR 67), (2, vI k)] [] τ) := by
  intro N_
  induction N_ with
  | zero => exact fun k hk τ hIτ hFτ i0 hm => absurd hm (Nat.not_lt_zero _)
  | succ N_ ih =>
    intro k hk τ hIτ hFτ i0 hm
    have W1 : wW 1 τ = wW 1 σ := wW_F (fun c j a b => hFτ c j (show ¬ ((56 ≤ c ∧ c < 58) ∨ (c = 60 ∧ (j = 5 ∨ j = 6 ∨ j = 8 ∨ j = 10 ∨ j = 11)) ∨ (61 ≤ c ∧ c < 71) ∨ (24 ≤ c ∧ c < 29)) from by omega))
    refine j_iload_n (pc := 38) dX11_adopt_38 rfl rfl ?_
    refine j_aload_n (pc := 39) dX11_adopt_39 rfl rfl ?_
    refine j_getI (pc := 40) fl_X11_187 dX11_adopt_40 (a_67 hX) rfl ?_
    have f1 : (0 : Int) ≤ τ 67 0 ∧ τ 67 0 ≤ 10 := hIτ 67 0
    refine j_icmpR_ge (pc := 43) (tgt := 76) ⟨by omega, by omega⟩ ⟨by omega, by omega⟩ dX11_adopt_43 rfl (fun h2 => ?_) (fun h2 => ?_)
    · refine j_aload_n (pc := 76) dX11_adopt_76 rfl rfl ?_
      refine j_getR (pc := 77) (r := 23) fl_X11_26 dX11_adopt_77 (a_0 hX) rfl ?_
      refine j_getR (pc := 80) (r := 24) fl_X11_168 dX11_adopt_80 (a_23 hX) rfl ?_
      refine j_getI (pc := 83) fl_X11_187 dX11_adopt_83 (a_24 hX) rfl ?_
      have f3 : (0 : Int) ≤ τ 24 0 ∧ τ 24 0 ≤ 10 := hIτ 24 0
      have fin : ∀ rk : Nat → Int, ADQ rk σ → ADE (wW 1 σ) rk (τ 24 0) σ τ := fun rk Q => ADI_end Q.1 (i0 rk Q) (by omega) rfl
      exact j_iret (pc := 86) ⟨rfl, rfl⟩ dX11_adopt_86 rfl ⟨_, rfl, ⟨by omega, by omega⟩, hIτ, hFτ, fin⟩
    · refine j_aload_n (pc := 46) dX11_adopt_46 rfl rfl ?_
      refine j_getR (pc := 47) (r := 23) fl_X11_26 dX11_adopt_47 (a_0 hX) rfl ?_
      refine j_aload_n (pc := 50) dX11_adopt_50 rfl rfl ?_
      refine j_getR (pc := 51) (r := 1) fl_X11_10 dX11_adopt_51 (a_0 hX) rfl ?_
      refine j_aload_n (pc := 54) dX11_adopt_54 rfl rfl ?_
      refine j_getR (pc := 55) (r := 68) fl_X11_190 dX11_adopt_55 (a_67 hX) rfl ?_
      refine j_iload_n (pc := 58) dX11_adopt_58 rfl rfl ?_
      refine j_iald (pc := 59) dX11_adopt_59 (a_68 hX) (by omega) (by omega) (by decide) ?_
      have f4 : (0 : Int) ≤ τ 68 (k.toNat) ∧ τ 68 (k.toNat) ≤ 40 := hIτ 68 (k.toNat)
      refine j_aload_n (pc := 60) dX11_adopt_60 rfl rfl ?_
      refine j_getR (pc := 61) (r := 69) fl_X11_193 dX11_adopt_61 (a_67 hX) rfl ?_
      refine j_iload_n (pc := 64) dX11_adopt_64 rfl rfl ?_
      refine j_iald (pc := 65) dX11_adopt_65 (a_69 hX) (by omega) (by omega) (by decide) ?_
      have f5 : (0 : Int) ≤ τ 69 (k.toNat) ∧ τ 69 (k.toNat) ≤ 10 := hIτ 69 (k.toNat)
      refine j_callV (pc := 66) (As := [vR 1, vI (τ 68 (k.toNat)), vI (τ 69 (k.toNat))]) (st := []) (c_X3_place 23 (s_Hand_23 hX) 1 (s_Wall_1 hX) (τ 68 (k.toNat)) ⟨by omega, by omega⟩ (τ 69 (k.toNat)) ⟨by omega, by omega⟩ τ hIτ (by omega)) mv_X11_178 rfl rfl rfl (a_23 hX) dX11_adopt_66 ⟨Nat.le_of_ble_eq_true rfl, Nat.le_of_ble_eq_true rfl⟩ ⟨Nat.le_refl _, Nat.le_refl _⟩ rfl (Nat.le_of_ble_eq_true rfl) rfl (fun z6 σ7 hz6 => ?_)
      obtain ⟨r9, rfl, hr9, hIσ7, hGσ7, q8_0⟩ := hz6
      replace q8_0 : ∀ gg qq : Nat → Int, RG 24 gg qq τ → (1 ≤ (τ 69 (k.toNat)) → (τ 69 (k.toNat)) ≤ 10 → 0 ≤ τ 28 (τ 69 (k.toNat)).toNat) → (¬ whyS (wW 1 τ) (gg (τ 68 (k.toNat)).toNat) (τ 24 0) (τ 28 (τ 69 (k.toNat)).toNat) (τ 68 (k.toNat)) (τ 69 (k.toNat)) = 0 ∧ r9 = whyS (wW 1 τ) (gg (τ 68 (k.toNat)).toNat) (τ 24 0) (τ 28 (τ 69 (k.toNat)).toNat) (τ 68 (k.toNat)) (τ 69 (k.toNat)) ∧ ∀ c j, σ7 c j = τ c j) ∨ (whyS (wW 1 τ) (gg (τ 68 (k.toNat)).toNat) (τ 24 0) (τ 28 (τ 69 (k.toNat)).toNat) (τ 68 (k.toNat)) (τ 69 (k.toNat)) = 0 ∧ r9 = cnt gg (τ 68 (k.toNat)).toNat ∧ RG 24 (pg gg (τ 68 (k.toNat)).toNat (τ 69 (k.toNat))) (pg qq (τ 68 (k.toNat)).toNat 0) σ7 ∧ σ7 28 (τ 69 (k.toNat)).toNat = τ 28 (τ 69 (k.toNat)).toNat - 1 ∧ ∀ j : Nat, ¬ j = (τ 69 (k.toNat)).toNat → σ7 28 j = τ 28 j) := q8_0
      have hFσ7 : tw_F (fun c j => (56 ≤ c ∧ c < 58) ∨ (c = 60 ∧ (j = 5 ∨ j = 6 ∨ j = 8 ∨ j = 10 ∨ j = 11)) ∨ (61 ≤ c ∧ c < 71) ∨ (24 ≤ c ∧ c < 29)) σ σ7 := tw_F_tr hFτ hGσ7 (fun c j q => (show (56 ≤ c ∧ c < 58) ∨ (c = 60 ∧ (j = 5 ∨ j = 6 ∨ j = 8 ∨ j = 10 ∨ j = 11)) ∨ (61 ≤ c ∧ c < 71) ∨ (24 ≤ c ∧ c < 29) from by replace q : (24 ≤ c ∧ c < 29) := q; exact (Or.inr (Or.inr (Or.inr q)))))
      refine j_st (st' := [vI r9]) rfl ?_
      refine j_pop (pc := 69) dX11_adopt_69 rfl ?_
      refine j_iinc (pc := 70) (i := 2) (n := 1) (ls' := [(0, vR 0), (1, vR 67), (2, vI (k + 1))]) [1, 2, 0] dX11_adopt_70 rfl (Nat.le_of_ble_eq_true rfl) rfl rfl ?_
      refine j_goto (pc := 73) (tgt := 38) dX11_adopt_73 rfl ?_
      refine j_ls (ls' := [(0, vR 0), (1, vR 67), (2, vI (k + 1))]) [0, 1, 2] rfl ?_
      exact ih (k + 1) ⟨by omega, by omega⟩ σ7 hIσ7 hFσ7 (show ∀ rk : Nat → Int, ADQ rk σ → ADI (wW 1 σ) rk (k + 1) σ7 from (fun rk Q => by
                                                              have H := i0 rk Q
                                                              obtain ⟨o1, o2, o3, o4, o5, o6⟩ := ADI_ok Q.1 H (k := k) ⟨by omega, by omega⟩
                                                              have y := q8_0 _ _ H.2.2.1 (fun _ _ => o2)
                                                              rw [W1] at y
                                                              rcases y with ⟨y1, y2⟩ | ⟨y1, y2, y3, y4, y5⟩
                                                              · exact absurd o1 y1
                                                              · exact ADI_s Q.1 H (k := k) ⟨by omega, by omega⟩ (fun c j a b => hGσ7 c j (show ¬ ((24 ≤ c ∧ c < 29)) from by omega)) y3 y4 y5)) (show (10 - (k + 1)).toNat < N_ from by omega)
set_option maxHeartbeats 4000000 in
set_option maxRecDepth 100000 in
theorem c_X11_adopt {G : tw_G} (hX : tw_isX G) (σ : tw_M) (hI : tw_I σ) : tw_C G yX11_adopt cX11_adopt 3 (some .int) 45 [vR 0] σ (q_X11_adopt σ) := by
  refine tw_met [(0, vR 0)] (by decide +kernel) rfl (Nat.le_of_ble_eq_true rfl) ?_
  refine j_aload_n (pc := 0) dX11_adopt_0 rfl rfl ?_
  refine j_getR (pc := 1) (r := 60) fl_X11_67 dX11_adopt_1 (a_0 hX) rfl ?_
  refine j_callV (pc := 4) (As := []) (st := []) (c_X5_findPlan hX σ hI) mv_X11_281 rfl rfl rfl (a_60 hX) dX11_adopt_4 ⟨Nat.le_of_ble_eq_true rfl, Nat.le_of_ble_eq_true rfl⟩ ⟨Nat.le_refl _, Nat.le_refl _⟩ rfl (Nat.le_of_ble_eq_true rfl) rfl (fun z10 σ11 hz10 => ?_)
  obtain ⟨rfl, hIσ11, hGσ11, q12_0⟩ := hz10
  replace q12_0 : ∀ rk : Nat → Int, WOK (wW 1 σ) → (∀ s : Int, 1 ≤ s → s ≤ 10 → σ 3 s.toNat = rk s.toNat) → (¬ σ 60 6 = 0 → PLN (wW 1 σ) rk σ) → PLN (wW 1 σ) rk σ11 ∧ σ11 60 6 = 1 := q12_0
  have hFσ11 : tw_F (fun c j => (56 ≤ c ∧ c < 58) ∨ (c = 60 ∧ (j = 5 ∨ j = 6 ∨ j = 8 ∨ j = 10 ∨ j = 11)) ∨ (61 ≤ c ∧ c < 71) ∨ (24 ≤ c ∧ c < 29)) σ σ11 := tw_F_tr (tw_F_rf) hGσ11 (fun c j q => (show (56 ≤ c ∧ c < 58) ∨ (c = 60 ∧ (j = 5 ∨ j = 6 ∨ j = 8 ∨ j = 10 ∨ j = 11)) ∨ (61 ≤ c ∧ c < 71) ∨ (24 ≤ c ∧ c < 29) from by replace q : (56 ≤ c ∧ c < 58) ∨ (c = 60 ∧ (j = 5 ∨ j = 6 ∨ j = 8 ∨ j = 10 ∨ j = 11)) ∨ (61 ≤ c ∧ c < 71) := q; exact (q.elim (fun q => (Or.inl q)) (fun q => (q.elim (fun q => (Or.inr (Or.inl q))) (fun q => (Or.inr (Or.inr (Or.inl q)))))))))
  refine j_st (st' := []) rfl ?_
  have pl := q12_0
  have WA9 : wW 1 σ11 = wW 1 σ := wW_F (fun c j a b => hFσ11 c j (show ¬ ((56 ≤ c ∧ c < 58) ∨ (c = 60 ∧ (j = 5 ∨ j = 6 ∨ j = 8 ∨ j = 10 ∨ j = 11)) ∨ (61 ≤ c ∧ c < 71) ∨ (24 ≤ c ∧ c < 29)) from by omega))
  have fA : ∀ c j : Nat, 23 ≤ c → c < 31 → σ11 c j = σ c j := fun c j a b => hGσ11 c j (show ¬ ((56 ≤ c ∧ c < 58) ∨ (c = 60 ∧ (j = 5 ∨ j = 6 ∨ j = 8 ∨ j = 10 ∨ j = 11)) ∨ (61 ≤ c ∧ c < 71)) from by omega)
  have pq : ∀ rk : Nat → Int, ADQ rk σ → PLN (wW 1 σ) rk σ11 ∧ σ11 60 6 = 1 := fun rk Q => pl rk Q.1 (fun s s1 s2 => (Q.2.1 s s1 s2).1) Q.2.2.1
  refine j_aload_n (pc := 7) dX11_adopt_7 rfl rfl ?_
  refine j_getR (pc := 8) (r := 60) fl_X11_67 dX11_adopt_8 (a_0 hX) rfl ?_
  refine j_getI (pc := 11) fl_X11_284 dX11_adopt_11 (a_60 hX) rfl ?_
  have f14 : (0 : Int) ≤ σ11 60 10 ∧ σ11 60 10 ≤ 1 := hIσ11 60 10
  refine j_ifR_ne (pc := 14) (tgt := 20) ⟨by omega, by omega⟩ dX11_adopt_14 rfl (fun h15 => ?_) (fun h15 => ?_)
  · refine j_aload_n (pc := 20) dX11_adopt_20 rfl rfl ?_
    refine j_getR (pc := 21) (r := 23) fl_X11_26 dX11_adopt_21 (a_0 hX) rfl ?_
    refine j_callV (pc := 24) (As := []) (st := []) (c_X3_takeAll 23 (s_Hand_23 hX) σ11 hIσ11) mv_X11_207 rfl rfl rfl (a_23 hX) dX11_adopt_24 ⟨Nat.le_of_ble_eq_true rfl, Nat.le_of_ble_eq_true rfl⟩ ⟨Nat.le_refl _, Nat.le_refl _⟩ rfl (Nat.le_of_ble_eq_true rfl) rfl (fun z16 σ17 hz16 => ?_)
    obtain ⟨r19, rfl, hr19, hIσ17, hGσ17, q18_0⟩ := hz16
    replace q18_0 : ∀ gg qq rk : Nat → Int, RG 24 gg qq σ11 → CNR rk gg 28 σ11 → r19 = σ11 24 0 ∧ σ17 24 0 = 0 ∧ ∀ x : Int, 1 ≤ x → x ≤ 10 → σ17 28 x.toNat = rk x.toNat := q18_0
    have y20 : σ11 24 0 = σ 24 0 := (hGσ11 24 0 (show ¬ ((56 ≤ 24 ∧ 24 < 58) ∨ (24 = 60 ∧ (0 = 5 ∨ 0 = 6 ∨ 0 = 8 ∨ 0 = 10 ∨ 0 = 11)) ∨ (61 ≤ 24 ∧ 24 < 71)) from by decide))
    have f21 : (0 : Int) ≤ σ 24 0 ∧ σ 24 0 ≤ 10 := hI 24 0
    have hFσ17 : tw_F (fun c j => (56 ≤ c ∧ c < 58) ∨ (c = 60 ∧ (j = 5 ∨ j = 6 ∨ j = 8 ∨ j = 10 ∨ j = 11)) ∨ (61 ≤ c ∧ c < 71) ∨ (24 ≤ c ∧ c < 29)) σ σ17 := tw_F_tr hFσ11 hGσ17 (fun c j q => (show (56 ≤ c ∧ c < 58) ∨ (c = 60 ∧ (j = 5 ∨ j = 6 ∨ j = 8 ∨ j = 10 ∨ j = 11)) ∨ (61 ≤ c ∧ c < 71) ∨ (24 ≤ c ∧ c < 29) from by replace q : (24 ≤ c ∧ c < 29) := q; exact (Or.inr (Or.inr (Or.inr q)))))
    refine j_st (st' := [vI r19]) rfl ?_
    have tk := q18_0
    refine j_pop (pc := 27) dX11_adopt_27 rfl ?_
    refine j_aload_n (pc := 28) dX11_adopt_28 rfl rfl ?_
    refine j_getR (pc := 29) (r := 60) fl_X11_67 dX11_adopt_29 (a_0 hX) rfl ?_
    refine j_getR (pc := 32) (r := 67) fl_X11_287 dX11_adopt_32 (a_60 hX) rfl ?_
    refine j_astore_n (pc := 35) (i := 1) (ls' := [(0, vR 0), (1, vR 67)]) [1, 0] dX11_adopt_35 rfl (Nat.le_of_ble_eq_true rfl) rfl rfl ?_
    refine j_iconst (pc := 36) dX11_adopt_36 ?_
    refine j_istore_n (pc := 37) (i := 2) (ls' := [(0, vR 0), (1, vR 67), (2, vI 0)]) [1, 2, 0] dX11_adopt_37 rfl (Nat.le_of_ble_eq_true rfl) rfl rfl ?_
    refine j_ls (ls' := [(0, vR 0), (1, vR 67), (2, vI 0)]) [0, 1, 2] rfl ?_
    exact (l_X11_adopt hX σ hI (((10 - (0 : Int)).toNat) + 1)) 0 (by (first | decide | exact ⟨by omega, by omega⟩)) σ17 hIσ17 hFσ17 (show ∀ rk : Nat → Int, ADQ rk σ → ADI (wW 1 σ) rk (0 : Int) σ17 from (fun rk Q => by
                                                              obtain ⟨gg, qq, R, C⟩ := Q.2.2.2
                                                              have y := tk gg qq rk (RG_F R (fun c j a b => fA c j (by omega) (by omega))) (fun x x1 x2 => by (have z := C x x1 x2); show σ11 28 x.toNat + _ = _ ∧ 0 ≤ σ11 28 x.toNat ∧ _; rw [fA 28 _ (by omega) (by omega)]; exact z)
                                                              exact ADI_0 Q.1 ⟨(hGσ17 60 10 (show ¬ ((24 ≤ 60 ∧ 60 < 29)) from by decide)).trans (by omega), (hGσ17 60 6 (show ¬ ((24 ≤ 60 ∧ 60 < 29)) from by decide)).trans (pq rk Q).2⟩ (BST_F (pq rk Q).1 (fun j => hGσ17 60 j (show ¬ ((24 ≤ 60 ∧ 60 < 29)) from by decide)) (fun c j a b => hGσ17 c j (show ¬ ((24 ≤ c ∧ c < 29)) from by omega))) y.2.1 y.2.2)) (Nat.lt_succ_self _)
  · refine j_bipush (pc := 17) dX11_adopt_17 rfl ?_
    have fin : ∀ rk : Nat → Int, ADQ rk σ → ADE (wW 1 σ) rk (-4) σ σ11 := fun rk Q => ⟨(pq rk Q).1, (pq rk Q).2, Or.inl ⟨by omega, rfl, fA⟩⟩
    exact j_iret (pc := 19) ⟨rfl, rfl⟩ dX11_adopt_19 rfl ⟨_, rfl, ⟨by omega, by omega⟩, hIσ11, hFσ11, fin⟩
abbrev q_X11_drag (w : Int) (σ : tw_M) : Option tw_V → tw_M → Prop := fun z τ => ∃ r : Int, z = some (vI r) ∧ (-2147483648 ≤ r ∧ r ≤ 2147483647) ∧ σ = τ ∧ (∀ gg qq : Nat → Int, RG 24 gg qq σ → DGA (wW 1 σ) gg qq (σ 24 0) w r)
set_option maxHeartbeats 4000000 in
set_option maxRecDepth 100000 in
theorem c_X11_drag {G : tw_G} (hX : tw_isX G) (w : Int) (hw : -2147483648 ≤ w ∧ w ≤ 2147483647) (σ : tw_M) (hI : tw_I σ) : tw_C G yX11_drag cX11_drag 3 (some .int) 5 [vR 0, vI w] σ (q_X11_drag w σ) := by
  refine tw_met [(0, vR 0), (1, vI w)] (by decide +kernel) rfl (Nat.le_of_ble_eq_true rfl) ?_
  have d0 := True.intro
  have l0 := True.intro
  have d2 := True.intro
  have tp := True.intro
  have dv := True.intro
  have r0 : wW 1 σ 100 = σ 2 0 := wW_r (w := 1) (j := 0) (by decide)
  refine j_aload_n (pc := 0) dX11_drag_0 rfl rfl ?_
  refine j_getR (pc := 1) (r := 23) fl_X11_26 dX11_drag_1 (a_0 hX) rfl ?_
  refine j_getR (pc := 4) (r := 24) fl_X11_168 dX11_drag_4 (a_23 hX) rfl ?_
  refine j_astore_n (pc := 7) (i := 2) (ls' := [(0, vR 0), (1, vI w), (2, vR 24)]) [1, 2, 0] dX11_drag_7 rfl (Nat.le_of_ble_eq_true rfl) rfl rfl ?_
  refine j_iload_n (pc := 8) dX11_drag_8 rfl rfl ?_
  rcases (show w < 0 ∨ w = 0 ∨ w = 1 ∨ w = 2 ∨ 2 < w from by omega) with h1 | h1 | h1 | h1 | h1
  · refine j_tsOut (pc := 9) (tgt := 74) dX11_drag_9 ⟨by omega, by omega⟩ (Or.inl h1) rfl ?_
    refine j_iconst (pc := 74) dX11_drag_74 ?_
    exact j_iret (pc := 75) ⟨rfl, rfl⟩ dX11_drag_75 rfl ⟨_, rfl, ⟨by omega, by omega⟩, rfl, (fun gg qq H => by
                                                              unfold DGA
                                                              rw [r0]
                                                              first
                                                              | exact Or.inr (Or.inr (Or.inr ⟨by omega, rfl⟩))
                                                              | exact Or.inl ⟨by omega, d0 gg qq H⟩
                                                              | exact Or.inr (Or.inl ⟨by omega, l0 gg qq H⟩)
                                                              | exact Or.inr (Or.inr (Or.inl ⟨by omega, by rw [← d2 gg qq H, ← dv, tp]⟩)))⟩
  · refine j_tsIn (pc := 9) (tgt := 36) 0 dX11_drag_9 h1 (by decide) ⟨by decide, by decide⟩ rfl rfl ?_
    refine j_aload_n (pc := 36) dX11_drag_36 rfl rfl ?_
    refine j_aload_n (pc := 37) dX11_drag_37 rfl rfl ?_
    refine j_getR (pc := 38) (r := 1) fl_X11_10 dX11_drag_38 (a_0 hX) rfl ?_
    refine j_callV (pc := 41) (As := [vR 1]) (st := []) (c_X7_dragOf 24 (s_Row_24 hX) 1 (s_Wall_1 hX) σ hI) mv_X11_320 rfl rfl rfl (a_24 hX) dX11_drag_41 ⟨Nat.le_of_ble_eq_true rfl, Nat.le_of_ble_eq_true rfl⟩ ⟨Nat.le_refl _, Nat.le_refl _⟩ rfl (Nat.le_of_ble_eq_true rfl) rfl (fun z2 σ3 hz2 => ?_)
    obtain ⟨r5, rfl, hr5, rfl, q4_0⟩ := hz2
    replace q4_0 : ∀ gg qq : Nat → Int, RG 24 gg qq σ → r5 = DRS (wW 1 σ) gg qq (σ 24 0) (σ 24 0).toNat := q4_0
    refine j_st (st' := [vI r5]) rfl ?_
    have d0 := q4_0
    exact j_iret (pc := 44) ⟨rfl, rfl⟩ dX11_drag_44 rfl ⟨_, rfl, ⟨by omega, by omega⟩, rfl, (fun gg qq H => by
                                                              unfold DGA
                                                              rw [r0]
                                                              first
                                                              | exact Or.inr (Or.inr (Or.inr ⟨by omega, rfl⟩))
                                                              | exact Or.inl ⟨by omega, d0 gg qq H⟩
                                                              | exact Or.inr (Or.inl ⟨by omega, l0 gg qq H⟩)
                                                              | exact Or.inr (Or.inr (Or.inl ⟨by omega, by rw [← d2 gg qq H, ← dv, tp]⟩)))⟩
  · refine j_tsIn (pc := 9) (tgt := 45) 1 dX11_drag_9 h1 (by decide) ⟨by decide, by decide⟩ rfl rfl ?_
    refine j_aload_n (pc := 45) dX11_drag_45 rfl rfl ?_
    refine j_aload_n (pc := 46) dX11_drag_46 rfl rfl ?_
    refine j_getR (pc := 47) (r := 1) fl_X11_10 dX11_drag_47 (a_0 hX) rfl ?_
    refine j_callV (pc := 50) (As := [vR 1]) (st := []) (c_X7_liftedOf 24 (s_Row_24 hX) 1 (s_Wall_1 hX) σ hI) mv_X11_324 rfl rfl rfl (a_24 hX) dX11_drag_50 ⟨Nat.le_of_ble_eq_true rfl, Nat.le_of_ble_eq_true rfl⟩ ⟨Nat.le_refl _, Nat.le_refl _⟩ rfl (Nat.le_of_ble_eq_true rfl) rfl (fun z6 σ7 hz6 => ?_)
    obtain ⟨r9, rfl, hr9, rfl, q8_0⟩ := hz6
    replace q8_0 : ∀ gg qq : Nat → Int, RG 24 gg qq σ → r9 = BTS (LFI (wW 1 σ) gg qq (σ 24 0)) (σ 24 0).toNat := q8_0
    refine j_st (st' := [vI r9]) rfl ?_
    have l0 := q8_0
    exact j_iret (pc := 53) ⟨rfl, rfl⟩ dX11_drag_53 rfl ⟨_, rfl, ⟨by omega, by omega⟩, rfl, (fun gg qq H => by
                                                              unfold DGA
                                                              rw [r0]
                                                              first
                                                              | exact Or.inr (Or.inr (Or.inr ⟨by omega, rfl⟩))
                                                              | exact Or.inl ⟨by omega, d0 gg qq H⟩
                                                              | exact Or.inr (Or.inl ⟨by omega, l0 gg qq H⟩)
                                                              | exact Or.inr (Or.inr (Or.inl ⟨by omega, by rw [← d2 gg qq H, ← dv, tp]⟩)))⟩
  · refine j_tsIn (pc := 9) (tgt := 54) 2 dX11_drag_9 h1 (by decide) ⟨by decide, by decide⟩ rfl rfl ?_
    refine j_aload_n (pc := 54) dX11_drag_54 rfl rfl ?_
    refine j_getR (pc := 55) (r := 1) fl_X11_10 dX11_drag_55 (a_0 hX) rfl ?_
    refine j_callV (pc := 58) (As := []) (st := []) (c_X10_top 1 (s_Wall_1 hX) σ hI) mv_X11_327 rfl rfl rfl (a_1 hX) dX11_drag_58 ⟨Nat.le_of_ble_eq_true rfl, Nat.le_of_ble_eq_true rfl⟩ ⟨Nat.le_refl _, Nat.le_refl _⟩ rfl (Nat.le_of_ble_eq_true rfl) rfl (fun z10 σ11 hz10 => ?_)
    obtain ⟨r13, rfl, hr13, rfl, q12_0⟩ := hz10
    replace q12_0 : r13 = σ 2 0 := q12_0
    refine j_st (st' := [vI r13]) rfl ?_
    refine j_aload_n (pc := 61) dX11_drag_61 rfl rfl ?_
    refine j_aload_n (pc := 62) dX11_drag_62 rfl rfl ?_
    refine j_getR (pc := 63) (r := 1) fl_X11_10 dX11_drag_63 (a_0 hX) rfl ?_
    refine j_callV (pc := 66) (As := [vR 1]) (st := [vI r13]) (c_X7_dragOf 24 (s_Row_24 hX) 1 (s_Wall_1 hX) σ hI) mv_X11_320 rfl rfl rfl (a_24 hX) dX11_drag_66 ⟨Nat.le_of_ble_eq_true rfl, Nat.le_of_ble_eq_true rfl⟩ ⟨Nat.le_refl _, Nat.le_refl _⟩ rfl (Nat.le_of_ble_eq_true rfl) rfl (fun z14 σ15 hz14 => ?_)
    obtain ⟨r17, rfl, hr17, rfl, q16_0⟩ := hz14
    replace q16_0 : ∀ gg qq : Nat → Int, RG 24 gg qq σ → r17 = DRS (wW 1 σ) gg qq (σ 24 0) (σ 24 0).toNat := q16_0
    refine j_st (st' := [vI r17, vI r13]) rfl ?_
    have d2 := q16_0
    have tp := q12_0
    refine j_bipush (pc := 69) dX11_drag_69 rfl ?_
    refine j_idiv (pc := 71) dX11_drag_71 (tw_nz ⟨by omega, by omega⟩ (by omega)) (fun z18 ez18 => ?_)
    have hz18 : (-2147483648 : Int) ≤ z18 ∧ z18 ≤ 2147483647 := by rw [ez18]; exact div_in _ _
    have gz18 : z18 = r17 / 10 := by rw [ez18]; exact div_pos_eq (by omega) (by omega) (by omega) (by omega)
    have dv := ez18
    refine j_iadd (pc := 72) dX11_drag_72 ?_
    exact j_iret (pc := 73) ⟨rfl, rfl⟩ dX11_drag_73 rfl ⟨_, rfl, ⟨by omega, by omega⟩, rfl, (fun gg qq H => by
                                                              unfold DGA
                                                              rw [r0]
                                                              first
                                                              | exact Or.inr (Or.inr (Or.inr ⟨by omega, rfl⟩))
                                                              | exact Or.inl ⟨by omega, d0 gg qq H⟩
                                                              | exact Or.inr (Or.inl ⟨by omega, l0 gg qq H⟩)
                                                              | exact Or.inr (Or.inr (Or.inl ⟨by omega, by rw [← d2 gg qq H, ← dv, tp]⟩)))⟩
  · refine j_tsOut (pc := 9) (tgt := 74) dX11_drag_9 ⟨by omega, by omega⟩ (Or.inr h1) rfl ?_
    refine j_iconst (pc := 74) dX11_drag_74 ?_
    exact j_iret (pc := 75) ⟨rfl, rfl⟩ dX11_drag_75 rfl ⟨_, rfl, ⟨by omega, by omega⟩, rfl, (fun gg qq H => by
                                                              unfold DGA
                                                              rw [r0]
                                                              first
                                                              | exact Or.inr (Or.inr (Or.inr ⟨by omega, rfl⟩))
                                                              | exact Or.inl ⟨by omega, d0 gg qq H⟩
                                                              | exact Or.inr (Or.inl ⟨by omega, l0 gg qq H⟩)
                                                              | exact Or.inr (Or.inr (Or.inl ⟨by omega, by rw [← d2 gg qq H, ← dv, tp]⟩)))⟩
abbrev q_X11_slings (n : Int) (w : Int) (σ : tw_M) : Option tw_V → tw_M → Prop := fun z τ => ∃ r : Int, z = some (vI r) ∧ (-2147483648 ≤ r ∧ r ≤ 2147483647) ∧ σ = τ ∧ True
set_option maxHeartbeats 4000000 in
set_option maxRecDepth 100000 in
theorem c_X11_slings {G : tw_G} (hX : tw_isX G) (n : Int) (hn : -2147483648 ≤ n ∧ n ≤ 2147483647) (w : Int) (hw : -2147483648 ≤ w ∧ w ≤ 2147483647) (σ : tw_M) (hI : tw_I σ) : tw_C G yX11_slings cX11_slings 4 (some .int) 4 [vR 0, vI n, vI w] σ (q_X11_slings n w σ) := by
  refine tw_met [(0, vR 0), (1, vI n), (2, vI w)] (by decide +kernel) rfl (Nat.le_of_ble_eq_true rfl) ?_
  refine j_iload_n (pc := 0) dX11_slings_0 rfl rfl ?_
  refine j_ifR_lt (pc := 1) (tgt := 17) ⟨by omega, by omega⟩ dX11_slings_1 rfl (fun h1 => ?_) (fun h1 => ?_)
  · refine j_iconst (pc := 17) dX11_slings_17 ?_
    exact j_iret (pc := 18) ⟨rfl, rfl⟩ dX11_slings_18 rfl ⟨_, rfl, ⟨by omega, by omega⟩, rfl, trivial⟩
  · refine j_iload_n (pc := 4) dX11_slings_4 rfl rfl ?_
    refine j_bipush (pc := 5) dX11_slings_5 rfl ?_
    refine j_icmpR_gt (pc := 7) (tgt := 17) ⟨by omega, by omega⟩ ⟨by omega, by omega⟩ dX11_slings_7 rfl (fun h2 => ?_) (fun h2 => ?_)
    · refine j_iconst (pc := 17) dX11_slings_17 ?_
      exact j_iret (pc := 18) ⟨rfl, rfl⟩ dX11_slings_18 rfl ⟨_, rfl, ⟨by omega, by omega⟩, rfl, trivial⟩
    · refine j_iload_n (pc := 10) dX11_slings_10 rfl rfl ?_
      refine j_callS (pc := 11) (As := [vI w]) (st := []) (c_X11_isPart w ⟨by omega, by omega⟩ σ hI) ms_X11_242 rfl dX11_slings_11 ⟨Nat.le_of_ble_eq_true rfl, Nat.le_of_ble_eq_true rfl⟩ ⟨Nat.le_refl _, Nat.le_refl _⟩ rfl (Nat.le_of_ble_eq_true rfl) rfl (fun z3 σ4 hz3 => ?_)
      obtain ⟨r6, rfl, hr6, rfl, q5_0⟩ := hz3
      replace q5_0 : (r6 = 1 ∧ (w = 0 ∨ w = 1)) ∨ (r6 = 0 ∧ ¬ w = 0 ∧ ¬ w = 1) := q5_0
      refine j_st (st' := [vI r6]) rfl ?_
      refine j_ifR_ne (pc := 14) (tgt := 19) ⟨by omega, by omega⟩ dX11_slings_14 rfl (fun h7 => ?_) (fun h7 => ?_)
      · refine j_aload_n (pc := 19) dX11_slings_19 rfl rfl ?_
        refine j_getR (pc := 20) (r := 23) fl_X11_26 dX11_slings_20 (a_0 hX) rfl ?_
        refine j_getR (pc := 23) (r := 24) fl_X11_168 dX11_slings_23 (a_23 hX) rfl ?_
        refine j_aload_n (pc := 26) dX11_slings_26 rfl rfl ?_
        refine j_getR (pc := 27) (r := 1) fl_X11_10 dX11_slings_27 (a_0 hX) rfl ?_
        refine j_iload_n (pc := 30) dX11_slings_30 rfl rfl ?_
        refine j_callV (pc := 31) (As := [vR 1, vI n]) (st := []) (c_X7_bestSlings 24 (s_Row_24 hX) 1 (s_Wall_1 hX) n ⟨by omega, by omega⟩ σ hI) mv_X11_330 rfl rfl rfl (a_24 hX) dX11_slings_31 ⟨Nat.le_of_ble_eq_true rfl, Nat.le_of_ble_eq_true rfl⟩ ⟨Nat.le_refl _, Nat.le_refl _⟩ rfl (Nat.le_of_ble_eq_true rfl) rfl (fun z8 σ9 hz8 => ?_)
        obtain ⟨r11, rfl, hr11, rfl, -⟩ := hz8
        refine j_st (st' := [vI r11]) rfl ?_
        refine j_istore_n (pc := 34) (i := 3) (ls' := [(0, vR 0), (2, vI w), (3, vI r11)]) [1, 3, 0] dX11_slings_34 rfl (Nat.le_of_ble_eq_true rfl) rfl rfl ?_
        refine j_iload_n (pc := 35) dX11_slings_35 rfl rfl ?_
        refine j_ifR_ne (pc := 36) (tgt := 57) ⟨by omega, by omega⟩ dX11_slings_36 rfl (fun h12 => ?_) (fun h12 => ?_)
        · refine j_iload_n (pc := 57) dX11_slings_57 rfl rfl ?_
          exact j_iret (pc := 58) ⟨rfl, rfl⟩ dX11_slings_58 rfl ⟨_, rfl, ⟨by omega, by omega⟩, rfl, trivial⟩
        · refine j_aload_n (pc := 39) dX11_slings_39 rfl rfl ?_
          refine j_getR (pc := 40) (r := 23) fl_X11_26 dX11_slings_40 (a_0 hX) rfl ?_
          refine j_getR (pc := 43) (r := 24) fl_X11_168 dX11_slings_43 (a_23 hX) rfl ?_
          refine j_aload_n (pc := 46) dX11_slings_46 rfl rfl ?_
          refine j_getR (pc := 47) (r := 1) fl_X11_10 dX11_slings_47 (a_0 hX) rfl ?_
          refine j_iload_n (pc := 50) dX11_slings_50 rfl rfl ?_
          refine j_callV (pc := 51) (As := [vR 1, vI r11]) (st := []) (c_X7_dragWith 24 (s_Row_24 hX) 1 (s_Wall_1 hX) r11 ⟨by omega, by omega⟩ σ hI) mv_X11_333 rfl rfl rfl (a_24 hX) dX11_slings_51 ⟨Nat.le_of_ble_eq_true rfl, Nat.le_of_ble_eq_true rfl⟩ ⟨Nat.le_refl _, Nat.le_refl _⟩ rfl (Nat.le_of_ble_eq_true rfl) rfl (fun z13 σ14 hz13 => ?_)
          obtain ⟨r16, rfl, hr16, rfl, -⟩ := hz13
          refine j_st (st' := [vI r16]) rfl ?_
          refine j_goto (pc := 54) (tgt := 58) dX11_slings_54 rfl ?_
          exact j_iret (pc := 58) ⟨rfl, rfl⟩ dX11_slings_58 rfl ⟨_, rfl, ⟨by omega, by omega⟩, rfl, trivial⟩
      · refine j_iconst (pc := 17) dX11_slings_17 ?_
        exact j_iret (pc := 18) ⟨rfl, rfl⟩ dX11_slings_18 rfl ⟨_, rfl, ⟨by omega, by omega⟩, rfl, trivial⟩
abbrev q_X11_pitches (w : Int) (σ : tw_M) : Option tw_V → tw_M → Prop := fun z τ => ∃ r : Int, z = some (vI r) ∧ (-2147483648 ≤ r ∧ r ≤ 2147483647) ∧ tw_I τ ∧ tw_F (fun c j => (c = 71 ∧ (j = 1 ∨ j = 6)) ∨ c = 72 ∨ c = 74) σ τ ∧ True
set_option maxHeartbeats 4000000 in
set_option maxRecDepth 100000 in
theorem c_X11_pitches {G : tw_G} (hX : tw_isX G) (w : Int) (hw : -2147483648 ≤ w ∧ w ≤ 2147483647) (σ : tw_M) (hI : tw_I σ) : tw_C G yX11_pitches cX11_pitches 2 (some .int) 4 [vR 0, vI w] σ (q_X11_pitches w σ) := by
  refine tw_met [(0, vR 0), (1, vI w)] (by decide +kernel) rfl (Nat.le_of_ble_eq_true rfl) ?_
  refine j_aload_n (pc := 0) dX11_pitches_0 rfl rfl ?_
  refine j_getR (pc := 1) (r := 71) fl_X11_74 dX11_pitches_1 (a_0 hX) rfl ?_
  refine j_callV (pc := 4) (As := []) (st := []) (c_X6_findPitches hX σ hI) mv_X11_336 rfl rfl rfl (a_71 hX) dX11_pitches_4 ⟨Nat.le_of_ble_eq_true rfl, Nat.le_of_ble_eq_true rfl⟩ ⟨Nat.le_refl _, Nat.le_refl _⟩ rfl (Nat.le_of_ble_eq_true rfl) rfl (fun z1 σ2 hz1 => ?_)
  obtain ⟨rfl, hIσ2, hGσ2, -⟩ := hz1
  have hFσ2 : tw_F (fun c j => (c = 71 ∧ (j = 1 ∨ j = 6)) ∨ c = 72 ∨ c = 74) σ σ2 := tw_F_tr (tw_F_rf) hGσ2 (fun c j q => (show (c = 71 ∧ (j = 1 ∨ j = 6)) ∨ c = 72 ∨ c = 74 from by replace q : (c = 71 ∧ (j = 1 ∨ j = 6)) ∨ c = 72 ∨ c = 74 := q; exact q))
  refine j_st (st' := []) rfl ?_
  refine j_iload_n (pc := 7) dX11_pitches_7 rfl rfl ?_
  refine j_iconst (pc := 8) dX11_pitches_8 ?_
  refine j_aload_n (pc := 9) dX11_pitches_9 rfl rfl ?_
  refine j_getR (pc := 10) (r := 71) fl_X11_74 dX11_pitches_10 (a_0 hX) rfl ?_
  refine j_getI (pc := 13) fl_X11_339 dX11_pitches_13 (a_71 hX) rfl ?_
  have f5 : (0 : Int) ≤ σ2 71 6 ∧ σ2 71 6 ≤ 40 := hIσ2 71 6
  refine j_callS (pc := 16) (As := [vI w, vI 1, vI (σ2 71 6)]) (st := []) (c_X11_isOf w ⟨by omega, by omega⟩ 1 (by (first | decide | exact ⟨by omega, by omega⟩)) (σ2 71 6) ⟨by omega, by omega⟩ σ2 hIσ2) ms_X11_290 rfl dX11_pitches_16 ⟨Nat.le_of_ble_eq_true rfl, Nat.le_of_ble_eq_true rfl⟩ ⟨Nat.le_refl _, Nat.le_refl _⟩ rfl (Nat.le_of_ble_eq_true rfl) rfl (fun z6 σ7 hz6 => ?_)
  obtain ⟨r9, rfl, hr9, rfl, q8_0⟩ := hz6
  replace q8_0 : (r9 = 1 ∧ ((0 ≤ w ∧ w < (1 : Int)) ∨ (10 ≤ w ∧ w - 10 < (σ2 71 6)))) ∨ (r9 = 0 ∧ ¬ ((0 ≤ w ∧ w < (1 : Int)) ∨ (10 ≤ w ∧ w - 10 < (σ2 71 6)))) := q8_0
  refine j_st (st' := [vI r9]) rfl ?_
  refine j_ifR_ne (pc := 19) (tgt := 24) ⟨by omega, by omega⟩ dX11_pitches_19 rfl (fun h10 => ?_) (fun h10 => ?_)
  · refine j_aload_n (pc := 24) dX11_pitches_24 rfl rfl ?_
    refine j_getR (pc := 25) (r := 71) fl_X11_74 dX11_pitches_25 (a_0 hX) rfl ?_
    refine j_getI (pc := 28) fl_X11_339 dX11_pitches_28 (a_71 hX) rfl ?_
    refine j_ifR_ne (pc := 31) (tgt := 37) ⟨by omega, by omega⟩ dX11_pitches_31 rfl (fun h11 => ?_) (fun h11 => ?_)
    · refine j_iload_n (pc := 37) dX11_pitches_37 rfl rfl ?_
      refine j_ifR_ne (pc := 38) (tgt := 51) ⟨by omega, by omega⟩ dX11_pitches_38 rfl (fun h12 => ?_) (fun h12 => ?_)
      · refine j_aload_n (pc := 51) dX11_pitches_51 rfl rfl ?_
        refine j_getR (pc := 52) (r := 71) fl_X11_74 dX11_pitches_52 (a_0 hX) rfl ?_
        refine j_getR (pc := 55) (r := 74) fl_X11_340 dX11_pitches_55 (a_71 hX) rfl ?_
        refine j_iload_n (pc := 58) dX11_pitches_58 rfl rfl ?_
        refine j_bipush (pc := 59) dX11_pitches_59 rfl ?_
        refine j_isub (pc := 61) dX11_pitches_61 ?_
        refine j_iald (pc := 62) dX11_pitches_62 (a_74 hX) (by omega) (by omega) (by decide) ?_
        have f13 : (0 : Int) ≤ σ2 74 ((w - 10).toNat) ∧ σ2 74 ((w - 10).toNat) ≤ 40 := hIσ2 74 ((w - 10).toNat)
        exact j_iret (pc := 63) ⟨rfl, rfl⟩ dX11_pitches_63 rfl ⟨_, rfl, ⟨by omega, by omega⟩, hIσ2, hFσ2, trivial⟩
      · refine j_aload_n (pc := 41) dX11_pitches_41 rfl rfl ?_
        refine j_getR (pc := 42) (r := 71) fl_X11_74 dX11_pitches_42 (a_0 hX) rfl ?_
        refine j_getI (pc := 45) fl_X11_339 dX11_pitches_45 (a_71 hX) rfl ?_
        refine j_goto (pc := 48) (tgt := 63) dX11_pitches_48 rfl ?_
        exact j_iret (pc := 63) ⟨rfl, rfl⟩ dX11_pitches_63 rfl ⟨_, rfl, ⟨by omega, by omega⟩, hIσ2, hFσ2, trivial⟩
    · refine j_bipush (pc := 34) dX11_pitches_34 rfl ?_
      exact j_iret (pc := 36) ⟨rfl, rfl⟩ dX11_pitches_36 rfl ⟨_, rfl, ⟨by omega, by omega⟩, hIσ2, hFσ2, trivial⟩
  · refine j_iconst (pc := 22) dX11_pitches_22 ?_
    exact j_iret (pc := 23) ⟨rfl, rfl⟩ dX11_pitches_23 rfl ⟨_, rfl, ⟨by omega, by omega⟩, hIσ2, hFσ2, trivial⟩
abbrev q_X11_leads (a : Int) (b : Int) (t : Int) (w : Int) (σ : tw_M) : Option tw_V → tw_M → Prop := fun z τ => ∃ r : Int, z = some (vI r) ∧ (-2147483648 ≤ r ∧ r ≤ 2147483647) ∧ tw_I τ ∧ tw_F (fun c j => (c = 71 ∧ (j = 1 ∨ j = 6 ∨ j = 7)) ∨ c = 72 ∨ (74 ≤ c ∧ c < 76)) σ τ ∧ True
set_option maxHeartbeats 4000000 in
set_option maxRecDepth 100000 in
theorem c_X11_leads {G : tw_G} (hX : tw_isX G) (a : Int) (ha : -2147483648 ≤ a ∧ a ≤ 2147483647) (b : Int) (hb : -2147483648 ≤ b ∧ b ≤ 2147483647) (t : Int) (ht : 0 ≤ t ∧ t ≤ 1) (w : Int) (hw : -2147483648 ≤ w ∧ w ≤ 2147483647) (σ : tw_M) (hI : tw_I σ) : tw_C G yX11_leads cX11_leads 5 (some .int) 4 [vR 0, vI a, vI b, vI t, vI w] σ (q_X11_leads a b t w σ) := by
  refine tw_met [(0, vR 0), (1, vI a), (2, vI b), (3, vI t), (4, vI w)] (by decide +kernel) rfl (Nat.le_of_ble_eq_true rfl) ?_
  refine j_iload_n (pc := 0) dX11_leads_0 rfl rfl ?_
  refine j_iconst (pc := 1) dX11_leads_1 ?_
  refine j_icmpR_lt (pc := 2) (tgt := 22) ⟨by omega, by omega⟩ ⟨by omega, by omega⟩ dX11_leads_2 rfl (fun h1 => ?_) (fun h1 => ?_)
  · refine j_iconst (pc := 22) dX11_leads_22 ?_
    exact j_iret (pc := 23) ⟨rfl, rfl⟩ dX11_leads_23 rfl ⟨_, rfl, ⟨by omega, by omega⟩, hI, (tw_F_rf), trivial⟩
  · refine j_iload_n (pc := 5) dX11_leads_5 rfl rfl ?_
    refine j_bipush (pc := 6) dX11_leads_6 rfl ?_
    refine j_icmpR_gt (pc := 8) (tgt := 22) ⟨by omega, by omega⟩ ⟨by omega, by omega⟩ dX11_leads_8 rfl (fun h2 => ?_) (fun h2 => ?_)
    · refine j_iconst (pc := 22) dX11_leads_22 ?_
      exact j_iret (pc := 23) ⟨rfl, rfl⟩ dX11_leads_23 rfl ⟨_, rfl, ⟨by omega, by omega⟩, hI, (tw_F_rf), trivial⟩
    · refine j_iload_n (pc := 11) dX11_leads_11 rfl rfl ?_
      refine j_iconst (pc := 12) dX11_leads_12 ?_
      refine j_icmpR_lt (pc := 13) (tgt := 22) ⟨by omega, by omega⟩ ⟨by omega, by omega⟩ dX11_leads_13 rfl (fun h3 => ?_) (fun h3 => ?_)
      · refine j_iconst (pc := 22) dX11_leads_22 ?_
        exact j_iret (pc := 23) ⟨rfl, rfl⟩ dX11_leads_23 rfl ⟨_, rfl, ⟨by omega, by omega⟩, hI, (tw_F_rf), trivial⟩
      · refine j_iload_n (pc := 16) dX11_leads_16 rfl rfl ?_
        refine j_bipush (pc := 17) dX11_leads_17 rfl ?_
        refine j_icmpR_le (pc := 19) (tgt := 24) ⟨by omega, by omega⟩ ⟨by omega, by omega⟩ dX11_leads_19 rfl (fun h4 => ?_) (fun h4 => ?_)
        · refine j_aload_n (pc := 24) dX11_leads_24 rfl rfl ?_
          refine j_getR (pc := 25) (r := 71) fl_X11_74 dX11_leads_25 (a_0 hX) rfl ?_
          refine j_callV (pc := 28) (As := []) (st := []) (c_X6_findPitches hX σ hI) mv_X11_336 rfl rfl rfl (a_71 hX) dX11_leads_28 ⟨Nat.le_of_ble_eq_true rfl, Nat.le_of_ble_eq_true rfl⟩ ⟨Nat.le_refl _, Nat.le_refl _⟩ rfl (Nat.le_of_ble_eq_true rfl) rfl (fun z5 σ6 hz5 => ?_)
          obtain ⟨rfl, hIσ6, hGσ6, -⟩ := hz5
          have hFσ6 : tw_F (fun c j => (c = 71 ∧ (j = 1 ∨ j = 6 ∨ j = 7)) ∨ c = 72 ∨ (74 ≤ c ∧ c < 76)) σ σ6 := tw_F_tr (tw_F_rf) hGσ6 (fun c j q => (show (c = 71 ∧ (j = 1 ∨ j = 6 ∨ j = 7)) ∨ c = 72 ∨ (74 ≤ c ∧ c < 76) from by replace q : (c = 71 ∧ (j = 1 ∨ j = 6)) ∨ c = 72 ∨ c = 74 := q; exact (q.elim (fun q => (Or.inl ⟨q.1, (q.2.elim (fun z => (Or.inl z)) (fun z => (Or.inr (Or.inl z))))⟩)) (fun q => (q.elim (fun q => (Or.inr (Or.inl q))) (fun q => (Or.inr (Or.inr (by rw [show c = 74 from q]; decide)))))))))
          refine j_st (st' := []) rfl ?_
          refine j_iload (pc := 31) dX11_leads_31 rfl ?_
          refine j_iconst (pc := 33) dX11_leads_33 ?_
          refine j_aload_n (pc := 34) dX11_leads_34 rfl rfl ?_
          refine j_getR (pc := 35) (r := 71) fl_X11_74 dX11_leads_35 (a_0 hX) rfl ?_
          refine j_getI (pc := 38) fl_X11_339 dX11_leads_38 (a_71 hX) rfl ?_
          have f9 : (0 : Int) ≤ σ6 71 6 ∧ σ6 71 6 ≤ 40 := hIσ6 71 6
          refine j_callS (pc := 41) (As := [vI w, vI 1, vI (σ6 71 6)]) (st := []) (c_X11_isOf w ⟨by omega, by omega⟩ 1 (by (first | decide | exact ⟨by omega, by omega⟩)) (σ6 71 6) ⟨by omega, by omega⟩ σ6 hIσ6) ms_X11_290 rfl dX11_leads_41 ⟨Nat.le_of_ble_eq_true rfl, Nat.le_of_ble_eq_true rfl⟩ ⟨Nat.le_refl _, Nat.le_refl _⟩ rfl (Nat.le_of_ble_eq_true rfl) rfl (fun z10 σ11 hz10 => ?_)
          obtain ⟨r13, rfl, hr13, rfl, q12_0⟩ := hz10
          replace q12_0 : (r13 = 1 ∧ ((0 ≤ w ∧ w < (1 : Int)) ∨ (10 ≤ w ∧ w - 10 < (σ6 71 6)))) ∨ (r13 = 0 ∧ ¬ ((0 ≤ w ∧ w < (1 : Int)) ∨ (10 ≤ w ∧ w - 10 < (σ6 71 6)))) := q12_0
          refine j_st (st' := [vI r13]) rfl ?_
          refine j_ifR_ne (pc := 44) (tgt := 49) ⟨by omega, by omega⟩ dX11_leads_44 rfl (fun h14 => ?_) (fun h14 => ?_)
          · refine j_aload_n (pc := 49) dX11_leads_49 rfl rfl ?_
            refine j_getR (pc := 50) (r := 71) fl_X11_74 dX11_leads_50 (a_0 hX) rfl ?_
            refine j_getI (pc := 53) fl_X11_339 dX11_leads_53 (a_71 hX) rfl ?_
            refine j_ifR_ne (pc := 56) (tgt := 62) ⟨by omega, by omega⟩ dX11_leads_56 rfl (fun h15 => ?_) (fun h15 => ?_)
            · refine j_iload_n (pc := 62) dX11_leads_62 rfl rfl ?_
              refine j_ifR_eq (pc := 63) (tgt := 78) ⟨by omega, by omega⟩ dX11_leads_63 rfl (fun h16 => ?_) (fun h16 => ?_)
              · refine j_aload_n (pc := 78) dX11_leads_78 rfl rfl ?_
                refine j_getR (pc := 79) (r := 71) fl_X11_74 dX11_leads_79 (a_0 hX) rfl ?_
                refine j_iload_n (pc := 82) dX11_leads_82 rfl rfl ?_
                refine j_iload_n (pc := 83) dX11_leads_83 rfl rfl ?_
                refine j_callV (pc := 84) (As := [vI a, vI b]) (st := []) (c_X6_leadFreely hX a ⟨by omega, by omega⟩ b ⟨by omega, by omega⟩ σ6 hIσ6) mv_X11_347 rfl rfl rfl (a_71 hX) dX11_leads_84 ⟨Nat.le_of_ble_eq_true rfl, Nat.le_of_ble_eq_true rfl⟩ ⟨Nat.le_refl _, Nat.le_refl _⟩ rfl (Nat.le_of_ble_eq_true rfl) rfl (fun z17 σ18 hz17 => ?_)
                obtain ⟨rfl, hIσ18, hGσ18, -⟩ := hz17
                have hFσ18 : tw_F (fun c j => (c = 71 ∧ (j = 1 ∨ j = 6 ∨ j = 7)) ∨ c = 72 ∨ (74 ≤ c ∧ c < 76)) σ σ18 := tw_F_tr hFσ6 hGσ18 (fun c j q => (show (c = 71 ∧ (j = 1 ∨ j = 6 ∨ j = 7)) ∨ c = 72 ∨ (74 ≤ c ∧ c < 76) from by replace q : (c = 71 ∧ (j = 7)) ∨ c = 75 := q; exact (q.elim (fun q => (Or.inl ⟨q.1, (Or.inr (Or.inr q.2))⟩)) (fun q => (Or.inr (Or.inr (by rw [show c = 75 from q]; decide)))))))
                refine j_st (st' := []) rfl ?_
                refine j_iload (pc := 87) dX11_leads_87 rfl ?_
                refine j_ifR_ne (pc := 89) (tgt := 102) ⟨by omega, by omega⟩ dX11_leads_89 rfl (fun h21 => ?_) (fun h21 => ?_)
                · refine j_aload_n (pc := 102) dX11_leads_102 rfl rfl ?_
                  refine j_getR (pc := 103) (r := 71) fl_X11_74 dX11_leads_103 (a_0 hX) rfl ?_
                  refine j_getR (pc := 106) (r := 75) fl_X11_353 dX11_leads_106 (a_71 hX) rfl ?_
                  refine j_iload (pc := 109) dX11_leads_109 rfl ?_
                  refine j_bipush (pc := 111) dX11_leads_111 rfl ?_
                  refine j_isub (pc := 113) dX11_leads_113 ?_
                  refine j_iald (pc := 114) dX11_leads_114 (a_75 hX) (by omega) (by omega) (by decide) ?_
                  have f22 : (-2147483648 : Int) ≤ σ18 75 ((w - 10).toNat) ∧ σ18 75 ((w - 10).toNat) ≤ 2147483647 := hIσ18 75 ((w - 10).toNat)
                  exact j_iret (pc := 115) ⟨rfl, rfl⟩ dX11_leads_115 rfl ⟨_, rfl, ⟨by omega, by omega⟩, hIσ18, hFσ18, trivial⟩
                · refine j_aload_n (pc := 92) dX11_leads_92 rfl rfl ?_
                  refine j_getR (pc := 93) (r := 71) fl_X11_74 dX11_leads_93 (a_0 hX) rfl ?_
                  refine j_getI (pc := 96) fl_X11_350 dX11_leads_96 (a_71 hX) rfl ?_
                  have f23 : (-2147483648 : Int) ≤ σ18 71 7 ∧ σ18 71 7 ≤ 2147483647 := hIσ18 71 7
                  refine j_goto (pc := 99) (tgt := 115) dX11_leads_99 rfl ?_
                  exact j_iret (pc := 115) ⟨rfl, rfl⟩ dX11_leads_115 rfl ⟨_, rfl, ⟨by omega, by omega⟩, hIσ18, hFσ18, trivial⟩
              · refine j_aload_n (pc := 66) dX11_leads_66 rfl rfl ?_
                refine j_getR (pc := 67) (r := 71) fl_X11_74 dX11_leads_67 (a_0 hX) rfl ?_
                refine j_iload_n (pc := 70) dX11_leads_70 rfl rfl ?_
                refine j_iload_n (pc := 71) dX11_leads_71 rfl rfl ?_
                refine j_callV (pc := 72) (As := [vI a, vI b]) (st := []) (c_X6_takeTurns hX a ⟨by omega, by omega⟩ b ⟨by omega, by omega⟩ σ6 hIσ6) mv_X11_343 rfl rfl rfl (a_71 hX) dX11_leads_72 ⟨Nat.le_of_ble_eq_true rfl, Nat.le_of_ble_eq_true rfl⟩ ⟨Nat.le_refl _, Nat.le_refl _⟩ rfl (Nat.le_of_ble_eq_true rfl) rfl (fun z24 σ25 hz24 => ?_)
                obtain ⟨rfl, hIσ25, hGσ25, -⟩ := hz24
                have hFσ25 : tw_F (fun c j => (c = 71 ∧ (j = 1 ∨ j = 6 ∨ j = 7)) ∨ c = 72 ∨ (74 ≤ c ∧ c < 76)) σ σ25 := tw_F_tr hFσ6 hGσ25 (fun c j q => (show (c = 71 ∧ (j = 1 ∨ j = 6 ∨ j = 7)) ∨ c = 72 ∨ (74 ≤ c ∧ c < 76) from by replace q : (c = 71 ∧ (j = 7)) ∨ c = 75 := q; exact (q.elim (fun q => (Or.inl ⟨q.1, (Or.inr (Or.inr q.2))⟩)) (fun q => (Or.inr (Or.inr (by rw [show c = 75 from q]; decide)))))))
                refine j_st (st' := []) rfl ?_
                refine j_goto (pc := 75) (tgt := 87) dX11_leads_75 rfl ?_
                refine j_iload (pc := 87) dX11_leads_87 rfl ?_
                refine j_ifR_ne (pc := 89) (tgt := 102) ⟨by omega, by omega⟩ dX11_leads_89 rfl (fun h28 => ?_) (fun h28 => ?_)
                · refine j_aload_n (pc := 102) dX11_leads_102 rfl rfl ?_
                  refine j_getR (pc := 103) (r := 71) fl_X11_74 dX11_leads_103 (a_0 hX) rfl ?_
                  refine j_getR (pc := 106) (r := 75) fl_X11_353 dX11_leads_106 (a_71 hX) rfl ?_
                  refine j_iload (pc := 109) dX11_leads_109 rfl ?_
                  refine j_bipush (pc := 111) dX11_leads_111 rfl ?_
                  refine j_isub (pc := 113) dX11_leads_113 ?_
                  refine j_iald (pc := 114) dX11_leads_114 (a_75 hX) (by omega) (by omega) (by decide) ?_
                  have f29 : (-2147483648 : Int) ≤ σ25 75 ((w - 10).toNat) ∧ σ25 75 ((w - 10).toNat) ≤ 2147483647 := hIσ25 75 ((w - 10).toNat)
                  exact j_iret (pc := 115) ⟨rfl, rfl⟩ dX11_leads_115 rfl ⟨_, rfl, ⟨by omega, by omega⟩, hIσ25, hFσ25, trivial⟩
                · refine j_aload_n (pc := 92) dX11_leads_92 rfl rfl ?_
                  refine j_getR (pc := 93) (r := 71) fl_X11_74 dX11_leads_93 (a_0 hX) rfl ?_
                  refine j_getI (pc := 96) fl_X11_350 dX11_leads_96 (a_71 hX) rfl ?_
                  have f30 : (-2147483648 : Int) ≤ σ25 71 7 ∧ σ25 71 7 ≤ 2147483647 := hIσ25 71 7
                  refine j_goto (pc := 99) (tgt := 115) dX11_leads_99 rfl ?_
                  exact j_iret (pc := 115) ⟨rfl, rfl⟩ dX11_leads_115 rfl ⟨_, rfl, ⟨by omega, by omega⟩, hIσ25, hFσ25, trivial⟩
            · refine j_bipush (pc := 59) dX11_leads_59 rfl ?_
              exact j_iret (pc := 61) ⟨rfl, rfl⟩ dX11_leads_61 rfl ⟨_, rfl, ⟨by omega, by omega⟩, hIσ6, hFσ6, trivial⟩
          · refine j_iconst (pc := 47) dX11_leads_47 ?_
            exact j_iret (pc := 48) ⟨rfl, rfl⟩ dX11_leads_48 rfl ⟨_, rfl, ⟨by omega, by omega⟩, hIσ6, hFσ6, trivial⟩
        · refine j_iconst (pc := 22) dX11_leads_22 ?_
          exact j_iret (pc := 23) ⟨rfl, rfl⟩ dX11_leads_23 rfl ⟨_, rfl, ⟨by omega, by omega⟩, hI, (tw_F_rf), trivial⟩
abbrev q_X11_down (h : Int) (σ : tw_M) : Option tw_V → tw_M → Prop := fun z τ => ∃ r : Int, z = some (vI r) ∧ (-2147483648 ≤ r ∧ r ≤ 2147483647) ∧ tw_I τ ∧ tw_F (fun c j => c = 73) σ τ ∧ True
set_option maxHeartbeats 4000000 in
set_option maxRecDepth 100000 in
theorem c_X11_down {G : tw_G} (hX : tw_isX G) (h : Int) (hh : -2147483648 ≤ h ∧ h ≤ 2147483647) (σ : tw_M) (hI : tw_I σ) : tw_C G yX11_down cX11_down 3 (some .int) 4 [vR 0, vI h] σ (q_X11_down h σ) := by
  refine tw_met [(0, vR 0), (1, vI h)] (by decide +kernel) rfl (Nat.le_of_ble_eq_true rfl) ?_
  refine j_iload_n (pc := 0) dX11_down_0 rfl rfl ?_
  refine j_ifR_eq (pc := 1) (tgt := 17) ⟨by omega, by omega⟩ dX11_down_1 rfl (fun h1 => ?_) (fun h1 => ?_)
  · refine j_aload_n (pc := 17) dX11_down_17 rfl rfl ?_
    refine j_getR (pc := 18) (r := 71) fl_X11_74 dX11_down_18 (a_0 hX) rfl ?_
    refine j_iload_n (pc := 21) dX11_down_21 rfl rfl ?_
    refine j_callV (pc := 22) (As := [vI h]) (st := []) (c_X6_leftFrom hX h ⟨by omega, by omega⟩ σ hI) mv_X11_356 rfl rfl rfl (a_71 hX) dX11_down_22 ⟨Nat.le_of_ble_eq_true rfl, Nat.le_of_ble_eq_true rfl⟩ ⟨Nat.le_refl _, Nat.le_refl _⟩ rfl (Nat.le_of_ble_eq_true rfl) rfl (fun z2 σ3 hz2 => ?_)
    obtain ⟨r5, rfl, hr5, hIσ3, hGσ3, -⟩ := hz2
    have hFσ3 : tw_F (fun c j => c = 73) σ σ3 := tw_F_tr (tw_F_rf) hGσ3 (fun c j q => (show c = 73 from by replace q : c = 73 := q; exact q))
    refine j_st (st' := [vI r5]) rfl ?_
    refine j_istore_n (pc := 25) (i := 2) (ls' := [(2, vI r5)]) [0] dX11_down_25 rfl (Nat.le_of_ble_eq_true rfl) rfl rfl ?_
    refine j_iload_n (pc := 26) dX11_down_26 rfl rfl ?_
    refine j_ifR_ge (pc := 27) (tgt := 35) ⟨by omega, by omega⟩ dX11_down_27 rfl (fun h6 => ?_) (fun h6 => ?_)
    · refine j_iload_n (pc := 35) dX11_down_35 rfl rfl ?_
      exact j_iret (pc := 36) ⟨rfl, rfl⟩ dX11_down_36 rfl ⟨_, rfl, ⟨by omega, by omega⟩, hIσ3, hFσ3, trivial⟩
    · refine j_bipush (pc := 30) dX11_down_30 rfl ?_
      refine j_goto (pc := 32) (tgt := 36) dX11_down_32 rfl ?_
      exact j_iret (pc := 36) ⟨rfl, rfl⟩ dX11_down_36 rfl ⟨_, rfl, ⟨by omega, by omega⟩, hIσ3, hFσ3, trivial⟩
  · refine j_aload_n (pc := 4) dX11_down_4 rfl rfl ?_
    refine j_getR (pc := 5) (r := 1) fl_X11_10 dX11_down_5 (a_0 hX) rfl ?_
    refine j_iload_n (pc := 8) dX11_down_8 rfl rfl ?_
    refine j_callV (pc := 9) (As := [vI h]) (st := []) (c_X10_isFoot 1 (s_Wall_1 hX) h ⟨by omega, by omega⟩ σ hI) mv_X11_149 rfl rfl rfl (a_1 hX) dX11_down_9 ⟨Nat.le_of_ble_eq_true rfl, Nat.le_of_ble_eq_true rfl⟩ ⟨Nat.le_refl _, Nat.le_refl _⟩ rfl (Nat.le_of_ble_eq_true rfl) rfl (fun z7 σ8 hz7 => ?_)
    obtain ⟨r10, rfl, hr10, rfl, q9_0⟩ := hz7
    replace q9_0 : (r10 = 1 ∧ 1 ≤ h ∧ h ≤ σ 2 0 ∧ h ≤ 40) ∨ (r10 = 0 ∧ ¬ (1 ≤ h ∧ h ≤ σ 2 0)) := q9_0
    refine j_st (st' := [vI r10]) rfl ?_
    refine j_ifR_ne (pc := 12) (tgt := 17) ⟨by omega, by omega⟩ dX11_down_12 rfl (fun h11 => ?_) (fun h11 => ?_)
    · refine j_aload_n (pc := 17) dX11_down_17 rfl rfl ?_
      refine j_getR (pc := 18) (r := 71) fl_X11_74 dX11_down_18 (a_0 hX) rfl ?_
      refine j_iload_n (pc := 21) dX11_down_21 rfl rfl ?_
      refine j_callV (pc := 22) (As := [vI h]) (st := []) (c_X6_leftFrom hX h ⟨by omega, by omega⟩ σ hI) mv_X11_356 rfl rfl rfl (a_71 hX) dX11_down_22 ⟨Nat.le_of_ble_eq_true rfl, Nat.le_of_ble_eq_true rfl⟩ ⟨Nat.le_refl _, Nat.le_refl _⟩ rfl (Nat.le_of_ble_eq_true rfl) rfl (fun z12 σ13 hz12 => ?_)
      obtain ⟨r15, rfl, hr15, hIσ13, hGσ13, -⟩ := hz12
      have hFσ13 : tw_F (fun c j => c = 73) σ σ13 := tw_F_tr (tw_F_rf) hGσ13 (fun c j q => (show c = 73 from by replace q : c = 73 := q; exact q))
      refine j_st (st' := [vI r15]) rfl ?_
      refine j_istore_n (pc := 25) (i := 2) (ls' := [(2, vI r15)]) [0] dX11_down_25 rfl (Nat.le_of_ble_eq_true rfl) rfl rfl ?_
      refine j_iload_n (pc := 26) dX11_down_26 rfl rfl ?_
      refine j_ifR_ge (pc := 27) (tgt := 35) ⟨by omega, by omega⟩ dX11_down_27 rfl (fun h16 => ?_) (fun h16 => ?_)
      · refine j_iload_n (pc := 35) dX11_down_35 rfl rfl ?_
        exact j_iret (pc := 36) ⟨rfl, rfl⟩ dX11_down_36 rfl ⟨_, rfl, ⟨by omega, by omega⟩, hIσ13, hFσ13, trivial⟩
      · refine j_bipush (pc := 30) dX11_down_30 rfl ?_
        refine j_goto (pc := 32) (tgt := 36) dX11_down_32 rfl ?_
        exact j_iret (pc := 36) ⟨rfl, rfl⟩ dX11_down_36 rfl ⟨_, rfl, ⟨by omega, by omega⟩, hIσ13, hFσ13, trivial⟩
    · refine j_iconst (pc := 15) dX11_down_15 ?_
      exact j_iret (pc := 16) ⟨rfl, rfl⟩ dX11_down_16 rfl ⟨_, rfl, ⟨by omega, by omega⟩, hI, (tw_F_rf), trivial⟩
abbrev q_X11_tried (s : Int) (b : Int) (σ : tw_M) : Option tw_V → tw_M → Prop := fun z τ => ∃ r : Int, z = some (vI r) ∧ (-2147483648 ≤ r ∧ r ≤ 2147483647) ∧ tw_I τ ∧ tw_F (fun c j => (29 ≤ c ∧ c < 31)) σ τ ∧ ((r = -1 ∧ ¬ (s = 0 ∨ s = 1) ∧ τ 29 0 = σ 29 0 ∧ τ 30 0 = σ 30 0 ∧ τ 29 1 = σ 29 1 ∧ τ 30 1 = σ 30 1) ∨ (r = -3 ∧ (s = 0 ∨ s = 1) ∧ 999 ≤ σ 29 0 + σ 29 1 ∧ τ 29 0 = σ 29 0 ∧ τ 30 0 = σ 30 0 ∧ τ 29 1 = σ 29 1 ∧ τ 30 1 = σ 30 1) ∨ (s = 0 ∧ σ 29 0 + σ 29 1 < 999 ∧ r = σ 29 0 + 1 ∧ τ 29 0 = σ 29 0 + 1 ∧ (2147483647 ≤ σ 30 0 ∨ τ 30 0 = σ 30 0 + b) ∧ τ 29 1 = σ 29 1 ∧ τ 30 1 = σ 30 1) ∨ (s = 1 ∧ σ 29 0 + σ 29 1 < 999 ∧ r = σ 29 1 + 1 ∧ τ 29 1 = σ 29 1 + 1 ∧ (2147483647 ≤ σ 30 1 ∨ τ 30 1 = σ 30 1 + b) ∧ τ 29 0 = σ 29 0 ∧ τ 30 0 = σ 30 0))
set_option maxHeartbeats 4000000 in
set_option maxRecDepth 100000 in
theorem c_X11_tried {G : tw_G} (hX : tw_isX G) (s : Int) (hs : -2147483648 ≤ s ∧ s ≤ 2147483647) (b : Int) (hb : 0 ≤ b ∧ b ≤ 1) (σ : tw_M) (hI : tw_I σ) : tw_C G yX11_tried cX11_tried 3 (some .int) 1 [vR 0, vI s, vI b] σ (q_X11_tried s b σ) := by
  refine tw_met [(0, vR 0), (1, vI s), (2, vI b)] (by decide +kernel) rfl (Nat.le_of_ble_eq_true rfl) ?_
  refine j_iload_n (pc := 0) dX11_tried_0 rfl rfl ?_
  refine j_callS (pc := 1) (As := [vI s]) (st := []) (c_X11_isPart s ⟨by omega, by omega⟩ σ hI) ms_X11_242 rfl dX11_tried_1 ⟨Nat.le_of_ble_eq_true rfl, Nat.le_of_ble_eq_true rfl⟩ ⟨Nat.le_refl _, Nat.le_refl _⟩ rfl (Nat.le_of_ble_eq_true rfl) rfl (fun z1 σ2 hz1 => ?_)
  obtain ⟨r4, rfl, hr4, rfl, q3_0⟩ := hz1
  replace q3_0 : (r4 = 1 ∧ (s = 0 ∨ s = 1)) ∨ (r4 = 0 ∧ ¬ s = 0 ∧ ¬ s = 1) := q3_0
  refine j_st (st' := [vI r4]) rfl ?_
  refine j_ifR_ne (pc := 4) (tgt := 9) ⟨by omega, by omega⟩ dX11_tried_4 rfl (fun h5 => ?_) (fun h5 => ?_)
  · refine j_aload_n (pc := 9) dX11_tried_9 rfl rfl ?_
    refine j_getR (pc := 10) (r := 23) fl_X11_26 dX11_tried_10 (a_0 hX) rfl ?_
    refine j_callV (pc := 13) (As := []) (st := []) (c_X3_tries 23 (s_Hand_23 hX) σ hI) mv_X11_359 rfl rfl rfl (a_23 hX) dX11_tried_13 ⟨Nat.le_of_ble_eq_true rfl, Nat.le_of_ble_eq_true rfl⟩ ⟨Nat.le_refl _, Nat.le_refl _⟩ rfl (Nat.le_of_ble_eq_true rfl) rfl (fun z6 σ7 hz6 => ?_)
    obtain ⟨r9, rfl, hr9, rfl, q8_0⟩ := hz6
    replace q8_0 : r9 = σ 29 0 + σ 29 1 := q8_0
    refine j_st (st' := [vI r9]) rfl ?_
    refine j_sipush (pc := 16) dX11_tried_16 rfl ?_
    refine j_icmpR_lt (pc := 19) (tgt := 25) ⟨by omega, by omega⟩ ⟨by omega, by omega⟩ dX11_tried_19 rfl (fun h10 => ?_) (fun h10 => ?_)
    · refine j_aload_n (pc := 25) dX11_tried_25 rfl rfl ?_
      refine j_getR (pc := 26) (r := 23) fl_X11_26 dX11_tried_26 (a_0 hX) rfl ?_
      refine j_getR (pc := 29) (r := 29) fl_X11_362 dX11_tried_29 (a_23 hX) rfl ?_
      refine j_iload_n (pc := 32) dX11_tried_32 rfl rfl ?_
      refine j_dup2 (pc := 33) dX11_tried_33 rfl rfl ?_
      have hx : σ 29 s.toNat ≤ σ 29 0 + σ 29 1 := by
          have x0 : (0 : Int) ≤ σ 29 0 ∧ σ 29 0 ≤ 999 := hI 29 0
          have x1 : (0 : Int) ≤ σ 29 1 ∧ σ 29 1 ≤ 999 := hI 29 1
          rcases (show s = 0 ∨ s = 1 by omega) with h | h <;> subst h
          · show σ 29 0 ≤ _; omega
          · show σ 29 1 ≤ _; omega
      refine j_iald (pc := 34) dX11_tried_34 (a_29 hX) (by omega) (by omega) (by decide) ?_
      have f11 : (0 : Int) ≤ σ 29 (s.toNat) ∧ σ 29 (s.toNat) ≤ 999 := hI 29 (s.toNat)
      refine j_iconst (pc := 35) dX11_tried_35 ?_
      refine j_iadd (pc := 36) dX11_tried_36 ?_
      refine j_iast (pc := 37) dX11_tried_37 (a_29 hX) (by omega) (by omega) (by decide) (j_nm (fun σ12 (eσ12 : σ12 = tw_up σ 29 (s.toNat) ((σ 29 (s.toNat)) + 1)) => ?_))
      have hIσ12 : tw_I σ12 := tw_I_up hI eσ12 (show (0 : Int) ≤ (σ 29 (s.toNat)) + 1 ∧ (σ 29 (s.toNat)) + 1 ≤ 999 from ⟨by omega, by omega⟩)
      have hFσ12 : tw_F (fun c j => (29 ≤ c ∧ c < 31)) σ σ12 := tw_F_up (tw_F_rf) eσ12 (show (29 ≤ 29 ∧ 29 < 31) from (by decide))
      have y1 := tri4 (p := 0) (q := 1) (a := 7) (b := 8) (s := s) eσ12 (by omega) (by decide)
      refine j_iload_n (pc := 38) dX11_tried_38 rfl rfl ?_
      refine j_ifR_eq (pc := 39) (tgt := 55) ⟨by omega, by omega⟩ dX11_tried_39 rfl (fun h13 => ?_) (fun h13 => ?_)
      · refine j_aload_n (pc := 55) dX11_tried_55 rfl rfl ?_
        refine j_getR (pc := 56) (r := 23) fl_X11_26 dX11_tried_56 (a_0 hX) rfl ?_
        refine j_getR (pc := 59) (r := 29) fl_X11_362 dX11_tried_59 (a_23 hX) rfl ?_
        refine j_iload_n (pc := 62) dX11_tried_62 rfl rfl ?_
        refine j_iald (pc := 63) dX11_tried_63 (a_29 hX) (by omega) (by omega) (by decide) ?_
        refine j_topV (show σ12 29 (s.toNat) = (σ 29 (s.toNat)) + 1 from (tw_eq1 eσ12)) ?_
        have y3 := tri_at (τ := σ12) (c := 29) (s := s) (p := 0) (q := 1) (j := s.toNat) (by omega)
        have y6 := tri_at (τ := σ) (c := 29) (s := s) (p := 0) (q := 1) (j := s.toNat) (by omega)
        have y7 := tri_at (τ := σ) (c := 30) (s := s) (p := 0) (q := 1) (j := s.toNat) (by omega)
        skip
        skip
        have y14 : σ12 30 0 = σ 30 0 := (tw_ne1 eσ12 (by (first | decide | omega)))
        have y15 : σ12 30 1 = σ 30 1 := (tw_ne1 eσ12 (by (first | decide | omega)))
        have kk : (s = 0 ∧ σ 29 0 + σ 29 1 < 999 ∧ ((σ 29 (s.toNat)) + 1) = σ 29 0 + 1 ∧ σ12 29 0 = σ 29 0 + 1 ∧ (2147483647 ≤ σ 30 0 ∨ σ12 30 0 = σ 30 0 + b) ∧ σ12 29 1 = σ 29 1 ∧ σ12 30 1 = σ 30 1) ∨ (s = 1 ∧ σ 29 0 + σ 29 1 < 999 ∧ ((σ 29 (s.toNat)) + 1) = σ 29 1 + 1 ∧ σ12 29 1 = σ 29 1 + 1 ∧ (2147483647 ≤ σ 30 1 ∨ σ12 30 1 = σ 30 1 + b) ∧ σ12 29 0 = σ 29 0 ∧ σ12 30 0 = σ 30 0) := by
          rcases (show s = 0 ∨ s = 1 by omega) with q | q
          · exact Or.inl ⟨q, by omega, by omega, by omega, by omega, by omega, by omega⟩
          · exact Or.inr ⟨q, by omega, by omega, by omega, by omega, by omega, by omega⟩
        have y16 : σ12 30 0 = σ 30 0 := (tw_ne1 eσ12 (by (first | decide | omega)))
        have f17 : (-2147483648 : Int) ≤ σ 30 0 ∧ σ 30 0 ≤ 2147483647 := hI 30 0
        have y18 : σ12 30 1 = σ 30 1 := (tw_ne1 eσ12 (by (first | decide | omega)))
        have f19 : (-2147483648 : Int) ≤ σ 30 1 ∧ σ 30 1 ≤ 2147483647 := hI 30 1
        exact j_iret (pc := 64) ⟨rfl, rfl⟩ dX11_tried_64 rfl ⟨_, rfl, ⟨by omega, by omega⟩, hIσ12, hFσ12, (by first | exact Or.inr (Or.inr kk) | omega)⟩
      · refine j_aload_n (pc := 42) dX11_tried_42 rfl rfl ?_
        refine j_getR (pc := 43) (r := 23) fl_X11_26 dX11_tried_43 (a_0 hX) rfl ?_
        refine j_getR (pc := 46) (r := 30) fl_X11_365 dX11_tried_46 (a_23 hX) rfl ?_
        refine j_iload_n (pc := 49) dX11_tried_49 rfl rfl ?_
        refine j_dup2 (pc := 50) dX11_tried_50 rfl rfl ?_
        refine j_iald (pc := 51) dX11_tried_51 (a_30 hX) (by omega) (by omega) (by decide) ?_
        refine j_topV (show σ12 30 (s.toNat) = σ 30 (s.toNat) from (tw_ne1 eσ12 (by (first | decide | omega)))) ?_
        have f20 : (-2147483648 : Int) ≤ σ 30 (s.toNat) ∧ σ 30 (s.toNat) ≤ 2147483647 := hI 30 (s.toNat)
        refine j_iconst (pc := 52) dX11_tried_52 ?_
        refine j_iadd (pc := 53) dX11_tried_53 ?_
        refine j_top (fun z21 ez21 hz21 => ?_)
        have gz21 : (σ 30 (s.toNat)) + 1 < -2147483648 ∨ 2147483647 < (σ 30 (s.toNat)) + 1 ∨ z21 = (σ 30 (s.toNat)) + 1 := by rw [ez21]; exact w32_or _
        refine j_iast (pc := 54) dX11_tried_54 (a_30 hX) (by omega) (by omega) (by decide) (j_nm (fun σ22 (eσ22 : σ22 = tw_up σ12 30 (s.toNat) z21) => ?_))
        have hIσ22 : tw_I σ22 := tw_I_up hIσ12 eσ22 (show (-2147483648 : Int) ≤ z21 ∧ z21 ≤ 2147483647 from ⟨by omega, by omega⟩)
        have hFσ22 : tw_F (fun c j => (29 ≤ c ∧ c < 31)) σ σ22 := tw_F_up hFσ12 eσ22 (show (29 ≤ 30 ∧ 30 < 31) from (by decide))
        have y2 := tri4 (p := 0) (q := 1) (a := 7) (b := 8) (s := s) eσ22 (by omega) (by decide)
        have y4 : σ12 30 0 = σ 30 0 := (tw_ne1 eσ12 (by (first | decide | omega)))
        have y5 : σ12 30 1 = σ 30 1 := (tw_ne1 eσ12 (by (first | decide | omega)))
        refine j_aload_n (pc := 55) dX11_tried_55 rfl rfl ?_
        refine j_getR (pc := 56) (r := 23) fl_X11_26 dX11_tried_56 (a_0 hX) rfl ?_
        refine j_getR (pc := 59) (r := 29) fl_X11_362 dX11_tried_59 (a_23 hX) rfl ?_
        refine j_iload_n (pc := 62) dX11_tried_62 rfl rfl ?_
        refine j_iald (pc := 63) dX11_tried_63 (a_29 hX) (by omega) (by omega) (by decide) ?_
        refine j_topV (show σ22 29 (s.toNat) = (σ 29 (s.toNat)) + 1 from ((tw_ne1 eσ22 (by (first | decide | omega)))).trans (tw_eq1 eσ12)) ?_
        have y3 := tri_at (τ := σ22) (c := 29) (s := s) (p := 0) (q := 1) (j := s.toNat) (by omega)
        have y6 := tri_at (τ := σ) (c := 29) (s := s) (p := 0) (q := 1) (j := s.toNat) (by omega)
        have y7 := tri_at (τ := σ) (c := 30) (s := s) (p := 0) (q := 1) (j := s.toNat) (by omega)
        have y23 : σ22 29 0 = σ12 29 0 := (tw_ne1 eσ22 (by (first | decide | omega)))
        have y24 : σ22 29 1 = σ12 29 1 := (tw_ne1 eσ22 (by (first | decide | omega)))
        skip
        skip
        have kk : (s = 0 ∧ σ 29 0 + σ 29 1 < 999 ∧ ((σ 29 (s.toNat)) + 1) = σ 29 0 + 1 ∧ σ22 29 0 = σ 29 0 + 1 ∧ (2147483647 ≤ σ 30 0 ∨ σ22 30 0 = σ 30 0 + b) ∧ σ22 29 1 = σ 29 1 ∧ σ22 30 1 = σ 30 1) ∨ (s = 1 ∧ σ 29 0 + σ 29 1 < 999 ∧ ((σ 29 (s.toNat)) + 1) = σ 29 1 + 1 ∧ σ22 29 1 = σ 29 1 + 1 ∧ (2147483647 ≤ σ 30 1 ∨ σ22 30 1 = σ 30 1 + b) ∧ σ22 29 0 = σ 29 0 ∧ σ22 30 0 = σ 30 0) := by
          rcases (show s = 0 ∨ s = 1 by omega) with q | q
          · exact Or.inl ⟨q, by omega, by omega, by omega, by omega, by omega, by omega⟩
          · exact Or.inr ⟨q, by omega, by omega, by omega, by omega, by omega, by omega⟩
        have y25 : σ22 29 0 = σ12 29 0 := (tw_ne1 eσ22 (by (first | decide | omega)))
        have f26 : (0 : Int) ≤ σ12 29 0 ∧ σ12 29 0 ≤ 999 := hIσ12 29 0
        have y27 : σ22 29 1 = σ12 29 1 := (tw_ne1 eσ22 (by (first | decide | omega)))
        have f28 : (0 : Int) ≤ σ12 29 1 ∧ σ12 29 1 ≤ 999 := hIσ12 29 1
        exact j_iret (pc := 64) ⟨rfl, rfl⟩ dX11_tried_64 rfl ⟨_, rfl, ⟨by omega, by omega⟩, hIσ22, hFσ22, (by first | exact Or.inr (Or.inr kk) | omega)⟩
    · refine j_bipush (pc := 22) dX11_tried_22 rfl ?_
      exact j_iret (pc := 24) ⟨rfl, rfl⟩ dX11_tried_24 rfl ⟨_, rfl, ⟨by omega, by omega⟩, hI, (tw_F_rf), (by first | exact Or.inr (Or.inr kk) | omega)⟩
  · refine j_iconst (pc := 7) dX11_tried_7 ?_
    exact j_iret (pc := 8) ⟨rfl, rfl⟩ dX11_tried_8 rfl ⟨_, rfl, ⟨by omega, by omega⟩, hI, (tw_F_rf), (by first | exact Or.inr (Or.inr kk) | omega)⟩
abbrev q_X11_eye (s : Int) (w : Int) (σ : tw_M) : Option tw_V → tw_M → Prop := fun z τ => ∃ r : Int, z = some (vI r) ∧ (-2147483648 ≤ r ∧ r ≤ 2147483647) ∧ tw_I τ ∧ tw_F (fun c j => (c = 58 ∧ (j = 2 ∨ j = 3))) σ τ ∧ ((r = -1 ∧ ¬ ((s = 0 ∨ s = 1) ∧ (w = 0 ∨ w = 1))) ∨ (r = -4 ∧ ((s = 0 ∧ σ 29 0 = 0) ∨ (s = 1 ∧ σ 29 1 = 0)) ∧ (w = 0 ∨ w = 1)) ∨ (s = 0 ∧ (w = 0 ∨ w = 1) ∧ ¬ σ 29 0 = 0 ∧ r = EYX (σ 30 0) (σ 29 0) w) ∨ (s = 1 ∧ (w = 0 ∨ w = 1) ∧ ¬ σ 29 1 = 0 ∧ r = EYX (σ 30 1) (σ 29 1) w))
set_option maxHeartbeats 4000000 in
set_option maxRecDepth 100000 in
theorem c_X11_eye {G : tw_G} (hX : tw_isX G) (s : Int) (hs : -2147483648 ≤ s ∧ s ≤ 2147483647) (w : Int) (hw : -2147483648 ≤ w ∧ w ≤ 2147483647) (σ : tw_M) (hI : tw_I σ) : tw_C G yX11_eye cX11_eye 3 (some .int) 1 [vR 0, vI s, vI w] σ (q_X11_eye s w σ) := by
  refine tw_met [(0, vR 0), (1, vI s), (2, vI w)] (by decide +kernel) rfl (Nat.le_of_ble_eq_true rfl) ?_
  refine j_iload_n (pc := 0) dX11_eye_0 rfl rfl ?_
  refine j_callS (pc := 1) (As := [vI s]) (st := []) (c_X11_isPart s ⟨by omega, by omega⟩ σ hI) ms_X11_242 rfl dX11_eye_1 ⟨Nat.le_of_ble_eq_true rfl, Nat.le_of_ble_eq_true rfl⟩ ⟨Nat.le_refl _, Nat.le_refl _⟩ rfl (Nat.le_of_ble_eq_true rfl) rfl (fun z1 σ2 hz1 => ?_)
  obtain ⟨r4, rfl, hr4, rfl, q3_0⟩ := hz1
  replace q3_0 : (r4 = 1 ∧ (s = 0 ∨ s = 1)) ∨ (r4 = 0 ∧ ¬ s = 0 ∧ ¬ s = 1) := q3_0
  refine j_st (st' := [vI r4]) rfl ?_
  refine j_ifR_eq (pc := 4) (tgt := 14) ⟨by omega, by omega⟩ dX11_eye_4 rfl (fun h5 => ?_) (fun h5 => ?_)
  · refine j_iconst (pc := 14) dX11_eye_14 ?_
    exact j_iret (pc := 15) ⟨rfl, rfl⟩ dX11_eye_15 rfl ⟨_, rfl, ⟨by omega, by omega⟩, hI, (tw_F_rf), (by first | exact (k8.elim (fun z => Or.inr (Or.inr (Or.inl ⟨z.1, by omega, z.2.1, z.2.2⟩))) (fun z => Or.inr (Or.inr (Or.inr ⟨z.1, by omega, z.2.1, z.2.2⟩)))) | omega)⟩
  · refine j_iload_n (pc := 7) dX11_eye_7 rfl rfl ?_
    refine j_callS (pc := 8) (As := [vI w]) (st := []) (c_X11_isPart w ⟨by omega, by omega⟩ σ hI) ms_X11_242 rfl dX11_eye_8 ⟨Nat.le_of_ble_eq_true rfl, Nat.le_of_ble_eq_true rfl⟩ ⟨Nat.le_refl _, Nat.le_refl _⟩ rfl (Nat.le_of_ble_eq_true rfl) rfl (fun z6 σ7 hz6 => ?_)
    obtain ⟨r9, rfl, hr9, rfl, q8_0⟩ := hz6
    replace q8_0 : (r9 = 1 ∧ (w = 0 ∨ w = 1)) ∨ (r9 = 0 ∧ ¬ w = 0 ∧ ¬ w = 1) := q8_0
    refine j_st (st' := [vI r9]) rfl ?_
    refine j_ifR_ne (pc := 11) (tgt := 16) ⟨by omega, by omega⟩ dX11_eye_11 rfl (fun h10 => ?_) (fun h10 => ?_)
    · have y3 := tri_at (τ := σ) (c := 29) (s := s) (p := 0) (q := 1) (j := s.toNat) (by omega)
      refine j_aload_n (pc := 16) dX11_eye_16 rfl rfl ?_
      refine j_getR (pc := 17) (r := 23) fl_X11_26 dX11_eye_17 (a_0 hX) rfl ?_
      refine j_getR (pc := 20) (r := 29) fl_X11_362 dX11_eye_20 (a_23 hX) rfl ?_
      refine j_iload_n (pc := 23) dX11_eye_23 rfl rfl ?_
      refine j_iald (pc := 24) dX11_eye_24 (a_29 hX) (by omega) (by omega) (by decide) ?_
      have f11 : (0 : Int) ≤ σ 29 (s.toNat) ∧ σ 29 (s.toNat) ≤ 999 := hI 29 (s.toNat)
      refine j_ifR_ne (pc := 25) (tgt := 31) ⟨by omega, by omega⟩ dX11_eye_25 rfl (fun h12 => ?_) (fun h12 => ?_)
      · refine j_aload_n (pc := 31) dX11_eye_31 rfl rfl ?_
        refine j_getR (pc := 32) (r := 58) fl_X11_58 dX11_eye_32 (a_0 hX) rfl ?_
        refine j_aload_n (pc := 35) dX11_eye_35 rfl rfl ?_
        refine j_getR (pc := 36) (r := 23) fl_X11_26 dX11_eye_36 (a_0 hX) rfl ?_
        refine j_getR (pc := 39) (r := 30) fl_X11_365 dX11_eye_39 (a_23 hX) rfl ?_
        refine j_iload_n (pc := 42) dX11_eye_42 rfl rfl ?_
        refine j_iald (pc := 43) dX11_eye_43 (a_30 hX) (by omega) (by omega) (by decide) ?_
        have f13 : (-2147483648 : Int) ≤ σ 30 (s.toNat) ∧ σ 30 (s.toNat) ≤ 2147483647 := hI 30 (s.toNat)
        refine j_i2l (pc := 44) dX11_eye_44 ?_
        rw [w32_eq (a := σ 30 (s.toNat)) (by omega) (by omega)]
        refine j_aload_n (pc := 45) dX11_eye_45 rfl rfl ?_
        refine j_getR (pc := 46) (r := 23) fl_X11_26 dX11_eye_46 (a_0 hX) rfl ?_
        refine j_getR (pc := 49) (r := 29) fl_X11_362 dX11_eye_49 (a_23 hX) rfl ?_
        refine j_iload_n (pc := 52) dX11_eye_52 rfl rfl ?_
        refine j_iald (pc := 53) dX11_eye_53 (a_29 hX) (by omega) (by omega) (by decide) ?_
        refine j_i2l (pc := 54) dX11_eye_54 ?_
        rw [w32_eq (a := σ 29 (s.toNat)) (by omega) (by omega)]
        refine j_callV (pc := 55) (As := [vL (σ 30 (s.toNat)), vL (σ 29 (s.toNat))]) (st := []) (c_X1_fraction hX (σ 30 (s.toNat)) ⟨by omega, by omega⟩ (σ 29 (s.toNat)) ⟨by omega, by omega⟩ σ hI) mv_X11_368 rfl rfl rfl (a_58 hX) dX11_eye_55 ⟨Nat.le_of_ble_eq_true rfl, Nat.le_of_ble_eq_true rfl⟩ ⟨Nat.le_refl _, Nat.le_refl _⟩ rfl (Nat.le_of_ble_eq_true rfl) rfl (fun z14 σ15 hz14 => ?_)
        obtain ⟨rfl, hIσ15, hGσ15, q16_0, q16_1⟩ := hz14
        replace q16_0 : σ15 58 2 = euA (σ 30 (s.toNat)) (eu 1000 (σ 29 (s.toNat)) (σ 30 (s.toNat))) := q16_0
        replace q16_1 : σ15 58 3 = euB (σ 29 (s.toNat)) (eu 1000 (σ 29 (s.toNat)) (σ 30 (s.toNat))) := q16_1
        have hFσ15 : tw_F (fun c j => (c = 58 ∧ (j = 2 ∨ j = 3))) σ σ15 := tw_F_tr (tw_F_rf) hGσ15 (fun c j q => (show (c = 58 ∧ (j = 2 ∨ j = 3)) from by replace q : (c = 58 ∧ (j = 2 ∨ j = 3)) := q; exact q))
        refine j_st (st' := []) rfl ?_
        refine j_aload_n (pc := 58) dX11_eye_58 rfl rfl ?_
        refine j_getR (pc := 59) (r := 58) fl_X11_58 dX11_eye_59 (a_0 hX) rfl ?_
        refine j_iload_n (pc := 62) dX11_eye_62 rfl rfl ?_
        refine j_callV (pc := 63) (As := [vI w]) (st := []) (c_X1_part hX w ⟨by omega, by omega⟩ σ15 hIσ15) mv_X11_251 rfl rfl rfl (a_58 hX) dX11_eye_63 ⟨Nat.le_of_ble_eq_true rfl, Nat.le_of_ble_eq_true rfl⟩ ⟨Nat.le_refl _, Nat.le_refl _⟩ rfl (Nat.le_of_ble_eq_true rfl) rfl (fun z18 σ19 hz18 => ?_)
        obtain ⟨r21, rfl, hr21, rfl, q20_0⟩ := hz18
        replace q20_0 : (w = 0 ∧ r21 = σ15 58 2) ∨ (¬ w = 0 ∧ r21 = σ15 58 3) := q20_0
        refine j_st (st' := [vL r21]) rfl ?_
        refine j_l2i (pc := 66) dX11_eye_66 (fun z22 ez22 => ?_)
        have hz22 : (-2147483648 : Int) ≤ z22 ∧ z22 ≤ 2147483647 := by rw [ez22]; exact l2i_in _
        have k9 : z22 = EYX (σ 30 s.toNat) (σ 29 s.toNat) w := by
          unfold EYX
          rw [ez22]
          rcases q20_0 with ⟨g1, g2⟩ | ⟨g1, g2⟩
          · rw [g2, q16_0, if_pos g1]
          · rw [g2, q16_1, if_neg g1]
        have k8 : (s = 0 ∧ ¬ σ 29 0 = 0 ∧ z22 = EYX (σ 30 0) (σ 29 0) w) ∨ (s = 1 ∧ ¬ σ 29 1 = 0 ∧ z22 = EYX (σ 30 1) (σ 29 1) w) := by
          rcases (show s = 0 ∨ s = 1 by omega) with q | q
          · exact Or.inl ⟨q, by omega, by rw [show s.toNat = 0 from by omega] at k9; exact k9⟩
          · exact Or.inr ⟨q, by omega, by rw [show s.toNat = 1 from by omega] at k9; exact k9⟩
        exact j_iret (pc := 67) ⟨rfl, rfl⟩ dX11_eye_67 rfl ⟨_, rfl, ⟨by omega, by omega⟩, hIσ15, hFσ15, (by first | exact (k8.elim (fun z => Or.inr (Or.inr (Or.inl ⟨z.1, by omega, z.2.1, z.2.2⟩))) (fun z => Or.inr (Or.inr (Or.inr ⟨z.1, by omega, z.2.1, z.2.2⟩)))) | omega)⟩
      · refine j_bipush (pc := 28) dX11_eye_28 rfl ?_
        exact j_iret (pc := 30) ⟨rfl, rfl⟩ dX11_eye_30 rfl ⟨_, rfl, ⟨by omega, by omega⟩, hI, (tw_F_rf), (by first | exact (k8.elim (fun z => Or.inr (Or.inr (Or.inl ⟨z.1, by omega, z.2.1, z.2.2⟩))) (fun z => Or.inr (Or.inr (Or.inr ⟨z.1, by omega, z.2.1, z.2.2⟩)))) | omega)⟩
    · refine j_iconst (pc := 14) dX11_eye_14 ?_
      exact j_iret (pc := 15) ⟨rfl, rfl⟩ dX11_eye_15 rfl ⟨_, rfl, ⟨by omega, by omega⟩, hI, (tw_F_rf), (by first | exact (k8.elim (fun z => Or.inr (Or.inr (Or.inl ⟨z.1, by omega, z.2.1, z.2.2⟩))) (fun z => Or.inr (Or.inr (Or.inr ⟨z.1, by omega, z.2.1, z.2.2⟩)))) | omega)⟩
abbrev q_X11_learn  (σ : tw_M) : Option tw_V → tw_M → Prop := fun z τ => ∃ r : Int, z = some (vI r) ∧ (-2147483648 ≤ r ∧ r ≤ 2147483647) ∧ tw_I τ ∧ tw_F (fun c j => (c = 23 ∧ (j = 4 ∨ j = 5))) σ τ ∧ (((σ 29 0 = 0 ∧ τ 23 4 = σ 23 4) ∨ (¬ σ 29 0 = 0 ∧ τ 23 4 = lrn (σ 30 0) (σ 29 0)))) ∧ (((σ 29 1 = 0 ∧ τ 23 5 = σ 23 5) ∨ (¬ σ 29 1 = 0 ∧ τ 23 5 = lrn (σ 30 1) (σ 29 1)))) ∧ (((τ 23 4 = σ 23 4 ∧ τ 23 5 = σ 23 5 ∧ r = 0) ∨ (¬ τ 23 4 = σ 23 4 ∧ τ 23 5 = σ 23 5 ∧ r = 1) ∨ (τ 23 4 = σ 23 4 ∧ ¬ τ 23 5 = σ 23 5 ∧ r = 1) ∨ (¬ τ 23 4 = σ 23 4 ∧ ¬ τ 23 5 = σ 23 5 ∧ r = 2)))
set_option maxHeartbeats 4000000 in
set_option maxRecDepth 100000 in
theorem c_X11_learn {G : tw_G} (hX : tw_isX G) (σ : tw_M) (hI : tw_I σ) : tw_C G yX11_learn cX11_learn 4 (some .int) 1 [vR 0] σ (q_X11_learn σ) := by
  refine tw_met [(0, vR 0)] (by decide +kernel) rfl (Nat.le_of_ble_eq_true rfl) ?_
  refine j_aload_n (pc := 0) dX11_learn_0 rfl rfl ?_
  refine j_getR (pc := 1) (r := 23) fl_X11_26 dX11_learn_1 (a_0 hX) rfl ?_
  refine j_iconst (pc := 4) dX11_learn_4 ?_
  refine j_aload_n (pc := 5) dX11_learn_5 rfl rfl ?_
  refine j_getR (pc := 6) (r := 23) fl_X11_26 dX11_learn_6 (a_0 hX) rfl ?_
  refine j_getI (pc := 9) fl_X11_136 dX11_learn_9 (a_23 hX) rfl ?_
  have f1 : (-2147483648 : Int) ≤ σ 23 4 ∧ σ 23 4 ≤ 2147483647 := hI 23 4
  refine j_callV (pc := 12) (As := [vI 0, vI (σ 23 4)]) (st := []) (c_X3_learned 23 (s_Hand_23 hX) 0 (by (first | decide | exact ⟨by omega, by omega⟩)) (σ 23 4) ⟨by omega, by omega⟩ σ hI) mv_X11_372 rfl rfl rfl (a_23 hX) dX11_learn_12 ⟨Nat.le_of_ble_eq_true rfl, Nat.le_of_ble_eq_true rfl⟩ ⟨Nat.le_refl _, Nat.le_refl _⟩ rfl (Nat.le_of_ble_eq_true rfl) rfl (fun z2 σ3 hz2 => ?_)
  obtain ⟨r5, rfl, hr5, rfl, q4_0⟩ := hz2
  replace q4_0 : (σ 29 (0 : Int).toNat = 0 ∧ r5 = (σ 23 4)) ∨ (¬ σ 29 (0 : Int).toNat = 0 ∧ r5 = lrn (σ 30 (0 : Int).toNat) (σ 29 (0 : Int).toNat)) := q4_0
  refine j_st (st' := [vI r5]) rfl ?_
  have y0 : ((σ 29 0 = 0 ∧ r5 = σ 23 4) ∨ (¬ σ 29 0 = 0 ∧ r5 = lrn (σ 30 0) (σ 29 0))) := q4_0
  refine j_istore_n (pc := 15) (i := 1) (ls' := [(0, vR 0), (1, vI r5)]) [1, 0] dX11_learn_15 rfl (Nat.le_of_ble_eq_true rfl) rfl rfl ?_
  refine j_aload_n (pc := 16) dX11_learn_16 rfl rfl ?_
  refine j_getR (pc := 17) (r := 23) fl_X11_26 dX11_learn_17 (a_0 hX) rfl ?_
  refine j_iconst (pc := 20) dX11_learn_20 ?_
  refine j_aload_n (pc := 21) dX11_learn_21 rfl rfl ?_
  refine j_getR (pc := 22) (r := 23) fl_X11_26 dX11_learn_22 (a_0 hX) rfl ?_
  refine j_getI (pc := 25) fl_X11_139 dX11_learn_25 (a_23 hX) rfl ?_
  have f6 : (-2147483648 : Int) ≤ σ 23 5 ∧ σ 23 5 ≤ 2147483647 := hI 23 5
  refine j_callV (pc := 28) (As := [vI 1, vI (σ 23 5)]) (st := []) (c_X3_learned 23 (s_Hand_23 hX) 1 (by (first | decide | exact ⟨by omega, by omega⟩)) (σ 23 5) ⟨by omega, by omega⟩ σ hI) mv_X11_372 rfl rfl rfl (a_23 hX) dX11_learn_28 ⟨Nat.le_of_ble_eq_true rfl, Nat.le_of_ble_eq_true rfl⟩ ⟨Nat.le_refl _, Nat.le_refl _⟩ rfl (Nat.le_of_ble_eq_true rfl) rfl (fun z7 σ8 hz7 => ?_)
  obtain ⟨r10, rfl, hr10, rfl, q9_0⟩ := hz7
  replace q9_0 : (σ 29 (1 : Int).toNat = 0 ∧ r10 = (σ 23 5)) ∨ (¬ σ 29 (1 : Int).toNat = 0 ∧ r10 = lrn (σ 30 (1 : Int).toNat) (σ 29 (1 : Int).toNat)) := q9_0
  refine j_st (st' := [vI r10]) rfl ?_
  have y1 : ((σ 29 1 = 0 ∧ r10 = σ 23 5) ∨ (¬ σ 29 1 = 0 ∧ r10 = lrn (σ 30 1) (σ 29 1))) := q9_0
  clear q9_0 q4_0
  refine j_istore_n (pc := 31) (i := 2) (ls' := [(0, vR 0), (1, vI r5), (2, vI r10)]) [1, 2, 0] dX11_learn_31 rfl (Nat.le_of_ble_eq_true rfl) rfl rfl ?_
  refine j_iload_n (pc := 32) dX11_learn_32 rfl rfl ?_
  refine j_aload_n (pc := 33) dX11_learn_33 rfl rfl ?_
  refine j_getR (pc := 34) (r := 23) fl_X11_26 dX11_learn_34 (a_0 hX) rfl ?_
  refine j_getI (pc := 37) fl_X11_136 dX11_learn_37 (a_23 hX) rfl ?_
  refine j_icmpR_eq (pc := 40) (tgt := 47) ⟨by omega, by omega⟩ ⟨by omega, by omega⟩ dX11_learn_40 rfl (fun h11 => ?_) (fun h11 => ?_)
  · refine j_iconst (pc := 47) dX11_learn_47 ?_
    refine j_iload_n (pc := 48) dX11_learn_48 rfl rfl ?_
    refine j_aload_n (pc := 49) dX11_learn_49 rfl rfl ?_
    refine j_getR (pc := 50) (r := 23) fl_X11_26 dX11_learn_50 (a_0 hX) rfl ?_
    refine j_getI (pc := 53) fl_X11_139 dX11_learn_53 (a_23 hX) rfl ?_
    refine j_icmpR_eq (pc := 56) (tgt := 63) ⟨by omega, by omega⟩ ⟨by omega, by omega⟩ dX11_learn_56 rfl (fun h12 => ?_) (fun h12 => ?_)
    · refine j_iconst (pc := 63) dX11_learn_63 ?_
      refine j_iadd (pc := 64) dX11_learn_64 ?_
      refine j_topV (show (0 + 0 : Int) = 0 from by decide) ?_
      refine j_istore_n (pc := 65) (i := 3) (ls' := [(0, vR 0), (1, vI r5), (2, vI r10), (3, vI 0)]) [1, 2, 3, 0] dX11_learn_65 rfl (Nat.le_of_ble_eq_true rfl) rfl rfl ?_
      refine j_aload_n (pc := 66) dX11_learn_66 rfl rfl ?_
      refine j_getR (pc := 67) (r := 23) fl_X11_26 dX11_learn_67 (a_0 hX) rfl ?_
      refine j_iload_n (pc := 70) dX11_learn_70 rfl rfl ?_
      refine j_putI (pc := 71) fl_X11_136 fp_X3_4 dX11_learn_71 (a_23 hX) rfl (j_nm (fun σ13 (eσ13 : σ13 = tw_up σ 23 4 r5) => ?_))
      have hIσ13 : tw_I σ13 := tw_I_up hI eσ13 (show (-2147483648 : Int) ≤ r5 ∧ r5 ≤ 2147483647 from ⟨by omega, by omega⟩)
      have hFσ13 : tw_F (fun c j => (c = 23 ∧ (j = 4 ∨ j = 5))) σ σ13 := tw_F_up (tw_F_rf) eσ13 (show (23 = 23 ∧ (4 = 4 ∨ 4 = 5)) from ⟨rfl, (Or.inl rfl)⟩)
      refine j_aload_n (pc := 74) dX11_learn_74 rfl rfl ?_
      refine j_getR (pc := 75) (r := 23) fl_X11_26 dX11_learn_75 (a_0 hX) rfl ?_
      refine j_iload_n (pc := 78) dX11_learn_78 rfl rfl ?_
      refine j_putI (pc := 79) fl_X11_139 fp_X3_5 dX11_learn_79 (a_23 hX) rfl (j_nm (fun σ14 (eσ14 : σ14 = tw_up σ13 23 5 r10) => ?_))
      have hIσ14 : tw_I σ14 := tw_I_up hIσ13 eσ14 (show (-2147483648 : Int) ≤ r10 ∧ r10 ≤ 2147483647 from ⟨by omega, by omega⟩)
      have hFσ14 : tw_F (fun c j => (c = 23 ∧ (j = 4 ∨ j = 5))) σ σ14 := tw_F_up hFσ13 eσ14 (show (23 = 23 ∧ (5 = 4 ∨ 5 = 5)) from ⟨rfl, (Or.inr rfl)⟩)
      refine j_iload_n (pc := 82) dX11_learn_82 rfl rfl ?_
      have y15 : σ14 23 4 = r5 := ((tw_ne1 eσ14 (by (first | decide | omega)))).trans (tw_eq1 eσ13)
      have y16 : σ14 23 5 = r10 := (tw_eq1 eσ14)
      have y17 : σ14 23 4 = r5 := ((tw_ne1 eσ14 (by (first | decide | omega)))).trans (tw_eq1 eσ13)
      have y18 : σ14 23 5 = r10 := (tw_eq1 eσ14)
      exact j_iret (pc := 83) ⟨rfl, rfl⟩ dX11_learn_83 rfl ⟨_, rfl, ⟨by omega, by omega⟩, hIσ14, hFσ14, by omega, by omega, by omega⟩
    · refine j_iconst (pc := 59) dX11_learn_59 ?_
      refine j_goto (pc := 60) (tgt := 64) dX11_learn_60 rfl ?_
      refine j_iadd (pc := 64) dX11_learn_64 ?_
      refine j_topV (show (0 + 1 : Int) = 1 from by decide) ?_
      refine j_istore_n (pc := 65) (i := 3) (ls' := [(0, vR 0), (1, vI r5), (2, vI r10), (3, vI 1)]) [1, 2, 3, 0] dX11_learn_65 rfl (Nat.le_of_ble_eq_true rfl) rfl rfl ?_
      refine j_aload_n (pc := 66) dX11_learn_66 rfl rfl ?_
      refine j_getR (pc := 67) (r := 23) fl_X11_26 dX11_learn_67 (a_0 hX) rfl ?_
      refine j_iload_n (pc := 70) dX11_learn_70 rfl rfl ?_
      refine j_putI (pc := 71) fl_X11_136 fp_X3_4 dX11_learn_71 (a_23 hX) rfl (j_nm (fun σ19 (eσ19 : σ19 = tw_up σ 23 4 r5) => ?_))
      have hIσ19 : tw_I σ19 := tw_I_up hI eσ19 (show (-2147483648 : Int) ≤ r5 ∧ r5 ≤ 2147483647 from ⟨by omega, by omega⟩)
      have hFσ19 : tw_F (fun c j => (c = 23 ∧ (j = 4 ∨ j = 5))) σ σ19 := tw_F_up (tw_F_rf) eσ19 (show (23 = 23 ∧ (4 = 4 ∨ 4 = 5)) from ⟨rfl, (Or.inl rfl)⟩)
      refine j_aload_n (pc := 74) dX11_learn_74 rfl rfl ?_
      refine j_getR (pc := 75) (r := 23) fl_X11_26 dX11_learn_75 (a_0 hX) rfl ?_
      refine j_iload_n (pc := 78) dX11_learn_78 rfl rfl ?_
      refine j_putI (pc := 79) fl_X11_139 fp_X3_5 dX11_learn_79 (a_23 hX) rfl (j_nm (fun σ20 (eσ20 : σ20 = tw_up σ19 23 5 r10) => ?_))
      have hIσ20 : tw_I σ20 := tw_I_up hIσ19 eσ20 (show (-2147483648 : Int) ≤ r10 ∧ r10 ≤ 2147483647 from ⟨by omega, by omega⟩)
      have hFσ20 : tw_F (fun c j => (c = 23 ∧ (j = 4 ∨ j = 5))) σ σ20 := tw_F_up hFσ19 eσ20 (show (23 = 23 ∧ (5 = 4 ∨ 5 = 5)) from ⟨rfl, (Or.inr rfl)⟩)
      refine j_iload_n (pc := 82) dX11_learn_82 rfl rfl ?_
      have y21 : σ20 23 4 = r5 := ((tw_ne1 eσ20 (by (first | decide | omega)))).trans (tw_eq1 eσ19)
      have y22 : σ20 23 5 = r10 := (tw_eq1 eσ20)
      have y23 : σ20 23 4 = r5 := ((tw_ne1 eσ20 (by (first | decide | omega)))).trans (tw_eq1 eσ19)
      have y24 : σ20 23 5 = r10 := (tw_eq1 eσ20)
      exact j_iret (pc := 83) ⟨rfl, rfl⟩ dX11_learn_83 rfl ⟨_, rfl, ⟨by omega, by omega⟩, hIσ20, hFσ20, by omega, by omega, by omega⟩
  · refine j_iconst (pc := 43) dX11_learn_43 ?_
    refine j_goto (pc := 44) (tgt := 48) dX11_learn_44 rfl ?_
    refine j_iload_n (pc := 48) dX11_learn_48 rfl rfl ?_
    refine j_aload_n (pc := 49) dX11_learn_49 rfl rfl ?_
    refine j_getR (pc := 50) (r := 23) fl_X11_26 dX11_learn_50 (a_0 hX) rfl ?_
    refine j_getI (pc := 53) fl_X11_139 dX11_learn_53 (a_23 hX) rfl ?_
    refine j_icmpR_eq (pc := 56) (tgt := 63) ⟨by omega, by omega⟩ ⟨by omega, by omega⟩ dX11_learn_56 rfl (fun h25 => ?_) (fun h25 => ?_)
    · refine j_iconst (pc := 63) dX11_learn_63 ?_
      refine j_iadd (pc := 64) dX11_learn_64 ?_
      refine j_topV (show (1 + 0 : Int) = 1 from by decide) ?_
      refine j_istore_n (pc := 65) (i := 3) (ls' := [(0, vR 0), (1, vI r5), (2, vI r10), (3, vI 1)]) [1, 2, 3, 0] dX11_learn_65 rfl (Nat.le_of_ble_eq_true rfl) rfl rfl ?_
      refine j_aload_n (pc := 66) dX11_learn_66 rfl rfl ?_
      refine j_getR (pc := 67) (r := 23) fl_X11_26 dX11_learn_67 (a_0 hX) rfl ?_
      refine j_iload_n (pc := 70) dX11_learn_70 rfl rfl ?_
      refine j_putI (pc := 71) fl_X11_136 fp_X3_4 dX11_learn_71 (a_23 hX) rfl (j_nm (fun σ26 (eσ26 : σ26 = tw_up σ 23 4 r5) => ?_))
      have hIσ26 : tw_I σ26 := tw_I_up hI eσ26 (show (-2147483648 : Int) ≤ r5 ∧ r5 ≤ 2147483647 from ⟨by omega, by omega⟩)
      have hFσ26 : tw_F (fun c j => (c = 23 ∧ (j = 4 ∨ j = 5))) σ σ26 := tw_F_up (tw_F_rf) eσ26 (show (23 = 23 ∧ (4 = 4 ∨ 4 = 5)) from ⟨rfl, (Or.inl rfl)⟩)
      refine j_aload_n (pc := 74) dX11_learn_74 rfl rfl ?_
      refine j_getR (pc := 75) (r := 23) fl_X11_26 dX11_learn_75 (a_0 hX) rfl ?_
      refine j_iload_n (pc := 78) dX11_learn_78 rfl rfl ?_
      refine j_putI (pc := 79) fl_X11_139 fp_X3_5 dX11_learn_79 (a_23 hX) rfl (j_nm (fun σ27 (eσ27 : σ27 = tw_up σ26 23 5 r10) => ?_))
      have hIσ27 : tw_I σ27 := tw_I_up hIσ26 eσ27 (show (-2147483648 : Int) ≤ r10 ∧ r10 ≤ 2147483647 from ⟨by omega, by omega⟩)
      have hFσ27 : tw_F (fun c j => (c = 23 ∧ (j = 4 ∨ j = 5))) σ σ27 := tw_F_up hFσ26 eσ27 (show (23 = 23 ∧ (5 = 4 ∨ 5 = 5)) from ⟨rfl, (Or.inr rfl)⟩)
      refine j_iload_n (pc := 82) dX11_learn_82 rfl rfl ?_
      have y28 : σ27 23 4 = r5 := ((tw_ne1 eσ27 (by (first | decide | omega)))).trans (tw_eq1 eσ26)
      have y29 : σ27 23 5 = r10 := (tw_eq1 eσ27)
      have y30 : σ27 23 4 = r5 := ((tw_ne1 eσ27 (by (first | decide | omega)))).trans (tw_eq1 eσ26)
      have y31 : σ27 23 5 = r10 := (tw_eq1 eσ27)
      exact j_iret (pc := 83) ⟨rfl, rfl⟩ dX11_learn_83 rfl ⟨_, rfl, ⟨by omega, by omega⟩, hIσ27, hFσ27, by omega, by omega, by omega⟩
    · refine j_iconst (pc := 59) dX11_learn_59 ?_
      refine j_goto (pc := 60) (tgt := 64) dX11_learn_60 rfl ?_
      refine j_iadd (pc := 64) dX11_learn_64 ?_
      refine j_topV (show (1 + 1 : Int) = 2 from by decide) ?_
      refine j_istore_n (pc := 65) (i := 3) (ls' := [(0, vR 0), (1, vI r5), (2, vI r10), (3, vI 2)]) [1, 2, 3, 0] dX11_learn_65 rfl (Nat.le_of_ble_eq_true rfl) rfl rfl ?_
      refine j_aload_n (pc := 66) dX11_learn_66 rfl rfl ?_
      refine j_getR (pc := 67) (r := 23) fl_X11_26 dX11_learn_67 (a_0 hX) rfl ?_
      refine j_iload_n (pc := 70) dX11_learn_70 rfl rfl ?_
      refine j_putI (pc := 71) fl_X11_136 fp_X3_4 dX11_learn_71 (a_23 hX) rfl (j_nm (fun σ32 (eσ32 : σ32 = tw_up σ 23 4 r5) => ?_))
      have hIσ32 : tw_I σ32 := tw_I_up hI eσ32 (show (-2147483648 : Int) ≤ r5 ∧ r5 ≤ 2147483647 from ⟨by omega, by omega⟩)
      have hFσ32 : tw_F (fun c j => (c = 23 ∧ (j = 4 ∨ j = 5))) σ σ32 := tw_F_up (tw_F_rf) eσ32 (show (23 = 23 ∧ (4 = 4 ∨ 4 = 5)) from ⟨rfl, (Or.inl rfl)⟩)
      refine j_aload_n (pc := 74) dX11_learn_74 rfl rfl ?_
      refine j_getR (pc := 75) (r := 23) fl_X11_26 dX11_learn_75 (a_0 hX) rfl ?_
      refine j_iload_n (pc := 78) dX11_learn_78 rfl rfl ?_
      refine j_putI (pc := 79) fl_X11_139 fp_X3_5 dX11_learn_79 (a_23 hX) rfl (j_nm (fun σ33 (eσ33 : σ33 = tw_up σ32 23 5 r10) => ?_))
      have hIσ33 : tw_I σ33 := tw_I_up hIσ32 eσ33 (show (-2147483648 : Int) ≤ r10 ∧ r10 ≤ 2147483647 from ⟨by omega, by omega⟩)
      have hFσ33 : tw_F (fun c j => (c = 23 ∧ (j = 4 ∨ j = 5))) σ σ33 := tw_F_up hFσ32 eσ33 (show (23 = 23 ∧ (5 = 4 ∨ 5 = 5)) from ⟨rfl, (Or.inr rfl)⟩)
      refine j_iload_n (pc := 82) dX11_learn_82 rfl rfl ?_
      have y34 : σ33 23 4 = r5 := ((tw_ne1 eσ33 (by (first | decide | omega)))).trans (tw_eq1 eσ32)
      have y35 : σ33 23 5 = r10 := (tw_eq1 eσ33)
      have y36 : σ33 23 4 = r5 := ((tw_ne1 eσ33 (by (first | decide | omega)))).trans (tw_eq1 eσ32)
      have y37 : σ33 23 5 = r10 := (tw_eq1 eσ33)
      exact j_iret (pc := 83) ⟨rfl, rfl⟩ dX11_learn_83 rfl ⟨_, rfl, ⟨by omega, by omega⟩, hIσ33, hFσ33, by omega, by omega, by omega⟩
abbrev q_X11_story (p : Int) (q : Int) (σ : tw_M) : Option tw_V → tw_M → Prop := fun z τ => ∃ r : Int, z = some (vL r) ∧ (-9223372036854775808 ≤ r ∧ r ≤ 9223372036854775807) ∧ tw_I τ ∧ tw_F (fun c j => c = 55) σ τ ∧ True
set_option maxHeartbeats 4000000 in
set_option maxRecDepth 100000 in
theorem l_X11_story {G : tw_G} (hX : tw_isX G) (p : Int) (hp : -2147483648 ≤ p ∧ p ≤ 2147483647) (q : Int) (hq : -2147483648 ≤ q ∧ q ≤ 2147483647) (σ : tw_M) (hI : tw_I σ) : ∀ N_ : Nat, (∀ (a : Int) (ha : -9223372036854775808 ≤ a ∧ a ≤ 9223372036854775807) (h : Int) (hh : 1 ≤ h ∧ h ≤ 41) (τ : tw_M) (hIτ : tw_I τ) (hFτ : tw_F (fun c j => c = 55) σ τ)  (hm : (41 - h).toNat < N_), tw_J G (tw_mt RX11 cX11_story 6 (some .long) 3) (tw_E G (q_X11_story p q σ)) 18 [(0, vR 0), (1, vI p), (2, vI q), (3, vL a), (5, vI h)] [] τ) := by
  intro N_
  induction N_ with
  | zero => exact fun a ha h hh τ hIτ hFτ hm => absurd hm (Nat.not_lt_zero _)
  | succ N_ ih =>
    intro a ha h hh τ hIτ hFτ hm
    refine j_iload (pc := 18) dX11_story_18 rfl ?_
    refine j_aload_n (pc := 20) dX11_story_20 rfl rfl ?_
    refine j_getR (pc := 21) (r := 1) fl_X11_10 dX11_story_21 (a_0 hX) rfl ?_
    refine j_callV (pc := 24) (As := []) (st := [vI h]) (c_X10_top 1 (s_Wall_1 hX) τ hIτ) mv_X11_327 rfl rfl rfl (a_1 hX) dX11_story_24 ⟨Nat.le_of_ble_eq_true rfl, Nat.le_of_ble_eq_true rfl⟩ ⟨Nat.le_refl _, Nat.le_refl _⟩ rfl (Nat.le_of_ble_eq_true rfl) rfl (fun z1 σ2 hz1 => ?_)
    obtain ⟨r4, rfl, hr4, rfl, q3_0⟩ := hz1
    replace q3_0 : r4 = τ 2 0 := q3_0
    refine j_st (st' := [vI r4, vI h]) rfl ?_
    refine j_icmpR_gt (pc := 27) (tgt := 89) ⟨by omega, by omega⟩ ⟨by omega, by omega⟩ dX11_story_27 rfl (fun h5 => ?_) (fun h5 => ?_)
    · refine j_lload_n (pc := 89) dX11_story_89 rfl rfl ?_
      exact j_lret (pc := 90) ⟨rfl, rfl⟩ dX11_story_90 rfl ⟨_, rfl, ⟨by omega, by omega⟩, hIτ, hFτ, trivial⟩
    · refine j_aload_n (pc := 30) dX11_story_30 rfl rfl ?_
      refine j_getR (pc := 31) (r := 55) fl_X11_42 dX11_story_31 (a_0 hX) rfl ?_
      refine j_aload_n (pc := 34) dX11_story_34 rfl rfl ?_
      refine j_getR (pc := 35) (r := 1) fl_X11_10 dX11_story_35 (a_0 hX) rfl ?_
      refine j_aload_n (pc := 38) dX11_story_38 rfl rfl ?_
      refine j_getR (pc := 39) (r := 23) fl_X11_26 dX11_story_39 (a_0 hX) rfl ?_
      refine j_getR (pc := 42) (r := 24) fl_X11_168 dX11_story_42 (a_23 hX) rfl ?_
      refine j_iload (pc := 45) dX11_story_45 rfl ?_
      refine j_aload_n (pc := 47) dX11_story_47 rfl rfl ?_
      refine j_getR (pc := 48) (r := 23) fl_X11_26 dX11_story_48 (a_0 hX) rfl ?_
      refine j_getR (pc := 51) (r := 24) fl_X11_168 dX11_story_51 (a_23 hX) rfl ?_
      refine j_callV (pc := 54) (As := []) (st := [vI h, vR 24, vR 1, vR 55]) (c_X7_all 24 (s_Row_24 hX) τ hIτ) mv_X11_255 rfl rfl rfl (a_24 hX) dX11_story_54 ⟨Nat.le_of_ble_eq_true rfl, Nat.le_of_ble_eq_true rfl⟩ ⟨Nat.le_refl _, Nat.le_refl _⟩ rfl (Nat.le_of_ble_eq_true rfl) rfl (fun z6 σ7 hz6 => ?_)
      obtain ⟨r9, rfl, hr9, rfl, q8_0⟩ := hz6
      replace q8_0 : r9 = pt (τ 24 0) - 1 := q8_0
      refine j_st (st' := [vI r9, vI h, vR 24, vR 1, vR 55]) rfl ?_
      refine j_iload_n (pc := 57) dX11_story_57 rfl rfl ?_
      refine j_iconst (pc := 58) dX11_story_58 ?_
      refine j_ixor (pc := 59) dX11_story_59 (fun z10 ez10 => ?_)
      have hz10 : (-2147483648 : Int) ≤ z10 ∧ z10 ≤ 2147483647 := by rw [ez10]; exact xor_in _ _
      refine j_iand (pc := 60) dX11_story_60 (fun z11 ez11 => ?_)
      have hz11 : (-2147483648 : Int) ≤ z11 ∧ z11 ≤ 2147483647 := by rw [ez11]; exact and_in _ _
      refine j_callV (pc := 61) (As := [vR 1, vR 24, vI h, vI z11]) (st := []) (c_X2_from 55 (s_Fall_55 hX) 1 (s_Wall_1 hX) 24 (s_Row_24 hX) h ⟨by omega, by omega⟩ z11 ⟨by omega, by omega⟩ τ hIτ (by omega) (by omega)) mv_X11_214 rfl rfl rfl (a_55 hX) dX11_story_61 ⟨Nat.le_of_ble_eq_true rfl, Nat.le_of_ble_eq_true rfl⟩ ⟨Nat.le_refl _, Nat.le_refl _⟩ rfl (Nat.le_of_ble_eq_true rfl) rfl (fun z12 σ13 hz12 => ?_)
      obtain ⟨rfl, hIσ13, hGσ13, q14_0, q14_1, q14_2, q14_3⟩ := hz12
      replace q14_0 : ∀ gg qq : Nat → Int, RG 24 gg qq τ → (σ13 55 0, σ13 55 1, σ13 55 2, σ13 55 3) = fallG (wW 1 τ) gg h z11 h.toNat 0 := q14_0
      replace q14_1 : σ13 55 4 = strS (wW 1 τ) h (σ13 55 0) := q14_1
      replace q14_2 : σ13 55 5 = harS (wW 1 τ) h (σ13 55 0) := q14_2
      replace q14_3 : -40 ≤ σ13 55 5 ∧ σ13 55 5 ≤ 40 := q14_3
      have hFσ13 : tw_F (fun c j => c = 55) σ σ13 := tw_F_tr hFτ hGσ13 (fun c j q => (show c = 55 from by replace q : c = 55 := q; exact q))
      refine j_st (st' := []) rfl ?_
      refine j_aload_n (pc := 64) dX11_story_64 rfl rfl ?_
      refine j_getR (pc := 65) (r := 55) fl_X11_42 dX11_story_65 (a_0 hX) rfl ?_
      refine j_iload_n (pc := 68) dX11_story_68 rfl rfl ?_
      refine j_iload_n (pc := 69) dX11_story_69 rfl rfl ?_
      refine j_callV (pc := 70) (As := [vI p, vI q]) (st := []) (c_X2_isSo 55 (s_Fall_55 hX) p ⟨by omega, by omega⟩ q ⟨by omega, by omega⟩ σ13 hIσ13) mv_X11_379 rfl rfl rfl (a_55 hX) dX11_story_70 ⟨Nat.le_of_ble_eq_true rfl, Nat.le_of_ble_eq_true rfl⟩ ⟨Nat.le_refl _, Nat.le_refl _⟩ rfl (Nat.le_of_ble_eq_true rfl) rfl (fun z16 σ17 hz16 => ?_)
      obtain ⟨r19, rfl, hr19, rfl, -⟩ := hz16
      refine j_st (st' := [vI r19]) rfl ?_
      refine j_ifR_eq (pc := 73) (tgt := 83) ⟨by omega, by omega⟩ dX11_story_73 rfl (fun h20 => ?_) (fun h20 => ?_)
      · refine j_iinc (pc := 83) (i := 5) (n := 1) (ls' := [(0, vR 0), (1, vI p), (2, vI q), (3, vL a), (5, vI (h + 1))]) [1, 2, 3, 4, 0] dX11_story_83 rfl (Nat.le_of_ble_eq_true rfl) rfl rfl ?_
        refine j_goto (pc := 86) (tgt := 18) dX11_story_86 rfl ?_
        refine j_ls (ls' := [(0, vR 0), (1, vI p), (2, vI q), (3, vL a), (5, vI (h + 1))]) [0, 1, 2, 3, 4] rfl ?_
        exact ih a ⟨by omega, by omega⟩ (h + 1) ⟨by omega, by omega⟩ σ13 hIσ13 hFσ13 (show (41 - (h + 1)).toNat < N_ from by omega)
      · refine j_lload_n (pc := 76) dX11_story_76 rfl rfl ?_
        refine j_lconst (pc := 77) (z := 1) dX11_story_77 rfl ?_
        refine j_iload (pc := 78) dX11_story_78 rfl ?_
        refine j_lshl (pc := 80) dX11_story_80 (fun z21 ez21 => ?_)
        have hz21 : (-9223372036854775808 : Int) ≤ z21 ∧ z21 ≤ 9223372036854775807 := by rw [ez21]; exact lshlL_in _ _
        refine j_lor (pc := 81) dX11_story_81 (fun z22 ez22 => ?_)
        have hz22 : (-9223372036854775808 : Int) ≤ z22 ∧ z22 ≤ 9223372036854775807 := by rw [ez22]; exact lorL_in _ _
        refine j_lstore_n (pc := 82) (i := 3) (ls' := [(0, vR 0), (1, vI p), (2, vI q), (3, vL z22), (5, vI h)]) [1, 2, 3, 0, 4] dX11_story_82 rfl (Nat.le_of_ble_eq_true rfl) rfl rfl ?_
        refine j_iinc (pc := 83) (i := 5) (n := 1) (ls' := [(0, vR 0), (1, vI p), (2, vI q), (3, vL z22), (5, vI (h + 1))]) [1, 2, 3, 4, 0] dX11_story_83 rfl (Nat.le_of_ble_eq_true rfl) rfl rfl ?_
        refine j_goto (pc := 86) (tgt := 18) dX11_story_86 rfl ?_
        refine j_ls (ls' := [(0, vR 0), (1, vI p), (2, vI q), (3, vL z22), (5, vI (h + 1))]) [0, 1, 2, 3, 4] rfl ?_
        exact ih z22 ⟨by omega, by omega⟩ (h + 1) ⟨by omega, by omega⟩ σ13 hIσ13 hFσ13 (show (41 - (h + 1)).toNat < N_ from by omega)
set_option maxHeartbeats 4000000 in
set_option maxRecDepth 100000 in
theorem c_X11_story {G : tw_G} (hX : tw_isX G) (p : Int) (hp : -2147483648 ≤ p ∧ p ≤ 2147483647) (q : Int) (hq : -2147483648 ≤ q ∧ q ≤ 2147483647) (σ : tw_M) (hI : tw_I σ) : tw_C G yX11_story cX11_story 6 (some .long) 3 [vR 0, vI p, vI q] σ (q_X11_story p q σ) := by
  refine tw_met [(0, vR 0), (1, vI p), (2, vI q)] (by decide +kernel) rfl (Nat.le_of_ble_eq_true rfl) ?_
  refine j_aload_n (pc := 0) dX11_story_0 rfl rfl ?_
  refine j_iload_n (pc := 1) dX11_story_1 rfl rfl ?_
  refine j_iload_n (pc := 2) dX11_story_2 rfl rfl ?_
  refine j_callV (pc := 3) (As := [vI p, vI q]) (st := []) (c_X11_isStory hX p ⟨by omega, by omega⟩ q ⟨by omega, by omega⟩ σ hI) mv_X11_375 rfl rfl rfl (a_0 hX) dX11_story_3 ⟨Nat.le_of_ble_eq_true rfl, Nat.le_of_ble_eq_true rfl⟩ ⟨Nat.le_refl _, Nat.le_refl _⟩ rfl (Nat.le_of_ble_eq_true rfl) rfl (fun z23 σ24 hz23 => ?_)
  obtain ⟨r26, rfl, hr26, rfl, -⟩ := hz23
  refine j_st (st' := [vI r26]) rfl ?_
  refine j_ifR_ne (pc := 6) (tgt := 13) ⟨by omega, by omega⟩ dX11_story_6 rfl (fun h27 => ?_) (fun h27 => ?_)
  · refine j_lconst (pc := 13) (z := 0) dX11_story_13 rfl ?_
    refine j_lstore_n (pc := 14) (i := 3) (ls' := [(0, vR 0), (1, vI p), (2, vI q), (3, vL 0)]) [1, 2, 3, 0] dX11_story_14 rfl (Nat.le_of_ble_eq_true rfl) rfl rfl ?_
    refine j_iconst (pc := 15) dX11_story_15 ?_
    refine j_istore (pc := 16) (i := 5) (ls' := [(0, vR 0), (1, vI p), (2, vI q), (3, vL 0), (5, vI 1)]) [1, 2, 3, 4, 0] dX11_story_16 (Nat.le_of_ble_eq_true rfl) rfl rfl ?_
    refine j_ls (ls' := [(0, vR 0), (1, vI p), (2, vI q), (3, vL 0), (5, vI 1)]) [0, 1, 2, 3, 4] rfl ?_
    exact (l_X11_story hX p hp q hq σ hI (((41 - (1 : Int)).toNat) + 1)) 0 (by (first | decide | exact ⟨by omega, by omega⟩)) 1 (by (first | decide | exact ⟨by omega, by omega⟩)) σ hI (tw_F_rf) (Nat.lt_succ_self _)
  · refine j_ldc2 (pc := 9) (z := -1) dX11_story_9 (tw_inc tm_4 (i := 96) rfl rfl) ?_
    exact j_lret (pc := 12) ⟨rfl, rfl⟩ dX11_story_12 rfl ⟨_, rfl, ⟨by omega, by omega⟩, hI, (tw_F_rf), trivial⟩
abbrev q_X11_odds (p : Int) (q : Int) (h : Int) (w : Int) (σ : tw_M) : Option tw_V → tw_M → Prop := fun z τ => ∃ r : Int, z = some (vL r) ∧ (-9223372036854775808 ≤ r ∧ r ≤ 9223372036854775807) ∧ tw_I τ ∧ tw_F (fun c j => (c = 58 ∧ (j = 2 ∨ j = 3)) ∨ c = 59) σ τ ∧ True
set_option maxHeartbeats 4000000 in
set_option maxRecDepth 100000 in
theorem l_X11_odds {G : tw_G} (hX : tw_isX G) (p : Int) (hp : -2147483648 ≤ p ∧ p ≤ 2147483647) (q : Int) (hq : -2147483648 ≤ q ∧ q ≤ 2147483647) (h : Int) (hh : -2147483648 ≤ h ∧ h ≤ 2147483647) (w : Int) (hw : -2147483648 ≤ w ∧ w ≤ 2147483647) (σ : tw_M) (hI : tw_I σ) : ∀ N_ : Nat, (∀ (a : Int) (ha : -9223372036854775808 ≤ a ∧ a ≤ 9223372036854775807) (b : Int) (hb : -9223372036854775808 ≤ b ∧ b ≤ 9223372036854775807) (f : Int) (hf : 1 ≤ f ∧ f ≤ 41) (τ : tw_M) (hIτ : tw_I τ) (hFτ : tw_F (fun c j => (c = 58 ∧ (j = 2 ∨ j = 3)) ∨ c = 59) σ τ)  (hm : (41 - f).toNat < N_), tw_J G (tw_mt RX11 cX11_odds 12 (some .long) 3) (tw_E G (q_X11_odds p q h w σ)) 41 [(0, vR 0), (1, vI p), (2, vI q), (3, vI h), (4, vI w), (5, vL a), (7, vL b), (9, vI f)] [] τ) := by
  intro N_
  induction N_ with
  | zero => exact fun a ha b hb f hf τ hIτ hFτ hm => absurd hm (Nat.not_lt_zero _)
  | succ N_ ih =>
    intro a ha b hb f hf τ hIτ hFτ hm
    refine j_iload (pc := 41) dX11_odds_41 rfl ?_
    refine j_aload_n (pc := 43) dX11_odds_43 rfl rfl ?_
    refine j_getR (pc := 44) (r := 1) fl_X11_10 dX11_odds_44 (a_0 hX) rfl ?_
    refine j_callV (pc := 47) (As := []) (st := [vI f]) (c_X10_top 1 (s_Wall_1 hX) τ hIτ) mv_X11_327 rfl rfl rfl (a_1 hX) dX11_odds_47 ⟨Nat.le_of_ble_eq_true rfl, Nat.le_of_ble_eq_true rfl⟩ ⟨Nat.le_refl _, Nat.le_refl _⟩ rfl (Nat.le_of_ble_eq_true rfl) rfl (fun z1 σ2 hz1 => ?_)
    obtain ⟨r4, rfl, hr4, rfl, q3_0⟩ := hz1
    replace q3_0 : r4 = τ 2 0 := q3_0
    refine j_st (st' := [vI r4, vI f]) rfl ?_
    refine j_icmpR_gt (pc := 50) (tgt := 93) ⟨by omega, by omega⟩ ⟨by omega, by omega⟩ dX11_odds_50 rfl (fun h5 => ?_) (fun h5 => ?_)
    · refine j_lload (pc := 93) dX11_odds_93 rfl ?_
      refine j_lconst (pc := 95) (z := 0) dX11_odds_95 rfl ?_
      refine j_lcmp (pc := 96) dX11_odds_96 (fun z6 ez6 => ?_)
      have hz6 : (z6 = 1 ∧ 0 < a) ∨ (z6 = 0 ∧ a = 0) ∨ (z6 = -1 ∧ a < 0) := by rw [ez6]; exact tw_cmp_eq ⟨by omega, by omega⟩ ⟨by omega, by omega⟩
      refine j_ifR_ne (pc := 97) (tgt := 104) ⟨by omega, by omega⟩ dX11_odds_97 rfl (fun h7 => ?_) (fun h7 => ?_)
      · refine j_aload_n (pc := 104) dX11_odds_104 rfl rfl ?_
        refine j_getR (pc := 105) (r := 58) fl_X11_58 dX11_odds_105 (a_0 hX) rfl ?_
        refine j_lload (pc := 108) dX11_odds_108 rfl ?_
        refine j_lload (pc := 110) dX11_odds_110 rfl ?_
        refine j_callV (pc := 112) (As := [vL b, vL a]) (st := []) (c_X1_fraction hX b ⟨by omega, by omega⟩ a ⟨by omega, by omega⟩ τ hIτ) mv_X11_368 rfl rfl rfl (a_58 hX) dX11_odds_112 ⟨Nat.le_of_ble_eq_true rfl, Nat.le_of_ble_eq_true rfl⟩ ⟨Nat.le_refl _, Nat.le_refl _⟩ rfl (Nat.le_of_ble_eq_true rfl) rfl (fun z8 σ9 hz8 => ?_)
        obtain ⟨rfl, hIσ9, hGσ9, q10_0, q10_1⟩ := hz8
        replace q10_0 : σ9 58 2 = euA b (eu 1000 a b) := q10_0
        replace q10_1 : σ9 58 3 = euB a (eu 1000 a b) := q10_1
        have hFσ9 : tw_F (fun c j => (c = 58 ∧ (j = 2 ∨ j = 3)) ∨ c = 59) σ σ9 := tw_F_tr hFτ hGσ9 (fun c j q => (show (c = 58 ∧ (j = 2 ∨ j = 3)) ∨ c = 59 from by replace q : (c = 58 ∧ (j = 2 ∨ j = 3)) := q; exact (Or.inl q)))
        refine j_st (st' := []) rfl ?_
        refine j_aload_n (pc := 115) dX11_odds_115 rfl rfl ?_
        refine j_getR (pc := 116) (r := 58) fl_X11_58 dX11_odds_116 (a_0 hX) rfl ?_
        refine j_iload (pc := 119) dX11_odds_119 rfl ?_
        refine j_callV (pc := 121) (As := [vI w]) (st := []) (c_X1_part hX w ⟨by omega, by omega⟩ σ9 hIσ9) mv_X11_251 rfl rfl rfl (a_58 hX) dX11_odds_121 ⟨Nat.le_of_ble_eq_true rfl, Nat.le_of_ble_eq_true rfl⟩ ⟨Nat.le_refl _, Nat.le_refl _⟩ rfl (Nat.le_of_ble_eq_true rfl) rfl (fun z12 σ13 hz12 => ?_)
        obtain ⟨r15, rfl, hr15, rfl, q14_0⟩ := hz12
        replace q14_0 : (w = 0 ∧ r15 = σ9 58 2) ∨ (¬ w = 0 ∧ r15 = σ9 58 3) := q14_0
        refine j_st (st' := [vL r15]) rfl ?_
        exact j_lret (pc := 124) ⟨rfl, rfl⟩ dX11_odds_124 rfl ⟨_, rfl, ⟨by omega, by omega⟩, hIσ9, hFσ9, trivial⟩
      · refine j_ldc2 (pc := 100) (z := -4) dX11_odds_100 (tw_inc tm_5 (i := 133) rfl rfl) ?_
        exact j_lret (pc := 103) ⟨rfl, rfl⟩ dX11_odds_103 rfl ⟨_, rfl, ⟨by omega, by omega⟩, hIτ, hFτ, trivial⟩
    · refine j_aload_n (pc := 53) dX11_odds_53 rfl rfl ?_
      refine j_getR (pc := 54) (r := 58) fl_X11_58 dX11_odds_54 (a_0 hX) rfl ?_
      refine j_aload_n (pc := 57) dX11_odds_57 rfl rfl ?_
      refine j_getR (pc := 58) (r := 23) fl_X11_26 dX11_odds_58 (a_0 hX) rfl ?_
      refine j_iload (pc := 61) dX11_odds_61 rfl ?_
      refine j_iload_n (pc := 63) dX11_odds_63 rfl rfl ?_
      refine j_iload_n (pc := 64) dX11_odds_64 rfl rfl ?_
      refine j_callV (pc := 65) (As := [vR 23, vI f, vI p, vI q]) (st := []) (c_X1_ofStory hX 23 (s_Hand_23 hX) f ⟨by omega, by omega⟩ p ⟨by omega, by omega⟩ q ⟨by omega, by omega⟩ τ hIτ (by omega)) mv_X11_382 rfl rfl rfl (a_58 hX) dX11_odds_65 ⟨Nat.le_of_ble_eq_true rfl, Nat.le_of_ble_eq_true rfl⟩ ⟨Nat.le_refl _, Nat.le_refl _⟩ rfl (Nat.le_of_ble_eq_true rfl) rfl (fun z16 σ17 hz16 => ?_)
      obtain ⟨r19, rfl, hr19, hIσ17, hGσ17, -⟩ := hz16
      have hFσ17 : tw_F (fun c j => (c = 58 ∧ (j = 2 ∨ j = 3)) ∨ c = 59) σ σ17 := tw_F_tr hFτ hGσ17 (fun c j q => (show (c = 58 ∧ (j = 2 ∨ j = 3)) ∨ c = 59 from by replace q : c = 59 := q; exact (Or.inr q)))
      refine j_st (st' := [vL r19]) rfl ?_
      refine j_lstore (pc := 68) (i := 10) (ls' := [(0, vR 0), (1, vI p), (2, vI q), (3, vI h), (4, vI w), (5, vL a), (7, vL b), (9, vI f), (10, vL r19)]) [1, 2, 3, 4, 5, 6, 7, 8, 0] dX11_odds_68 (Nat.le_of_ble_eq_true rfl) rfl rfl ?_
      refine j_lload (pc := 70) dX11_odds_70 rfl ?_
      refine j_lload (pc := 72) dX11_odds_72 rfl ?_
      refine j_ladd (pc := 74) dX11_odds_74 ?_
      refine j_topL (fun z20 ez20 hz20 => ?_)
      refine j_lstore (pc := 75) (i := 5) (ls' := [(0, vR 0), (1, vI p), (2, vI q), (3, vI h), (4, vI w), (5, vL z20), (7, vL b), (9, vI f), (10, vL r19)]) [1, 2, 3, 4, 5, 0, 6, 7, 8] dX11_odds_75 (Nat.le_of_ble_eq_true rfl) rfl rfl ?_
      refine j_iload (pc := 77) dX11_odds_77 rfl ?_
      refine j_iload_n (pc := 79) dX11_odds_79 rfl rfl ?_
      refine j_icmpR_ne (pc := 80) (tgt := 87) ⟨by omega, by omega⟩ ⟨by omega, by omega⟩ dX11_odds_80 rfl (fun h21 => ?_) (fun h21 => ?_)
      · refine j_iinc (pc := 87) (i := 9) (n := 1) (ls' := [(0, vR 0), (1, vI p), (2, vI q), (3, vI h), (4, vI w), (5, vL z20), (7, vL b), (9, vI (f + 1))]) [1, 2, 3, 4, 5, 6, 7, 0] dX11_odds_87 rfl (Nat.le_of_ble_eq_true rfl) rfl rfl ?_
        refine j_goto (pc := 90) (tgt := 41) dX11_odds_90 rfl ?_
        refine j_ls (ls' := [(0, vR 0), (1, vI p), (2, vI q), (3, vI h), (4, vI w), (5, vL z20), (7, vL b), (9, vI (f + 1))]) [0, 1, 2, 3, 4, 5, 6, 7] rfl ?_
        exact ih z20 ⟨by omega, by omega⟩ b ⟨by omega, by omega⟩ (f + 1) ⟨by omega, by omega⟩ σ17 hIσ17 hFσ17 (show (41 - (f + 1)).toNat < N_ from by omega)
      · refine j_lload (pc := 83) dX11_odds_83 rfl ?_
        refine j_lstore (pc := 85) (i := 7) (ls' := [(0, vR 0), (1, vI p), (2, vI q), (3, vI h), (4, vI w), (5, vL z20), (7, vL r19), (9, vI f)]) [1, 2, 3, 4, 5, 6, 0, 7] dX11_odds_85 (Nat.le_of_ble_eq_true rfl) rfl rfl ?_
        refine j_iinc (pc := 87) (i := 9) (n := 1) (ls' := [(0, vR 0), (1, vI p), (2, vI q), (3, vI h), (4, vI w), (5, vL z20), (7, vL r19), (9, vI (f + 1))]) [1, 2, 3, 4, 5, 6, 7, 0] dX11_odds_87 rfl (Nat.le_of_ble_eq_true rfl) rfl rfl ?_
        refine j_goto (pc := 90) (tgt := 41) dX11_odds_90 rfl ?_
        refine j_ls (ls' := [(0, vR 0), (1, vI p), (2, vI q), (3, vI h), (4, vI w), (5, vL z20), (7, vL r19), (9, vI (f + 1))]) [0, 1, 2, 3, 4, 5, 6, 7] rfl ?_
        exact ih z20 ⟨by omega, by omega⟩ r19 ⟨by omega, by omega⟩ (f + 1) ⟨by omega, by omega⟩ σ17 hIσ17 hFσ17 (show (41 - (f + 1)).toNat < N_ from by omega)
set_option maxHeartbeats 4000000 in
set_option maxRecDepth 100000 in
theorem c_X11_odds {G : tw_G} (hX : tw_isX G) (p : Int) (hp : -2147483648 ≤ p ∧ p ≤ 2147483647) (q : Int) (hq : -2147483648 ≤ q ∧ q ≤ 2147483647) (h : Int) (hh : -2147483648 ≤ h ∧ h ≤ 2147483647) (w : Int) (hw : -2147483648 ≤ w ∧ w ≤ 2147483647) (σ : tw_M) (hI : tw_I σ) : tw_C G yX11_odds cX11_odds 12 (some .long) 3 [vR 0, vI p, vI q, vI h, vI w] σ (q_X11_odds p q h w σ) := by
  refine tw_met [(0, vR 0), (1, vI p), (2, vI q), (3, vI h), (4, vI w)] (by decide +kernel) rfl (Nat.le_of_ble_eq_true rfl) ?_
  refine j_aload_n (pc := 0) dX11_odds_0 rfl rfl ?_
  refine j_iload_n (pc := 1) dX11_odds_1 rfl rfl ?_
  refine j_iload_n (pc := 2) dX11_odds_2 rfl rfl ?_
  refine j_callV (pc := 3) (As := [vI p, vI q]) (st := []) (c_X11_isStory hX p ⟨by omega, by omega⟩ q ⟨by omega, by omega⟩ σ hI) mv_X11_375 rfl rfl rfl (a_0 hX) dX11_odds_3 ⟨Nat.le_of_ble_eq_true rfl, Nat.le_of_ble_eq_true rfl⟩ ⟨Nat.le_refl _, Nat.le_refl _⟩ rfl (Nat.le_of_ble_eq_true rfl) rfl (fun z22 σ23 hz22 => ?_)
  obtain ⟨r25, rfl, hr25, rfl, -⟩ := hz22
  refine j_st (st' := [vI r25]) rfl ?_
  refine j_ifR_eq (pc := 6) (tgt := 28) ⟨by omega, by omega⟩ dX11_odds_6 rfl (fun h26 => ?_) (fun h26 => ?_)
  · refine j_ldc2 (pc := 28) (z := -1) dX11_odds_28 (tw_inc tm_4 (i := 96) rfl rfl) ?_
    exact j_lret (pc := 31) ⟨rfl, rfl⟩ dX11_odds_31 rfl ⟨_, rfl, ⟨by omega, by omega⟩, hI, (tw_F_rf), trivial⟩
  · refine j_aload_n (pc := 9) dX11_odds_9 rfl rfl ?_
    refine j_getR (pc := 10) (r := 1) fl_X11_10 dX11_odds_10 (a_0 hX) rfl ?_
    refine j_iload_n (pc := 13) dX11_odds_13 rfl rfl ?_
    refine j_callV (pc := 14) (As := [vI h]) (st := []) (c_X10_isFoot 1 (s_Wall_1 hX) h ⟨by omega, by omega⟩ σ hI) mv_X11_149 rfl rfl rfl (a_1 hX) dX11_odds_14 ⟨Nat.le_of_ble_eq_true rfl, Nat.le_of_ble_eq_true rfl⟩ ⟨Nat.le_refl _, Nat.le_refl _⟩ rfl (Nat.le_of_ble_eq_true rfl) rfl (fun z27 σ28 hz27 => ?_)
    obtain ⟨r30, rfl, hr30, rfl, q29_0⟩ := hz27
    replace q29_0 : (r30 = 1 ∧ 1 ≤ h ∧ h ≤ σ 2 0 ∧ h ≤ 40) ∨ (r30 = 0 ∧ ¬ (1 ≤ h ∧ h ≤ σ 2 0)) := q29_0
    refine j_st (st' := [vI r30]) rfl ?_
    refine j_ifR_eq (pc := 17) (tgt := 28) ⟨by omega, by omega⟩ dX11_odds_17 rfl (fun h31 => ?_) (fun h31 => ?_)
    · refine j_ldc2 (pc := 28) (z := -1) dX11_odds_28 (tw_inc tm_4 (i := 96) rfl rfl) ?_
      exact j_lret (pc := 31) ⟨rfl, rfl⟩ dX11_odds_31 rfl ⟨_, rfl, ⟨by omega, by omega⟩, hI, (tw_F_rf), trivial⟩
    · refine j_iload (pc := 20) dX11_odds_20 rfl ?_
      refine j_callS (pc := 22) (As := [vI w]) (st := []) (c_X11_isPart w ⟨by omega, by omega⟩ σ hI) ms_X11_242 rfl dX11_odds_22 ⟨Nat.le_of_ble_eq_true rfl, Nat.le_of_ble_eq_true rfl⟩ ⟨Nat.le_refl _, Nat.le_refl _⟩ rfl (Nat.le_of_ble_eq_true rfl) rfl (fun z32 σ33 hz32 => ?_)
      obtain ⟨r35, rfl, hr35, rfl, q34_0⟩ := hz32
      replace q34_0 : (r35 = 1 ∧ (w = 0 ∨ w = 1)) ∨ (r35 = 0 ∧ ¬ w = 0 ∧ ¬ w = 1) := q34_0
      refine j_st (st' := [vI r35]) rfl ?_
      refine j_ifR_ne (pc := 25) (tgt := 32) ⟨by omega, by omega⟩ dX11_odds_25 rfl (fun h36 => ?_) (fun h36 => ?_)
      · refine j_lconst (pc := 32) (z := 0) dX11_odds_32 rfl ?_
        refine j_lstore (pc := 33) (i := 5) (ls' := [(0, vR 0), (1, vI p), (2, vI q), (3, vI h), (4, vI w), (5, vL 0)]) [1, 2, 3, 4, 5, 0] dX11_odds_33 (Nat.le_of_ble_eq_true rfl) rfl rfl ?_
        refine j_lconst (pc := 35) (z := 0) dX11_odds_35 rfl ?_
        refine j_lstore (pc := 36) (i := 7) (ls' := [(0, vR 0), (1, vI p), (2, vI q), (3, vI h), (4, vI w), (5, vL 0), (7, vL 0)]) [1, 2, 3, 4, 5, 6, 0] dX11_odds_36 (Nat.le_of_ble_eq_true rfl) rfl rfl ?_
        refine j_iconst (pc := 38) dX11_odds_38 ?_
        refine j_istore (pc := 39) (i := 9) (ls' := [(0, vR 0), (1, vI p), (2, vI q), (3, vI h), (4, vI w), (5, vL 0), (7, vL 0), (9, vI 1)]) [1, 2, 3, 4, 5, 6, 7, 0] dX11_odds_39 (Nat.le_of_ble_eq_true rfl) rfl rfl ?_
        refine j_ls (ls' := [(0, vR 0), (1, vI p), (2, vI q), (3, vI h), (4, vI w), (5, vL 0), (7, vL 0), (9, vI 1)]) [0, 1, 2, 3, 4, 5, 6, 7] rfl ?_
        exact (l_X11_odds hX p hp q hq h hh w hw σ hI (((41 - (1 : Int)).toNat) + 1)) 0 (by (first | decide | exact ⟨by omega, by omega⟩)) 0 (by (first | decide | exact ⟨by omega, by omega⟩)) 1 (by (first | decide | exact ⟨by omega, by omega⟩)) σ hI (tw_F_rf) (Nat.lt_succ_self _)
      · refine j_ldc2 (pc := 28) (z := -1) dX11_odds_28 (tw_inc tm_4 (i := 96) rfl rfl) ?_
        exact j_lret (pc := 31) ⟨rfl, rfl⟩ dX11_odds_31 rfl ⟨_, rfl, ⟨by omega, by omega⟩, hI, (tw_F_rf), trivial⟩
abbrev q_X11_bolts (w : Int) (σ : tw_M) : Option tw_V → tw_M → Prop := fun z τ => ∃ r : Int, z = some (vI r) ∧ (-2147483648 ≤ r ∧ r ≤ 2147483647) ∧ tw_I τ ∧ tw_F (fun c j => (c = 76 ∧ (j = 1 ∨ j = 4 ∨ j = 5)) ∨ (77 ≤ c ∧ c < 79)) σ τ ∧ True
set_option maxHeartbeats 4000000 in
set_option maxRecDepth 100000 in
theorem c_X11_bolts {G : tw_G} (hX : tw_isX G) (w : Int) (hw : -2147483648 ≤ w ∧ w ≤ 2147483647) (σ : tw_M) (hI : tw_I σ) : tw_C G yX11_bolts cX11_bolts 2 (some .int) 6 [vR 0, vI w] σ (q_X11_bolts w σ) := by
  refine tw_met [(0, vR 0), (1, vI w)] (by decide +kernel) rfl (Nat.le_of_ble_eq_true rfl) ?_
  refine j_aload_n (pc := 0) dX11_bolts_0 rfl rfl ?_
  refine j_getR (pc := 1) (r := 76) fl_X11_81 dX11_bolts_1 (a_0 hX) rfl ?_
  refine j_callV (pc := 4) (As := []) (st := []) (c_X0_find hX σ hI) mv_X11_388 rfl rfl rfl (a_76 hX) dX11_bolts_4 ⟨Nat.le_of_ble_eq_true rfl, Nat.le_of_ble_eq_true rfl⟩ ⟨Nat.le_refl _, Nat.le_refl _⟩ rfl (Nat.le_of_ble_eq_true rfl) rfl (fun z1 σ2 hz1 => ?_)
  obtain ⟨rfl, hIσ2, hGσ2, -⟩ := hz1
  have hFσ2 : tw_F (fun c j => (c = 76 ∧ (j = 1 ∨ j = 4 ∨ j = 5)) ∨ (77 ≤ c ∧ c < 79)) σ σ2 := tw_F_tr (tw_F_rf) hGσ2 (fun c j q => (show (c = 76 ∧ (j = 1 ∨ j = 4 ∨ j = 5)) ∨ (77 ≤ c ∧ c < 79) from by replace q : (c = 76 ∧ (j = 1 ∨ j = 4 ∨ j = 5)) ∨ (77 ≤ c ∧ c < 79) := q; exact q))
  refine j_st (st' := []) rfl ?_
  refine j_iload_n (pc := 7) dX11_bolts_7 rfl rfl ?_
  refine j_iconst (pc := 8) dX11_bolts_8 ?_
  refine j_aload_n (pc := 9) dX11_bolts_9 rfl rfl ?_
  refine j_getR (pc := 10) (r := 76) fl_X11_81 dX11_bolts_10 (a_0 hX) rfl ?_
  refine j_getI (pc := 13) fl_X11_391 dX11_bolts_13 (a_76 hX) rfl ?_
  have f5 : (0 : Int) ≤ σ2 76 4 ∧ σ2 76 4 ≤ 40 := hIσ2 76 4
  refine j_callS (pc := 16) (As := [vI w, vI 1, vI (σ2 76 4)]) (st := []) (c_X11_isOf w ⟨by omega, by omega⟩ 1 (by (first | decide | exact ⟨by omega, by omega⟩)) (σ2 76 4) ⟨by omega, by omega⟩ σ2 hIσ2) ms_X11_290 rfl dX11_bolts_16 ⟨Nat.le_of_ble_eq_true rfl, Nat.le_of_ble_eq_true rfl⟩ ⟨Nat.le_refl _, Nat.le_refl _⟩ rfl (Nat.le_of_ble_eq_true rfl) rfl (fun z6 σ7 hz6 => ?_)
  obtain ⟨r9, rfl, hr9, rfl, q8_0⟩ := hz6
  replace q8_0 : (r9 = 1 ∧ ((0 ≤ w ∧ w < (1 : Int)) ∨ (10 ≤ w ∧ w - 10 < (σ2 76 4)))) ∨ (r9 = 0 ∧ ¬ ((0 ≤ w ∧ w < (1 : Int)) ∨ (10 ≤ w ∧ w - 10 < (σ2 76 4)))) := q8_0
  refine j_st (st' := [vI r9]) rfl ?_
  refine j_ifR_ne (pc := 19) (tgt := 24) ⟨by omega, by omega⟩ dX11_bolts_19 rfl (fun h10 => ?_) (fun h10 => ?_)
  · refine j_aload_n (pc := 24) dX11_bolts_24 rfl rfl ?_
    refine j_getR (pc := 25) (r := 76) fl_X11_81 dX11_bolts_25 (a_0 hX) rfl ?_
    refine j_getI (pc := 28) fl_X11_392 dX11_bolts_28 (a_76 hX) rfl ?_
    have f11 : (0 : Int) ≤ σ2 76 5 ∧ σ2 76 5 ≤ 1 := hIσ2 76 5
    refine j_ifR_ne (pc := 31) (tgt := 37) ⟨by omega, by omega⟩ dX11_bolts_31 rfl (fun h12 => ?_) (fun h12 => ?_)
    · refine j_iload_n (pc := 37) dX11_bolts_37 rfl rfl ?_
      refine j_ifR_ne (pc := 38) (tgt := 51) ⟨by omega, by omega⟩ dX11_bolts_38 rfl (fun h13 => ?_) (fun h13 => ?_)
      · refine j_aload_n (pc := 51) dX11_bolts_51 rfl rfl ?_
        refine j_getR (pc := 52) (r := 76) fl_X11_81 dX11_bolts_52 (a_0 hX) rfl ?_
        refine j_getR (pc := 55) (r := 78) fl_X11_395 dX11_bolts_55 (a_76 hX) rfl ?_
        refine j_iload_n (pc := 58) dX11_bolts_58 rfl rfl ?_
        refine j_bipush (pc := 59) dX11_bolts_59 rfl ?_
        refine j_isub (pc := 61) dX11_bolts_61 ?_
        refine j_iald (pc := 62) dX11_bolts_62 (a_78 hX) (by omega) (by omega) (by decide) ?_
        have f14 : (0 : Int) ≤ σ2 78 ((w - 10).toNat) ∧ σ2 78 ((w - 10).toNat) ≤ 40 := hIσ2 78 ((w - 10).toNat)
        exact j_iret (pc := 63) ⟨rfl, rfl⟩ dX11_bolts_63 rfl ⟨_, rfl, ⟨by omega, by omega⟩, hIσ2, hFσ2, trivial⟩
      · refine j_aload_n (pc := 41) dX11_bolts_41 rfl rfl ?_
        refine j_getR (pc := 42) (r := 76) fl_X11_81 dX11_bolts_42 (a_0 hX) rfl ?_
        refine j_getI (pc := 45) fl_X11_391 dX11_bolts_45 (a_76 hX) rfl ?_
        refine j_goto (pc := 48) (tgt := 63) dX11_bolts_48 rfl ?_
        exact j_iret (pc := 63) ⟨rfl, rfl⟩ dX11_bolts_63 rfl ⟨_, rfl, ⟨by omega, by omega⟩, hIσ2, hFσ2, trivial⟩
    · refine j_bipush (pc := 34) dX11_bolts_34 rfl ?_
      exact j_iret (pc := 36) ⟨rfl, rfl⟩ dX11_bolts_36 rfl ⟨_, rfl, ⟨by omega, by omega⟩, hIσ2, hFσ2, trivial⟩
  · refine j_iconst (pc := 22) dX11_bolts_22 ?_
    exact j_iret (pc := 23) ⟨rfl, rfl⟩ dX11_bolts_23 rfl ⟨_, rfl, ⟨by omega, by omega⟩, hIσ2, hFσ2, trivial⟩
abbrev q_X11_image (i : Int) (σ : tw_M) : Option tw_V → tw_M → Prop := fun z τ => ∃ r : Int, z = some (vI r) ∧ (-2147483648 ≤ r ∧ r ≤ 2147483647) ∧ tw_I τ ∧ tw_F (fun c j => (31 ≤ c ∧ c < 47)) σ τ ∧ ((r = -1 ∧ ¬ (i = 0 ∨ i = 1) ∧ τ 31 6 = σ 31 6 ∧ τ 39 6 = σ 39 6) ∨ (i = 0 ∧ r = σ 31 6 ∧ τ 31 6 = 1 ∧ τ 39 6 = σ 39 6) ∨ (i = 1 ∧ r = σ 39 6 ∧ τ 39 6 = 1 ∧ τ 31 6 = σ 31 6)) ∧ ((i = 0 ∧ τ 37 0 = σ 29 0) ∨ (¬ i = 0 ∧ τ 37 0 = σ 37 0)) ∧ ((i = 0 ∧ τ 38 0 = σ 30 0) ∨ (¬ i = 0 ∧ τ 38 0 = σ 38 0)) ∧ ((i = 0 ∧ τ 37 1 = σ 29 1) ∨ (¬ i = 0 ∧ τ 37 1 = σ 37 1)) ∧ ((i = 0 ∧ τ 38 1 = σ 30 1) ∨ (¬ i = 0 ∧ τ 38 1 = σ 38 1)) ∧ ((i = 1 ∧ τ 45 0 = σ 29 0) ∨ (¬ i = 1 ∧ τ 45 0 = σ 45 0)) ∧ ((i = 1 ∧ τ 46 0 = σ 30 0) ∨ (¬ i = 1 ∧ τ 46 0 = σ 46 0)) ∧ ((i = 1 ∧ τ 45 1 = σ 29 1) ∨ (¬ i = 1 ∧ τ 45 1 = σ 45 1)) ∧ ((i = 1 ∧ τ 46 1 = σ 30 1) ∨ (¬ i = 1 ∧ τ 46 1 = σ 46 1)) ∧ (((i = 0 ∧ CPY 31 23 σ τ ∧ ∀ c j : Nat, 39 ≤ c → τ c j = σ c j) ∨ (i = 1 ∧ CPY 39 23 σ τ ∧ ∀ c j : Nat, c < 39 → τ c j = σ c j) ∨ (¬ (i = 0 ∨ i = 1) ∧ ∀ c j, τ c j = σ c j)))
set_option maxHeartbeats 4000000 in
set_option maxRecDepth 100000 in
theorem c_X11_image {G : tw_G} (hX : tw_isX G) (i : Int) (hi : -2147483648 ≤ i ∧ i ≤ 2147483647) (σ : tw_M) (hI : tw_I σ) : tw_C G yX11_image cX11_image 4 (some .int) 2 [vR 0, vI i] σ (q_X11_image i σ) := by
  refine tw_met [(0, vR 0), (1, vI i)] (by decide +kernel) rfl (Nat.le_of_ble_eq_true rfl) ?_
  refine j_iload_n (pc := 0) dX11_image_0 rfl rfl ?_
  refine j_callS (pc := 1) (As := [vI i]) (st := []) (c_X11_isPart i ⟨by omega, by omega⟩ σ hI) ms_X11_242 rfl dX11_image_1 ⟨Nat.le_of_ble_eq_true rfl, Nat.le_of_ble_eq_true rfl⟩ ⟨Nat.le_refl _, Nat.le_refl _⟩ rfl (Nat.le_of_ble_eq_true rfl) rfl (fun z1 σ2 hz1 => ?_)
  obtain ⟨r4, rfl, hr4, rfl, q3_0⟩ := hz1
  replace q3_0 : (r4 = 1 ∧ (i = 0 ∨ i = 1)) ∨ (r4 = 0 ∧ ¬ i = 0 ∧ ¬ i = 1) := q3_0
  refine j_st (st' := [vI r4]) rfl ?_
  refine j_ifR_ne (pc := 4) (tgt := 9) ⟨by omega, by omega⟩ dX11_image_4 rfl (fun h5 => ?_) (fun h5 => ?_)
  · refine j_iload_n (pc := 9) dX11_image_9 rfl rfl ?_
    refine j_ifR_ne (pc := 10) (tgt := 20) ⟨by omega, by omega⟩ dX11_image_10 rfl (fun h6 => ?_) (fun h6 => ?_)
    · refine j_aload_n (pc := 20) dX11_image_20 rfl rfl ?_
      refine j_getR (pc := 21) (r := 39) fl_X11_33 dX11_image_21 (a_0 hX) rfl ?_
      refine j_astore_n (pc := 24) (i := 2) (ls' := [(0, vR 0), (2, vR 39)]) [1, 0] dX11_image_24 rfl (Nat.le_of_ble_eq_true rfl) rfl rfl ?_
      refine j_aload_n (pc := 25) dX11_image_25 rfl rfl ?_
      refine j_getI (pc := 26) fl_X11_124 dX11_image_26 (a_39 hX) rfl ?_
      have f7 : (0 : Int) ≤ σ 39 6 ∧ σ 39 6 ≤ 1 := hI 39 6
      refine j_ifR_eq (pc := 29) (tgt := 36) ⟨by omega, by omega⟩ dX11_image_29 rfl (fun h8 => ?_) (fun h8 => ?_)
      · refine j_iconst (pc := 36) dX11_image_36 ?_
        refine j_istore_n (pc := 37) (i := 3) (ls' := [(0, vR 0), (2, vR 39), (3, vI 0)]) [1, 2, 0] dX11_image_37 rfl (Nat.le_of_ble_eq_true rfl) rfl rfl ?_
        refine j_aload_n (pc := 38) dX11_image_38 rfl rfl ?_
        refine j_aload_n (pc := 39) dX11_image_39 rfl rfl ?_
        refine j_getR (pc := 40) (r := 23) fl_X11_26 dX11_image_40 (a_0 hX) rfl ?_
        refine j_callV (pc := 43) (As := [vR 23]) (st := []) (c_X3_copyOf 39 (s_Hand_39 hX) 23 (s_Hand_23 hX) σ hI (by omega)) mv_X11_398 rfl rfl rfl (a_39 hX) dX11_image_43 ⟨Nat.le_of_ble_eq_true rfl, Nat.le_of_ble_eq_true rfl⟩ ⟨Nat.le_refl _, Nat.le_refl _⟩ rfl (Nat.le_of_ble_eq_true rfl) rfl (fun z9 σ10 hz9 => ?_)
        obtain ⟨rfl, hIσ10, hGσ10, q11_0, q11_1, q11_2, q11_3, q11_4⟩ := hz9
        replace q11_0 : σ10 45 0 = σ 29 0 := q11_0
        replace q11_1 : σ10 46 0 = σ 30 0 := q11_1
        replace q11_2 : σ10 45 1 = σ 29 1 := q11_2
        replace q11_3 : σ10 46 1 = σ 30 1 := q11_3
        replace q11_4 : CPY 39 23 σ σ10 := q11_4
        have hFσ10 : tw_F (fun c j => (31 ≤ c ∧ c < 47)) σ σ10 := tw_F_tr (tw_F_rf) hGσ10 (fun c j q => (show (31 ≤ c ∧ c < 47) from by replace q : (39 ≤ c ∧ c < 47) := q; exact ⟨Nat.le_trans (by decide) q.1, Nat.lt_of_lt_of_le q.2 (by decide)⟩))
        refine j_st (st' := []) rfl ?_
        have cpy9 := q11_4
        refine j_aload_n (pc := 46) dX11_image_46 rfl rfl ?_
        refine j_iconst (pc := 47) dX11_image_47 ?_
        refine j_putZ (pc := 48) (by omega) fl_X11_124 fp_X3_6 dX11_image_48 (a_39 hX) rfl (j_nm (fun σ13 (eσ13 : σ13 = tw_up σ10 39 6 1) => ?_))
        have hIσ13 : tw_I σ13 := tw_I_up hIσ10 eσ13 (show (0 : Int) ≤ 1 ∧ 1 ≤ 1 from by decide)
        have hFσ13 : tw_F (fun c j => (31 ≤ c ∧ c < 47)) σ σ13 := tw_F_up hFσ10 eσ13 (show (31 ≤ 39 ∧ 39 < 47) from (by decide))
        refine j_iload_n (pc := 51) dX11_image_51 rfl rfl ?_
        have fin : ((i = 0 ∧ CPY 31 23 σ σ13 ∧ ∀ c j : Nat, 39 ≤ c → σ13 c j = σ c j) ∨ (i = 1 ∧ CPY 39 23 σ σ13 ∧ ∀ c j : Nat, c < 39 → σ13 c j = σ c j) ∨ (¬ (i = 0 ∨ i = 1) ∧ ∀ c j, σ13 c j = σ c j)) := by
          first
          | exact Or.inl ⟨by omega, ⟨(tw_ne1 eσ13 (by (first | decide | omega))).trans cpy9.1, fun k j k1 k2 k3 => (tw_ne1 eσ13 (by (first | decide | omega))).trans (cpy9.2.1 k j k1 k2 k3), fun j hj => (tw_ne1 eσ13 (by (first | decide | omega))).trans (cpy9.2.2.1 j hj), (tw_ne1 eσ13 (by (first | decide | omega))).trans cpy9.2.2.2.1, (tw_ne1 eσ13 (by (first | decide | omega))).trans cpy9.2.2.2.2⟩, fun c j h => (tw_ne1 eσ13 (by (first | decide | omega))).trans (hGσ10 c j (show ¬ ((39 ≤ c ∧ c < 47)) from by omega))⟩
          | exact Or.inr (Or.inl ⟨by omega, ⟨(tw_ne1 eσ13 (by (first | decide | omega))).trans cpy9.1, fun k j k1 k2 k3 => (tw_ne1 eσ13 (by (first | decide | omega))).trans (cpy9.2.1 k j k1 k2 k3), fun j hj => (tw_ne1 eσ13 (by (first | decide | omega))).trans (cpy9.2.2.1 j hj), (tw_ne1 eσ13 (by (first | decide | omega))).trans cpy9.2.2.2.1, (tw_ne1 eσ13 (by (first | decide | omega))).trans cpy9.2.2.2.2⟩, fun c j h => (tw_ne1 eσ13 (by (first | decide | omega))).trans (hGσ10 c j (show ¬ ((39 ≤ c ∧ c < 47)) from by omega))⟩)
        have y14 : σ13 31 6 = σ 31 6 := ((tw_ne1 eσ13 (by (first | decide | omega)))).trans (hGσ10 31 6 (show ¬ ((39 ≤ 31 ∧ 31 < 47)) from by decide))
        have f15 : (0 : Int) ≤ σ 31 6 ∧ σ 31 6 ≤ 1 := hI 31 6
        have y16 : σ13 39 6 = 1 := (tw_eq1 eσ13)
        have y17 : σ13 37 0 = σ 37 0 := ((tw_ne1 eσ13 (by (first | decide | omega)))).trans (hGσ10 37 0 (show ¬ ((39 ≤ 37 ∧ 37 < 47)) from by decide))
        have f18 : (0 : Int) ≤ σ 37 0 ∧ σ 37 0 ≤ 999 := hI 37 0
        have y19 : σ13 38 0 = σ 38 0 := ((tw_ne1 eσ13 (by (first | decide | omega)))).trans (hGσ10 38 0 (show ¬ ((39 ≤ 38 ∧ 38 < 47)) from by decide))
        have f20 : (-2147483648 : Int) ≤ σ 38 0 ∧ σ 38 0 ≤ 2147483647 := hI 38 0
        have y21 : σ13 37 1 = σ 37 1 := ((tw_ne1 eσ13 (by (first | decide | omega)))).trans (hGσ10 37 1 (show ¬ ((39 ≤ 37 ∧ 37 < 47)) from by decide))
        have f22 : (0 : Int) ≤ σ 37 1 ∧ σ 37 1 ≤ 999 := hI 37 1
        have y23 : σ13 38 1 = σ 38 1 := ((tw_ne1 eσ13 (by (first | decide | omega)))).trans (hGσ10 38 1 (show ¬ ((39 ≤ 38 ∧ 38 < 47)) from by decide))
        have f24 : (-2147483648 : Int) ≤ σ 38 1 ∧ σ 38 1 ≤ 2147483647 := hI 38 1
        have y25 : σ13 45 0 = σ10 45 0 := (tw_ne1 eσ13 (by (first | decide | omega)))
        have f26 : (0 : Int) ≤ σ10 45 0 ∧ σ10 45 0 ≤ 999 := hIσ10 45 0
        have y27 : σ13 46 0 = σ10 46 0 := (tw_ne1 eσ13 (by (first | decide | omega)))
        have f28 : (-2147483648 : Int) ≤ σ10 46 0 ∧ σ10 46 0 ≤ 2147483647 := hIσ10 46 0
        have y29 : σ13 45 1 = σ10 45 1 := (tw_ne1 eσ13 (by (first | decide | omega)))
        have f30 : (0 : Int) ≤ σ10 45 1 ∧ σ10 45 1 ≤ 999 := hIσ10 45 1
        have y31 : σ13 46 1 = σ10 46 1 := (tw_ne1 eσ13 (by (first | decide | omega)))
        have f32 : (-2147483648 : Int) ≤ σ10 46 1 ∧ σ10 46 1 ≤ 2147483647 := hIσ10 46 1
        exact j_iret (pc := 52) ⟨rfl, rfl⟩ dX11_image_52 rfl ⟨_, rfl, ⟨by omega, by omega⟩, hIσ13, hFσ13, by omega, by omega, by omega, by omega, by omega, by omega, by omega, by omega, by omega, fin⟩
      · refine j_iconst (pc := 32) dX11_image_32 ?_
        refine j_goto (pc := 33) (tgt := 37) dX11_image_33 rfl ?_
        refine j_istore_n (pc := 37) (i := 3) (ls' := [(0, vR 0), (2, vR 39), (3, vI 1)]) [1, 2, 0] dX11_image_37 rfl (Nat.le_of_ble_eq_true rfl) rfl rfl ?_
        refine j_aload_n (pc := 38) dX11_image_38 rfl rfl ?_
        refine j_aload_n (pc := 39) dX11_image_39 rfl rfl ?_
        refine j_getR (pc := 40) (r := 23) fl_X11_26 dX11_image_40 (a_0 hX) rfl ?_
        refine j_callV (pc := 43) (As := [vR 23]) (st := []) (c_X3_copyOf 39 (s_Hand_39 hX) 23 (s_Hand_23 hX) σ hI (by omega)) mv_X11_398 rfl rfl rfl (a_39 hX) dX11_image_43 ⟨Nat.le_of_ble_eq_true rfl, Nat.le_of_ble_eq_true rfl⟩ ⟨Nat.le_refl _, Nat.le_refl _⟩ rfl (Nat.le_of_ble_eq_true rfl) rfl (fun z33 σ34 hz33 => ?_)
        obtain ⟨rfl, hIσ34, hGσ34, q35_0, q35_1, q35_2, q35_3, q35_4⟩ := hz33
        replace q35_0 : σ34 45 0 = σ 29 0 := q35_0
        replace q35_1 : σ34 46 0 = σ 30 0 := q35_1
        replace q35_2 : σ34 45 1 = σ 29 1 := q35_2
        replace q35_3 : σ34 46 1 = σ 30 1 := q35_3
        replace q35_4 : CPY 39 23 σ σ34 := q35_4
        have hFσ34 : tw_F (fun c j => (31 ≤ c ∧ c < 47)) σ σ34 := tw_F_tr (tw_F_rf) hGσ34 (fun c j q => (show (31 ≤ c ∧ c < 47) from by replace q : (39 ≤ c ∧ c < 47) := q; exact ⟨Nat.le_trans (by decide) q.1, Nat.lt_of_lt_of_le q.2 (by decide)⟩))
        refine j_st (st' := []) rfl ?_
        have cpy9 := q35_4
        refine j_aload_n (pc := 46) dX11_image_46 rfl rfl ?_
        refine j_iconst (pc := 47) dX11_image_47 ?_
        refine j_putZ (pc := 48) (by omega) fl_X11_124 fp_X3_6 dX11_image_48 (a_39 hX) rfl (j_nm (fun σ37 (eσ37 : σ37 = tw_up σ34 39 6 1) => ?_))
        have hIσ37 : tw_I σ37 := tw_I_up hIσ34 eσ37 (show (0 : Int) ≤ 1 ∧ 1 ≤ 1 from by decide)
        have hFσ37 : tw_F (fun c j => (31 ≤ c ∧ c < 47)) σ σ37 := tw_F_up hFσ34 eσ37 (show (31 ≤ 39 ∧ 39 < 47) from (by decide))
        refine j_iload_n (pc := 51) dX11_image_51 rfl rfl ?_
        have fin : ((i = 0 ∧ CPY 31 23 σ σ37 ∧ ∀ c j : Nat, 39 ≤ c → σ37 c j = σ c j) ∨ (i = 1 ∧ CPY 39 23 σ σ37 ∧ ∀ c j : Nat, c < 39 → σ37 c j = σ c j) ∨ (¬ (i = 0 ∨ i = 1) ∧ ∀ c j, σ37 c j = σ c j)) := by
          first
          | exact Or.inl ⟨by omega, ⟨(tw_ne1 eσ37 (by (first | decide | omega))).trans cpy9.1, fun k j k1 k2 k3 => (tw_ne1 eσ37 (by (first | decide | omega))).trans (cpy9.2.1 k j k1 k2 k3), fun j hj => (tw_ne1 eσ37 (by (first | decide | omega))).trans (cpy9.2.2.1 j hj), (tw_ne1 eσ37 (by (first | decide | omega))).trans cpy9.2.2.2.1, (tw_ne1 eσ37 (by (first | decide | omega))).trans cpy9.2.2.2.2⟩, fun c j h => (tw_ne1 eσ37 (by (first | decide | omega))).trans (hGσ34 c j (show ¬ ((39 ≤ c ∧ c < 47)) from by omega))⟩
          | exact Or.inr (Or.inl ⟨by omega, ⟨(tw_ne1 eσ37 (by (first | decide | omega))).trans cpy9.1, fun k j k1 k2 k3 => (tw_ne1 eσ37 (by (first | decide | omega))).trans (cpy9.2.1 k j k1 k2 k3), fun j hj => (tw_ne1 eσ37 (by (first | decide | omega))).trans (cpy9.2.2.1 j hj), (tw_ne1 eσ37 (by (first | decide | omega))).trans cpy9.2.2.2.1, (tw_ne1 eσ37 (by (first | decide | omega))).trans cpy9.2.2.2.2⟩, fun c j h => (tw_ne1 eσ37 (by (first | decide | omega))).trans (hGσ34 c j (show ¬ ((39 ≤ c ∧ c < 47)) from by omega))⟩)
        have y38 : σ37 31 6 = σ 31 6 := ((tw_ne1 eσ37 (by (first | decide | omega)))).trans (hGσ34 31 6 (show ¬ ((39 ≤ 31 ∧ 31 < 47)) from by decide))
        have f39 : (0 : Int) ≤ σ 31 6 ∧ σ 31 6 ≤ 1 := hI 31 6
        have y40 : σ37 39 6 = 1 := (tw_eq1 eσ37)
        have y41 : σ37 37 0 = σ 37 0 := ((tw_ne1 eσ37 (by (first | decide | omega)))).trans (hGσ34 37 0 (show ¬ ((39 ≤ 37 ∧ 37 < 47)) from by decide))
        have f42 : (0 : Int) ≤ σ 37 0 ∧ σ 37 0 ≤ 999 := hI 37 0
        have y43 : σ37 38 0 = σ 38 0 := ((tw_ne1 eσ37 (by (first | decide | omega)))).trans (hGσ34 38 0 (show ¬ ((39 ≤ 38 ∧ 38 < 47)) from by decide))
        have f44 : (-2147483648 : Int) ≤ σ 38 0 ∧ σ 38 0 ≤ 2147483647 := hI 38 0
        have y45 : σ37 37 1 = σ 37 1 := ((tw_ne1 eσ37 (by (first | decide | omega)))).trans (hGσ34 37 1 (show ¬ ((39 ≤ 37 ∧ 37 < 47)) from by decide))
        have f46 : (0 : Int) ≤ σ 37 1 ∧ σ 37 1 ≤ 999 := hI 37 1
        have y47 : σ37 38 1 = σ 38 1 := ((tw_ne1 eσ37 (by (first | decide | omega)))).trans (hGσ34 38 1 (show ¬ ((39 ≤ 38 ∧ 38 < 47)) from by decide))
        have f48 : (-2147483648 : Int) ≤ σ 38 1 ∧ σ 38 1 ≤ 2147483647 := hI 38 1
        have y49 : σ37 45 0 = σ34 45 0 := (tw_ne1 eσ37 (by (first | decide | omega)))
        have f50 : (0 : Int) ≤ σ34 45 0 ∧ σ34 45 0 ≤ 999 := hIσ34 45 0
        have y51 : σ37 46 0 = σ34 46 0 := (tw_ne1 eσ37 (by (first | decide | omega)))
        have f52 : (-2147483648 : Int) ≤ σ34 46 0 ∧ σ34 46 0 ≤ 2147483647 := hIσ34 46 0
        have y53 : σ37 45 1 = σ34 45 1 := (tw_ne1 eσ37 (by (first | decide | omega)))
        have f54 : (0 : Int) ≤ σ34 45 1 ∧ σ34 45 1 ≤ 999 := hIσ34 45 1
        have y55 : σ37 46 1 = σ34 46 1 := (tw_ne1 eσ37 (by (first | decide | omega)))
        have f56 : (-2147483648 : Int) ≤ σ34 46 1 ∧ σ34 46 1 ≤ 2147483647 := hIσ34 46 1
        exact j_iret (pc := 52) ⟨rfl, rfl⟩ dX11_image_52 rfl ⟨_, rfl, ⟨by omega, by omega⟩, hIσ37, hFσ37, by omega, by omega, by omega, by omega, by omega, by omega, by omega, by omega, by omega, fin⟩
    · refine j_aload_n (pc := 13) dX11_image_13 rfl rfl ?_
      refine j_getR (pc := 14) (r := 31) fl_X11_30 dX11_image_14 (a_0 hX) rfl ?_
      refine j_goto (pc := 17) (tgt := 24) dX11_image_17 rfl ?_
      refine j_astore_n (pc := 24) (i := 2) (ls' := [(0, vR 0), (2, vR 31)]) [1, 0] dX11_image_24 rfl (Nat.le_of_ble_eq_true rfl) rfl rfl ?_
      refine j_aload_n (pc := 25) dX11_image_25 rfl rfl ?_
      refine j_getI (pc := 26) fl_X11_124 dX11_image_26 (a_31 hX) rfl ?_
      have f57 : (0 : Int) ≤ σ 31 6 ∧ σ 31 6 ≤ 1 := hI 31 6
      refine j_ifR_eq (pc := 29) (tgt := 36) ⟨by omega, by omega⟩ dX11_image_29 rfl (fun h58 => ?_) (fun h58 => ?_)
      · refine j_iconst (pc := 36) dX11_image_36 ?_
        refine j_istore_n (pc := 37) (i := 3) (ls' := [(0, vR 0), (2, vR 31), (3, vI 0)]) [1, 2, 0] dX11_image_37 rfl (Nat.le_of_ble_eq_true rfl) rfl rfl ?_
        refine j_aload_n (pc := 38) dX11_image_38 rfl rfl ?_
        refine j_aload_n (pc := 39) dX11_image_39 rfl rfl ?_
        refine j_getR (pc := 40) (r := 23) fl_X11_26 dX11_image_40 (a_0 hX) rfl ?_
        refine j_callV (pc := 43) (As := [vR 23]) (st := []) (c_X3_copyOf 31 (s_Hand_31 hX) 23 (s_Hand_23 hX) σ hI (by omega)) mv_X11_398 rfl rfl rfl (a_31 hX) dX11_image_43 ⟨Nat.le_of_ble_eq_true rfl, Nat.le_of_ble_eq_true rfl⟩ ⟨Nat.le_refl _, Nat.le_refl _⟩ rfl (Nat.le_of_ble_eq_true rfl) rfl (fun z59 σ60 hz59 => ?_)
        obtain ⟨rfl, hIσ60, hGσ60, q61_0, q61_1, q61_2, q61_3, q61_4⟩ := hz59
        replace q61_0 : σ60 37 0 = σ 29 0 := q61_0
        replace q61_1 : σ60 38 0 = σ 30 0 := q61_1
        replace q61_2 : σ60 37 1 = σ 29 1 := q61_2
        replace q61_3 : σ60 38 1 = σ 30 1 := q61_3
        replace q61_4 : CPY 31 23 σ σ60 := q61_4
        have hFσ60 : tw_F (fun c j => (31 ≤ c ∧ c < 47)) σ σ60 := tw_F_tr (tw_F_rf) hGσ60 (fun c j q => (show (31 ≤ c ∧ c < 47) from by replace q : (31 ≤ c ∧ c < 39) := q; exact ⟨Nat.le_trans (by decide) q.1, Nat.lt_of_lt_of_le q.2 (by decide)⟩))
        refine j_st (st' := []) rfl ?_
        have cpy9 := q61_4
        refine j_aload_n (pc := 46) dX11_image_46 rfl rfl ?_
        refine j_iconst (pc := 47) dX11_image_47 ?_
        refine j_putZ (pc := 48) (by omega) fl_X11_124 fp_X3_6 dX11_image_48 (a_31 hX) rfl (j_nm (fun σ63 (eσ63 : σ63 = tw_up σ60 31 6 1) => ?_))
        have hIσ63 : tw_I σ63 := tw_I_up hIσ60 eσ63 (show (0 : Int) ≤ 1 ∧ 1 ≤ 1 from by decide)
        have hFσ63 : tw_F (fun c j => (31 ≤ c ∧ c < 47)) σ σ63 := tw_F_up hFσ60 eσ63 (show (31 ≤ 31 ∧ 31 < 47) from (by decide))
        refine j_iload_n (pc := 51) dX11_image_51 rfl rfl ?_
        have fin : ((i = 0 ∧ CPY 31 23 σ σ63 ∧ ∀ c j : Nat, 39 ≤ c → σ63 c j = σ c j) ∨ (i = 1 ∧ CPY 39 23 σ σ63 ∧ ∀ c j : Nat, c < 39 → σ63 c j = σ c j) ∨ (¬ (i = 0 ∨ i = 1) ∧ ∀ c j, σ63 c j = σ c j)) := by
          first
          | exact Or.inl ⟨by omega, ⟨(tw_ne1 eσ63 (by (first | decide | omega))).trans cpy9.1, fun k j k1 k2 k3 => (tw_ne1 eσ63 (by (first | decide | omega))).trans (cpy9.2.1 k j k1 k2 k3), fun j hj => (tw_ne1 eσ63 (by (first | decide | omega))).trans (cpy9.2.2.1 j hj), (tw_ne1 eσ63 (by (first | decide | omega))).trans cpy9.2.2.2.1, (tw_ne1 eσ63 (by (first | decide | omega))).trans cpy9.2.2.2.2⟩, fun c j h => (tw_ne1 eσ63 (by (first | decide | omega))).trans (hGσ60 c j (show ¬ ((31 ≤ c ∧ c < 39)) from by omega))⟩
          | exact Or.inr (Or.inl ⟨by omega, ⟨(tw_ne1 eσ63 (by (first | decide | omega))).trans cpy9.1, fun k j k1 k2 k3 => (tw_ne1 eσ63 (by (first | decide | omega))).trans (cpy9.2.1 k j k1 k2 k3), fun j hj => (tw_ne1 eσ63 (by (first | decide | omega))).trans (cpy9.2.2.1 j hj), (tw_ne1 eσ63 (by (first | decide | omega))).trans cpy9.2.2.2.1, (tw_ne1 eσ63 (by (first | decide | omega))).trans cpy9.2.2.2.2⟩, fun c j h => (tw_ne1 eσ63 (by (first | decide | omega))).trans (hGσ60 c j (show ¬ ((31 ≤ c ∧ c < 39)) from by omega))⟩)
        have y64 : σ63 31 6 = 1 := (tw_eq1 eσ63)
        have y65 : σ63 39 6 = σ 39 6 := ((tw_ne1 eσ63 (by (first | decide | omega)))).trans (hGσ60 39 6 (show ¬ ((31 ≤ 39 ∧ 39 < 39)) from by decide))
        have f66 : (0 : Int) ≤ σ 39 6 ∧ σ 39 6 ≤ 1 := hI 39 6
        have y67 : σ63 37 0 = σ60 37 0 := (tw_ne1 eσ63 (by (first | decide | omega)))
        have f68 : (0 : Int) ≤ σ60 37 0 ∧ σ60 37 0 ≤ 999 := hIσ60 37 0
        have y69 : σ63 38 0 = σ60 38 0 := (tw_ne1 eσ63 (by (first | decide | omega)))
        have f70 : (-2147483648 : Int) ≤ σ60 38 0 ∧ σ60 38 0 ≤ 2147483647 := hIσ60 38 0
        have y71 : σ63 37 1 = σ60 37 1 := (tw_ne1 eσ63 (by (first | decide | omega)))
        have f72 : (0 : Int) ≤ σ60 37 1 ∧ σ60 37 1 ≤ 999 := hIσ60 37 1
        have y73 : σ63 38 1 = σ60 38 1 := (tw_ne1 eσ63 (by (first | decide | omega)))
        have f74 : (-2147483648 : Int) ≤ σ60 38 1 ∧ σ60 38 1 ≤ 2147483647 := hIσ60 38 1
        have y75 : σ63 45 0 = σ 45 0 := ((tw_ne1 eσ63 (by (first | decide | omega)))).trans (hGσ60 45 0 (show ¬ ((31 ≤ 45 ∧ 45 < 39)) from by decide))
        have f76 : (0 : Int) ≤ σ 45 0 ∧ σ 45 0 ≤ 999 := hI 45 0
        have y77 : σ63 46 0 = σ 46 0 := ((tw_ne1 eσ63 (by (first | decide | omega)))).trans (hGσ60 46 0 (show ¬ ((31 ≤ 46 ∧ 46 < 39)) from by decide))
        have f78 : (-2147483648 : Int) ≤ σ 46 0 ∧ σ 46 0 ≤ 2147483647 := hI 46 0
        have y79 : σ63 45 1 = σ 45 1 := ((tw_ne1 eσ63 (by (first | decide | omega)))).trans (hGσ60 45 1 (show ¬ ((31 ≤ 45 ∧ 45 < 39)) from by decide))
        have f80 : (0 : Int) ≤ σ 45 1 ∧ σ 45 1 ≤ 999 := hI 45 1
        have y81 : σ63 46 1 = σ 46 1 := ((tw_ne1 eσ63 (by (first | decide | omega)))).trans (hGσ60 46 1 (show ¬ ((31 ≤ 46 ∧ 46 < 39)) from by decide))
        have f82 : (-2147483648 : Int) ≤ σ 46 1 ∧ σ 46 1 ≤ 2147483647 := hI 46 1
        exact j_iret (pc := 52) ⟨rfl, rfl⟩ dX11_image_52 rfl ⟨_, rfl, ⟨by omega, by omega⟩, hIσ63, hFσ63, by omega, by omega, by omega, by omega, by omega, by omega, by omega, by omega, by omega, fin⟩
      · refine j_iconst (pc := 32) dX11_image_32 ?_
        refine j_goto (pc := 33) (tgt := 37) dX11_image_33 rfl ?_
        refine j_istore_n (pc := 37) (i := 3) (ls' := [(0, vR 0), (2, vR 31), (3, vI 1)]) [1, 2, 0] dX11_image_37 rfl (Nat.le_of_ble_eq_true rfl) rfl rfl ?_
        refine j_aload_n (pc := 38) dX11_image_38 rfl rfl ?_
        refine j_aload_n (pc := 39) dX11_image_39 rfl rfl ?_
        refine j_getR (pc := 40) (r := 23) fl_X11_26 dX11_image_40 (a_0 hX) rfl ?_
        refine j_callV (pc := 43) (As := [vR 23]) (st := []) (c_X3_copyOf 31 (s_Hand_31 hX) 23 (s_Hand_23 hX) σ hI (by omega)) mv_X11_398 rfl rfl rfl (a_31 hX) dX11_image_43 ⟨Nat.le_of_ble_eq_true rfl, Nat.le_of_ble_eq_true rfl⟩ ⟨Nat.le_refl _, Nat.le_refl _⟩ rfl (Nat.le_of_ble_eq_true rfl) rfl (fun z83 σ84 hz83 => ?_)
        obtain ⟨rfl, hIσ84, hGσ84, q85_0, q85_1, q85_2, q85_3, q85_4⟩ := hz83
        replace q85_0 : σ84 37 0 = σ 29 0 := q85_0
        replace q85_1 : σ84 38 0 = σ 30 0 := q85_1
        replace q85_2 : σ84 37 1 = σ 29 1 := q85_2
        replace q85_3 : σ84 38 1 = σ 30 1 := q85_3
        replace q85_4 : CPY 31 23 σ σ84 := q85_4
        have hFσ84 : tw_F (fun c j => (31 ≤ c ∧ c < 47)) σ σ84 := tw_F_tr (tw_F_rf) hGσ84 (fun c j q => (show (31 ≤ c ∧ c < 47) from by replace q : (31 ≤ c ∧ c < 39) := q; exact ⟨Nat.le_trans (by decide) q.1, Nat.lt_of_lt_of_le q.2 (by decide)⟩))
        refine j_st (st' := []) rfl ?_
        have cpy9 := q85_4
        refine j_aload_n (pc := 46) dX11_image_46 rfl rfl ?_
        refine j_iconst (pc := 47) dX11_image_47 ?_
        refine j_putZ (pc := 48) (by omega) fl_X11_124 fp_X3_6 dX11_image_48 (a_31 hX) rfl (j_nm (fun σ87 (eσ87 : σ87 = tw_up σ84 31 6 1) => ?_))
        have hIσ87 : tw_I σ87 := tw_I_up hIσ84 eσ87 (show (0 : Int) ≤ 1 ∧ 1 ≤ 1 from by decide)
        have hFσ87 : tw_F (fun c j => (31 ≤ c ∧ c < 47)) σ σ87 := tw_F_up hFσ84 eσ87 (show (31 ≤ 31 ∧ 31 < 47) from (by decide))
        refine j_iload_n (pc := 51) dX11_image_51 rfl rfl ?_
        have fin : ((i = 0 ∧ CPY 31 23 σ σ87 ∧ ∀ c j : Nat, 39 ≤ c → σ87 c j = σ c j) ∨ (i = 1 ∧ CPY 39 23 σ σ87 ∧ ∀ c j : Nat, c < 39 → σ87 c j = σ c j) ∨ (¬ (i = 0 ∨ i = 1) ∧ ∀ c j, σ87 c j = σ c j)) := by
          first
          | exact Or.inl ⟨by omega, ⟨(tw_ne1 eσ87 (by (first | decide | omega))).trans cpy9.1, fun k j k1 k2 k3 => (tw_ne1 eσ87 (by (first | decide | omega))).trans (cpy9.2.1 k j k1 k2 k3), fun j hj => (tw_ne1 eσ87 (by (first | decide | omega))).trans (cpy9.2.2.1 j hj), (tw_ne1 eσ87 (by (first | decide | omega))).trans cpy9.2.2.2.1, (tw_ne1 eσ87 (by (first | decide | omega))).trans cpy9.2.2.2.2⟩, fun c j h => (tw_ne1 eσ87 (by (first | decide | omega))).trans (hGσ84 c j (show ¬ ((31 ≤ c ∧ c < 39)) from by omega))⟩
          | exact Or.inr (Or.inl ⟨by omega, ⟨(tw_ne1 eσ87 (by (first | decide | omega))).trans cpy9.1, fun k j k1 k2 k3 => (tw_ne1 eσ87 (by (first | decide | omega))).trans (cpy9.2.1 k j k1 k2 k3), fun j hj => (tw_ne1 eσ87 (by (first | decide | omega))).trans (cpy9.2.2.1 j hj), (tw_ne1 eσ87 (by (first | decide | omega))).trans cpy9.2.2.2.1, (tw_ne1 eσ87 (by (first | decide | omega))).trans cpy9.2.2.2.2⟩, fun c j h => (tw_ne1 eσ87 (by (first | decide | omega))).trans (hGσ84 c j (show ¬ ((31 ≤ c ∧ c < 39)) from by omega))⟩)
        have y88 : σ87 31 6 = 1 := (tw_eq1 eσ87)
        have y89 : σ87 39 6 = σ 39 6 := ((tw_ne1 eσ87 (by (first | decide | omega)))).trans (hGσ84 39 6 (show ¬ ((31 ≤ 39 ∧ 39 < 39)) from by decide))
        have f90 : (0 : Int) ≤ σ 39 6 ∧ σ 39 6 ≤ 1 := hI 39 6
        have y91 : σ87 37 0 = σ84 37 0 := (tw_ne1 eσ87 (by (first | decide | omega)))
        have f92 : (0 : Int) ≤ σ84 37 0 ∧ σ84 37 0 ≤ 999 := hIσ84 37 0
        have y93 : σ87 38 0 = σ84 38 0 := (tw_ne1 eσ87 (by (first | decide | omega)))
        have f94 : (-2147483648 : Int) ≤ σ84 38 0 ∧ σ84 38 0 ≤ 2147483647 := hIσ84 38 0
        have y95 : σ87 37 1 = σ84 37 1 := (tw_ne1 eσ87 (by (first | decide | omega)))
        have f96 : (0 : Int) ≤ σ84 37 1 ∧ σ84 37 1 ≤ 999 := hIσ84 37 1
        have y97 : σ87 38 1 = σ84 38 1 := (tw_ne1 eσ87 (by (first | decide | omega)))
        have f98 : (-2147483648 : Int) ≤ σ84 38 1 ∧ σ84 38 1 ≤ 2147483647 := hIσ84 38 1
        have y99 : σ87 45 0 = σ 45 0 := ((tw_ne1 eσ87 (by (first | decide | omega)))).trans (hGσ84 45 0 (show ¬ ((31 ≤ 45 ∧ 45 < 39)) from by decide))
        have f100 : (0 : Int) ≤ σ 45 0 ∧ σ 45 0 ≤ 999 := hI 45 0
        have y101 : σ87 46 0 = σ 46 0 := ((tw_ne1 eσ87 (by (first | decide | omega)))).trans (hGσ84 46 0 (show ¬ ((31 ≤ 46 ∧ 46 < 39)) from by decide))
        have f102 : (-2147483648 : Int) ≤ σ 46 0 ∧ σ 46 0 ≤ 2147483647 := hI 46 0
        have y103 : σ87 45 1 = σ 45 1 := ((tw_ne1 eσ87 (by (first | decide | omega)))).trans (hGσ84 45 1 (show ¬ ((31 ≤ 45 ∧ 45 < 39)) from by decide))
        have f104 : (0 : Int) ≤ σ 45 1 ∧ σ 45 1 ≤ 999 := hI 45 1
        have y105 : σ87 46 1 = σ 46 1 := ((tw_ne1 eσ87 (by (first | decide | omega)))).trans (hGσ84 46 1 (show ¬ ((31 ≤ 46 ∧ 46 < 39)) from by decide))
        have f106 : (-2147483648 : Int) ≤ σ 46 1 ∧ σ 46 1 ≤ 2147483647 := hI 46 1
        exact j_iret (pc := 52) ⟨rfl, rfl⟩ dX11_image_52 rfl ⟨_, rfl, ⟨by omega, by omega⟩, hIσ87, hFσ87, by omega, by omega, by omega, by omega, by omega, by omega, by omega, by omega, by omega, fin⟩
  · refine j_iconst (pc := 7) dX11_image_7 ?_
    have fin : ((i = 0 ∧ CPY 31 23 σ σ ∧ ∀ c j : Nat, 39 ≤ c → σ c j = σ c j) ∨ (i = 1 ∧ CPY 39 23 σ σ ∧ ∀ c j : Nat, c < 39 → σ c j = σ c j) ∨ (¬ (i = 0 ∨ i = 1) ∧ ∀ c j, σ c j = σ c j)) := Or.inr (Or.inr ⟨by omega, fun c j => rfl⟩)
    exact j_iret (pc := 8) ⟨rfl, rfl⟩ dX11_image_8 rfl ⟨_, rfl, ⟨by omega, by omega⟩, hI, (tw_F_rf), by omega, by omega, by omega, by omega, by omega, by omega, by omega, by omega, by omega, fin⟩
abbrev q_X11_back (i : Int) (σ : tw_M) : Option tw_V → tw_M → Prop := fun z τ => ∃ r : Int, z = some (vI r) ∧ (-2147483648 ≤ r ∧ r ≤ 2147483647) ∧ tw_I τ ∧ tw_F (fun c j => (23 ≤ c ∧ c < 31)) σ τ ∧ ((τ 29 0 = σ 29 0 ∧ (¬ (i = 0 ∨ i = 1) ∨ (i = 0 ∧ σ 31 6 = 0) ∨ (i = 1 ∧ σ 39 6 = 0))) ∨ (i = 0 ∧ ¬ σ 31 6 = 0 ∧ τ 29 0 = σ 37 0) ∨ (i = 1 ∧ ¬ σ 39 6 = 0 ∧ τ 29 0 = σ 45 0)) ∧ ((τ 30 0 = σ 30 0 ∧ (¬ (i = 0 ∨ i = 1) ∨ (i = 0 ∧ σ 31 6 = 0) ∨ (i = 1 ∧ σ 39 6 = 0))) ∨ (i = 0 ∧ ¬ σ 31 6 = 0 ∧ τ 30 0 = σ 38 0) ∨ (i = 1 ∧ ¬ σ 39 6 = 0 ∧ τ 30 0 = σ 46 0)) ∧ ((τ 29 1 = σ 29 1 ∧ (¬ (i = 0 ∨ i = 1) ∨ (i = 0 ∧ σ 31 6 = 0) ∨ (i = 1 ∧ σ 39 6 = 0))) ∨ (i = 0 ∧ ¬ σ 31 6 = 0 ∧ τ 29 1 = σ 37 1) ∨ (i = 1 ∧ ¬ σ 39 6 = 0 ∧ τ 29 1 = σ 45 1)) ∧ ((τ 30 1 = σ 30 1 ∧ (¬ (i = 0 ∨ i = 1) ∨ (i = 0 ∧ σ 31 6 = 0) ∨ (i = 1 ∧ σ 39 6 = 0))) ∨ (i = 0 ∧ ¬ σ 31 6 = 0 ∧ τ 30 1 = σ 38 1) ∨ (i = 1 ∧ ¬ σ 39 6 = 0 ∧ τ 30 1 = σ 46 1)) ∧ (((r = -1 ∧ ¬ (i = 0 ∨ i = 1) ∧ ∀ c j, τ c j = σ c j) ∨ (r = -2 ∧ ((i = 0 ∧ σ 31 6 = 0) ∨ (i = 1 ∧ σ 39 6 = 0)) ∧ ∀ c j, τ c j = σ c j) ∨ (i = 0 ∧ ¬ σ 31 6 = 0 ∧ CPY 23 31 σ τ ∧ r = τ 24 0) ∨ (i = 1 ∧ ¬ σ 39 6 = 0 ∧ CPY 23 39 σ τ ∧ r = τ 24 0)))
set_option maxHeartbeats 4000000 in
set_option maxRecDepth 100000 in
theorem c_X11_back {G : tw_G} (hX : tw_isX G) (i : Int) (hi : -2147483648 ≤ i ∧ i ≤ 2147483647) (σ : tw_M) (hI : tw_I σ) : tw_C G yX11_back cX11_back 3 (some .int) 2 [vR 0, vI i] σ (q_X11_back i σ) := by
  refine tw_met [(0, vR 0), (1, vI i)] (by decide +kernel) rfl (Nat.le_of_ble_eq_true rfl) ?_
  refine j_iload_n (pc := 0) dX11_back_0 rfl rfl ?_
  refine j_callS (pc := 1) (As := [vI i]) (st := []) (c_X11_isPart i ⟨by omega, by omega⟩ σ hI) ms_X11_242 rfl dX11_back_1 ⟨Nat.le_of_ble_eq_true rfl, Nat.le_of_ble_eq_true rfl⟩ ⟨Nat.le_refl _, Nat.le_refl _⟩ rfl (Nat.le_of_ble_eq_true rfl) rfl (fun z1 σ2 hz1 => ?_)
  obtain ⟨r4, rfl, hr4, rfl, q3_0⟩ := hz1
  replace q3_0 : (r4 = 1 ∧ (i = 0 ∨ i = 1)) ∨ (r4 = 0 ∧ ¬ i = 0 ∧ ¬ i = 1) := q3_0
  refine j_st (st' := [vI r4]) rfl ?_
  refine j_ifR_ne (pc := 4) (tgt := 9) ⟨by omega, by omega⟩ dX11_back_4 rfl (fun h5 => ?_) (fun h5 => ?_)
  · refine j_iload_n (pc := 9) dX11_back_9 rfl rfl ?_
    refine j_ifR_ne (pc := 10) (tgt := 20) ⟨by omega, by omega⟩ dX11_back_10 rfl (fun h6 => ?_) (fun h6 => ?_)
    · refine j_aload_n (pc := 20) dX11_back_20 rfl rfl ?_
      refine j_getR (pc := 21) (r := 39) fl_X11_33 dX11_back_21 (a_0 hX) rfl ?_
      refine j_astore_n (pc := 24) (i := 2) (ls' := [(0, vR 0), (2, vR 39)]) [1, 0] dX11_back_24 rfl (Nat.le_of_ble_eq_true rfl) rfl rfl ?_
      refine j_aload_n (pc := 25) dX11_back_25 rfl rfl ?_
      refine j_getI (pc := 26) fl_X11_124 dX11_back_26 (a_39 hX) rfl ?_
      have f7 : (0 : Int) ≤ σ 39 6 ∧ σ 39 6 ≤ 1 := hI 39 6
      refine j_ifR_ne (pc := 29) (tgt := 35) ⟨by omega, by omega⟩ dX11_back_29 rfl (fun h8 => ?_) (fun h8 => ?_)
      · refine j_aload_n (pc := 35) dX11_back_35 rfl rfl ?_
        refine j_getR (pc := 36) (r := 23) fl_X11_26 dX11_back_36 (a_0 hX) rfl ?_
        refine j_aload_n (pc := 39) dX11_back_39 rfl rfl ?_
        refine j_callV (pc := 40) (As := [vR 39]) (st := []) (c_X3_copyOf 23 (s_Hand_23 hX) 39 (s_Hand_39 hX) σ hI (by omega)) mv_X11_398 rfl rfl rfl (a_23 hX) dX11_back_40 ⟨Nat.le_of_ble_eq_true rfl, Nat.le_of_ble_eq_true rfl⟩ ⟨Nat.le_refl _, Nat.le_refl _⟩ rfl (Nat.le_of_ble_eq_true rfl) rfl (fun z9 σ10 hz9 => ?_)
        obtain ⟨rfl, hIσ10, hGσ10, q11_0, q11_1, q11_2, q11_3, q11_4⟩ := hz9
        replace q11_0 : σ10 29 0 = σ 45 0 := q11_0
        replace q11_1 : σ10 30 0 = σ 46 0 := q11_1
        replace q11_2 : σ10 29 1 = σ 45 1 := q11_2
        replace q11_3 : σ10 30 1 = σ 46 1 := q11_3
        replace q11_4 : CPY 23 39 σ σ10 := q11_4
        have hFσ10 : tw_F (fun c j => (23 ≤ c ∧ c < 31)) σ σ10 := tw_F_tr (tw_F_rf) hGσ10 (fun c j q => (show (23 ≤ c ∧ c < 31) from by replace q : (23 ≤ c ∧ c < 31) := q; exact q))
        refine j_st (st' := []) rfl ?_
        refine j_aload_n (pc := 43) dX11_back_43 rfl rfl ?_
        refine j_getR (pc := 44) (r := 23) fl_X11_26 dX11_back_44 (a_0 hX) rfl ?_
        refine j_getR (pc := 47) (r := 24) fl_X11_168 dX11_back_47 (a_23 hX) rfl ?_
        refine j_getI (pc := 50) fl_X11_187 dX11_back_50 (a_24 hX) rfl ?_
        have f13 : (0 : Int) ≤ σ10 24 0 ∧ σ10 24 0 ≤ 10 := hIσ10 24 0
        have fin : (((σ10 24 0) = -1 ∧ ¬ (i = 0 ∨ i = 1) ∧ ∀ c j, σ10 c j = σ c j) ∨ ((σ10 24 0) = -2 ∧ ((i = 0 ∧ σ 31 6 = 0) ∨ (i = 1 ∧ σ 39 6 = 0)) ∧ ∀ c j, σ10 c j = σ c j) ∨ (i = 0 ∧ ¬ σ 31 6 = 0 ∧ CPY 23 31 σ σ10 ∧ (σ10 24 0) = σ10 24 0) ∨ (i = 1 ∧ ¬ σ 39 6 = 0 ∧ CPY 23 39 σ σ10 ∧ (σ10 24 0) = σ10 24 0)) := by
          first
          | exact Or.inr (Or.inr (Or.inl ⟨by omega, by omega, q11_4, by omega⟩))
          | exact Or.inr (Or.inr (Or.inr ⟨by omega, by omega, q11_4, by omega⟩))
        exact j_iret (pc := 53) ⟨rfl, rfl⟩ dX11_back_53 rfl ⟨_, rfl, ⟨by omega, by omega⟩, hIσ10, hFσ10, by omega, by omega, by omega, by omega, fin⟩
      · refine j_bipush (pc := 32) dX11_back_32 rfl ?_
        have fin : (((-2) = -1 ∧ ¬ (i = 0 ∨ i = 1) ∧ ∀ c j, σ c j = σ c j) ∨ ((-2) = -2 ∧ ((i = 0 ∧ σ 31 6 = 0) ∨ (i = 1 ∧ σ 39 6 = 0)) ∧ ∀ c j, σ c j = σ c j) ∨ (i = 0 ∧ ¬ σ 31 6 = 0 ∧ CPY 23 31 σ σ ∧ (-2) = σ 24 0) ∨ (i = 1 ∧ ¬ σ 39 6 = 0 ∧ CPY 23 39 σ σ ∧ (-2) = σ 24 0)) := Or.inr (Or.inl ⟨rfl, by omega, fun c j => rfl⟩)
        exact j_iret (pc := 34) ⟨rfl, rfl⟩ dX11_back_34 rfl ⟨_, rfl, ⟨by omega, by omega⟩, hI, (tw_F_rf), by omega, by omega, by omega, by omega, fin⟩
    · refine j_aload_n (pc := 13) dX11_back_13 rfl rfl ?_
      refine j_getR (pc := 14) (r := 31) fl_X11_30 dX11_back_14 (a_0 hX) rfl ?_
      refine j_goto (pc := 17) (tgt := 24) dX11_back_17 rfl ?_
      refine j_astore_n (pc := 24) (i := 2) (ls' := [(0, vR 0), (2, vR 31)]) [1, 0] dX11_back_24 rfl (Nat.le_of_ble_eq_true rfl) rfl rfl ?_
      refine j_aload_n (pc := 25) dX11_back_25 rfl rfl ?_
      refine j_getI (pc := 26) fl_X11_124 dX11_back_26 (a_31 hX) rfl ?_
      have f14 : (0 : Int) ≤ σ 31 6 ∧ σ 31 6 ≤ 1 := hI 31 6
      refine j_ifR_ne (pc := 29) (tgt := 35) ⟨by omega, by omega⟩ dX11_back_29 rfl (fun h15 => ?_) (fun h15 => ?_)
      · refine j_aload_n (pc := 35) dX11_back_35 rfl rfl ?_
        refine j_getR (pc := 36) (r := 23) fl_X11_26 dX11_back_36 (a_0 hX) rfl ?_
        refine j_aload_n (pc := 39) dX11_back_39 rfl rfl ?_
        refine j_callV (pc := 40) (As := [vR 31]) (st := []) (c_X3_copyOf 23 (s_Hand_23 hX) 31 (s_Hand_31 hX) σ hI (by omega)) mv_X11_398 rfl rfl rfl (a_23 hX) dX11_back_40 ⟨Nat.le_of_ble_eq_true rfl, Nat.le_of_ble_eq_true rfl⟩ ⟨Nat.le_refl _, Nat.le_refl _⟩ rfl (Nat.le_of_ble_eq_true rfl) rfl (fun z16 σ17 hz16 => ?_)
        obtain ⟨rfl, hIσ17, hGσ17, q18_0, q18_1, q18_2, q18_3, q18_4⟩ := hz16
        replace q18_0 : σ17 29 0 = σ 37 0 := q18_0
        replace q18_1 : σ17 30 0 = σ 38 0 := q18_1
        replace q18_2 : σ17 29 1 = σ 37 1 := q18_2
        replace q18_3 : σ17 30 1 = σ 38 1 := q18_3
        replace q18_4 : CPY 23 31 σ σ17 := q18_4
        have hFσ17 : tw_F (fun c j => (23 ≤ c ∧ c < 31)) σ σ17 := tw_F_tr (tw_F_rf) hGσ17 (fun c j q => (show (23 ≤ c ∧ c < 31) from by replace q : (23 ≤ c ∧ c < 31) := q; exact q))
        refine j_st (st' := []) rfl ?_
        refine j_aload_n (pc := 43) dX11_back_43 rfl rfl ?_
        refine j_getR (pc := 44) (r := 23) fl_X11_26 dX11_back_44 (a_0 hX) rfl ?_
        refine j_getR (pc := 47) (r := 24) fl_X11_168 dX11_back_47 (a_23 hX) rfl ?_
        refine j_getI (pc := 50) fl_X11_187 dX11_back_50 (a_24 hX) rfl ?_
        have f20 : (0 : Int) ≤ σ17 24 0 ∧ σ17 24 0 ≤ 10 := hIσ17 24 0
        have fin : (((σ17 24 0) = -1 ∧ ¬ (i = 0 ∨ i = 1) ∧ ∀ c j, σ17 c j = σ c j) ∨ ((σ17 24 0) = -2 ∧ ((i = 0 ∧ σ 31 6 = 0) ∨ (i = 1 ∧ σ 39 6 = 0)) ∧ ∀ c j, σ17 c j = σ c j) ∨ (i = 0 ∧ ¬ σ 31 6 = 0 ∧ CPY 23 31 σ σ17 ∧ (σ17 24 0) = σ17 24 0) ∨ (i = 1 ∧ ¬ σ 39 6 = 0 ∧ CPY 23 39 σ σ17 ∧ (σ17 24 0) = σ17 24 0)) := by
          first
          | exact Or.inr (Or.inr (Or.inl ⟨by omega, by omega, q18_4, by omega⟩))
          | exact Or.inr (Or.inr (Or.inr ⟨by omega, by omega, q18_4, by omega⟩))
        exact j_iret (pc := 53) ⟨rfl, rfl⟩ dX11_back_53 rfl ⟨_, rfl, ⟨by omega, by omega⟩, hIσ17, hFσ17, by omega, by omega, by omega, by omega, fin⟩
      · refine j_bipush (pc := 32) dX11_back_32 rfl ?_
        have fin : (((-2) = -1 ∧ ¬ (i = 0 ∨ i = 1) ∧ ∀ c j, σ c j = σ c j) ∨ ((-2) = -2 ∧ ((i = 0 ∧ σ 31 6 = 0) ∨ (i = 1 ∧ σ 39 6 = 0)) ∧ ∀ c j, σ c j = σ c j) ∨ (i = 0 ∧ ¬ σ 31 6 = 0 ∧ CPY 23 31 σ σ ∧ (-2) = σ 24 0) ∨ (i = 1 ∧ ¬ σ 39 6 = 0 ∧ CPY 23 39 σ σ ∧ (-2) = σ 24 0)) := Or.inr (Or.inl ⟨rfl, by omega, fun c j => rfl⟩)
        exact j_iret (pc := 34) ⟨rfl, rfl⟩ dX11_back_34 rfl ⟨_, rfl, ⟨by omega, by omega⟩, hI, (tw_F_rf), by omega, by omega, by omega, by omega, fin⟩
  · refine j_iconst (pc := 7) dX11_back_7 ?_
    have fin : (((-1) = -1 ∧ ¬ (i = 0 ∨ i = 1) ∧ ∀ c j, σ c j = σ c j) ∨ ((-1) = -2 ∧ ((i = 0 ∧ σ 31 6 = 0) ∨ (i = 1 ∧ σ 39 6 = 0)) ∧ ∀ c j, σ c j = σ c j) ∨ (i = 0 ∧ ¬ σ 31 6 = 0 ∧ CPY 23 31 σ σ ∧ (-1) = σ 24 0) ∨ (i = 1 ∧ ¬ σ 39 6 = 0 ∧ CPY 23 39 σ σ ∧ (-1) = σ 24 0)) := Or.inl ⟨rfl, by omega, fun c j => rfl⟩
    exact j_iret (pc := 8) ⟨rfl, rfl⟩ dX11_back_8 rfl ⟨_, rfl, ⟨by omega, by omega⟩, hI, (tw_F_rf), by omega, by omega, by omega, by omega, fin⟩
abbrev q_X11_sheet (k : Int) (l : Int) (n : Int) (σ : tw_M) : Option tw_V → tw_M → Prop := fun z τ => ∃ r : Int, z = some (vI r) ∧ (-2147483648 ≤ r ∧ r ≤ 2147483647) ∧ tw_I τ ∧ tw_F (fun c j => (80 ≤ c ∧ c < 88)) σ τ ∧ ((r = -1 ∧ (¬ (0 ≤ k ∧ k ≤ 3 ∧ 0 ≤ l ∧ l ≤ 2) ∨ 40 < n)) ∨ (r = -14 ∧ 0 ≤ k ∧ k ≤ 3 ∧ 0 ≤ l ∧ l ≤ 2 ∧ n < 0) ∨ (r = 1 ∧ 0 ≤ k ∧ k ≤ 3 ∧ 0 ≤ l ∧ l ≤ 2 ∧ 0 ≤ n ∧ n ≤ 40)) ∧ ((k = 0 ∧ r = 1 ∧ τ 80 1 = 1 ∧ τ 80 3 = n) ∨ (¬ (k = 0 ∧ r = 1) ∧ τ 80 1 = σ 80 1 ∧ τ 80 3 = σ 80 3)) ∧ ((k = 1 ∧ r = 1 ∧ τ 82 1 = 1 ∧ τ 82 3 = n) ∨ (¬ (k = 1 ∧ r = 1) ∧ τ 82 1 = σ 82 1 ∧ τ 82 3 = σ 82 3)) ∧ ((k = 2 ∧ r = 1 ∧ τ 84 1 = 1 ∧ τ 84 3 = n) ∨ (¬ (k = 2 ∧ r = 1) ∧ τ 84 1 = σ 84 1 ∧ τ 84 3 = σ 84 3)) ∧ ((k = 3 ∧ r = 1 ∧ τ 86 1 = 1 ∧ τ 86 3 = n) ∨ (¬ (k = 3 ∧ r = 1) ∧ τ 86 1 = σ 86 1 ∧ τ 86 3 = σ 86 3)) ∧ ((k = 0 ∧ r = 1 ∧ τ 80 2 = l ∧ ∀ j : Nat, j < 40 → τ 81 j = 0) ∨ (¬ (k = 0 ∧ r = 1) ∧ τ 80 2 = σ 80 2 ∧ ∀ j : Nat, τ 81 j = σ 81 j)) ∧ ((k = 1 ∧ r = 1 ∧ τ 82 2 = l ∧ ∀ j : Nat, j < 40 → τ 83 j = 0) ∨ (¬ (k = 1 ∧ r = 1) ∧ τ 82 2 = σ 82 2 ∧ ∀ j : Nat, τ 83 j = σ 83 j)) ∧ ((k = 2 ∧ r = 1 ∧ τ 84 2 = l ∧ ∀ j : Nat, j < 40 → τ 85 j = 0) ∨ (¬ (k = 2 ∧ r = 1) ∧ τ 84 2 = σ 84 2 ∧ ∀ j : Nat, τ 85 j = σ 85 j)) ∧ ((k = 3 ∧ r = 1 ∧ τ 86 2 = l ∧ ∀ j : Nat, j < 40 → τ 87 j = 0) ∨ (¬ (k = 3 ∧ r = 1) ∧ τ 86 2 = σ 86 2 ∧ ∀ j : Nat, τ 87 j = σ 87 j))
set_option maxHeartbeats 4000000 in
set_option maxRecDepth 100000 in
theorem c_X11_sheet {G : tw_G} (hX : tw_isX G) (k : Int) (hk : -2147483648 ≤ k ∧ k ≤ 2147483647) (l : Int) (hl : -2147483648 ≤ l ∧ l ≤ 2147483647) (n : Int) (hn : -2147483648 ≤ n ∧ n ≤ 2147483647) (σ : tw_M) (hI : tw_I σ) : tw_C G yX11_sheet cX11_sheet 4 (some .int) 1 [vR 0, vI k, vI l, vI n] σ (q_X11_sheet k l n σ) := by
  refine tw_met [(0, vR 0), (1, vI k), (2, vI l), (3, vI n)] (by decide +kernel) rfl (Nat.le_of_ble_eq_true rfl) ?_
  refine j_aload_n (pc := 0) dX11_sheet_0 rfl rfl ?_
  refine j_iload_n (pc := 1) dX11_sheet_1 rfl rfl ?_
  refine j_callV (pc := 2) (As := [vI k]) (st := []) (c_X11_isSheet hX k ⟨by omega, by omega⟩ σ hI) mv_X11_401 rfl rfl rfl (a_0 hX) dX11_sheet_2 ⟨Nat.le_of_ble_eq_true rfl, Nat.le_of_ble_eq_true rfl⟩ ⟨Nat.le_refl _, Nat.le_refl _⟩ rfl (Nat.le_of_ble_eq_true rfl) rfl (fun z1 σ2 hz1 => ?_)
  obtain ⟨r4, rfl, hr4, rfl, q3_0⟩ := hz1
  replace q3_0 : (r4 = 1 ∧ 0 ≤ k ∧ k < 4) ∨ (r4 = 0 ∧ ¬ (0 ≤ k ∧ k < 4)) := q3_0
  refine j_st (st' := [vI r4]) rfl ?_
  refine j_ifR_eq (pc := 5) (tgt := 21) ⟨by omega, by omega⟩ dX11_sheet_5 rfl (fun h5 => ?_) (fun h5 => ?_)
  · refine j_iconst (pc := 21) dX11_sheet_21 ?_
    exact j_iret (pc := 22) ⟨rfl, rfl⟩ dX11_sheet_22 rfl ⟨_, rfl, ⟨by omega, by omega⟩, hI, (tw_F_rf), by omega, by omega, by omega, by omega, by omega, (by first | exact Or.inl ⟨by omega, rfl, by omega, q3_3⟩ | exact Or.inr ⟨by omega, by omega, fun j => hG_ 81 j _⟩ | exact Or.inr ⟨by omega, rfl, fun j => rfl⟩), (by first | exact Or.inl ⟨by omega, rfl, by omega, q3_3⟩ | exact Or.inr ⟨by omega, by omega, fun j => hG_ 83 j _⟩ | exact Or.inr ⟨by omega, rfl, fun j => rfl⟩), (by first | exact Or.inl ⟨by omega, rfl, by omega, q3_3⟩ | exact Or.inr ⟨by omega, by omega, fun j => hG_ 85 j _⟩ | exact Or.inr ⟨by omega, rfl, fun j => rfl⟩), (by first | exact Or.inl ⟨by omega, rfl, by omega, q3_3⟩ | exact Or.inr ⟨by omega, by omega, fun j => hG_ 87 j _⟩ | exact Or.inr ⟨by omega, rfl, fun j => rfl⟩)⟩
  · refine j_iload_n (pc := 8) dX11_sheet_8 rfl rfl ?_
    refine j_callS (pc := 9) (As := [vI l]) (st := []) (c_X11_isLane l ⟨by omega, by omega⟩ σ hI) ms_X11_404 rfl dX11_sheet_9 ⟨Nat.le_of_ble_eq_true rfl, Nat.le_of_ble_eq_true rfl⟩ ⟨Nat.le_refl _, Nat.le_refl _⟩ rfl (Nat.le_of_ble_eq_true rfl) rfl (fun z6 σ7 hz6 => ?_)
    obtain ⟨r9, rfl, hr9, rfl, q8_0⟩ := hz6
    replace q8_0 : (r9 = 1 ∧ 0 ≤ l ∧ l ≤ 2) ∨ (r9 = 0 ∧ ¬ (0 ≤ l ∧ l ≤ 2)) := q8_0
    refine j_st (st' := [vI r9]) rfl ?_
    refine j_ifR_eq (pc := 12) (tgt := 21) ⟨by omega, by omega⟩ dX11_sheet_12 rfl (fun h10 => ?_) (fun h10 => ?_)
    · refine j_iconst (pc := 21) dX11_sheet_21 ?_
      exact j_iret (pc := 22) ⟨rfl, rfl⟩ dX11_sheet_22 rfl ⟨_, rfl, ⟨by omega, by omega⟩, hI, (tw_F_rf), by omega, by omega, by omega, by omega, by omega, (by first | exact Or.inl ⟨by omega, rfl, by omega, q8_3⟩ | exact Or.inr ⟨by omega, by omega, fun j => hG_ 81 j _⟩ | exact Or.inr ⟨by omega, rfl, fun j => rfl⟩), (by first | exact Or.inl ⟨by omega, rfl, by omega, q8_3⟩ | exact Or.inr ⟨by omega, by omega, fun j => hG_ 83 j _⟩ | exact Or.inr ⟨by omega, rfl, fun j => rfl⟩), (by first | exact Or.inl ⟨by omega, rfl, by omega, q8_3⟩ | exact Or.inr ⟨by omega, by omega, fun j => hG_ 85 j _⟩ | exact Or.inr ⟨by omega, rfl, fun j => rfl⟩), (by first | exact Or.inl ⟨by omega, rfl, by omega, q8_3⟩ | exact Or.inr ⟨by omega, by omega, fun j => hG_ 87 j _⟩ | exact Or.inr ⟨by omega, rfl, fun j => rfl⟩)⟩
    · refine j_iload_n (pc := 15) dX11_sheet_15 rfl rfl ?_
      refine j_bipush (pc := 16) dX11_sheet_16 rfl ?_
      refine j_icmpR_le (pc := 18) (tgt := 23) ⟨by omega, by omega⟩ ⟨by omega, by omega⟩ dX11_sheet_18 rfl (fun h11 => ?_) (fun h11 => ?_)
      · refine j_iload_n (pc := 23) dX11_sheet_23 rfl rfl ?_
        refine j_ifR_ge (pc := 24) (tgt := 30) ⟨by omega, by omega⟩ dX11_sheet_24 rfl (fun h12 => ?_) (fun h12 => ?_)
        · refine j_aload_n (pc := 30) dX11_sheet_30 rfl rfl ?_
          refine j_getR (pc := 31) (r := 79) fl_X11_87 dX11_sheet_31 (a_0 hX) rfl ?_
          refine j_iload_n (pc := 34) dX11_sheet_34 rfl rfl ?_
          rcases (show k = 0 ∨ k = 1 ∨ k = 2 ∨ k = 3 from by omega) with h13 | h13 | h13 | h13
          · refine j_aald (pc := 35) (r := 80) dX11_sheet_35 (a_79 hX) (by omega) (by rw [h13]; decide) (by rw [h13]; rfl) (by decide) ?_
            refine j_iload_n (pc := 36) dX11_sheet_36 rfl rfl ?_
            refine j_iload_n (pc := 37) dX11_sheet_37 rfl rfl ?_
            refine j_callV (pc := 38) (As := [vI l, vI n]) (st := []) (c_X8_begin 80 (s_Sheet_80 hX) l ⟨by omega, by omega⟩ n ⟨by omega, by omega⟩ σ hI) mv_X11_407 rfl rfl rfl (a_80 hX) dX11_sheet_38 ⟨Nat.le_of_ble_eq_true rfl, Nat.le_of_ble_eq_true rfl⟩ ⟨Nat.le_refl _, Nat.le_refl _⟩ rfl (Nat.le_of_ble_eq_true rfl) rfl (fun z14 σ15 hz14 => ?_)
            obtain ⟨rfl, hIσ15, hGσ15, q16_0, q16_1, q16_2, q16_3⟩ := hz14
            replace q16_0 : σ15 80 1 = 1 := q16_0
            replace q16_1 : σ15 80 2 = l := q16_1
            replace q16_2 : σ15 80 3 = n := q16_2
            replace q16_3 : ∀ j : Nat, j < 40 → σ15 81 j = 0 := q16_3
            have hFσ15 : tw_F (fun c j => (80 ≤ c ∧ c < 88)) σ σ15 := tw_F_tr (tw_F_rf) hGσ15 (fun c j q => (show (80 ≤ c ∧ c < 88) from by replace q : (80 ≤ c ∧ c < 82) := q; exact ⟨Nat.le_trans (by decide) q.1, Nat.lt_of_lt_of_le q.2 (by decide)⟩))
            refine j_st (st' := []) rfl ?_
            refine j_iconst (pc := 41) dX11_sheet_41 ?_
            have y18 : σ15 82 1 = σ 82 1 := (hGσ15 82 1 (show ¬ ((80 ≤ 82 ∧ 82 < 82)) from by decide))
            have f19 : (0 : Int) ≤ σ 82 1 ∧ σ 82 1 ≤ 1 := hI 82 1
            have y20 : σ15 82 3 = σ 82 3 := (hGσ15 82 3 (show ¬ ((80 ≤ 82 ∧ 82 < 82)) from by decide))
            have f21 : (0 : Int) ≤ σ 82 3 ∧ σ 82 3 ≤ 40 := hI 82 3
            have y22 : σ15 84 1 = σ 84 1 := (hGσ15 84 1 (show ¬ ((80 ≤ 84 ∧ 84 < 82)) from by decide))
            have f23 : (0 : Int) ≤ σ 84 1 ∧ σ 84 1 ≤ 1 := hI 84 1
            have y24 : σ15 84 3 = σ 84 3 := (hGσ15 84 3 (show ¬ ((80 ≤ 84 ∧ 84 < 82)) from by decide))
            have f25 : (0 : Int) ≤ σ 84 3 ∧ σ 84 3 ≤ 40 := hI 84 3
            have y26 : σ15 86 1 = σ 86 1 := (hGσ15 86 1 (show ¬ ((80 ≤ 86 ∧ 86 < 82)) from by decide))
            have f27 : (0 : Int) ≤ σ 86 1 ∧ σ 86 1 ≤ 1 := hI 86 1
            have y28 : σ15 86 3 = σ 86 3 := (hGσ15 86 3 (show ¬ ((80 ≤ 86 ∧ 86 < 82)) from by decide))
            have f29 : (0 : Int) ≤ σ 86 3 ∧ σ 86 3 ≤ 40 := hI 86 3
            have y30 : σ15 82 2 = σ 82 2 := (hGσ15 82 2 (show ¬ ((80 ≤ 82 ∧ 82 < 82)) from by decide))
            have f31 : (-2147483648 : Int) ≤ σ 82 2 ∧ σ 82 2 ≤ 2147483647 := hI 82 2
            have y32 : σ15 84 2 = σ 84 2 := (hGσ15 84 2 (show ¬ ((80 ≤ 84 ∧ 84 < 82)) from by decide))
            have f33 : (-2147483648 : Int) ≤ σ 84 2 ∧ σ 84 2 ≤ 2147483647 := hI 84 2
            have y34 : σ15 86 2 = σ 86 2 := (hGσ15 86 2 (show ¬ ((80 ≤ 86 ∧ 86 < 82)) from by decide))
            have f35 : (-2147483648 : Int) ≤ σ 86 2 ∧ σ 86 2 ≤ 2147483647 := hI 86 2
            exact j_iret (pc := 42) ⟨rfl, rfl⟩ dX11_sheet_42 rfl ⟨_, rfl, ⟨by omega, by omega⟩, hIσ15, hFσ15, by omega, by omega, by omega, by omega, by omega, (by first | exact Or.inl ⟨by omega, rfl, by omega, q16_3⟩ | exact Or.inr ⟨by omega, by omega, fun j => hGσ15 81 j (show ¬ ((80 ≤ 81 ∧ 81 < 82)) from by decide)⟩ | exact Or.inr ⟨by omega, rfl, fun j => rfl⟩), (by first | exact Or.inl ⟨by omega, rfl, by omega, q16_3⟩ | exact Or.inr ⟨by omega, by omega, fun j => hGσ15 83 j (show ¬ ((80 ≤ 83 ∧ 83 < 82)) from by decide)⟩ | exact Or.inr ⟨by omega, rfl, fun j => rfl⟩), (by first | exact Or.inl ⟨by omega, rfl, by omega, q16_3⟩ | exact Or.inr ⟨by omega, by omega, fun j => hGσ15 85 j (show ¬ ((80 ≤ 85 ∧ 85 < 82)) from by decide)⟩ | exact Or.inr ⟨by omega, rfl, fun j => rfl⟩), (by first | exact Or.inl ⟨by omega, rfl, by omega, q16_3⟩ | exact Or.inr ⟨by omega, by omega, fun j => hGσ15 87 j (show ¬ ((80 ≤ 87 ∧ 87 < 82)) from by decide)⟩ | exact Or.inr ⟨by omega, rfl, fun j => rfl⟩)⟩
          · refine j_aald (pc := 35) (r := 82) dX11_sheet_35 (a_79 hX) (by omega) (by rw [h13]; decide) (by rw [h13]; rfl) (by decide) ?_
            refine j_iload_n (pc := 36) dX11_sheet_36 rfl rfl ?_
            refine j_iload_n (pc := 37) dX11_sheet_37 rfl rfl ?_
            refine j_callV (pc := 38) (As := [vI l, vI n]) (st := []) (c_X8_begin 82 (s_Sheet_82 hX) l ⟨by omega, by omega⟩ n ⟨by omega, by omega⟩ σ hI) mv_X11_407 rfl rfl rfl (a_82 hX) dX11_sheet_38 ⟨Nat.le_of_ble_eq_true rfl, Nat.le_of_ble_eq_true rfl⟩ ⟨Nat.le_refl _, Nat.le_refl _⟩ rfl (Nat.le_of_ble_eq_true rfl) rfl (fun z36 σ37 hz36 => ?_)
            obtain ⟨rfl, hIσ37, hGσ37, q38_0, q38_1, q38_2, q38_3⟩ := hz36
            replace q38_0 : σ37 82 1 = 1 := q38_0
            replace q38_1 : σ37 82 2 = l := q38_1
            replace q38_2 : σ37 82 3 = n := q38_2
            replace q38_3 : ∀ j : Nat, j < 40 → σ37 83 j = 0 := q38_3
            have hFσ37 : tw_F (fun c j => (80 ≤ c ∧ c < 88)) σ σ37 := tw_F_tr (tw_F_rf) hGσ37 (fun c j q => (show (80 ≤ c ∧ c < 88) from by replace q : (82 ≤ c ∧ c < 84) := q; exact ⟨Nat.le_trans (by decide) q.1, Nat.lt_of_lt_of_le q.2 (by decide)⟩))
            refine j_st (st' := []) rfl ?_
            refine j_iconst (pc := 41) dX11_sheet_41 ?_
            have y40 : σ37 80 1 = σ 80 1 := (hGσ37 80 1 (show ¬ ((82 ≤ 80 ∧ 80 < 84)) from by decide))
            have f41 : (0 : Int) ≤ σ 80 1 ∧ σ 80 1 ≤ 1 := hI 80 1
            have y42 : σ37 80 3 = σ 80 3 := (hGσ37 80 3 (show ¬ ((82 ≤ 80 ∧ 80 < 84)) from by decide))
            have f43 : (0 : Int) ≤ σ 80 3 ∧ σ 80 3 ≤ 40 := hI 80 3
            have y44 : σ37 84 1 = σ 84 1 := (hGσ37 84 1 (show ¬ ((82 ≤ 84 ∧ 84 < 84)) from by decide))
            have f45 : (0 : Int) ≤ σ 84 1 ∧ σ 84 1 ≤ 1 := hI 84 1
            have y46 : σ37 84 3 = σ 84 3 := (hGσ37 84 3 (show ¬ ((82 ≤ 84 ∧ 84 < 84)) from by decide))
            have f47 : (0 : Int) ≤ σ 84 3 ∧ σ 84 3 ≤ 40 := hI 84 3
            have y48 : σ37 86 1 = σ 86 1 := (hGσ37 86 1 (show ¬ ((82 ≤ 86 ∧ 86 < 84)) from by decide))
            have f49 : (0 : Int) ≤ σ 86 1 ∧ σ 86 1 ≤ 1 := hI 86 1
            have y50 : σ37 86 3 = σ 86 3 := (hGσ37 86 3 (show ¬ ((82 ≤ 86 ∧ 86 < 84)) from by decide))
            have f51 : (0 : Int) ≤ σ 86 3 ∧ σ 86 3 ≤ 40 := hI 86 3
            have y52 : σ37 80 2 = σ 80 2 := (hGσ37 80 2 (show ¬ ((82 ≤ 80 ∧ 80 < 84)) from by decide))
            have f53 : (-2147483648 : Int) ≤ σ 80 2 ∧ σ 80 2 ≤ 2147483647 := hI 80 2
            have y54 : σ37 84 2 = σ 84 2 := (hGσ37 84 2 (show ¬ ((82 ≤ 84 ∧ 84 < 84)) from by decide))
            have f55 : (-2147483648 : Int) ≤ σ 84 2 ∧ σ 84 2 ≤ 2147483647 := hI 84 2
            have y56 : σ37 86 2 = σ 86 2 := (hGσ37 86 2 (show ¬ ((82 ≤ 86 ∧ 86 < 84)) from by decide))
            have f57 : (-2147483648 : Int) ≤ σ 86 2 ∧ σ 86 2 ≤ 2147483647 := hI 86 2
            exact j_iret (pc := 42) ⟨rfl, rfl⟩ dX11_sheet_42 rfl ⟨_, rfl, ⟨by omega, by omega⟩, hIσ37, hFσ37, by omega, by omega, by omega, by omega, by omega, (by first | exact Or.inl ⟨by omega, rfl, by omega, q38_3⟩ | exact Or.inr ⟨by omega, by omega, fun j => hGσ37 81 j (show ¬ ((82 ≤ 81 ∧ 81 < 84)) from by decide)⟩ | exact Or.inr ⟨by omega, rfl, fun j => rfl⟩), (by first | exact Or.inl ⟨by omega, rfl, by omega, q38_3⟩ | exact Or.inr ⟨by omega, by omega, fun j => hGσ37 83 j (show ¬ ((82 ≤ 83 ∧ 83 < 84)) from by decide)⟩ | exact Or.inr ⟨by omega, rfl, fun j => rfl⟩), (by first | exact Or.inl ⟨by omega, rfl, by omega, q38_3⟩ | exact Or.inr ⟨by omega, by omega, fun j => hGσ37 85 j (show ¬ ((82 ≤ 85 ∧ 85 < 84)) from by decide)⟩ | exact Or.inr ⟨by omega, rfl, fun j => rfl⟩), (by first | exact Or.inl ⟨by omega, rfl, by omega, q38_3⟩ | exact Or.inr ⟨by omega, by omega, fun j => hGσ37 87 j (show ¬ ((82 ≤ 87 ∧ 87 < 84)) from by decide)⟩ | exact Or.inr ⟨by omega, rfl, fun j => rfl⟩)⟩
          · refine j_aald (pc := 35) (r := 84) dX11_sheet_35 (a_79 hX) (by omega) (by rw [h13]; decide) (by rw [h13]; rfl) (by decide) ?_
            refine j_iload_n (pc := 36) dX11_sheet_36 rfl rfl ?_
            refine j_iload_n (pc := 37) dX11_sheet_37 rfl rfl ?_
            refine j_callV (pc := 38) (As := [vI l, vI n]) (st := []) (c_X8_begin 84 (s_Sheet_84 hX) l ⟨by omega, by omega⟩ n ⟨by omega, by omega⟩ σ hI) mv_X11_407 rfl rfl rfl (a_84 hX) dX11_sheet_38 ⟨Nat.le_of_ble_eq_true rfl, Nat.le_of_ble_eq_true rfl⟩ ⟨Nat.le_refl _, Nat.le_refl _⟩ rfl (Nat.le_of_ble_eq_true rfl) rfl (fun z58 σ59 hz58 => ?_)
            obtain ⟨rfl, hIσ59, hGσ59, q60_0, q60_1, q60_2, q60_3⟩ := hz58
            replace q60_0 : σ59 84 1 = 1 := q60_0
            replace q60_1 : σ59 84 2 = l := q60_1
            replace q60_2 : σ59 84 3 = n := q60_2
            replace q60_3 : ∀ j : Nat, j < 40 → σ59 85 j = 0 := q60_3
            have hFσ59 : tw_F (fun c j => (80 ≤ c ∧ c < 88)) σ σ59 := tw_F_tr (tw_F_rf) hGσ59 (fun c j q => (show (80 ≤ c ∧ c < 88) from by replace q : (84 ≤ c ∧ c < 86) := q; exact ⟨Nat.le_trans (by decide) q.1, Nat.lt_of_lt_of_le q.2 (by decide)⟩))
            refine j_st (st' := []) rfl ?_
            refine j_iconst (pc := 41) dX11_sheet_41 ?_
            have y62 : σ59 80 1 = σ 80 1 := (hGσ59 80 1 (show ¬ ((84 ≤ 80 ∧ 80 < 86)) from by decide))
            have f63 : (0 : Int) ≤ σ 80 1 ∧ σ 80 1 ≤ 1 := hI 80 1
            have y64 : σ59 80 3 = σ 80 3 := (hGσ59 80 3 (show ¬ ((84 ≤ 80 ∧ 80 < 86)) from by decide))
            have f65 : (0 : Int) ≤ σ 80 3 ∧ σ 80 3 ≤ 40 := hI 80 3
            have y66 : σ59 82 1 = σ 82 1 := (hGσ59 82 1 (show ¬ ((84 ≤ 82 ∧ 82 < 86)) from by decide))
            have f67 : (0 : Int) ≤ σ 82 1 ∧ σ 82 1 ≤ 1 := hI 82 1
            have y68 : σ59 82 3 = σ 82 3 := (hGσ59 82 3 (show ¬ ((84 ≤ 82 ∧ 82 < 86)) from by decide))
            have f69 : (0 : Int) ≤ σ 82 3 ∧ σ 82 3 ≤ 40 := hI 82 3
            have y70 : σ59 86 1 = σ 86 1 := (hGσ59 86 1 (show ¬ ((84 ≤ 86 ∧ 86 < 86)) from by decide))
            have f71 : (0 : Int) ≤ σ 86 1 ∧ σ 86 1 ≤ 1 := hI 86 1
            have y72 : σ59 86 3 = σ 86 3 := (hGσ59 86 3 (show ¬ ((84 ≤ 86 ∧ 86 < 86)) from by decide))
            have f73 : (0 : Int) ≤ σ 86 3 ∧ σ 86 3 ≤ 40 := hI 86 3
            have y74 : σ59 80 2 = σ 80 2 := (hGσ59 80 2 (show ¬ ((84 ≤ 80 ∧ 80 < 86)) from by decide))
            have f75 : (-2147483648 : Int) ≤ σ 80 2 ∧ σ 80 2 ≤ 2147483647 := hI 80 2
            have y76 : σ59 82 2 = σ 82 2 := (hGσ59 82 2 (show ¬ ((84 ≤ 82 ∧ 82 < 86)) from by decide))
            have f77 : (-2147483648 : Int) ≤ σ 82 2 ∧ σ 82 2 ≤ 2147483647 := hI 82 2
            have y78 : σ59 86 2 = σ 86 2 := (hGσ59 86 2 (show ¬ ((84 ≤ 86 ∧ 86 < 86)) from by decide))
            have f79 : (-2147483648 : Int) ≤ σ 86 2 ∧ σ 86 2 ≤ 2147483647 := hI 86 2
            exact j_iret (pc := 42) ⟨rfl, rfl⟩ dX11_sheet_42 rfl ⟨_, rfl, ⟨by omega, by omega⟩, hIσ59, hFσ59, by omega, by omega, by omega, by omega, by omega, (by first | exact Or.inl ⟨by omega, rfl, by omega, q60_3⟩ | exact Or.inr ⟨by omega, by omega, fun j => hGσ59 81 j (show ¬ ((84 ≤ 81 ∧ 81 < 86)) from by decide)⟩ | exact Or.inr ⟨by omega, rfl, fun j => rfl⟩), (by first | exact Or.inl ⟨by omega, rfl, by omega, q60_3⟩ | exact Or.inr ⟨by omega, by omega, fun j => hGσ59 83 j (show ¬ ((84 ≤ 83 ∧ 83 < 86)) from by decide)⟩ | exact Or.inr ⟨by omega, rfl, fun j => rfl⟩), (by first | exact Or.inl ⟨by omega, rfl, by omega, q60_3⟩ | exact Or.inr ⟨by omega, by omega, fun j => hGσ59 85 j (show ¬ ((84 ≤ 85 ∧ 85 < 86)) from by decide)⟩ | exact Or.inr ⟨by omega, rfl, fun j => rfl⟩), (by first | exact Or.inl ⟨by omega, rfl, by omega, q60_3⟩ | exact Or.inr ⟨by omega, by omega, fun j => hGσ59 87 j (show ¬ ((84 ≤ 87 ∧ 87 < 86)) from by decide)⟩ | exact Or.inr ⟨by omega, rfl, fun j => rfl⟩)⟩
          · refine j_aald (pc := 35) (r := 86) dX11_sheet_35 (a_79 hX) (by omega) (by rw [h13]; decide) (by rw [h13]; rfl) (by decide) ?_
            refine j_iload_n (pc := 36) dX11_sheet_36 rfl rfl ?_
            refine j_iload_n (pc := 37) dX11_sheet_37 rfl rfl ?_
            refine j_callV (pc := 38) (As := [vI l, vI n]) (st := []) (c_X8_begin 86 (s_Sheet_86 hX) l ⟨by omega, by omega⟩ n ⟨by omega, by omega⟩ σ hI) mv_X11_407 rfl rfl rfl (a_86 hX) dX11_sheet_38 ⟨Nat.le_of_ble_eq_true rfl, Nat.le_of_ble_eq_true rfl⟩ ⟨Nat.le_refl _, Nat.le_refl _⟩ rfl (Nat.le_of_ble_eq_true rfl) rfl (fun z80 σ81 hz80 => ?_)
            obtain ⟨rfl, hIσ81, hGσ81, q82_0, q82_1, q82_2, q82_3⟩ := hz80
            replace q82_0 : σ81 86 1 = 1 := q82_0
            replace q82_1 : σ81 86 2 = l := q82_1
            replace q82_2 : σ81 86 3 = n := q82_2
            replace q82_3 : ∀ j : Nat, j < 40 → σ81 87 j = 0 := q82_3
            have hFσ81 : tw_F (fun c j => (80 ≤ c ∧ c < 88)) σ σ81 := tw_F_tr (tw_F_rf) hGσ81 (fun c j q => (show (80 ≤ c ∧ c < 88) from by replace q : (86 ≤ c ∧ c < 88) := q; exact ⟨Nat.le_trans (by decide) q.1, Nat.lt_of_lt_of_le q.2 (by decide)⟩))
            refine j_st (st' := []) rfl ?_
            refine j_iconst (pc := 41) dX11_sheet_41 ?_
            have y84 : σ81 80 1 = σ 80 1 := (hGσ81 80 1 (show ¬ ((86 ≤ 80 ∧ 80 < 88)) from by decide))
            have f85 : (0 : Int) ≤ σ 80 1 ∧ σ 80 1 ≤ 1 := hI 80 1
            have y86 : σ81 80 3 = σ 80 3 := (hGσ81 80 3 (show ¬ ((86 ≤ 80 ∧ 80 < 88)) from by decide))
            have f87 : (0 : Int) ≤ σ 80 3 ∧ σ 80 3 ≤ 40 := hI 80 3
            have y88 : σ81 82 1 = σ 82 1 := (hGσ81 82 1 (show ¬ ((86 ≤ 82 ∧ 82 < 88)) from by decide))
            have f89 : (0 : Int) ≤ σ 82 1 ∧ σ 82 1 ≤ 1 := hI 82 1
            have y90 : σ81 82 3 = σ 82 3 := (hGσ81 82 3 (show ¬ ((86 ≤ 82 ∧ 82 < 88)) from by decide))
            have f91 : (0 : Int) ≤ σ 82 3 ∧ σ 82 3 ≤ 40 := hI 82 3
            have y92 : σ81 84 1 = σ 84 1 := (hGσ81 84 1 (show ¬ ((86 ≤ 84 ∧ 84 < 88)) from by decide))
            have f93 : (0 : Int) ≤ σ 84 1 ∧ σ 84 1 ≤ 1 := hI 84 1
            have y94 : σ81 84 3 = σ 84 3 := (hGσ81 84 3 (show ¬ ((86 ≤ 84 ∧ 84 < 88)) from by decide))
            have f95 : (0 : Int) ≤ σ 84 3 ∧ σ 84 3 ≤ 40 := hI 84 3
            have y96 : σ81 80 2 = σ 80 2 := (hGσ81 80 2 (show ¬ ((86 ≤ 80 ∧ 80 < 88)) from by decide))
            have f97 : (-2147483648 : Int) ≤ σ 80 2 ∧ σ 80 2 ≤ 2147483647 := hI 80 2
            have y98 : σ81 82 2 = σ 82 2 := (hGσ81 82 2 (show ¬ ((86 ≤ 82 ∧ 82 < 88)) from by decide))
            have f99 : (-2147483648 : Int) ≤ σ 82 2 ∧ σ 82 2 ≤ 2147483647 := hI 82 2
            have y100 : σ81 84 2 = σ 84 2 := (hGσ81 84 2 (show ¬ ((86 ≤ 84 ∧ 84 < 88)) from by decide))
            have f101 : (-2147483648 : Int) ≤ σ 84 2 ∧ σ 84 2 ≤ 2147483647 := hI 84 2
            exact j_iret (pc := 42) ⟨rfl, rfl⟩ dX11_sheet_42 rfl ⟨_, rfl, ⟨by omega, by omega⟩, hIσ81, hFσ81, by omega, by omega, by omega, by omega, by omega, (by first | exact Or.inl ⟨by omega, rfl, by omega, q82_3⟩ | exact Or.inr ⟨by omega, by omega, fun j => hGσ81 81 j (show ¬ ((86 ≤ 81 ∧ 81 < 88)) from by decide)⟩ | exact Or.inr ⟨by omega, rfl, fun j => rfl⟩), (by first | exact Or.inl ⟨by omega, rfl, by omega, q82_3⟩ | exact Or.inr ⟨by omega, by omega, fun j => hGσ81 83 j (show ¬ ((86 ≤ 83 ∧ 83 < 88)) from by decide)⟩ | exact Or.inr ⟨by omega, rfl, fun j => rfl⟩), (by first | exact Or.inl ⟨by omega, rfl, by omega, q82_3⟩ | exact Or.inr ⟨by omega, by omega, fun j => hGσ81 85 j (show ¬ ((86 ≤ 85 ∧ 85 < 88)) from by decide)⟩ | exact Or.inr ⟨by omega, rfl, fun j => rfl⟩), (by first | exact Or.inl ⟨by omega, rfl, by omega, q82_3⟩ | exact Or.inr ⟨by omega, by omega, fun j => hGσ81 87 j (show ¬ ((86 ≤ 87 ∧ 87 < 88)) from by decide)⟩ | exact Or.inr ⟨by omega, rfl, fun j => rfl⟩)⟩
        · refine j_bipush (pc := 27) dX11_sheet_27 rfl ?_
          exact j_iret (pc := 29) ⟨rfl, rfl⟩ dX11_sheet_29 rfl ⟨_, rfl, ⟨by omega, by omega⟩, hI, (tw_F_rf), by omega, by omega, by omega, by omega, by omega, (by first | exact Or.inl ⟨by omega, rfl, by omega, q8_3⟩ | exact Or.inr ⟨by omega, by omega, fun j => hG_ 81 j _⟩ | exact Or.inr ⟨by omega, rfl, fun j => rfl⟩), (by first | exact Or.inl ⟨by omega, rfl, by omega, q8_3⟩ | exact Or.inr ⟨by omega, by omega, fun j => hG_ 83 j _⟩ | exact Or.inr ⟨by omega, rfl, fun j => rfl⟩), (by first | exact Or.inl ⟨by omega, rfl, by omega, q8_3⟩ | exact Or.inr ⟨by omega, by omega, fun j => hG_ 85 j _⟩ | exact Or.inr ⟨by omega, rfl, fun j => rfl⟩), (by first | exact Or.inl ⟨by omega, rfl, by omega, q8_3⟩ | exact Or.inr ⟨by omega, by omega, fun j => hG_ 87 j _⟩ | exact Or.inr ⟨by omega, rfl, fun j => rfl⟩)⟩
      · refine j_iconst (pc := 21) dX11_sheet_21 ?_
        exact j_iret (pc := 22) ⟨rfl, rfl⟩ dX11_sheet_22 rfl ⟨_, rfl, ⟨by omega, by omega⟩, hI, (tw_F_rf), by omega, by omega, by omega, by omega, by omega, (by first | exact Or.inl ⟨by omega, rfl, by omega, q8_3⟩ | exact Or.inr ⟨by omega, by omega, fun j => hG_ 81 j _⟩ | exact Or.inr ⟨by omega, rfl, fun j => rfl⟩), (by first | exact Or.inl ⟨by omega, rfl, by omega, q8_3⟩ | exact Or.inr ⟨by omega, by omega, fun j => hG_ 83 j _⟩ | exact Or.inr ⟨by omega, rfl, fun j => rfl⟩), (by first | exact Or.inl ⟨by omega, rfl, by omega, q8_3⟩ | exact Or.inr ⟨by omega, by omega, fun j => hG_ 85 j _⟩ | exact Or.inr ⟨by omega, rfl, fun j => rfl⟩), (by first | exact Or.inl ⟨by omega, rfl, by omega, q8_3⟩ | exact Or.inr ⟨by omega, by omega, fun j => hG_ 87 j _⟩ | exact Or.inr ⟨by omega, rfl, fun j => rfl⟩)⟩
abbrev q_X11_lay (k : Int) (i : Int) (v : Int) (σ : tw_M) : Option tw_V → tw_M → Prop := fun z τ => ∃ r : Int, z = some (vI r) ∧ (-2147483648 ≤ r ∧ r ≤ 2147483647) ∧ tw_I τ ∧ tw_F (fun c j => c = 81 ∨ c = 83 ∨ c = 85 ∨ c = 87) σ τ ∧ ((r = -1 ∧ ¬ (0 ≤ k ∧ k ≤ 3)) ∨ (0 ≤ k ∧ k ≤ 3)) ∧ (¬ k = 0 ∨ (r = -11 ∧ σ 80 1 = 0) ∨ (r = -12 ∧ ¬ σ 80 1 = 0 ∧ ¬ (0 ≤ i ∧ i < σ 80 3)) ∨ (r = 1 ∧ ¬ σ 80 1 = 0 ∧ 0 ≤ i ∧ i < σ 80 3)) ∧ (¬ k = 1 ∨ (r = -11 ∧ σ 82 1 = 0) ∨ (r = -12 ∧ ¬ σ 82 1 = 0 ∧ ¬ (0 ≤ i ∧ i < σ 82 3)) ∨ (r = 1 ∧ ¬ σ 82 1 = 0 ∧ 0 ≤ i ∧ i < σ 82 3)) ∧ (¬ k = 2 ∨ (r = -11 ∧ σ 84 1 = 0) ∨ (r = -12 ∧ ¬ σ 84 1 = 0 ∧ ¬ (0 ≤ i ∧ i < σ 84 3)) ∨ (r = 1 ∧ ¬ σ 84 1 = 0 ∧ 0 ≤ i ∧ i < σ 84 3)) ∧ (¬ k = 3 ∨ (r = -11 ∧ σ 86 1 = 0) ∨ (r = -12 ∧ ¬ σ 86 1 = 0 ∧ ¬ (0 ≤ i ∧ i < σ 86 3)) ∨ (r = 1 ∧ ¬ σ 86 1 = 0 ∧ 0 ≤ i ∧ i < σ 86 3)) ∧ ((k = 0 ∧ r = 1 ∧ τ 81 i.toNat = nrw (σ 80 2) v ∧ ∀ j : Nat, ¬ j = i.toNat → τ 81 j = σ 81 j) ∨ (¬ (k = 0 ∧ r = 1) ∧ ∀ j : Nat, τ 81 j = σ 81 j)) ∧ ((k = 1 ∧ r = 1 ∧ τ 83 i.toNat = nrw (σ 82 2) v ∧ ∀ j : Nat, ¬ j = i.toNat → τ 83 j = σ 83 j) ∨ (¬ (k = 1 ∧ r = 1) ∧ ∀ j : Nat, τ 83 j = σ 83 j)) ∧ ((k = 2 ∧ r = 1 ∧ τ 85 i.toNat = nrw (σ 84 2) v ∧ ∀ j : Nat, ¬ j = i.toNat → τ 85 j = σ 85 j) ∨ (¬ (k = 2 ∧ r = 1) ∧ ∀ j : Nat, τ 85 j = σ 85 j)) ∧ ((k = 3 ∧ r = 1 ∧ τ 87 i.toNat = nrw (σ 86 2) v ∧ ∀ j : Nat, ¬ j = i.toNat → τ 87 j = σ 87 j) ∨ (¬ (k = 3 ∧ r = 1) ∧ ∀ j : Nat, τ 87 j = σ 87 j))
set_option maxHeartbeats 4000000 in
set_option maxRecDepth 100000 in
theorem c_X11_lay {G : tw_G} (hX : tw_isX G) (k : Int) (hk : -2147483648 ≤ k ∧ k ≤ 2147483647) (i : Int) (hi : -2147483648 ≤ i ∧ i ≤ 2147483647) (v : Int) (hv : -2147483648 ≤ v ∧ v ≤ 2147483647) (σ : tw_M) (hI : tw_I σ) : tw_C G yX11_lay cX11_lay 5 (some .int) 1 [vR 0, vI k, vI i, vI v] σ (q_X11_lay k i v σ) := by
  refine tw_met [(0, vR 0), (1, vI k), (2, vI i), (3, vI v)] (by decide +kernel) rfl (Nat.le_of_ble_eq_true rfl) ?_
  refine j_aload_n (pc := 0) dX11_lay_0 rfl rfl ?_
  refine j_iload_n (pc := 1) dX11_lay_1 rfl rfl ?_
  refine j_callV (pc := 2) (As := [vI k]) (st := []) (c_X11_isSheet hX k ⟨by omega, by omega⟩ σ hI) mv_X11_401 rfl rfl rfl (a_0 hX) dX11_lay_2 ⟨Nat.le_of_ble_eq_true rfl, Nat.le_of_ble_eq_true rfl⟩ ⟨Nat.le_refl _, Nat.le_refl _⟩ rfl (Nat.le_of_ble_eq_true rfl) rfl (fun z1 σ2 hz1 => ?_)
  obtain ⟨r4, rfl, hr4, rfl, q3_0⟩ := hz1
  replace q3_0 : (r4 = 1 ∧ 0 ≤ k ∧ k < 4) ∨ (r4 = 0 ∧ ¬ (0 ≤ k ∧ k < 4)) := q3_0
  refine j_st (st' := [vI r4]) rfl ?_
  refine j_ifR_ne (pc := 5) (tgt := 10) ⟨by omega, by omega⟩ dX11_lay_5 rfl (fun h5 => ?_) (fun h5 => ?_)
  · refine j_aload_n (pc := 10) dX11_lay_10 rfl rfl ?_
    refine j_getR (pc := 11) (r := 79) fl_X11_87 dX11_lay_11 (a_0 hX) rfl ?_
    refine j_iload_n (pc := 14) dX11_lay_14 rfl rfl ?_
    rcases (show k = 0 ∨ k = 1 ∨ k = 2 ∨ k = 3 from by omega) with h6 | h6 | h6 | h6
    · refine j_aald (pc := 15) (r := 80) dX11_lay_15 (a_79 hX) (by omega) (by rw [h6]; decide) (by rw [h6]; rfl) (by decide) ?_
      refine j_astore (pc := 16) (i := 4) (ls' := [(2, vI i), (3, vI v), (4, vR 80)]) [3, 4, 0] dX11_lay_16 (Nat.le_of_ble_eq_true rfl) rfl rfl ?_
      refine j_aload (pc := 18) dX11_lay_18 rfl ?_
      refine j_getI (pc := 20) fl_X11_409 dX11_lay_20 (a_80 hX) rfl ?_
      have f7 : (0 : Int) ≤ σ 80 1 ∧ σ 80 1 ≤ 1 := hI 80 1
      refine j_ifR_ne (pc := 23) (tgt := 29) ⟨by omega, by omega⟩ dX11_lay_23 rfl (fun h8 => ?_) (fun h8 => ?_)
      · refine j_aload (pc := 29) dX11_lay_29 rfl ?_
        refine j_iload_n (pc := 31) dX11_lay_31 rfl rfl ?_
        refine j_callV (pc := 32) (As := [vI i]) (st := []) (c_X8_has 80 (s_Sheet_80 hX) i ⟨by omega, by omega⟩ σ hI) mv_X11_412 rfl rfl rfl (a_80 hX) dX11_lay_32 ⟨Nat.le_of_ble_eq_true rfl, Nat.le_of_ble_eq_true rfl⟩ ⟨Nat.le_refl _, Nat.le_refl _⟩ rfl (Nat.le_of_ble_eq_true rfl) rfl (fun z9 σ10 hz9 => ?_)
        obtain ⟨r12, rfl, hr12, rfl, q11_0⟩ := hz9
        replace q11_0 : (r12 = 1 ∧ σ 80 1 = 1 ∧ 0 ≤ i ∧ i < σ 80 3 ∧ i < 40) ∨ (r12 = 0 ∧ ¬ (σ 80 1 = 1 ∧ 0 ≤ i ∧ i < σ 80 3)) := q11_0
        refine j_st (st' := [vI r12]) rfl ?_
        refine j_ifR_ne (pc := 35) (tgt := 41) ⟨by omega, by omega⟩ dX11_lay_35 rfl (fun h13 => ?_) (fun h13 => ?_)
        · refine j_aload (pc := 41) dX11_lay_41 rfl ?_
          refine j_iload_n (pc := 43) dX11_lay_43 rfl rfl ?_
          refine j_iload_n (pc := 44) dX11_lay_44 rfl rfl ?_
          refine j_callV (pc := 45) (As := [vI i, vI v]) (st := []) (c_X8_set 80 (s_Sheet_80 hX) i ⟨by omega, by omega⟩ v ⟨by omega, by omega⟩ σ hI) mv_X11_413 rfl rfl rfl (a_80 hX) dX11_lay_45 ⟨Nat.le_of_ble_eq_true rfl, Nat.le_of_ble_eq_true rfl⟩ ⟨Nat.le_refl _, Nat.le_refl _⟩ rfl (Nat.le_of_ble_eq_true rfl) rfl (fun z14 σ15 hz14 => ?_)
          obtain ⟨rfl, hIσ15, hGσ15, q16_0, q16_1⟩ := hz14
          replace q16_0 : σ15 81 i.toNat = nrw (σ 80 2) v := q16_0
          replace q16_1 : ∀ j : Nat, ¬ j = i.toNat → σ15 81 j = σ 81 j := q16_1
          have hFσ15 : tw_F (fun c j => c = 81 ∨ c = 83 ∨ c = 85 ∨ c = 87) σ σ15 := tw_F_tr (tw_F_rf) hGσ15 (fun c j q => (show c = 81 ∨ c = 83 ∨ c = 85 ∨ c = 87 from by replace q : c = 81 := q; exact (Or.inl q)))
          refine j_st (st' := []) rfl ?_
          refine j_iconst (pc := 48) dX11_lay_48 ?_
          have y18 : σ15 83 (i.toNat) = σ 83 (i.toNat) := (hGσ15 83 (i.toNat) (show ¬ (83 = 81) from by decide))
          have y19 : σ15 85 (i.toNat) = σ 85 (i.toNat) := (hGσ15 85 (i.toNat) (show ¬ (85 = 81) from by decide))
          have y20 : σ15 87 (i.toNat) = σ 87 (i.toNat) := (hGσ15 87 (i.toNat) (show ¬ (87 = 81) from by decide))
          exact j_iret (pc := 49) ⟨rfl, rfl⟩ dX11_lay_49 rfl ⟨_, rfl, ⟨by omega, by omega⟩, hIσ15, hFσ15, by omega, (by first | exact Or.inl (by omega) | exact Or.inr (Or.inl ⟨by omega, by omega⟩) | exact Or.inr (Or.inr (Or.inl ⟨by omega, by omega, by omega⟩)) | exact Or.inr (Or.inr (Or.inr ⟨by omega, by omega, by omega, by omega⟩))), (by first | exact Or.inl (by omega) | exact Or.inr (Or.inl ⟨by omega, by omega⟩) | exact Or.inr (Or.inr (Or.inl ⟨by omega, by omega, by omega⟩)) | exact Or.inr (Or.inr (Or.inr ⟨by omega, by omega, by omega, by omega⟩))), (by first | exact Or.inl (by omega) | exact Or.inr (Or.inl ⟨by omega, by omega⟩) | exact Or.inr (Or.inr (Or.inl ⟨by omega, by omega, by omega⟩)) | exact Or.inr (Or.inr (Or.inr ⟨by omega, by omega, by omega, by omega⟩))), (by first | exact Or.inl (by omega) | exact Or.inr (Or.inl ⟨by omega, by omega⟩) | exact Or.inr (Or.inr (Or.inl ⟨by omega, by omega, by omega⟩)) | exact Or.inr (Or.inr (Or.inr ⟨by omega, by omega, by omega, by omega⟩))), (by first | exact Or.inl ⟨by omega, rfl, q16_0, q16_1⟩ | exact Or.inr ⟨by omega, fun j => hGσ15 81 j (show ¬ (81 = 81) from by decide)⟩ | exact Or.inr ⟨by omega, fun j => rfl⟩), (by first | exact Or.inl ⟨by omega, rfl, q16_0, q16_1⟩ | exact Or.inr ⟨by omega, fun j => hGσ15 83 j (show ¬ (83 = 81) from by decide)⟩ | exact Or.inr ⟨by omega, fun j => rfl⟩), (by first | exact Or.inl ⟨by omega, rfl, q16_0, q16_1⟩ | exact Or.inr ⟨by omega, fun j => hGσ15 85 j (show ¬ (85 = 81) from by decide)⟩ | exact Or.inr ⟨by omega, fun j => rfl⟩), (by first | exact Or.inl ⟨by omega, rfl, q16_0, q16_1⟩ | exact Or.inr ⟨by omega, fun j => hGσ15 87 j (show ¬ (87 = 81) from by decide)⟩ | exact Or.inr ⟨by omega, fun j => rfl⟩)⟩
        · refine j_bipush (pc := 38) dX11_lay_38 rfl ?_
          exact j_iret (pc := 40) ⟨rfl, rfl⟩ dX11_lay_40 rfl ⟨_, rfl, ⟨by omega, by omega⟩, hI, (tw_F_rf), by omega, (by first | exact Or.inl (by omega) | exact Or.inr (Or.inl ⟨by omega, by omega⟩) | exact Or.inr (Or.inr (Or.inl ⟨by omega, by omega, by omega⟩)) | exact Or.inr (Or.inr (Or.inr ⟨by omega, by omega, by omega, by omega⟩))), (by first | exact Or.inl (by omega) | exact Or.inr (Or.inl ⟨by omega, by omega⟩) | exact Or.inr (Or.inr (Or.inl ⟨by omega, by omega, by omega⟩)) | exact Or.inr (Or.inr (Or.inr ⟨by omega, by omega, by omega, by omega⟩))), (by first | exact Or.inl (by omega) | exact Or.inr (Or.inl ⟨by omega, by omega⟩) | exact Or.inr (Or.inr (Or.inl ⟨by omega, by omega, by omega⟩)) | exact Or.inr (Or.inr (Or.inr ⟨by omega, by omega, by omega, by omega⟩))), (by first | exact Or.inl (by omega) | exact Or.inr (Or.inl ⟨by omega, by omega⟩) | exact Or.inr (Or.inr (Or.inl ⟨by omega, by omega, by omega⟩)) | exact Or.inr (Or.inr (Or.inr ⟨by omega, by omega, by omega, by omega⟩))), (by first | exact Or.inl ⟨by omega, rfl, q11_0, q11_1⟩ | exact Or.inr ⟨by omega, fun j => hG_ 81 j _⟩ | exact Or.inr ⟨by omega, fun j => rfl⟩), (by first | exact Or.inl ⟨by omega, rfl, q11_0, q11_1⟩ | exact Or.inr ⟨by omega, fun j => hG_ 83 j _⟩ | exact Or.inr ⟨by omega, fun j => rfl⟩), (by first | exact Or.inl ⟨by omega, rfl, q11_0, q11_1⟩ | exact Or.inr ⟨by omega, fun j => hG_ 85 j _⟩ | exact Or.inr ⟨by omega, fun j => rfl⟩), (by first | exact Or.inl ⟨by omega, rfl, q11_0, q11_1⟩ | exact Or.inr ⟨by omega, fun j => hG_ 87 j _⟩ | exact Or.inr ⟨by omega, fun j => rfl⟩)⟩
      · refine j_bipush (pc := 26) dX11_lay_26 rfl ?_
        exact j_iret (pc := 28) ⟨rfl, rfl⟩ dX11_lay_28 rfl ⟨_, rfl, ⟨by omega, by omega⟩, hI, (tw_F_rf), by omega, (by first | exact Or.inl (by omega) | exact Or.inr (Or.inl ⟨by omega, by omega⟩) | exact Or.inr (Or.inr (Or.inl ⟨by omega, by omega, by omega⟩)) | exact Or.inr (Or.inr (Or.inr ⟨by omega, by omega, by omega, by omega⟩))), (by first | exact Or.inl (by omega) | exact Or.inr (Or.inl ⟨by omega, by omega⟩) | exact Or.inr (Or.inr (Or.inl ⟨by omega, by omega, by omega⟩)) | exact Or.inr (Or.inr (Or.inr ⟨by omega, by omega, by omega, by omega⟩))), (by first | exact Or.inl (by omega) | exact Or.inr (Or.inl ⟨by omega, by omega⟩) | exact Or.inr (Or.inr (Or.inl ⟨by omega, by omega, by omega⟩)) | exact Or.inr (Or.inr (Or.inr ⟨by omega, by omega, by omega, by omega⟩))), (by first | exact Or.inl (by omega) | exact Or.inr (Or.inl ⟨by omega, by omega⟩) | exact Or.inr (Or.inr (Or.inl ⟨by omega, by omega, by omega⟩)) | exact Or.inr (Or.inr (Or.inr ⟨by omega, by omega, by omega, by omega⟩))), (by first | exact Or.inl ⟨by omega, rfl, q3_0, q3_1⟩ | exact Or.inr ⟨by omega, fun j => hG_ 81 j _⟩ | exact Or.inr ⟨by omega, fun j => rfl⟩), (by first | exact Or.inl ⟨by omega, rfl, q3_0, q3_1⟩ | exact Or.inr ⟨by omega, fun j => hG_ 83 j _⟩ | exact Or.inr ⟨by omega, fun j => rfl⟩), (by first | exact Or.inl ⟨by omega, rfl, q3_0, q3_1⟩ | exact Or.inr ⟨by omega, fun j => hG_ 85 j _⟩ | exact Or.inr ⟨by omega, fun j => rfl⟩), (by first | exact Or.inl ⟨by omega, rfl, q3_0, q3_1⟩ | exact Or.inr ⟨by omega, fun j => hG_ 87 j _⟩ | exact Or.inr ⟨by omega, fun j => rfl⟩)⟩
    · refine j_aald (pc := 15) (r := 82) dX11_lay_15 (a_79 hX) (by omega) (by rw [h6]; decide) (by rw [h6]; rfl) (by decide) ?_
      refine j_astore (pc := 16) (i := 4) (ls' := [(2, vI i), (3, vI v), (4, vR 82)]) [3, 4, 0] dX11_lay_16 (Nat.le_of_ble_eq_true rfl) rfl rfl ?_
      refine j_aload (pc := 18) dX11_lay_18 rfl ?_
      refine j_getI (pc := 20) fl_X11_409 dX11_lay_20 (a_82 hX) rfl ?_
      have f21 : (0 : Int) ≤ σ 82 1 ∧ σ 82 1 ≤ 1 := hI 82 1
      refine j_ifR_ne (pc := 23) (tgt := 29) ⟨by omega, by omega⟩ dX11_lay_23 rfl (fun h22 => ?_) (fun h22 => ?_)
      · refine j_aload (pc := 29) dX11_lay_29 rfl ?_
        refine j_iload_n (pc := 31) dX11_lay_31 rfl rfl ?_
        refine j_callV (pc := 32) (As := [vI i]) (st := []) (c_X8_has 82 (s_Sheet_82 hX) i ⟨by omega, by omega⟩ σ hI) mv_X11_412 rfl rfl rfl (a_82 hX) dX11_lay_32 ⟨Nat.le_of_ble_eq_true rfl, Nat.le_of_ble_eq_true rfl⟩ ⟨Nat.le_refl _, Nat.le_refl _⟩ rfl (Nat.le_of_ble_eq_true rfl) rfl (fun z23 σ24 hz23 => ?_)
        obtain ⟨r26, rfl, hr26, rfl, q25_0⟩ := hz23
        replace q25_0 : (r26 = 1 ∧ σ 82 1 = 1 ∧ 0 ≤ i ∧ i < σ 82 3 ∧ i < 40) ∨ (r26 = 0 ∧ ¬ (σ 82 1 = 1 ∧ 0 ≤ i ∧ i < σ 82 3)) := q25_0
        refine j_st (st' := [vI r26]) rfl ?_
        refine j_ifR_ne (pc := 35) (tgt := 41) ⟨by omega, by omega⟩ dX11_lay_35 rfl (fun h27 => ?_) (fun h27 => ?_)
        · refine j_aload (pc := 41) dX11_lay_41 rfl ?_
          refine j_iload_n (pc := 43) dX11_lay_43 rfl rfl ?_
          refine j_iload_n (pc := 44) dX11_lay_44 rfl rfl ?_
          refine j_callV (pc := 45) (As := [vI i, vI v]) (st := []) (c_X8_set 82 (s_Sheet_82 hX) i ⟨by omega, by omega⟩ v ⟨by omega, by omega⟩ σ hI) mv_X11_413 rfl rfl rfl (a_82 hX) dX11_lay_45 ⟨Nat.le_of_ble_eq_true rfl, Nat.le_of_ble_eq_true rfl⟩ ⟨Nat.le_refl _, Nat.le_refl _⟩ rfl (Nat.le_of_ble_eq_true rfl) rfl (fun z28 σ29 hz28 => ?_)
          obtain ⟨rfl, hIσ29, hGσ29, q30_0, q30_1⟩ := hz28
          replace q30_0 : σ29 83 i.toNat = nrw (σ 82 2) v := q30_0
          replace q30_1 : ∀ j : Nat, ¬ j = i.toNat → σ29 83 j = σ 83 j := q30_1
          have hFσ29 : tw_F (fun c j => c = 81 ∨ c = 83 ∨ c = 85 ∨ c = 87) σ σ29 := tw_F_tr (tw_F_rf) hGσ29 (fun c j q => (show c = 81 ∨ c = 83 ∨ c = 85 ∨ c = 87 from by replace q : c = 83 := q; exact (Or.inr (Or.inl q))))
          refine j_st (st' := []) rfl ?_
          refine j_iconst (pc := 48) dX11_lay_48 ?_
          have y32 : σ29 81 (i.toNat) = σ 81 (i.toNat) := (hGσ29 81 (i.toNat) (show ¬ (81 = 83) from by decide))
          have y33 : σ29 85 (i.toNat) = σ 85 (i.toNat) := (hGσ29 85 (i.toNat) (show ¬ (85 = 83) from by decide))
          have y34 : σ29 87 (i.toNat) = σ 87 (i.toNat) := (hGσ29 87 (i.toNat) (show ¬ (87 = 83) from by decide))
          exact j_iret (pc := 49) ⟨rfl, rfl⟩ dX11_lay_49 rfl ⟨_, rfl, ⟨by omega, by omega⟩, hIσ29, hFσ29, by omega, (by first | exact Or.inl (by omega) | exact Or.inr (Or.inl ⟨by omega, by omega⟩) | exact Or.inr (Or.inr (Or.inl ⟨by omega, by omega, by omega⟩)) | exact Or.inr (Or.inr (Or.inr ⟨by omega, by omega, by omega, by omega⟩))), (by first | exact Or.inl (by omega) | exact Or.inr (Or.inl ⟨by omega, by omega⟩) | exact Or.inr (Or.inr (Or.inl ⟨by omega, by omega, by omega⟩)) | exact Or.inr (Or.inr (Or.inr ⟨by omega, by omega, by omega, by omega⟩))), (by first | exact Or.inl (by omega) | exact Or.inr (Or.inl ⟨by omega, by omega⟩) | exact Or.inr (Or.inr (Or.inl ⟨by omega, by omega, by omega⟩)) | exact Or.inr (Or.inr (Or.inr ⟨by omega, by omega, by omega, by omega⟩))), (by first | exact Or.inl (by omega) | exact Or.inr (Or.inl ⟨by omega, by omega⟩) | exact Or.inr (Or.inr (Or.inl ⟨by omega, by omega, by omega⟩)) | exact Or.inr (Or.inr (Or.inr ⟨by omega, by omega, by omega, by omega⟩))), (by first | exact Or.inl ⟨by omega, rfl, q30_0, q30_1⟩ | exact Or.inr ⟨by omega, fun j => hGσ29 81 j (show ¬ (81 = 83) from by decide)⟩ | exact Or.inr ⟨by omega, fun j => rfl⟩), (by first | exact Or.inl ⟨by omega, rfl, q30_0, q30_1⟩ | exact Or.inr ⟨by omega, fun j => hGσ29 83 j (show ¬ (83 = 83) from by decide)⟩ | exact Or.inr ⟨by omega, fun j => rfl⟩), (by first | exact Or.inl ⟨by omega, rfl, q30_0, q30_1⟩ | exact Or.inr ⟨by omega, fun j => hGσ29 85 j (show ¬ (85 = 83) from by decide)⟩ | exact Or.inr ⟨by omega, fun j => rfl⟩), (by first | exact Or.inl ⟨by omega, rfl, q30_0, q30_1⟩ | exact Or.inr ⟨by omega, fun j => hGσ29 87 j (show ¬ (87 = 83) from by decide)⟩ | exact Or.inr ⟨by omega, fun j => rfl⟩)⟩
        · refine j_bipush (pc := 38) dX11_lay_38 rfl ?_
          exact j_iret (pc := 40) ⟨rfl, rfl⟩ dX11_lay_40 rfl ⟨_, rfl, ⟨by omega, by omega⟩, hI, (tw_F_rf), by omega, (by first | exact Or.inl (by omega) | exact Or.inr (Or.inl ⟨by omega, by omega⟩) | exact Or.inr (Or.inr (Or.inl ⟨by omega, by omega, by omega⟩)) | exact Or.inr (Or.inr (Or.inr ⟨by omega, by omega, by omega, by omega⟩))), (by first | exact Or.inl (by omega) | exact Or.inr (Or.inl ⟨by omega, by omega⟩) | exact Or.inr (Or.inr (Or.inl ⟨by omega, by omega, by omega⟩)) | exact Or.inr (Or.inr (Or.inr ⟨by omega, by omega, by omega, by omega⟩))), (by first | exact Or.inl (by omega) | exact Or.inr (Or.inl ⟨by omega, by omega⟩) | exact Or.inr (Or.inr (Or.inl ⟨by omega, by omega, by omega⟩)) | exact Or.inr (Or.inr (Or.inr ⟨by omega, by omega, by omega, by omega⟩))), (by first | exact Or.inl (by omega) | exact Or.inr (Or.inl ⟨by omega, by omega⟩) | exact Or.inr (Or.inr (Or.inl ⟨by omega, by omega, by omega⟩)) | exact Or.inr (Or.inr (Or.inr ⟨by omega, by omega, by omega, by omega⟩))), (by first | exact Or.inl ⟨by omega, rfl, q25_0, q25_1⟩ | exact Or.inr ⟨by omega, fun j => hG_ 81 j _⟩ | exact Or.inr ⟨by omega, fun j => rfl⟩), (by first | exact Or.inl ⟨by omega, rfl, q25_0, q25_1⟩ | exact Or.inr ⟨by omega, fun j => hG_ 83 j _⟩ | exact Or.inr ⟨by omega, fun j => rfl⟩), (by first | exact Or.inl ⟨by omega, rfl, q25_0, q25_1⟩ | exact Or.inr ⟨by omega, fun j => hG_ 85 j _⟩ | exact Or.inr ⟨by omega, fun j => rfl⟩), (by first | exact Or.inl ⟨by omega, rfl, q25_0, q25_1⟩ | exact Or.inr ⟨by omega, fun j => hG_ 87 j _⟩ | exact Or.inr ⟨by omega, fun j => rfl⟩)⟩
      · refine j_bipush (pc := 26) dX11_lay_26 rfl ?_
        exact j_iret (pc := 28) ⟨rfl, rfl⟩ dX11_lay_28 rfl ⟨_, rfl, ⟨by omega, by omega⟩, hI, (tw_F_rf), by omega, (by first | exact Or.inl (by omega) | exact Or.inr (Or.inl ⟨by omega, by omega⟩) | exact Or.inr (Or.inr (Or.inl ⟨by omega, by omega, by omega⟩)) | exact Or.inr (Or.inr (Or.inr ⟨by omega, by omega, by omega, by omega⟩))), (by first | exact Or.inl (by omega) | exact Or.inr (Or.inl ⟨by omega, by omega⟩) | exact Or.inr (Or.inr (Or.inl ⟨by omega, by omega, by omega⟩)) | exact Or.inr (Or.inr (Or.inr ⟨by omega, by omega, by omega, by omega⟩))), (by first | exact Or.inl (by omega) | exact Or.inr (Or.inl ⟨by omega, by omega⟩) | exact Or.inr (Or.inr (Or.inl ⟨by omega, by omega, by omega⟩)) | exact Or.inr (Or.inr (Or.inr ⟨by omega, by omega, by omega, by omega⟩))), (by first | exact Or.inl (by omega) | exact Or.inr (Or.inl ⟨by omega, by omega⟩) | exact Or.inr (Or.inr (Or.inl ⟨by omega, by omega, by omega⟩)) | exact Or.inr (Or.inr (Or.inr ⟨by omega, by omega, by omega, by omega⟩))), (by first | exact Or.inl ⟨by omega, rfl, q3_0, q3_1⟩ | exact Or.inr ⟨by omega, fun j => hG_ 81 j _⟩ | exact Or.inr ⟨by omega, fun j => rfl⟩), (by first | exact Or.inl ⟨by omega, rfl, q3_0, q3_1⟩ | exact Or.inr ⟨by omega, fun j => hG_ 83 j _⟩ | exact Or.inr ⟨by omega, fun j => rfl⟩), (by first | exact Or.inl ⟨by omega, rfl, q3_0, q3_1⟩ | exact Or.inr ⟨by omega, fun j => hG_ 85 j _⟩ | exact Or.inr ⟨by omega, fun j => rfl⟩), (by first | exact Or.inl ⟨by omega, rfl, q3_0, q3_1⟩ | exact Or.inr ⟨by omega, fun j => hG_ 87 j _⟩ | exact Or.inr ⟨by omega, fun j => rfl⟩)⟩
    · refine j_aald (pc := 15) (r := 84) dX11_lay_15 (a_79 hX) (by omega) (by rw [h6]; decide) (by rw [h6]; rfl) (by decide) ?_
      refine j_astore (pc := 16) (i := 4) (ls' := [(2, vI i), (3, vI v), (4, vR 84)]) [3, 4, 0] dX11_lay_16 (Nat.le_of_ble_eq_true rfl) rfl rfl ?_
      refine j_aload (pc := 18) dX11_lay_18 rfl ?_
      refine j_getI (pc := 20) fl_X11_409 dX11_lay_20 (a_84 hX) rfl ?_
      have f35 : (0 : Int) ≤ σ 84 1 ∧ σ 84 1 ≤ 1 := hI 84 1
      refine j_ifR_ne (pc := 23) (tgt := 29) ⟨by omega, by omega⟩ dX11_lay_23 rfl (fun h36 => ?_) (fun h36 => ?_)
      · refine j_aload (pc := 29) dX11_lay_29 rfl ?_
        refine j_iload_n (pc := 31) dX11_lay_31 rfl rfl ?_
        refine j_callV (pc := 32) (As := [vI i]) (st := []) (c_X8_has 84 (s_Sheet_84 hX) i ⟨by omega, by omega⟩ σ hI) mv_X11_412 rfl rfl rfl (a_84 hX) dX11_lay_32 ⟨Nat.le_of_ble_eq_true rfl, Nat.le_of_ble_eq_true rfl⟩ ⟨Nat.le_refl _, Nat.le_refl _⟩ rfl (Nat.le_of_ble_eq_true rfl) rfl (fun z37 σ38 hz37 => ?_)
        obtain ⟨r40, rfl, hr40, rfl, q39_0⟩ := hz37
        replace q39_0 : (r40 = 1 ∧ σ 84 1 = 1 ∧ 0 ≤ i ∧ i < σ 84 3 ∧ i < 40) ∨ (r40 = 0 ∧ ¬ (σ 84 1 = 1 ∧ 0 ≤ i ∧ i < σ 84 3)) := q39_0
        refine j_st (st' := [vI r40]) rfl ?_
        refine j_ifR_ne (pc := 35) (tgt := 41) ⟨by omega, by omega⟩ dX11_lay_35 rfl (fun h41 => ?_) (fun h41 => ?_)
        · refine j_aload (pc := 41) dX11_lay_41 rfl ?_
          refine j_iload_n (pc := 43) dX11_lay_43 rfl rfl ?_
          refine j_iload_n (pc := 44) dX11_lay_44 rfl rfl ?_
          refine j_callV (pc := 45) (As := [vI i, vI v]) (st := []) (c_X8_set 84 (s_Sheet_84 hX) i ⟨by omega, by omega⟩ v ⟨by omega, by omega⟩ σ hI) mv_X11_413 rfl rfl rfl (a_84 hX) dX11_lay_45 ⟨Nat.le_of_ble_eq_true rfl, Nat.le_of_ble_eq_true rfl⟩ ⟨Nat.le_refl _, Nat.le_refl _⟩ rfl (Nat.le_of_ble_eq_true rfl) rfl (fun z42 σ43 hz42 => ?_)
          obtain ⟨rfl, hIσ43, hGσ43, q44_0, q44_1⟩ := hz42
          replace q44_0 : σ43 85 i.toNat = nrw (σ 84 2) v := q44_0
          replace q44_1 : ∀ j : Nat, ¬ j = i.toNat → σ43 85 j = σ 85 j := q44_1
          have hFσ43 : tw_F (fun c j => c = 81 ∨ c = 83 ∨ c = 85 ∨ c = 87) σ σ43 := tw_F_tr (tw_F_rf) hGσ43 (fun c j q => (show c = 81 ∨ c = 83 ∨ c = 85 ∨ c = 87 from by replace q : c = 85 := q; exact (Or.inr (Or.inr (Or.inl q)))))
          refine j_st (st' := []) rfl ?_
          refine j_iconst (pc := 48) dX11_lay_48 ?_
          have y46 : σ43 81 (i.toNat) = σ 81 (i.toNat) := (hGσ43 81 (i.toNat) (show ¬ (81 = 85) from by decide))
          have y47 : σ43 83 (i.toNat) = σ 83 (i.toNat) := (hGσ43 83 (i.toNat) (show ¬ (83 = 85) from by decide))
          have y48 : σ43 87 (i.toNat) = σ 87 (i.toNat) := (hGσ43 87 (i.toNat) (show ¬ (87 = 85) from by decide))
          exact j_iret (pc := 49) ⟨rfl, rfl⟩ dX11_lay_49 rfl ⟨_, rfl, ⟨by omega, by omega⟩, hIσ43, hFσ43, by omega, (by first | exact Or.inl (by omega) | exact Or.inr (Or.inl ⟨by omega, by omega⟩) | exact Or.inr (Or.inr (Or.inl ⟨by omega, by omega, by omega⟩)) | exact Or.inr (Or.inr (Or.inr ⟨by omega, by omega, by omega, by omega⟩))), (by first | exact Or.inl (by omega) | exact Or.inr (Or.inl ⟨by omega, by omega⟩) | exact Or.inr (Or.inr (Or.inl ⟨by omega, by omega, by omega⟩)) | exact Or.inr (Or.inr (Or.inr ⟨by omega, by omega, by omega, by omega⟩))), (by first | exact Or.inl (by omega) | exact Or.inr (Or.inl ⟨by omega, by omega⟩) | exact Or.inr (Or.inr (Or.inl ⟨by omega, by omega, by omega⟩)) | exact Or.inr (Or.inr (Or.inr ⟨by omega, by omega, by omega, by omega⟩))), (by first | exact Or.inl (by omega) | exact Or.inr (Or.inl ⟨by omega, by omega⟩) | exact Or.inr (Or.inr (Or.inl ⟨by omega, by omega, by omega⟩)) | exact Or.inr (Or.inr (Or.inr ⟨by omega, by omega, by omega, by omega⟩))), (by first | exact Or.inl ⟨by omega, rfl, q44_0, q44_1⟩ | exact Or.inr ⟨by omega, fun j => hGσ43 81 j (show ¬ (81 = 85) from by decide)⟩ | exact Or.inr ⟨by omega, fun j => rfl⟩), (by first | exact Or.inl ⟨by omega, rfl, q44_0, q44_1⟩ | exact Or.inr ⟨by omega, fun j => hGσ43 83 j (show ¬ (83 = 85) from by decide)⟩ | exact Or.inr ⟨by omega, fun j => rfl⟩), (by first | exact Or.inl ⟨by omega, rfl, q44_0, q44_1⟩ | exact Or.inr ⟨by omega, fun j => hGσ43 85 j (show ¬ (85 = 85) from by decide)⟩ | exact Or.inr ⟨by omega, fun j => rfl⟩), (by first | exact Or.inl ⟨by omega, rfl, q44_0, q44_1⟩ | exact Or.inr ⟨by omega, fun j => hGσ43 87 j (show ¬ (87 = 85) from by decide)⟩ | exact Or.inr ⟨by omega, fun j => rfl⟩)⟩
        · refine j_bipush (pc := 38) dX11_lay_38 rfl ?_
          exact j_iret (pc := 40) ⟨rfl, rfl⟩ dX11_lay_40 rfl ⟨_, rfl, ⟨by omega, by omega⟩, hI, (tw_F_rf), by omega, (by first | exact Or.inl (by omega) | exact Or.inr (Or.inl ⟨by omega, by omega⟩) | exact Or.inr (Or.inr (Or.inl ⟨by omega, by omega, by omega⟩)) | exact Or.inr (Or.inr (Or.inr ⟨by omega, by omega, by omega, by omega⟩))), (by first | exact Or.inl (by omega) | exact Or.inr (Or.inl ⟨by omega, by omega⟩) | exact Or.inr (Or.inr (Or.inl ⟨by omega, by omega, by omega⟩)) | exact Or.inr (Or.inr (Or.inr ⟨by omega, by omega, by omega, by omega⟩))), (by first | exact Or.inl (by omega) | exact Or.inr (Or.inl ⟨by omega, by omega⟩) | exact Or.inr (Or.inr (Or.inl ⟨by omega, by omega, by omega⟩)) | exact Or.inr (Or.inr (Or.inr ⟨by omega, by omega, by omega, by omega⟩))), (by first | exact Or.inl (by omega) | exact Or.inr (Or.inl ⟨by omega, by omega⟩) | exact Or.inr (Or.inr (Or.inl ⟨by omega, by omega, by omega⟩)) | exact Or.inr (Or.inr (Or.inr ⟨by omega, by omega, by omega, by omega⟩))), (by first | exact Or.inl ⟨by omega, rfl, q39_0, q39_1⟩ | exact Or.inr ⟨by omega, fun j => hG_ 81 j _⟩ | exact Or.inr ⟨by omega, fun j => rfl⟩), (by first | exact Or.inl ⟨by omega, rfl, q39_0, q39_1⟩ | exact Or.inr ⟨by omega, fun j => hG_ 83 j _⟩ | exact Or.inr ⟨by omega, fun j => rfl⟩), (by first | exact Or.inl ⟨by omega, rfl, q39_0, q39_1⟩ | exact Or.inr ⟨by omega, fun j => hG_ 85 j _⟩ | exact Or.inr ⟨by omega, fun j => rfl⟩), (by first | exact Or.inl ⟨by omega, rfl, q39_0, q39_1⟩ | exact Or.inr ⟨by omega, fun j => hG_ 87 j _⟩ | exact Or.inr ⟨by omega, fun j => rfl⟩)⟩
      · refine j_bipush (pc := 26) dX11_lay_26 rfl ?_
        exact j_iret (pc := 28) ⟨rfl, rfl⟩ dX11_lay_28 rfl ⟨_, rfl, ⟨by omega, by omega⟩, hI, (tw_F_rf), by omega, (by first | exact Or.inl (by omega) | exact Or.inr (Or.inl ⟨by omega, by omega⟩) | exact Or.inr (Or.inr (Or.inl ⟨by omega, by omega, by omega⟩)) | exact Or.inr (Or.inr (Or.inr ⟨by omega, by omega, by omega, by omega⟩))), (by first | exact Or.inl (by omega) | exact Or.inr (Or.inl ⟨by omega, by omega⟩) | exact Or.inr (Or.inr (Or.inl ⟨by omega, by omega, by omega⟩)) | exact Or.inr (Or.inr (Or.inr ⟨by omega, by omega, by omega, by omega⟩))), (by first | exact Or.inl (by omega) | exact Or.inr (Or.inl ⟨by omega, by omega⟩) | exact Or.inr (Or.inr (Or.inl ⟨by omega, by omega, by omega⟩)) | exact Or.inr (Or.inr (Or.inr ⟨by omega, by omega, by omega, by omega⟩))), (by first | exact Or.inl (by omega) | exact Or.inr (Or.inl ⟨by omega, by omega⟩) | exact Or.inr (Or.inr (Or.inl ⟨by omega, by omega, by omega⟩)) | exact Or.inr (Or.inr (Or.inr ⟨by omega, by omega, by omega, by omega⟩))), (by first | exact Or.inl ⟨by omega, rfl, q3_0, q3_1⟩ | exact Or.inr ⟨by omega, fun j => hG_ 81 j _⟩ | exact Or.inr ⟨by omega, fun j => rfl⟩), (by first | exact Or.inl ⟨by omega, rfl, q3_0, q3_1⟩ | exact Or.inr ⟨by omega, fun j => hG_ 83 j _⟩ | exact Or.inr ⟨by omega, fun j => rfl⟩), (by first | exact Or.inl ⟨by omega, rfl, q3_0, q3_1⟩ | exact Or.inr ⟨by omega, fun j => hG_ 85 j _⟩ | exact Or.inr ⟨by omega, fun j => rfl⟩), (by first | exact Or.inl ⟨by omega, rfl, q3_0, q3_1⟩ | exact Or.inr ⟨by omega, fun j => hG_ 87 j _⟩ | exact Or.inr ⟨by omega, fun j => rfl⟩)⟩
    · refine j_aald (pc := 15) (r := 86) dX11_lay_15 (a_79 hX) (by omega) (by rw [h6]; decide) (by rw [h6]; rfl) (by decide) ?_
      refine j_astore (pc := 16) (i := 4) (ls' := [(2, vI i), (3, vI v), (4, vR 86)]) [3, 4, 0] dX11_lay_16 (Nat.le_of_ble_eq_true rfl) rfl rfl ?_
      refine j_aload (pc := 18) dX11_lay_18 rfl ?_
      refine j_getI (pc := 20) fl_X11_409 dX11_lay_20 (a_86 hX) rfl ?_
      have f49 : (0 : Int) ≤ σ 86 1 ∧ σ 86 1 ≤ 1 := hI 86 1
      refine j_ifR_ne (pc := 23) (tgt := 29) ⟨by omega, by omega⟩ dX11_lay_23 rfl (fun h50 => ?_) (fun h50 => ?_)
      · refine j_aload (pc := 29) dX11_lay_29 rfl ?_
        refine j_iload_n (pc := 31) dX11_lay_31 rfl rfl ?_
        refine j_callV (pc := 32) (As := [vI i]) (st := []) (c_X8_has 86 (s_Sheet_86 hX) i ⟨by omega, by omega⟩ σ hI) mv_X11_412 rfl rfl rfl (a_86 hX) dX11_lay_32 ⟨Nat.le_of_ble_eq_true rfl, Nat.le_of_ble_eq_true rfl⟩ ⟨Nat.le_refl _, Nat.le_refl _⟩ rfl (Nat.le_of_ble_eq_true rfl) rfl (fun z51 σ52 hz51 => ?_)
        obtain ⟨r54, rfl, hr54, rfl, q53_0⟩ := hz51
        replace q53_0 : (r54 = 1 ∧ σ 86 1 = 1 ∧ 0 ≤ i ∧ i < σ 86 3 ∧ i < 40) ∨ (r54 = 0 ∧ ¬ (σ 86 1 = 1 ∧ 0 ≤ i ∧ i < σ 86 3)) := q53_0
        refine j_st (st' := [vI r54]) rfl ?_
        refine j_ifR_ne (pc := 35) (tgt := 41) ⟨by omega, by omega⟩ dX11_lay_35 rfl (fun h55 => ?_) (fun h55 => ?_)
        · refine j_aload (pc := 41) dX11_lay_41 rfl ?_
          refine j_iload_n (pc := 43) dX11_lay_43 rfl rfl ?_
          refine j_iload_n (pc := 44) dX11_lay_44 rfl rfl ?_
          refine j_callV (pc := 45) (As := [vI i, vI v]) (st := []) (c_X8_set 86 (s_Sheet_86 hX) i ⟨by omega, by omega⟩ v ⟨by omega, by omega⟩ σ hI) mv_X11_413 rfl rfl rfl (a_86 hX) dX11_lay_45 ⟨Nat.le_of_ble_eq_true rfl, Nat.le_of_ble_eq_true rfl⟩ ⟨Nat.le_refl _, Nat.le_refl _⟩ rfl (Nat.le_of_ble_eq_true rfl) rfl (fun z56 σ57 hz56 => ?_)
          obtain ⟨rfl, hIσ57, hGσ57, q58_0, q58_1⟩ := hz56
          replace q58_0 : σ57 87 i.toNat = nrw (σ 86 2) v := q58_0
          replace q58_1 : ∀ j : Nat, ¬ j = i.toNat → σ57 87 j = σ 87 j := q58_1
          have hFσ57 : tw_F (fun c j => c = 81 ∨ c = 83 ∨ c = 85 ∨ c = 87) σ σ57 := tw_F_tr (tw_F_rf) hGσ57 (fun c j q => (show c = 81 ∨ c = 83 ∨ c = 85 ∨ c = 87 from by replace q : c = 87 := q; exact (Or.inr (Or.inr (Or.inr q)))))
          refine j_st (st' := []) rfl ?_
          refine j_iconst (pc := 48) dX11_lay_48 ?_
          have y60 : σ57 81 (i.toNat) = σ 81 (i.toNat) := (hGσ57 81 (i.toNat) (show ¬ (81 = 87) from by decide))
          have y61 : σ57 83 (i.toNat) = σ 83 (i.toNat) := (hGσ57 83 (i.toNat) (show ¬ (83 = 87) from by decide))
          have y62 : σ57 85 (i.toNat) = σ 85 (i.toNat) := (hGσ57 85 (i.toNat) (show ¬ (85 = 87) from by decide))
          exact j_iret (pc := 49) ⟨rfl, rfl⟩ dX11_lay_49 rfl ⟨_, rfl, ⟨by omega, by omega⟩, hIσ57, hFσ57, by omega, (by first | exact Or.inl (by omega) | exact Or.inr (Or.inl ⟨by omega, by omega⟩) | exact Or.inr (Or.inr (Or.inl ⟨by omega, by omega, by omega⟩)) | exact Or.inr (Or.inr (Or.inr ⟨by omega, by omega, by omega, by omega⟩))), (by first | exact Or.inl (by omega) | exact Or.inr (Or.inl ⟨by omega, by omega⟩) | exact Or.inr (Or.inr (Or.inl ⟨by omega, by omega, by omega⟩)) | exact Or.inr (Or.inr (Or.inr ⟨by omega, by omega, by omega, by omega⟩))), (by first | exact Or.inl (by omega) | exact Or.inr (Or.inl ⟨by omega, by omega⟩) | exact Or.inr (Or.inr (Or.inl ⟨by omega, by omega, by omega⟩)) | exact Or.inr (Or.inr (Or.inr ⟨by omega, by omega, by omega, by omega⟩))), (by first | exact Or.inl (by omega) | exact Or.inr (Or.inl ⟨by omega, by omega⟩) | exact Or.inr (Or.inr (Or.inl ⟨by omega, by omega, by omega⟩)) | exact Or.inr (Or.inr (Or.inr ⟨by omega, by omega, by omega, by omega⟩))), (by first | exact Or.inl ⟨by omega, rfl, q58_0, q58_1⟩ | exact Or.inr ⟨by omega, fun j => hGσ57 81 j (show ¬ (81 = 87) from by decide)⟩ | exact Or.inr ⟨by omega, fun j => rfl⟩), (by first | exact Or.inl ⟨by omega, rfl, q58_0, q58_1⟩ | exact Or.inr ⟨by omega, fun j => hGσ57 83 j (show ¬ (83 = 87) from by decide)⟩ | exact Or.inr ⟨by omega, fun j => rfl⟩), (by first | exact Or.inl ⟨by omega, rfl, q58_0, q58_1⟩ | exact Or.inr ⟨by omega, fun j => hGσ57 85 j (show ¬ (85 = 87) from by decide)⟩ | exact Or.inr ⟨by omega, fun j => rfl⟩), (by first | exact Or.inl ⟨by omega, rfl, q58_0, q58_1⟩ | exact Or.inr ⟨by omega, fun j => hGσ57 87 j (show ¬ (87 = 87) from by decide)⟩ | exact Or.inr ⟨by omega, fun j => rfl⟩)⟩
        · refine j_bipush (pc := 38) dX11_lay_38 rfl ?_
          exact j_iret (pc := 40) ⟨rfl, rfl⟩ dX11_lay_40 rfl ⟨_, rfl, ⟨by omega, by omega⟩, hI, (tw_F_rf), by omega, (by first | exact Or.inl (by omega) | exact Or.inr (Or.inl ⟨by omega, by omega⟩) | exact Or.inr (Or.inr (Or.inl ⟨by omega, by omega, by omega⟩)) | exact Or.inr (Or.inr (Or.inr ⟨by omega, by omega, by omega, by omega⟩))), (by first | exact Or.inl (by omega) | exact Or.inr (Or.inl ⟨by omega, by omega⟩) | exact Or.inr (Or.inr (Or.inl ⟨by omega, by omega, by omega⟩)) | exact Or.inr (Or.inr (Or.inr ⟨by omega, by omega, by omega, by omega⟩))), (by first | exact Or.inl (by omega) | exact Or.inr (Or.inl ⟨by omega, by omega⟩) | exact Or.inr (Or.inr (Or.inl ⟨by omega, by omega, by omega⟩)) | exact Or.inr (Or.inr (Or.inr ⟨by omega, by omega, by omega, by omega⟩))), (by first | exact Or.inl (by omega) | exact Or.inr (Or.inl ⟨by omega, by omega⟩) | exact Or.inr (Or.inr (Or.inl ⟨by omega, by omega, by omega⟩)) | exact Or.inr (Or.inr (Or.inr ⟨by omega, by omega, by omega, by omega⟩))), (by first | exact Or.inl ⟨by omega, rfl, q53_0, q53_1⟩ | exact Or.inr ⟨by omega, fun j => hG_ 81 j _⟩ | exact Or.inr ⟨by omega, fun j => rfl⟩), (by first | exact Or.inl ⟨by omega, rfl, q53_0, q53_1⟩ | exact Or.inr ⟨by omega, fun j => hG_ 83 j _⟩ | exact Or.inr ⟨by omega, fun j => rfl⟩), (by first | exact Or.inl ⟨by omega, rfl, q53_0, q53_1⟩ | exact Or.inr ⟨by omega, fun j => hG_ 85 j _⟩ | exact Or.inr ⟨by omega, fun j => rfl⟩), (by first | exact Or.inl ⟨by omega, rfl, q53_0, q53_1⟩ | exact Or.inr ⟨by omega, fun j => hG_ 87 j _⟩ | exact Or.inr ⟨by omega, fun j => rfl⟩)⟩
      · refine j_bipush (pc := 26) dX11_lay_26 rfl ?_
        exact j_iret (pc := 28) ⟨rfl, rfl⟩ dX11_lay_28 rfl ⟨_, rfl, ⟨by omega, by omega⟩, hI, (tw_F_rf), by omega, (by first | exact Or.inl (by omega) | exact Or.inr (Or.inl ⟨by omega, by omega⟩) | exact Or.inr (Or.inr (Or.inl ⟨by omega, by omega, by omega⟩)) | exact Or.inr (Or.inr (Or.inr ⟨by omega, by omega, by omega, by omega⟩))), (by first | exact Or.inl (by omega) | exact Or.inr (Or.inl ⟨by omega, by omega⟩) | exact Or.inr (Or.inr (Or.inl ⟨by omega, by omega, by omega⟩)) | exact Or.inr (Or.inr (Or.inr ⟨by omega, by omega, by omega, by omega⟩))), (by first | exact Or.inl (by omega) | exact Or.inr (Or.inl ⟨by omega, by omega⟩) | exact Or.inr (Or.inr (Or.inl ⟨by omega, by omega, by omega⟩)) | exact Or.inr (Or.inr (Or.inr ⟨by omega, by omega, by omega, by omega⟩))), (by first | exact Or.inl (by omega) | exact Or.inr (Or.inl ⟨by omega, by omega⟩) | exact Or.inr (Or.inr (Or.inl ⟨by omega, by omega, by omega⟩)) | exact Or.inr (Or.inr (Or.inr ⟨by omega, by omega, by omega, by omega⟩))), (by first | exact Or.inl ⟨by omega, rfl, q3_0, q3_1⟩ | exact Or.inr ⟨by omega, fun j => hG_ 81 j _⟩ | exact Or.inr ⟨by omega, fun j => rfl⟩), (by first | exact Or.inl ⟨by omega, rfl, q3_0, q3_1⟩ | exact Or.inr ⟨by omega, fun j => hG_ 83 j _⟩ | exact Or.inr ⟨by omega, fun j => rfl⟩), (by first | exact Or.inl ⟨by omega, rfl, q3_0, q3_1⟩ | exact Or.inr ⟨by omega, fun j => hG_ 85 j _⟩ | exact Or.inr ⟨by omega, fun j => rfl⟩), (by first | exact Or.inl ⟨by omega, rfl, q3_0, q3_1⟩ | exact Or.inr ⟨by omega, fun j => hG_ 87 j _⟩ | exact Or.inr ⟨by omega, fun j => rfl⟩)⟩
  · refine j_iconst (pc := 8) dX11_lay_8 ?_
    exact j_iret (pc := 9) ⟨rfl, rfl⟩ dX11_lay_9 rfl ⟨_, rfl, ⟨by omega, by omega⟩, hI, (tw_F_rf), by omega, (by first | exact Or.inl (by omega) | exact Or.inr (Or.inl ⟨by omega, by omega⟩) | exact Or.inr (Or.inr (Or.inl ⟨by omega, by omega, by omega⟩)) | exact Or.inr (Or.inr (Or.inr ⟨by omega, by omega, by omega, by omega⟩))), (by first | exact Or.inl (by omega) | exact Or.inr (Or.inl ⟨by omega, by omega⟩) | exact Or.inr (Or.inr (Or.inl ⟨by omega, by omega, by omega⟩)) | exact Or.inr (Or.inr (Or.inr ⟨by omega, by omega, by omega, by omega⟩))), (by first | exact Or.inl (by omega) | exact Or.inr (Or.inl ⟨by omega, by omega⟩) | exact Or.inr (Or.inr (Or.inl ⟨by omega, by omega, by omega⟩)) | exact Or.inr (Or.inr (Or.inr ⟨by omega, by omega, by omega, by omega⟩))), (by first | exact Or.inl (by omega) | exact Or.inr (Or.inl ⟨by omega, by omega⟩) | exact Or.inr (Or.inr (Or.inl ⟨by omega, by omega, by omega⟩)) | exact Or.inr (Or.inr (Or.inr ⟨by omega, by omega, by omega, by omega⟩))), (by first | exact Or.inl ⟨by omega, rfl, q3_0, q3_1⟩ | exact Or.inr ⟨by omega, fun j => hG_ 81 j _⟩ | exact Or.inr ⟨by omega, fun j => rfl⟩), (by first | exact Or.inl ⟨by omega, rfl, q3_0, q3_1⟩ | exact Or.inr ⟨by omega, fun j => hG_ 83 j _⟩ | exact Or.inr ⟨by omega, fun j => rfl⟩), (by first | exact Or.inl ⟨by omega, rfl, q3_0, q3_1⟩ | exact Or.inr ⟨by omega, fun j => hG_ 85 j _⟩ | exact Or.inr ⟨by omega, fun j => rfl⟩), (by first | exact Or.inl ⟨by omega, rfl, q3_0, q3_1⟩ | exact Or.inr ⟨by omega, fun j => hG_ 87 j _⟩ | exact Or.inr ⟨by omega, fun j => rfl⟩)⟩
abbrev q_X11_read (k : Int) (l : Int) (f : Int) (n : Int) (σ : tw_M) : Option tw_V → tw_M → Prop := fun z τ => ∃ r : Int, z = some (vI r) ∧ (-2147483648 ≤ r ∧ r ≤ 2147483647) ∧ tw_I τ ∧ tw_F (fun c j => (23 ≤ c ∧ c < 31) ∨ (47 ≤ c ∧ c < 55) ∨ (c = 0 ∧ (j = 14))) σ τ ∧ (τ 29 0 = σ 29 0) ∧ (τ 30 0 = σ 30 0) ∧ (τ 29 1 = σ 29 1) ∧ (τ 30 1 = σ 30 1) ∧ (∀ gg qq rk : Nat → Int, RG 24 gg qq σ → CNR rk gg 28 σ → (r = -1 ∧ ¬ (0 ≤ k ∧ k ≤ 3 ∧ 0 ≤ l ∧ l ≤ 2 ∧ 0 ≤ n ∧ n ≤ 10) ∧ ∀ c j, τ c j = σ c j) ∨ ((0 ≤ k ∧ k ≤ 3 ∧ 0 ≤ l ∧ l ≤ 2 ∧ 0 ≤ n ∧ n ≤ 10) ∧ ∃ cz : Int, ((cz = 0 ∧ 0 < n ∧ r = 0 ∧ τ 0 14 = 1 ∧ σ (80 + 2 * k.toNat) 1 = 0) ∨ (cz = 0 ∧ 0 < n ∧ r = 0 ∧ τ 0 14 = 3 ∧ ¬ σ (80 + 2 * k.toNat) 1 = 0 ∧ ¬ σ (80 + 2 * k.toNat) 2 = l) ∨ ((n = 0 ∨ (¬ σ (80 + 2 * k.toNat) 1 = 0 ∧ σ (80 + 2 * k.toNat) 2 = l)) ∧ RDE (rdF (σ (80 + 2 * k.toNat) 3) f) (fun x => rdO (wW 1 σ) rk (CC (81 + 2 * k.toNat) σ) f gg x = 0) n cz r (τ 0 14))) ∧ ((0 ≤ r ∧ RDX rk (CC (81 + 2 * k.toNat) σ) f gg qq cz.toNat τ) ∨ (r < 0 ∧ RDX rk (CC (81 + 2 * k.toNat) σ) f gg qq 0 τ ∧ τ 0 14 = σ 0 14)))) ∧ (τ 23 4 = σ 23 4) ∧ (τ 23 5 = σ 23 5)
set_option maxHeartbeats 4000000 in
set_option maxRecDepth 100000 in
theorem l_X11_read {G : tw_G} (hX : tw_isX G) (k : Int) (hk : -2147483648 ≤ k ∧ k ≤ 2147483647) (l : Int) (hl : -2147483648 ≤ l ∧ l ≤ 2147483647) (f : Int) (hf : -2147483648 ≤ f ∧ f ≤ 2147483647) (n : Int) (hn : -2147483648 ≤ n ∧ n ≤ 2147483647) (σ : tw_M) (hI : tw_I σ) : ∀ N_ : Nat, (∀ (s : Nat) (hs : IsSheet G s) (m : Int) (hm : 0 ≤ m ∧ m ≤ 3) (c : Int) (hc : 0 ≤ c ∧ c ≤ 10) (i : Int) (hi : 0 ≤ i ∧ i ≤ 10) (τ : tw_M) (hIτ : tw_I τ) (hFτ : tw_F (fun c j => (23 ≤ c ∧ c < 31) ∨ (47 ≤ c ∧ c < 55) ∨ (c = 0 ∧ (j = 14))) σ τ) (i0 : c ≤ i) (i1 : n ≤ 10) (i2 : 0 ≤ n) (i3 : τ 29 0 = σ 29 0) (i4 : τ 30 0 = σ 30 0) (i5 : τ 29 1 = σ 29 1) (i6 : τ 30 1 = σ 30 1) (i7 : τ 53 0 = σ 29 0) (i8 : τ 54 0 = σ 30 0) (i9 : τ 53 1 = σ 29 1) (i10 : τ 54 1 = σ 30 1) (i11 : (s : Int) = 80 + 2 * k) (i12 : CPY 47 23 σ τ) (i13 : τ 0 14 = σ 0 14) (i14 : (m = 0 ∧ c = i) ∨ (m = 2 ∧ c + 1 = i ∧ ¬ (0 ≤ f + 2 * c ∧ f + 2 * c + 1 < σ s 3)) ∨ (m = 1 ∧ c = 0 ∧ i = 0 ∧ 0 < n ∧ σ s 1 = 0) ∨ (m = 3 ∧ c = 0 ∧ i = 0 ∧ 0 < n ∧ ¬ σ s 1 = 0 ∧ ¬ σ s 2 = l)) (i15 : m = 1 ∨ m = 3 ∨ n = 0 ∨ (¬ σ s 1 = 0 ∧ σ s 2 = l)) (i16 : c ≤ n) (i17 : i ≤ n) (i18 : 0 ≤ k ∧ k ≤ 3 ∧ 0 ≤ l ∧ l ≤ 2) (i19 : τ 23 4 = σ 23 4) (i20 : τ 23 5 = σ 23 5) (i21 : ∀ gg qq rk : Nat → Int, RG 24 gg qq σ → CNR rk gg 28 σ → RDX rk (CC (s + 1) σ) f gg qq c.toNat τ ∧ ∀ x : Nat, (x : Int) < c → rdF (σ s 3) f x ∧ rdO (wW 1 σ) rk (CC (s + 1) σ) f gg x = 0) (hm : (10 - i).toNat < N_), tw_J G (tw_mt RX11 cX11_read 10 (some .int) 2) (tw_E G (q_X11_read k l f n σ)) 90 [(0, vR 0), (3, vI f), (4, vI n), (5, vR s), (6, vI m), (7, vI c), (8, vI i)] [] τ) := by
  intro N_
  induction N_ with
  | zero => exact fun s hs m hm c hc i hi τ hIτ hFτ i0 i1 i2 i3 i4 i5 i6 i7 i8 i9 i10 i11 i12 i13 i14 i15 i16 i17 i18 i19 i20 i21 hm => absurd hm (Nat.not_lt_zero _)
  | succ N_ ih =>
    intro s hs m hm c hc i hi τ hIτ hFτ i0 i1 i2 i3 i4 i5 i6 i7 i8 i9 i10 i11 i12 i13 i14 i15 i16 i17 i18 i19 i20 i21 hm
    have s1 : τ s 1 = σ s 1 := hFτ s 1 (show ¬ ((23 ≤ s ∧ s < 31) ∨ (47 ≤ s ∧ s < 55) ∨ (s = 0 ∧ (1 = 14))) from by omega)
    have s2 : τ s 2 = σ s 2 := hFτ s 2 (show ¬ ((23 ≤ s ∧ s < 31) ∨ (47 ≤ s ∧ s < 55) ∨ (s = 0 ∧ (2 = 14))) from by omega)
    have s3 : τ s 3 = σ s 3 := hFτ s 3 (show ¬ ((23 ≤ s ∧ s < 31) ∨ (47 ≤ s ∧ s < 55) ∨ (s = 0 ∧ (3 = 14))) from by omega)
    have f3 : (0 : Int) ≤ σ s 3 ∧ σ s 3 ≤ 40 := tw_Ig hs.2.1 hI 3
    have f1 : (0 : Int) ≤ σ s 1 ∧ σ s 1 ≤ 1 := tw_Ig hs.2.1 hI 1
    have W1 : wW 1 τ = wW 1 σ := wW_F (fun c j a b => hFτ c j (show ¬ ((23 ≤ c ∧ c < 31) ∨ (47 ≤ c ∧ c < 55) ∨ (c = 0 ∧ (j = 14))) from by omega))
    have w1h : wW 1 σ 100 ≤ 40 := by (have r0 : wW 1 σ 100 = σ 2 0 := wW_r (w := 1) (j := 0) (by decide)); (have ft : (1 : Int) ≤ σ 2 0 ∧ σ 2 0 ≤ 40 := hI 2 0); omega
    refine j_iload (pc := 90) dX11_read_90 rfl ?_
    refine j_iload (pc := 92) dX11_read_92 rfl ?_
    refine j_icmpR_ge (pc := 94) (tgt := 196) ⟨by omega, by omega⟩ ⟨by omega, by omega⟩ dX11_read_94 rfl (fun h1 => ?_) (fun h1 => ?_)
    · refine j_aload_n (pc := 196) dX11_read_196 rfl rfl ?_
      refine j_iload (pc := 197) dX11_read_197 rfl ?_
      refine j_putI (pc := 199) fl_X11_95 fp_X11_14 dX11_read_199 (a_0 hX) rfl (j_nm (fun σ2 (eσ2 : σ2 = tw_up τ 0 14 m) => ?_))
      have hIσ2 : tw_I σ2 := tw_I_up hIτ eσ2 (show (-2147483648 : Int) ≤ m ∧ m ≤ 2147483647 from ⟨by omega, by omega⟩)
      have hFσ2 : tw_F (fun c j => (23 ≤ c ∧ c < 31) ∨ (47 ≤ c ∧ c < 55) ∨ (c = 0 ∧ (j = 14))) σ σ2 := tw_F_up hFτ eσ2 (show (23 ≤ 0 ∧ 0 < 31) ∨ (47 ≤ 0 ∧ 0 < 55) ∨ (0 = 0 ∧ (14 = 14)) from (Or.inr (Or.inr ⟨rfl, rfl⟩)))
      refine j_iload (pc := 202) dX11_read_202 rfl ?_
      have t9 : σ2 0 14 = m := tw_eq1 eσ2
      have fin : ∀ gg qq rk : Nat → Int, RG 24 gg qq σ → CNR rk gg 28 σ → (c = -1 ∧ ¬ (0 ≤ k ∧ k ≤ 3 ∧ 0 ≤ l ∧ l ≤ 2 ∧ 0 ≤ n ∧ n ≤ 10) ∧ ∀ c j, σ2 c j = σ c j) ∨ ((0 ≤ k ∧ k ≤ 3 ∧ 0 ≤ l ∧ l ≤ 2 ∧ 0 ≤ n ∧ n ≤ 10) ∧ ∃ cz : Int, ((cz = 0 ∧ 0 < n ∧ c = 0 ∧ σ2 0 14 = 1 ∧ σ (80 + 2 * k.toNat) 1 = 0) ∨ (cz = 0 ∧ 0 < n ∧ c = 0 ∧ σ2 0 14 = 3 ∧ ¬ σ (80 + 2 * k.toNat) 1 = 0 ∧ ¬ σ (80 + 2 * k.toNat) 2 = l) ∨ ((n = 0 ∨ (¬ σ (80 + 2 * k.toNat) 1 = 0 ∧ σ (80 + 2 * k.toNat) 2 = l)) ∧ RDE (rdF (σ (80 + 2 * k.toNat) 3) f) (fun x => rdO (wW 1 σ) rk (CC (81 + 2 * k.toNat) σ) f gg x = 0) n cz c (σ2 0 14))) ∧ ((0 ≤ c ∧ RDX rk (CC (81 + 2 * k.toNat) σ) f gg qq cz.toNat σ2) ∨ (c < 0 ∧ RDX rk (CC (81 + 2 * k.toNat) σ) f gg qq 0 σ2 ∧ σ2 0 14 = σ 0 14))) := fun gg qq rk H C => by
        obtain ⟨a, b⟩ := i21 gg qq rk H C
        have a2 := RDX_F a (τ := σ2) (fun c j a b => ((tw_ne1 eσ2 (by (first | decide | omega)))))
        rw [show 80 + 2 * k.toNat = s from by omega, show 81 + 2 * k.toNat = s + 1 from by omega]
        refine Or.inr ⟨by omega, c, ?_, Or.inl ⟨by omega, a2⟩⟩
        rcases i14 with ⟨e1, e2⟩ | ⟨e1, e2, e3⟩ | ⟨e1, e2, e3, e4, e5⟩ | ⟨e1, e2, e3, e4, e5⟩
        · exact Or.inr (Or.inr ⟨by omega, ⟨by omega, by omega⟩, b, Or.inl ⟨by omega, by omega, by omega⟩⟩)
        · exact Or.inr (Or.inr ⟨by omega, ⟨by omega, by omega⟩, b, Or.inr (Or.inl ⟨by omega, fun z => e3 (by unfold rdF at z; omega), by omega, by omega⟩)⟩)
        · exact Or.inl ⟨by omega, by omega, by omega, by omega, e5⟩
        · exact Or.inr (Or.inl ⟨by omega, by omega, by omega, by omega, e5⟩)
      have y3 : σ2 29 0 = τ 29 0 := (tw_ne1 eσ2 (by (first | decide | omega)))
      have f4 : (0 : Int) ≤ τ 29 0 ∧ τ 29 0 ≤ 999 := hIτ 29 0
      have y5 : σ2 30 0 = τ 30 0 := (tw_ne1 eσ2 (by (first | decide | omega)))
      have f6 : (-2147483648 : Int) ≤ τ 30 0 ∧ τ 30 0 ≤ 2147483647 := hIτ 30 0
      have y7 : σ2 29 1 = τ 29 1 := (tw_ne1 eσ2 (by (first | decide | omega)))
      have f8 : (0 : Int) ≤ τ 29 1 ∧ τ 29 1 ≤ 999 := hIτ 29 1
      have y9 : σ2 30 1 = τ 30 1 := (tw_ne1 eσ2 (by (first | decide | omega)))
      have f10 : (-2147483648 : Int) ≤ τ 30 1 ∧ τ 30 1 ≤ 2147483647 := hIτ 30 1
      have y11 : σ2 0 14 = m := (tw_eq1 eσ2)
      have y12 : σ2 23 4 = τ 23 4 := (tw_ne1 eσ2 (by (first | decide | omega)))
      have f13 : (-2147483648 : Int) ≤ τ 23 4 ∧ τ 23 4 ≤ 2147483647 := hIτ 23 4
      have y14 : σ2 23 5 = τ 23 5 := (tw_ne1 eσ2 (by (first | decide | omega)))
      have f15 : (-2147483648 : Int) ≤ τ 23 5 ∧ τ 23 5 ≤ 2147483647 := hIτ 23 5
      exact j_iret (pc := 204) ⟨rfl, rfl⟩ dX11_read_204 rfl ⟨_, rfl, ⟨by omega, by omega⟩, hIσ2, hFσ2, by omega, by omega, by omega, by omega, fin, (by first | rfl | exact ((tw_ne1 eσ2 (by (first | decide | omega)))).trans i19 | exact cb9.2.2.2.1), (by first | rfl | exact ((tw_ne1 eσ2 (by (first | decide | omega)))).trans i20 | exact cb9.2.2.2.2)⟩
    · refine j_iload (pc := 97) dX11_read_97 rfl ?_
      refine j_ifR_ne (pc := 99) (tgt := 196) ⟨by omega, by omega⟩ dX11_read_99 rfl (fun h16 => ?_) (fun h16 => ?_)
      · refine j_aload_n (pc := 196) dX11_read_196 rfl rfl ?_
        refine j_iload (pc := 197) dX11_read_197 rfl ?_
        refine j_putI (pc := 199) fl_X11_95 fp_X11_14 dX11_read_199 (a_0 hX) rfl (j_nm (fun σ17 (eσ17 : σ17 = tw_up τ 0 14 m) => ?_))
        have hIσ17 : tw_I σ17 := tw_I_up hIτ eσ17 (show (-2147483648 : Int) ≤ m ∧ m ≤ 2147483647 from ⟨by omega, by omega⟩)
        have hFσ17 : tw_F (fun c j => (23 ≤ c ∧ c < 31) ∨ (47 ≤ c ∧ c < 55) ∨ (c = 0 ∧ (j = 14))) σ σ17 := tw_F_up hFτ eσ17 (show (23 ≤ 0 ∧ 0 < 31) ∨ (47 ≤ 0 ∧ 0 < 55) ∨ (0 = 0 ∧ (14 = 14)) from (Or.inr (Or.inr ⟨rfl, rfl⟩)))
        refine j_iload (pc := 202) dX11_read_202 rfl ?_
        have t9 : σ17 0 14 = m := tw_eq1 eσ17
        have fin : ∀ gg qq rk : Nat → Int, RG 24 gg qq σ → CNR rk gg 28 σ → (c = -1 ∧ ¬ (0 ≤ k ∧ k ≤ 3 ∧ 0 ≤ l ∧ l ≤ 2 ∧ 0 ≤ n ∧ n ≤ 10) ∧ ∀ c j, σ17 c j = σ c j) ∨ ((0 ≤ k ∧ k ≤ 3 ∧ 0 ≤ l ∧ l ≤ 2 ∧ 0 ≤ n ∧ n ≤ 10) ∧ ∃ cz : Int, ((cz = 0 ∧ 0 < n ∧ c = 0 ∧ σ17 0 14 = 1 ∧ σ (80 + 2 * k.toNat) 1 = 0) ∨ (cz = 0 ∧ 0 < n ∧ c = 0 ∧ σ17 0 14 = 3 ∧ ¬ σ (80 + 2 * k.toNat) 1 = 0 ∧ ¬ σ (80 + 2 * k.toNat) 2 = l) ∨ ((n = 0 ∨ (¬ σ (80 + 2 * k.toNat) 1 = 0 ∧ σ (80 + 2 * k.toNat) 2 = l)) ∧ RDE (rdF (σ (80 + 2 * k.toNat) 3) f) (fun x => rdO (wW 1 σ) rk (CC (81 + 2 * k.toNat) σ) f gg x = 0) n cz c (σ17 0 14))) ∧ ((0 ≤ c ∧ RDX rk (CC (81 + 2 * k.toNat) σ) f gg qq cz.toNat σ17) ∨ (c < 0 ∧ RDX rk (CC (81 + 2 * k.toNat) σ) f gg qq 0 σ17 ∧ σ17 0 14 = σ 0 14))) := fun gg qq rk H C => by
          obtain ⟨a, b⟩ := i21 gg qq rk H C
          have a2 := RDX_F a (τ := σ17) (fun c j a b => ((tw_ne1 eσ17 (by (first | decide | omega)))))
          rw [show 80 + 2 * k.toNat = s from by omega, show 81 + 2 * k.toNat = s + 1 from by omega]
          refine Or.inr ⟨by omega, c, ?_, Or.inl ⟨by omega, a2⟩⟩
          rcases i14 with ⟨e1, e2⟩ | ⟨e1, e2, e3⟩ | ⟨e1, e2, e3, e4, e5⟩ | ⟨e1, e2, e3, e4, e5⟩
          · exact Or.inr (Or.inr ⟨by omega, ⟨by omega, by omega⟩, b, Or.inl ⟨by omega, by omega, by omega⟩⟩)
          · exact Or.inr (Or.inr ⟨by omega, ⟨by omega, by omega⟩, b, Or.inr (Or.inl ⟨by omega, fun z => e3 (by unfold rdF at z; omega), by omega, by omega⟩)⟩)
          · exact Or.inl ⟨by omega, by omega, by omega, by omega, e5⟩
          · exact Or.inr (Or.inl ⟨by omega, by omega, by omega, by omega, e5⟩)
        have y18 : σ17 29 0 = τ 29 0 := (tw_ne1 eσ17 (by (first | decide | omega)))
        have f19 : (0 : Int) ≤ τ 29 0 ∧ τ 29 0 ≤ 999 := hIτ 29 0
        have y20 : σ17 30 0 = τ 30 0 := (tw_ne1 eσ17 (by (first | decide | omega)))
        have f21 : (-2147483648 : Int) ≤ τ 30 0 ∧ τ 30 0 ≤ 2147483647 := hIτ 30 0
        have y22 : σ17 29 1 = τ 29 1 := (tw_ne1 eσ17 (by (first | decide | omega)))
        have f23 : (0 : Int) ≤ τ 29 1 ∧ τ 29 1 ≤ 999 := hIτ 29 1
        have y24 : σ17 30 1 = τ 30 1 := (tw_ne1 eσ17 (by (first | decide | omega)))
        have f25 : (-2147483648 : Int) ≤ τ 30 1 ∧ τ 30 1 ≤ 2147483647 := hIτ 30 1
        have y26 : σ17 0 14 = m := (tw_eq1 eσ17)
        have y27 : σ17 23 4 = τ 23 4 := (tw_ne1 eσ17 (by (first | decide | omega)))
        have f28 : (-2147483648 : Int) ≤ τ 23 4 ∧ τ 23 4 ≤ 2147483647 := hIτ 23 4
        have y29 : σ17 23 5 = τ 23 5 := (tw_ne1 eσ17 (by (first | decide | omega)))
        have f30 : (-2147483648 : Int) ≤ τ 23 5 ∧ τ 23 5 ≤ 2147483647 := hIτ 23 5
        exact j_iret (pc := 204) ⟨rfl, rfl⟩ dX11_read_204 rfl ⟨_, rfl, ⟨by omega, by omega⟩, hIσ17, hFσ17, by omega, by omega, by omega, by omega, fin, (by first | rfl | exact ((tw_ne1 eσ17 (by (first | decide | omega)))).trans i19 | exact cb9.2.2.2.1), (by first | rfl | exact ((tw_ne1 eσ17 (by (first | decide | omega)))).trans i20 | exact cb9.2.2.2.2)⟩
      · refine j_iload_n (pc := 102) dX11_read_102 rfl rfl ?_
        refine j_iconst (pc := 103) dX11_read_103 ?_
        refine j_iload (pc := 104) dX11_read_104 rfl ?_
        refine j_imul (pc := 106) dX11_read_106 ?_
        refine j_iadd (pc := 107) dX11_read_107 ?_
        refine j_top (fun z31 ez31 hz31 => ?_)
        have gz31 : f + (2 * i) < -2147483648 ∨ 2147483647 < f + (2 * i) ∨ z31 = f + (2 * i) := by rw [ez31]; exact w32_or _
        have w9 : f + 2 * i ≤ 2147483647 ∨ z31 < 0 := by
          by_cases q : f + 2 * i ≤ 2147483647
          · exact Or.inl q
          · exact Or.inr (by rw [ez31]; exact w32_up (by omega) (by omega))
        refine j_istore (pc := 108) (i := 9) (ls' := [(0, vR 0), (3, vI f), (4, vI n), (5, vR s), (6, vI m), (7, vI c), (8, vI i), (9, vI z31)]) [1, 2, 3, 4, 5, 6, 7, 0] dX11_read_108 (Nat.le_of_ble_eq_true rfl) rfl rfl ?_
        refine j_aload (pc := 110) dX11_read_110 rfl ?_
        refine j_iload (pc := 112) dX11_read_112 rfl ?_
        refine j_callV (pc := 114) (As := [vI z31]) (st := []) (c_X8_has s hs z31 ⟨by omega, by omega⟩ τ hIτ) mv_X11_412 rfl rfl rfl hs.1.1 dX11_read_114 ⟨Nat.le_of_ble_eq_true rfl, Nat.le_of_ble_eq_true rfl⟩ ⟨Nat.le_refl _, Nat.le_refl _⟩ rfl (Nat.le_of_ble_eq_true rfl) rfl (fun z32 σ33 hz32 => ?_)
        obtain ⟨r35, rfl, hr35, rfl, q34_0⟩ := hz32
        replace q34_0 : (r35 = 1 ∧ τ s 1 = 1 ∧ 0 ≤ z31 ∧ z31 < τ s 3 ∧ z31 < 40) ∨ (r35 = 0 ∧ ¬ (τ s 1 = 1 ∧ 0 ≤ z31 ∧ z31 < τ s 3)) := q34_0
        refine j_st (st' := [vI r35]) rfl ?_
        refine j_ifR_eq (pc := 117) (tgt := 132) ⟨by omega, by omega⟩ dX11_read_117 rfl (fun h36 => ?_) (fun h36 => ?_)
        · refine j_iconst (pc := 132) dX11_read_132 ?_
          refine j_istore (pc := 133) (i := 6) (ls' := [(0, vR 0), (3, vI f), (4, vI n), (5, vR s), (6, vI 2), (7, vI c), (8, vI i)]) [1, 2, 3, 4, 0, 5, 6] dX11_read_133 (Nat.le_of_ble_eq_true rfl) rfl rfl ?_
          refine j_goto (pc := 135) (tgt := 190) dX11_read_135 rfl ?_
          refine j_iinc (pc := 190) (i := 8) (n := 1) (ls' := [(0, vR 0), (3, vI f), (4, vI n), (5, vR s), (6, vI 2), (7, vI c), (8, vI (i + 1))]) [1, 2, 3, 4, 5, 6, 0] dX11_read_190 rfl (Nat.le_of_ble_eq_true rfl) rfl rfl ?_
          refine j_goto (pc := 193) (tgt := 90) dX11_read_193 rfl ?_
          refine j_ls (ls' := [(0, vR 0), (3, vI f), (4, vI n), (5, vR s), (6, vI 2), (7, vI c), (8, vI (i + 1))]) [0, 1, 2, 3, 4, 5, 6] rfl ?_
          exact ih s hs 2 (by (first | decide | exact ⟨by omega, by omega⟩)) c ⟨by omega, by omega⟩ (i + 1) ⟨by omega, by omega⟩ τ hIτ hFτ (show c ≤ (i + 1) from by omega) (show n ≤ 10 from by omega) (show 0 ≤ n from by omega) (show τ 29 0 = σ 29 0 from by omega) (show τ 30 0 = σ 30 0 from by omega) (show τ 29 1 = σ 29 1 from by omega) (show τ 30 1 = σ 30 1 from by omega) (show τ 53 0 = σ 29 0 from by omega) (show τ 54 0 = σ 30 0 from by omega) (show τ 53 1 = σ 29 1 from by omega) (show τ 54 1 = σ 30 1 from by omega) (show (s : Int) = 80 + 2 * k from by omega) (show CPY 47 23 σ τ from (CPY_F i12 (fun c j a b => (rfl)))) (show τ 0 14 = σ 0 14 from by omega) (show ((2 : Int) = 0 ∧ c = (i + 1)) ∨ ((2 : Int) = 2 ∧ c + 1 = (i + 1) ∧ ¬ (0 ≤ f + 2 * c ∧ f + 2 * c + 1 < σ s 3)) ∨ ((2 : Int) = 1 ∧ c = 0 ∧ (i + 1) = 0 ∧ 0 < n ∧ σ s 1 = 0) ∨ ((2 : Int) = 3 ∧ c = 0 ∧ (i + 1) = 0 ∧ 0 < n ∧ ¬ σ s 1 = 0 ∧ ¬ σ s 2 = l) from (by first | exact Or.inl ⟨rfl, by omega⟩ | exact Or.inr (Or.inl ⟨rfl, by omega, by omega⟩) | exact Or.inr (Or.inr (Or.inl ⟨rfl, by omega, by omega, by omega, by omega⟩)) | exact Or.inr (Or.inr (Or.inr ⟨rfl, by omega, by omega, by omega, by omega, by omega⟩)) | omega)) (show (2 : Int) = 1 ∨ (2 : Int) = 3 ∨ n = 0 ∨ (¬ σ s 1 = 0 ∧ σ s 2 = l) from (by first | exact Or.inl rfl | exact Or.inr (Or.inl rfl) | exact Or.inr (Or.inr (Or.inl (by omega))) | exact Or.inr (Or.inr (Or.inr ⟨by omega, by omega⟩)) | omega)) (show c ≤ n from by omega) (show (i + 1) ≤ n from by omega) (show 0 ≤ k ∧ k ≤ 3 ∧ 0 ≤ l ∧ l ≤ 2 from by omega) (show τ 23 4 = σ 23 4 from by omega) (show τ 23 5 = σ 23 5 from by omega) (show ∀ gg qq rk : Nat → Int, RG 24 gg qq σ → CNR rk gg 28 σ → RDX rk (CC (s + 1) σ) f gg qq c.toNat τ ∧ ∀ x : Nat, (x : Int) < c → rdF (σ s 3) f x ∧ rdO (wW 1 σ) rk (CC (s + 1) σ) f gg x = 0 from (fun gg qq rk H C => by
                                                              obtain ⟨a, b⟩ := i21 gg qq rk H C
                                                              first
                                                              | exact ⟨a, b⟩
                                                              | (have y := q34_0 _ _ a.1 (fun s1 s2 => (a.2 _ s1 s2).2.1); rw [W1] at y; rcases RDX_s a eh9 es9 w1h y with ⟨z1, z2⟩ | ⟨z1, z2, z3⟩; (exfalso; omega); exact ⟨by rw [show (c + 1).toNat = c.toNat + 1 from by omega]; exact z3, fun x hx => by by_cases q : (x : Int) = c; (rw [show x = c.toNat from by omega]; exact ⟨⟨by omega, by omega⟩, z2⟩); exact b x (by omega)⟩))) (show (10 - (i + 1)).toNat < N_ from by omega)
        · refine j_aload (pc := 120) dX11_read_120 rfl ?_
          refine j_iload (pc := 122) dX11_read_122 rfl ?_
          refine j_iconst (pc := 124) dX11_read_124 ?_
          refine j_iadd (pc := 125) dX11_read_125 ?_
          refine j_top (fun z37 ez37 hz37 => ?_)
          have gz37 : z31 + 1 < -2147483648 ∨ 2147483647 < z31 + 1 ∨ z37 = z31 + 1 := by rw [ez37]; exact w32_or _
          refine j_callV (pc := 126) (As := [vI z37]) (st := []) (c_X8_has s hs z37 ⟨by omega, by omega⟩ τ hIτ) mv_X11_412 rfl rfl rfl hs.1.1 dX11_read_126 ⟨Nat.le_of_ble_eq_true rfl, Nat.le_of_ble_eq_true rfl⟩ ⟨Nat.le_refl _, Nat.le_refl _⟩ rfl (Nat.le_of_ble_eq_true rfl) rfl (fun z38 σ39 hz38 => ?_)
          obtain ⟨r41, rfl, hr41, rfl, q40_0⟩ := hz38
          replace q40_0 : (r41 = 1 ∧ τ s 1 = 1 ∧ 0 ≤ z37 ∧ z37 < τ s 3 ∧ z37 < 40) ∨ (r41 = 0 ∧ ¬ (τ s 1 = 1 ∧ 0 ≤ z37 ∧ z37 < τ s 3)) := q40_0
          refine j_st (st' := [vI r41]) rfl ?_
          refine j_ifR_ne (pc := 129) (tgt := 138) ⟨by omega, by omega⟩ dX11_read_129 rfl (fun h42 => ?_) (fun h42 => ?_)
          · refine j_aload_n (pc := 138) dX11_read_138 rfl rfl ?_
            refine j_getR (pc := 139) (r := 23) fl_X11_26 dX11_read_139 (a_0 hX) rfl ?_
            refine j_aload_n (pc := 142) dX11_read_142 rfl rfl ?_
            refine j_getR (pc := 143) (r := 1) fl_X11_10 dX11_read_143 (a_0 hX) rfl ?_
            refine j_aload (pc := 146) dX11_read_146 rfl ?_
            refine j_getR (pc := 148) (r := s + 1) fl_X11_419 dX11_read_148 hs.1.1 rfl ?_
            refine j_iload (pc := 151) dX11_read_151 rfl ?_
            have eh9 : τ (s + 1) (z31).toNat = CC (s + 1) σ (f + 2 * ((c.toNat : Nat) : Int)) := by rw [CC_at ⟨by omega, by omega⟩, show (f + 2 * ((c.toNat : Nat) : Int)).toNat = (z31).toNat from by omega]; exact hFτ (s + 1) _ (show ¬ ((23 ≤ s + 1 ∧ s + 1 < 31) ∨ (47 ≤ s + 1 ∧ s + 1 < 55) ∨ (s + 1 = 0 ∧ ((z31).toNat = 14))) from by omega)
            refine j_iald (pc := 153) dX11_read_153 hs.1.2 (by omega) (by omega) (by decide) ?_
            have f43 : (-2147483648 : Int) ≤ τ (s + 1) (z31.toNat) ∧ τ (s + 1) (z31.toNat) ≤ 2147483647 := tw_Ig hs.2.2 hIτ (z31.toNat)
            refine j_aload (pc := 154) dX11_read_154 rfl ?_
            refine j_getR (pc := 156) (r := s + 1) fl_X11_419 dX11_read_156 hs.1.1 rfl ?_
            refine j_iload (pc := 159) dX11_read_159 rfl ?_
            refine j_iconst (pc := 161) dX11_read_161 ?_
            refine j_iadd (pc := 162) dX11_read_162 ?_
            refine j_top (fun z44 ez44 hz44 => ?_)
            have gz44 : z31 + 1 < -2147483648 ∨ 2147483647 < z31 + 1 ∨ z44 = z31 + 1 := by rw [ez44]; exact w32_or _
            have es9 : τ (s + 1) (z44).toNat = CC (s + 1) σ (f + 2 * ((c.toNat : Nat) : Int) + 1) := by rw [CC_at ⟨by omega, by omega⟩, show (f + 2 * ((c.toNat : Nat) : Int) + 1).toNat = (z44).toNat from by omega]; exact hFτ (s + 1) _ (show ¬ ((23 ≤ s + 1 ∧ s + 1 < 31) ∨ (47 ≤ s + 1 ∧ s + 1 < 55) ∨ (s + 1 = 0 ∧ ((z44).toNat = 14))) from by omega)
            refine j_iald (pc := 163) dX11_read_163 hs.1.2 (by omega) (by omega) (by decide) ?_
            have f45 : (-2147483648 : Int) ≤ τ (s + 1) (z44.toNat) ∧ τ (s + 1) (z44.toNat) ≤ 2147483647 := tw_Ig hs.2.2 hIτ (z44.toNat)
            refine j_callV (pc := 164) (As := [vR 1, vI (τ (s + 1) (z31.toNat)), vI (τ (s + 1) (z44.toNat))]) (st := []) (c_X3_place 23 (s_Hand_23 hX) 1 (s_Wall_1 hX) (τ (s + 1) (z31.toNat)) ⟨by omega, by omega⟩ (τ (s + 1) (z44.toNat)) ⟨by omega, by omega⟩ τ hIτ (by omega)) mv_X11_178 rfl rfl rfl (a_23 hX) dX11_read_164 ⟨Nat.le_of_ble_eq_true rfl, Nat.le_of_ble_eq_true rfl⟩ ⟨Nat.le_refl _, Nat.le_refl _⟩ rfl (Nat.le_of_ble_eq_true rfl) rfl (fun z46 σ47 hz46 => ?_)
            obtain ⟨r49, rfl, hr49, hIσ47, hGσ47, q48_0⟩ := hz46
            replace q48_0 : ∀ gg qq : Nat → Int, RG 24 gg qq τ → (1 ≤ (τ (s + 1) (z44.toNat)) → (τ (s + 1) (z44.toNat)) ≤ 10 → 0 ≤ τ 28 (τ (s + 1) (z44.toNat)).toNat) → (¬ whyS (wW 1 τ) (gg (τ (s + 1) (z31.toNat)).toNat) (τ 24 0) (τ 28 (τ (s + 1) (z44.toNat)).toNat) (τ (s + 1) (z31.toNat)) (τ (s + 1) (z44.toNat)) = 0 ∧ r49 = whyS (wW 1 τ) (gg (τ (s + 1) (z31.toNat)).toNat) (τ 24 0) (τ 28 (τ (s + 1) (z44.toNat)).toNat) (τ (s + 1) (z31.toNat)) (τ (s + 1) (z44.toNat)) ∧ ∀ c j, σ47 c j = τ c j) ∨ (whyS (wW 1 τ) (gg (τ (s + 1) (z31.toNat)).toNat) (τ 24 0) (τ 28 (τ (s + 1) (z44.toNat)).toNat) (τ (s + 1) (z31.toNat)) (τ (s + 1) (z44.toNat)) = 0 ∧ r49 = cnt gg (τ (s + 1) (z31.toNat)).toNat ∧ RG 24 (pg gg (τ (s + 1) (z31.toNat)).toNat (τ (s + 1) (z44.toNat))) (pg qq (τ (s + 1) (z31.toNat)).toNat 0) σ47 ∧ σ47 28 (τ (s + 1) (z44.toNat)).toNat = τ 28 (τ (s + 1) (z44.toNat)).toNat - 1 ∧ ∀ j : Nat, ¬ j = (τ (s + 1) (z44.toNat)).toNat → σ47 28 j = τ 28 j) := q48_0
            have hFσ47 : tw_F (fun c j => (23 ≤ c ∧ c < 31) ∨ (47 ≤ c ∧ c < 55) ∨ (c = 0 ∧ (j = 14))) σ σ47 := tw_F_tr hFτ hGσ47 (fun c j q => (show (23 ≤ c ∧ c < 31) ∨ (47 ≤ c ∧ c < 55) ∨ (c = 0 ∧ (j = 14)) from by replace q : (24 ≤ c ∧ c < 29) := q; exact (Or.inl ⟨Nat.le_trans (by decide) q.1, Nat.lt_of_lt_of_le q.2 (by decide)⟩)))
            refine j_st (st' := [vI r49]) rfl ?_
            refine j_ifR_ge (pc := 167) (tgt := 187) ⟨by omega, by omega⟩ dX11_read_167 rfl (fun h50 => ?_) (fun h50 => ?_)
            · refine j_iinc (pc := 187) (i := 7) (n := 1) (ls' := [(0, vR 0), (3, vI f), (4, vI n), (5, vR s), (6, vI m), (7, vI (c + 1)), (8, vI i)]) [1, 2, 3, 4, 5, 0, 6] dX11_read_187 rfl (Nat.le_of_ble_eq_true rfl) rfl rfl ?_
              refine j_iinc (pc := 190) (i := 8) (n := 1) (ls' := [(0, vR 0), (3, vI f), (4, vI n), (5, vR s), (6, vI m), (7, vI (c + 1)), (8, vI (i + 1))]) [1, 2, 3, 4, 5, 6, 0] dX11_read_190 rfl (Nat.le_of_ble_eq_true rfl) rfl rfl ?_
              refine j_goto (pc := 193) (tgt := 90) dX11_read_193 rfl ?_
              refine j_ls (ls' := [(0, vR 0), (3, vI f), (4, vI n), (5, vR s), (6, vI m), (7, vI (c + 1)), (8, vI (i + 1))]) [0, 1, 2, 3, 4, 5, 6] rfl ?_
              have y51 : σ47 29 0 = τ 29 0 := (hGσ47 29 0 (show ¬ ((24 ≤ 29 ∧ 29 < 29)) from by decide))
              have f52 : (0 : Int) ≤ τ 29 0 ∧ τ 29 0 ≤ 999 := hIτ 29 0
              have y53 : σ47 30 0 = τ 30 0 := (hGσ47 30 0 (show ¬ ((24 ≤ 30 ∧ 30 < 29)) from by decide))
              have f54 : (-2147483648 : Int) ≤ τ 30 0 ∧ τ 30 0 ≤ 2147483647 := hIτ 30 0
              have y55 : σ47 29 1 = τ 29 1 := (hGσ47 29 1 (show ¬ ((24 ≤ 29 ∧ 29 < 29)) from by decide))
              have f56 : (0 : Int) ≤ τ 29 1 ∧ τ 29 1 ≤ 999 := hIτ 29 1
              have y57 : σ47 30 1 = τ 30 1 := (hGσ47 30 1 (show ¬ ((24 ≤ 30 ∧ 30 < 29)) from by decide))
              have f58 : (-2147483648 : Int) ≤ τ 30 1 ∧ τ 30 1 ≤ 2147483647 := hIτ 30 1
              have y59 : σ47 53 0 = τ 53 0 := (hGσ47 53 0 (show ¬ ((24 ≤ 53 ∧ 53 < 29)) from by decide))
              have f60 : (0 : Int) ≤ τ 53 0 ∧ τ 53 0 ≤ 999 := hIτ 53 0
              have y61 : σ47 54 0 = τ 54 0 := (hGσ47 54 0 (show ¬ ((24 ≤ 54 ∧ 54 < 29)) from by decide))
              have f62 : (-2147483648 : Int) ≤ τ 54 0 ∧ τ 54 0 ≤ 2147483647 := hIτ 54 0
              have y63 : σ47 53 1 = τ 53 1 := (hGσ47 53 1 (show ¬ ((24 ≤ 53 ∧ 53 < 29)) from by decide))
              have f64 : (0 : Int) ≤ τ 53 1 ∧ τ 53 1 ≤ 999 := hIτ 53 1
              have y65 : σ47 54 1 = τ 54 1 := (hGσ47 54 1 (show ¬ ((24 ≤ 54 ∧ 54 < 29)) from by decide))
              have f66 : (-2147483648 : Int) ≤ τ 54 1 ∧ τ 54 1 ≤ 2147483647 := hIτ 54 1
              have y67 : σ47 0 14 = τ 0 14 := (hGσ47 0 14 (show ¬ ((24 ≤ 0 ∧ 0 < 29)) from by decide))
              have f68 : (-2147483648 : Int) ≤ τ 0 14 ∧ τ 0 14 ≤ 2147483647 := hIτ 0 14
              have y69 : σ47 23 4 = τ 23 4 := (hGσ47 23 4 (show ¬ ((24 ≤ 23 ∧ 23 < 29)) from by decide))
              have f70 : (-2147483648 : Int) ≤ τ 23 4 ∧ τ 23 4 ≤ 2147483647 := hIτ 23 4
              have y71 : σ47 23 5 = τ 23 5 := (hGσ47 23 5 (show ¬ ((24 ≤ 23 ∧ 23 < 29)) from by decide))
              have f72 : (-2147483648 : Int) ≤ τ 23 5 ∧ τ 23 5 ≤ 2147483647 := hIτ 23 5
              exact ih s hs m ⟨by omega, by omega⟩ (c + 1) ⟨by omega, by omega⟩ (i + 1) ⟨by omega, by omega⟩ σ47 hIσ47 hFσ47 (show (c + 1) ≤ (i + 1) from by omega) (show n ≤ 10 from by omega) (show 0 ≤ n from by omega) (show σ47 29 0 = σ 29 0 from by omega) (show σ47 30 0 = σ 30 0 from by omega) (show σ47 29 1 = σ 29 1 from by omega) (show σ47 30 1 = σ 30 1 from by omega) (show σ47 53 0 = σ 29 0 from by omega) (show σ47 54 0 = σ 30 0 from by omega) (show σ47 53 1 = σ 29 1 from by omega) (show σ47 54 1 = σ 30 1 from by omega) (show (s : Int) = 80 + 2 * k from by omega) (show CPY 47 23 σ σ47 from (CPY_F i12 (fun c j a b => ((hGσ47 c j (show ¬ ((24 ≤ c ∧ c < 29)) from by omega)))))) (show σ47 0 14 = σ 0 14 from by omega) (show (m = 0 ∧ (c + 1) = (i + 1)) ∨ (m = 2 ∧ (c + 1) + 1 = (i + 1) ∧ ¬ (0 ≤ f + 2 * (c + 1) ∧ f + 2 * (c + 1) + 1 < σ s 3)) ∨ (m = 1 ∧ (c + 1) = 0 ∧ (i + 1) = 0 ∧ 0 < n ∧ σ s 1 = 0) ∨ (m = 3 ∧ (c + 1) = 0 ∧ (i + 1) = 0 ∧ 0 < n ∧ ¬ σ s 1 = 0 ∧ ¬ σ s 2 = l) from (by first | exact Or.inl ⟨rfl, by omega⟩ | exact Or.inr (Or.inl ⟨rfl, by omega, by omega⟩) | exact Or.inr (Or.inr (Or.inl ⟨rfl, by omega, by omega, by omega, by omega⟩)) | exact Or.inr (Or.inr (Or.inr ⟨rfl, by omega, by omega, by omega, by omega, by omega⟩)) | omega)) (show m = 1 ∨ m = 3 ∨ n = 0 ∨ (¬ σ s 1 = 0 ∧ σ s 2 = l) from (by first | exact Or.inl rfl | exact Or.inr (Or.inl rfl) | exact Or.inr (Or.inr (Or.inl (by omega))) | exact Or.inr (Or.inr (Or.inr ⟨by omega, by omega⟩)) | omega)) (show (c + 1) ≤ n from by omega) (show (i + 1) ≤ n from by omega) (show 0 ≤ k ∧ k ≤ 3 ∧ 0 ≤ l ∧ l ≤ 2 from by omega) (show σ47 23 4 = σ 23 4 from by omega) (show σ47 23 5 = σ 23 5 from by omega) (show ∀ gg qq rk : Nat → Int, RG 24 gg qq σ → CNR rk gg 28 σ → RDX rk (CC (s + 1) σ) f gg qq (c + 1).toNat σ47 ∧ ∀ x : Nat, (x : Int) < (c + 1) → rdF (σ s 3) f x ∧ rdO (wW 1 σ) rk (CC (s + 1) σ) f gg x = 0 from (fun gg qq rk H C => by
                                                              obtain ⟨a, b⟩ := i21 gg qq rk H C
                                                              first
                                                              | exact ⟨a, b⟩
                                                              | (have y := q48_0 _ _ a.1 (fun s1 s2 => (a.2 _ s1 s2).2.1); rw [W1] at y; rcases RDX_s a eh9 es9 w1h y with ⟨z1, z2⟩ | ⟨z1, z2, z3⟩; (exfalso; omega); exact ⟨by rw [show (c + 1).toNat = c.toNat + 1 from by omega]; exact z3, fun x hx => by by_cases q : (x : Int) = c; (rw [show x = c.toNat from by omega]; exact ⟨⟨by omega, by omega⟩, z2⟩); exact b x (by omega)⟩))) (show (10 - (i + 1)).toNat < N_ from by omega)
            · have ci9 : CPY 47 23 σ σ47 := CPY_F i12 (fun c j a b => ((hGσ47 c j (show ¬ ((24 ≤ c ∧ c < 29)) from by omega))))
              refine j_aload_n (pc := 170) dX11_read_170 rfl rfl ?_
              refine j_getR (pc := 171) (r := 23) fl_X11_26 dX11_read_171 (a_0 hX) rfl ?_
              refine j_aload_n (pc := 174) dX11_read_174 rfl rfl ?_
              refine j_getR (pc := 175) (r := 47) fl_X11_36 dX11_read_175 (a_0 hX) rfl ?_
              refine j_callV (pc := 178) (As := [vR 47]) (st := []) (c_X3_copyOf 23 (s_Hand_23 hX) 47 (s_Hand_47 hX) σ47 hIσ47 (by omega)) mv_X11_398 rfl rfl rfl (a_23 hX) dX11_read_178 ⟨Nat.le_of_ble_eq_true rfl, Nat.le_of_ble_eq_true rfl⟩ ⟨Nat.le_refl _, Nat.le_refl _⟩ rfl (Nat.le_of_ble_eq_true rfl) rfl (fun z73 σ74 hz73 => ?_)
              obtain ⟨rfl, hIσ74, hGσ74, q75_0, q75_1, q75_2, q75_3, q75_4⟩ := hz73
              replace q75_0 : σ74 29 0 = σ47 53 0 := q75_0
              have y77 : σ47 53 0 = τ 53 0 := (hGσ47 53 0 (show ¬ ((24 ≤ 53 ∧ 53 < 29)) from by decide))
              have f78 : (0 : Int) ≤ τ 53 0 ∧ τ 53 0 ≤ 999 := hIτ 53 0
              replace q75_1 : σ74 30 0 = σ47 54 0 := q75_1
              have y79 : σ47 54 0 = τ 54 0 := (hGσ47 54 0 (show ¬ ((24 ≤ 54 ∧ 54 < 29)) from by decide))
              have f80 : (-2147483648 : Int) ≤ τ 54 0 ∧ τ 54 0 ≤ 2147483647 := hIτ 54 0
              replace q75_2 : σ74 29 1 = σ47 53 1 := q75_2
              have y81 : σ47 53 1 = τ 53 1 := (hGσ47 53 1 (show ¬ ((24 ≤ 53 ∧ 53 < 29)) from by decide))
              have f82 : (0 : Int) ≤ τ 53 1 ∧ τ 53 1 ≤ 999 := hIτ 53 1
              replace q75_3 : σ74 30 1 = σ47 54 1 := q75_3
              have y83 : σ47 54 1 = τ 54 1 := (hGσ47 54 1 (show ¬ ((24 ≤ 54 ∧ 54 < 29)) from by decide))
              have f84 : (-2147483648 : Int) ≤ τ 54 1 ∧ τ 54 1 ≤ 2147483647 := hIτ 54 1
              replace q75_4 : CPY 23 47 σ47 σ74 := q75_4
              have hFσ74 : tw_F (fun c j => (23 ≤ c ∧ c < 31) ∨ (47 ≤ c ∧ c < 55) ∨ (c = 0 ∧ (j = 14))) σ σ74 := tw_F_tr hFσ47 hGσ74 (fun c j q => (show (23 ≤ c ∧ c < 31) ∨ (47 ≤ c ∧ c < 55) ∨ (c = 0 ∧ (j = 14)) from by replace q : (23 ≤ c ∧ c < 31) := q; exact (Or.inl q)))
              refine j_st (st' := []) rfl ?_
              have cb9 : CPY 23 23 σ σ74 := CPY_t ci9 q75_4
              refine j_bipush (pc := 181) dX11_read_181 rfl ?_
              refine j_iload (pc := 183) dX11_read_183 rfl ?_
              refine j_isub (pc := 185) dX11_read_185 ?_
              have fin : ∀ gg qq rk : Nat → Int, RG 24 gg qq σ → CNR rk gg 28 σ → (((-20) - i) = -1 ∧ ¬ (0 ≤ k ∧ k ≤ 3 ∧ 0 ≤ l ∧ l ≤ 2 ∧ 0 ≤ n ∧ n ≤ 10) ∧ ∀ c j, σ74 c j = σ c j) ∨ ((0 ≤ k ∧ k ≤ 3 ∧ 0 ≤ l ∧ l ≤ 2 ∧ 0 ≤ n ∧ n ≤ 10) ∧ ∃ cz : Int, ((cz = 0 ∧ 0 < n ∧ ((-20) - i) = 0 ∧ σ74 0 14 = 1 ∧ σ (80 + 2 * k.toNat) 1 = 0) ∨ (cz = 0 ∧ 0 < n ∧ ((-20) - i) = 0 ∧ σ74 0 14 = 3 ∧ ¬ σ (80 + 2 * k.toNat) 1 = 0 ∧ ¬ σ (80 + 2 * k.toNat) 2 = l) ∨ ((n = 0 ∨ (¬ σ (80 + 2 * k.toNat) 1 = 0 ∧ σ (80 + 2 * k.toNat) 2 = l)) ∧ RDE (rdF (σ (80 + 2 * k.toNat) 3) f) (fun x => rdO (wW 1 σ) rk (CC (81 + 2 * k.toNat) σ) f gg x = 0) n cz ((-20) - i) (σ74 0 14))) ∧ ((0 ≤ ((-20) - i) ∧ RDX rk (CC (81 + 2 * k.toNat) σ) f gg qq cz.toNat σ74) ∨ (((-20) - i) < 0 ∧ RDX rk (CC (81 + 2 * k.toNat) σ) f gg qq 0 σ74 ∧ σ74 0 14 = σ 0 14))) := fun gg qq rk H C => by
                obtain ⟨a, b⟩ := i21 gg qq rk H C
                have y := q48_0 _ _ a.1 (fun s1 s2 => (a.2 _ s1 s2).2.1)
                rw [W1] at y
                rw [show 80 + 2 * k.toNat = s from by omega, show 81 + 2 * k.toNat = s + 1 from by omega]
                rcases RDX_s a eh9 es9 w1h y with ⟨z1, z2⟩ | ⟨z1, z2, z3⟩
                · exact Or.inr ⟨by omega, c, Or.inr (Or.inr ⟨by omega, ⟨by omega, by omega⟩, b, Or.inr (Or.inr ⟨by omega, ⟨by omega, by omega⟩, z2, by omega⟩)⟩), Or.inr ⟨by omega, RDX_0 H C cb9, ((((hGσ74 0 14 (show ¬ ((23 ≤ 0 ∧ 0 < 31)) from by decide))).trans (hGσ47 0 14 (show ¬ ((24 ≤ 0 ∧ 0 < 29)) from by decide)))).trans i13⟩⟩
                · exfalso; omega
              have y85 : σ74 0 14 = τ 0 14 := ((hGσ74 0 14 (show ¬ ((23 ≤ 0 ∧ 0 < 31)) from by decide))).trans (hGσ47 0 14 (show ¬ ((24 ≤ 0 ∧ 0 < 29)) from by decide))
              have f86 : (-2147483648 : Int) ≤ τ 0 14 ∧ τ 0 14 ≤ 2147483647 := hIτ 0 14
              exact j_iret (pc := 186) ⟨rfl, rfl⟩ dX11_read_186 rfl ⟨_, rfl, ⟨by omega, by omega⟩, hIσ74, hFσ74, by omega, by omega, by omega, by omega, fin, (by first | rfl | exact (rfl).trans i19 | exact cb9.2.2.2.1), (by first | rfl | exact (rfl).trans i20 | exact cb9.2.2.2.2)⟩
          · refine j_iconst (pc := 132) dX11_read_132 ?_
            refine j_istore (pc := 133) (i := 6) (ls' := [(0, vR 0), (3, vI f), (4, vI n), (5, vR s), (6, vI 2), (7, vI c), (8, vI i)]) [1, 2, 3, 4, 0, 5, 6] dX11_read_133 (Nat.le_of_ble_eq_true rfl) rfl rfl ?_
            refine j_goto (pc := 135) (tgt := 190) dX11_read_135 rfl ?_
            refine j_iinc (pc := 190) (i := 8) (n := 1) (ls' := [(0, vR 0), (3, vI f), (4, vI n), (5, vR s), (6, vI 2), (7, vI c), (8, vI (i + 1))]) [1, 2, 3, 4, 5, 6, 0] dX11_read_190 rfl (Nat.le_of_ble_eq_true rfl) rfl rfl ?_
            refine j_goto (pc := 193) (tgt := 90) dX11_read_193 rfl ?_
            refine j_ls (ls' := [(0, vR 0), (3, vI f), (4, vI n), (5, vR s), (6, vI 2), (7, vI c), (8, vI (i + 1))]) [0, 1, 2, 3, 4, 5, 6] rfl ?_
            exact ih s hs 2 (by (first | decide | exact ⟨by omega, by omega⟩)) c ⟨by omega, by omega⟩ (i + 1) ⟨by omega, by omega⟩ τ hIτ hFτ (show c ≤ (i + 1) from by omega) (show n ≤ 10 from by omega) (show 0 ≤ n from by omega) (show τ 29 0 = σ 29 0 from by omega) (show τ 30 0 = σ 30 0 from by omega) (show τ 29 1 = σ 29 1 from by omega) (show τ 30 1 = σ 30 1 from by omega) (show τ 53 0 = σ 29 0 from by omega) (show τ 54 0 = σ 30 0 from by omega) (show τ 53 1 = σ 29 1 from by omega) (show τ 54 1 = σ 30 1 from by omega) (show (s : Int) = 80 + 2 * k from by omega) (show CPY 47 23 σ τ from (CPY_F i12 (fun c j a b => (rfl)))) (show τ 0 14 = σ 0 14 from by omega) (show ((2 : Int) = 0 ∧ c = (i + 1)) ∨ ((2 : Int) = 2 ∧ c + 1 = (i + 1) ∧ ¬ (0 ≤ f + 2 * c ∧ f + 2 * c + 1 < σ s 3)) ∨ ((2 : Int) = 1 ∧ c = 0 ∧ (i + 1) = 0 ∧ 0 < n ∧ σ s 1 = 0) ∨ ((2 : Int) = 3 ∧ c = 0 ∧ (i + 1) = 0 ∧ 0 < n ∧ ¬ σ s 1 = 0 ∧ ¬ σ s 2 = l) from (by first | exact Or.inl ⟨rfl, by omega⟩ | exact Or.inr (Or.inl ⟨rfl, by omega, by omega⟩) | exact Or.inr (Or.inr (Or.inl ⟨rfl, by omega, by omega, by omega, by omega⟩)) | exact Or.inr (Or.inr (Or.inr ⟨rfl, by omega, by omega, by omega, by omega, by omega⟩)) | omega)) (show (2 : Int) = 1 ∨ (2 : Int) = 3 ∨ n = 0 ∨ (¬ σ s 1 = 0 ∧ σ s 2 = l) from (by first | exact Or.inl rfl | exact Or.inr (Or.inl rfl) | exact Or.inr (Or.inr (Or.inl (by omega))) | exact Or.inr (Or.inr (Or.inr ⟨by omega, by omega⟩)) | omega)) (show c ≤ n from by omega) (show (i + 1) ≤ n from by omega) (show 0 ≤ k ∧ k ≤ 3 ∧ 0 ≤ l ∧ l ≤ 2 from by omega) (show τ 23 4 = σ 23 4 from by omega) (show τ 23 5 = σ 23 5 from by omega) (show ∀ gg qq rk : Nat → Int, RG 24 gg qq σ → CNR rk gg 28 σ → RDX rk (CC (s + 1) σ) f gg qq c.toNat τ ∧ ∀ x : Nat, (x : Int) < c → rdF (σ s 3) f x ∧ rdO (wW 1 σ) rk (CC (s + 1) σ) f gg x = 0 from (fun gg qq rk H C => by
                                                              obtain ⟨a, b⟩ := i21 gg qq rk H C
                                                              first
                                                              | exact ⟨a, b⟩
                                                              | (have y := q40_0 _ _ a.1 (fun s1 s2 => (a.2 _ s1 s2).2.1); rw [W1] at y; rcases RDX_s a eh9 es9 w1h y with ⟨z1, z2⟩ | ⟨z1, z2, z3⟩; (exfalso; omega); exact ⟨by rw [show (c + 1).toNat = c.toNat + 1 from by omega]; exact z3, fun x hx => by by_cases q : (x : Int) = c; (rw [show x = c.toNat from by omega]; exact ⟨⟨by omega, by omega⟩, z2⟩); exact b x (by omega)⟩))) (show (10 - (i + 1)).toNat < N_ from by omega)
set_option maxHeartbeats 4000000 in
set_option maxRecDepth 100000 in
theorem c_X11_read {G : tw_G} (hX : tw_isX G) (k : Int) (hk : -2147483648 ≤ k ∧ k ≤ 2147483647) (l : Int) (hl : -2147483648 ≤ l ∧ l ≤ 2147483647) (f : Int) (hf : -2147483648 ≤ f ∧ f ≤ 2147483647) (n : Int) (hn : -2147483648 ≤ n ∧ n ≤ 2147483647) (σ : tw_M) (hI : tw_I σ) : tw_C G yX11_read cX11_read 10 (some .int) 2 [vR 0, vI k, vI l, vI f, vI n] σ (q_X11_read k l f n σ) := by
  refine tw_met [(0, vR 0), (1, vI k), (2, vI l), (3, vI f), (4, vI n)] (by decide +kernel) rfl (Nat.le_of_ble_eq_true rfl) ?_
  refine j_aload_n (pc := 0) dX11_read_0 rfl rfl ?_
  refine j_iload_n (pc := 1) dX11_read_1 rfl rfl ?_
  refine j_callV (pc := 2) (As := [vI k]) (st := []) (c_X11_isSheet hX k ⟨by omega, by omega⟩ σ hI) mv_X11_401 rfl rfl rfl (a_0 hX) dX11_read_2 ⟨Nat.le_of_ble_eq_true rfl, Nat.le_of_ble_eq_true rfl⟩ ⟨Nat.le_refl _, Nat.le_refl _⟩ rfl (Nat.le_of_ble_eq_true rfl) rfl (fun z87 σ88 hz87 => ?_)
  obtain ⟨r90, rfl, hr90, rfl, q89_0⟩ := hz87
  replace q89_0 : (r90 = 1 ∧ 0 ≤ k ∧ k < 4) ∨ (r90 = 0 ∧ ¬ (0 ≤ k ∧ k < 4)) := q89_0
  refine j_st (st' := [vI r90]) rfl ?_
  refine j_ifR_eq (pc := 5) (tgt := 27) ⟨by omega, by omega⟩ dX11_read_5 rfl (fun h91 => ?_) (fun h91 => ?_)
  · refine j_iconst (pc := 27) dX11_read_27 ?_
    have fin : ∀ gg qq rk : Nat → Int, RG 24 gg qq σ → CNR rk gg 28 σ → ((-1) = -1 ∧ ¬ (0 ≤ k ∧ k ≤ 3 ∧ 0 ≤ l ∧ l ≤ 2 ∧ 0 ≤ n ∧ n ≤ 10) ∧ ∀ c j, σ c j = σ c j) ∨ ((0 ≤ k ∧ k ≤ 3 ∧ 0 ≤ l ∧ l ≤ 2 ∧ 0 ≤ n ∧ n ≤ 10) ∧ ∃ cz : Int, ((cz = 0 ∧ 0 < n ∧ (-1) = 0 ∧ σ 0 14 = 1 ∧ σ (80 + 2 * k.toNat) 1 = 0) ∨ (cz = 0 ∧ 0 < n ∧ (-1) = 0 ∧ σ 0 14 = 3 ∧ ¬ σ (80 + 2 * k.toNat) 1 = 0 ∧ ¬ σ (80 + 2 * k.toNat) 2 = l) ∨ ((n = 0 ∨ (¬ σ (80 + 2 * k.toNat) 1 = 0 ∧ σ (80 + 2 * k.toNat) 2 = l)) ∧ RDE (rdF (σ (80 + 2 * k.toNat) 3) f) (fun x => rdO (wW 1 σ) rk (CC (81 + 2 * k.toNat) σ) f gg x = 0) n cz (-1) (σ 0 14))) ∧ ((0 ≤ (-1) ∧ RDX rk (CC (81 + 2 * k.toNat) σ) f gg qq cz.toNat σ) ∨ ((-1) < 0 ∧ RDX rk (CC (81 + 2 * k.toNat) σ) f gg qq 0 σ ∧ σ 0 14 = σ 0 14))) := fun gg qq rk H C => Or.inl ⟨rfl, by omega, fun c j => rfl⟩
    exact j_iret (pc := 28) ⟨rfl, rfl⟩ dX11_read_28 rfl ⟨_, rfl, ⟨by omega, by omega⟩, hI, (tw_F_rf), by omega, by omega, by omega, by omega, fin, (by first | rfl | exact (rfl).trans i19 | exact cb9.2.2.2.1), (by first | rfl | exact (rfl).trans i20 | exact cb9.2.2.2.2)⟩
  · refine j_iload_n (pc := 8) dX11_read_8 rfl rfl ?_
    refine j_callS (pc := 9) (As := [vI l]) (st := []) (c_X11_isLane l ⟨by omega, by omega⟩ σ hI) ms_X11_404 rfl dX11_read_9 ⟨Nat.le_of_ble_eq_true rfl, Nat.le_of_ble_eq_true rfl⟩ ⟨Nat.le_refl _, Nat.le_refl _⟩ rfl (Nat.le_of_ble_eq_true rfl) rfl (fun z92 σ93 hz92 => ?_)
    obtain ⟨r95, rfl, hr95, rfl, q94_0⟩ := hz92
    replace q94_0 : (r95 = 1 ∧ 0 ≤ l ∧ l ≤ 2) ∨ (r95 = 0 ∧ ¬ (0 ≤ l ∧ l ≤ 2)) := q94_0
    refine j_st (st' := [vI r95]) rfl ?_
    refine j_ifR_eq (pc := 12) (tgt := 27) ⟨by omega, by omega⟩ dX11_read_12 rfl (fun h96 => ?_) (fun h96 => ?_)
    · refine j_iconst (pc := 27) dX11_read_27 ?_
      have fin : ∀ gg qq rk : Nat → Int, RG 24 gg qq σ → CNR rk gg 28 σ → ((-1) = -1 ∧ ¬ (0 ≤ k ∧ k ≤ 3 ∧ 0 ≤ l ∧ l ≤ 2 ∧ 0 ≤ n ∧ n ≤ 10) ∧ ∀ c j, σ c j = σ c j) ∨ ((0 ≤ k ∧ k ≤ 3 ∧ 0 ≤ l ∧ l ≤ 2 ∧ 0 ≤ n ∧ n ≤ 10) ∧ ∃ cz : Int, ((cz = 0 ∧ 0 < n ∧ (-1) = 0 ∧ σ 0 14 = 1 ∧ σ (80 + 2 * k.toNat) 1 = 0) ∨ (cz = 0 ∧ 0 < n ∧ (-1) = 0 ∧ σ 0 14 = 3 ∧ ¬ σ (80 + 2 * k.toNat) 1 = 0 ∧ ¬ σ (80 + 2 * k.toNat) 2 = l) ∨ ((n = 0 ∨ (¬ σ (80 + 2 * k.toNat) 1 = 0 ∧ σ (80 + 2 * k.toNat) 2 = l)) ∧ RDE (rdF (σ (80 + 2 * k.toNat) 3) f) (fun x => rdO (wW 1 σ) rk (CC (81 + 2 * k.toNat) σ) f gg x = 0) n cz (-1) (σ 0 14))) ∧ ((0 ≤ (-1) ∧ RDX rk (CC (81 + 2 * k.toNat) σ) f gg qq cz.toNat σ) ∨ ((-1) < 0 ∧ RDX rk (CC (81 + 2 * k.toNat) σ) f gg qq 0 σ ∧ σ 0 14 = σ 0 14))) := fun gg qq rk H C => Or.inl ⟨rfl, by omega, fun c j => rfl⟩
      exact j_iret (pc := 28) ⟨rfl, rfl⟩ dX11_read_28 rfl ⟨_, rfl, ⟨by omega, by omega⟩, hI, (tw_F_rf), by omega, by omega, by omega, by omega, fin, (by first | rfl | exact (rfl).trans i19 | exact cb9.2.2.2.1), (by first | rfl | exact (rfl).trans i20 | exact cb9.2.2.2.2)⟩
    · refine j_iload (pc := 15) dX11_read_15 rfl ?_
      refine j_ifR_lt (pc := 17) (tgt := 27) ⟨by omega, by omega⟩ dX11_read_17 rfl (fun h97 => ?_) (fun h97 => ?_)
      · refine j_iconst (pc := 27) dX11_read_27 ?_
        have fin : ∀ gg qq rk : Nat → Int, RG 24 gg qq σ → CNR rk gg 28 σ → ((-1) = -1 ∧ ¬ (0 ≤ k ∧ k ≤ 3 ∧ 0 ≤ l ∧ l ≤ 2 ∧ 0 ≤ n ∧ n ≤ 10) ∧ ∀ c j, σ c j = σ c j) ∨ ((0 ≤ k ∧ k ≤ 3 ∧ 0 ≤ l ∧ l ≤ 2 ∧ 0 ≤ n ∧ n ≤ 10) ∧ ∃ cz : Int, ((cz = 0 ∧ 0 < n ∧ (-1) = 0 ∧ σ 0 14 = 1 ∧ σ (80 + 2 * k.toNat) 1 = 0) ∨ (cz = 0 ∧ 0 < n ∧ (-1) = 0 ∧ σ 0 14 = 3 ∧ ¬ σ (80 + 2 * k.toNat) 1 = 0 ∧ ¬ σ (80 + 2 * k.toNat) 2 = l) ∨ ((n = 0 ∨ (¬ σ (80 + 2 * k.toNat) 1 = 0 ∧ σ (80 + 2 * k.toNat) 2 = l)) ∧ RDE (rdF (σ (80 + 2 * k.toNat) 3) f) (fun x => rdO (wW 1 σ) rk (CC (81 + 2 * k.toNat) σ) f gg x = 0) n cz (-1) (σ 0 14))) ∧ ((0 ≤ (-1) ∧ RDX rk (CC (81 + 2 * k.toNat) σ) f gg qq cz.toNat σ) ∨ ((-1) < 0 ∧ RDX rk (CC (81 + 2 * k.toNat) σ) f gg qq 0 σ ∧ σ 0 14 = σ 0 14))) := fun gg qq rk H C => Or.inl ⟨rfl, by omega, fun c j => rfl⟩
        exact j_iret (pc := 28) ⟨rfl, rfl⟩ dX11_read_28 rfl ⟨_, rfl, ⟨by omega, by omega⟩, hI, (tw_F_rf), by omega, by omega, by omega, by omega, fin, (by first | rfl | exact (rfl).trans i19 | exact cb9.2.2.2.1), (by first | rfl | exact (rfl).trans i20 | exact cb9.2.2.2.2)⟩
      · refine j_iload (pc := 20) dX11_read_20 rfl ?_
        refine j_bipush (pc := 22) dX11_read_22 rfl ?_
        refine j_icmpR_le (pc := 24) (tgt := 29) ⟨by omega, by omega⟩ ⟨by omega, by omega⟩ dX11_read_24 rfl (fun h98 => ?_) (fun h98 => ?_)
        · refine j_aload_n (pc := 29) dX11_read_29 rfl rfl ?_
          refine j_getR (pc := 30) (r := 79) fl_X11_87 dX11_read_30 (a_0 hX) rfl ?_
          refine j_iload_n (pc := 33) dX11_read_33 rfl rfl ?_
          rcases (show k = 0 ∨ k = 1 ∨ k = 2 ∨ k = 3 from by omega) with h99 | h99 | h99 | h99
          · refine j_aald (pc := 34) (r := 80) dX11_read_34 (a_79 hX) (by omega) (by rw [h99]; decide) (by rw [h99]; rfl) (by decide) ?_
            refine j_astore (pc := 35) (i := 5) (ls' := [(0, vR 0), (2, vI l), (3, vI f), (4, vI n), (5, vR 80)]) [1, 3, 4, 5, 0] dX11_read_35 (Nat.le_of_ble_eq_true rfl) rfl rfl ?_
            refine j_iconst (pc := 37) dX11_read_37 ?_
            refine j_istore (pc := 38) (i := 6) (ls' := [(0, vR 0), (2, vI l), (3, vI f), (4, vI n), (5, vR 80), (6, vI 0)]) [1, 2, 3, 4, 5, 0] dX11_read_38 (Nat.le_of_ble_eq_true rfl) rfl rfl ?_
            refine j_iconst (pc := 40) dX11_read_40 ?_
            refine j_istore (pc := 41) (i := 7) (ls' := [(0, vR 0), (2, vI l), (3, vI f), (4, vI n), (5, vR 80), (6, vI 0), (7, vI 0)]) [1, 2, 3, 4, 5, 6, 0] dX11_read_41 (Nat.le_of_ble_eq_true rfl) rfl rfl ?_
            refine j_iload (pc := 43) dX11_read_43 rfl ?_
            refine j_ifR_le (pc := 45) (tgt := 76) ⟨by omega, by omega⟩ dX11_read_45 rfl (fun h100 => ?_) (fun h100 => ?_)
            · refine j_aload_n (pc := 76) dX11_read_76 rfl rfl ?_
              refine j_getR (pc := 77) (r := 47) fl_X11_36 dX11_read_77 (a_0 hX) rfl ?_
              refine j_aload_n (pc := 80) dX11_read_80 rfl rfl ?_
              refine j_getR (pc := 81) (r := 23) fl_X11_26 dX11_read_81 (a_0 hX) rfl ?_
              refine j_callV (pc := 84) (As := [vR 23]) (st := []) (c_X3_copyOf 47 (s_Hand_47 hX) 23 (s_Hand_23 hX) σ hI (by omega)) mv_X11_398 rfl rfl rfl (a_47 hX) dX11_read_84 ⟨Nat.le_of_ble_eq_true rfl, Nat.le_of_ble_eq_true rfl⟩ ⟨Nat.le_refl _, Nat.le_refl _⟩ rfl (Nat.le_of_ble_eq_true rfl) rfl (fun z101 σ102 hz101 => ?_)
              obtain ⟨rfl, hIσ102, hGσ102, q103_0, q103_1, q103_2, q103_3, q103_4⟩ := hz101
              replace q103_0 : σ102 53 0 = σ 29 0 := q103_0
              replace q103_1 : σ102 54 0 = σ 30 0 := q103_1
              replace q103_2 : σ102 53 1 = σ 29 1 := q103_2
              replace q103_3 : σ102 54 1 = σ 30 1 := q103_3
              replace q103_4 : CPY 47 23 σ σ102 := q103_4
              have hFσ102 : tw_F (fun c j => (23 ≤ c ∧ c < 31) ∨ (47 ≤ c ∧ c < 55) ∨ (c = 0 ∧ (j = 14))) σ σ102 := tw_F_tr (tw_F_rf) hGσ102 (fun c j q => (show (23 ≤ c ∧ c < 31) ∨ (47 ≤ c ∧ c < 55) ∨ (c = 0 ∧ (j = 14)) from by replace q : (47 ≤ c ∧ c < 55) := q; exact (Or.inr (Or.inl q))))
              refine j_st (st' := []) rfl ?_
              have cp9 := q103_4
              refine j_iconst (pc := 87) dX11_read_87 ?_
              refine j_istore (pc := 88) (i := 8) (ls' := [(0, vR 0), (3, vI f), (4, vI n), (5, vR 80), (6, vI 0), (7, vI 0), (8, vI 0)]) [1, 3, 4, 5, 6, 7, 0] dX11_read_88 (Nat.le_of_ble_eq_true rfl) rfl rfl ?_
              refine j_ls (ls' := [(0, vR 0), (3, vI f), (4, vI n), (5, vR 80), (6, vI 0), (7, vI 0), (8, vI 0)]) [0, 1, 2, 3, 4, 5, 6] rfl ?_
              have y105 : σ102 29 0 = σ 29 0 := (hGσ102 29 0 (show ¬ ((47 ≤ 29 ∧ 29 < 55)) from by decide))
              have f106 : (0 : Int) ≤ σ 29 0 ∧ σ 29 0 ≤ 999 := hI 29 0
              have y107 : σ102 30 0 = σ 30 0 := (hGσ102 30 0 (show ¬ ((47 ≤ 30 ∧ 30 < 55)) from by decide))
              have f108 : (-2147483648 : Int) ≤ σ 30 0 ∧ σ 30 0 ≤ 2147483647 := hI 30 0
              have y109 : σ102 29 1 = σ 29 1 := (hGσ102 29 1 (show ¬ ((47 ≤ 29 ∧ 29 < 55)) from by decide))
              have f110 : (0 : Int) ≤ σ 29 1 ∧ σ 29 1 ≤ 999 := hI 29 1
              have y111 : σ102 30 1 = σ 30 1 := (hGσ102 30 1 (show ¬ ((47 ≤ 30 ∧ 30 < 55)) from by decide))
              have f112 : (-2147483648 : Int) ≤ σ 30 1 ∧ σ 30 1 ≤ 2147483647 := hI 30 1
              have y113 : σ102 0 14 = σ 0 14 := (hGσ102 0 14 (show ¬ ((47 ≤ 0 ∧ 0 < 55)) from by decide))
              have f114 : (-2147483648 : Int) ≤ σ 0 14 ∧ σ 0 14 ≤ 2147483647 := hI 0 14
              have y115 : σ102 23 4 = σ 23 4 := (hGσ102 23 4 (show ¬ ((47 ≤ 23 ∧ 23 < 55)) from by decide))
              have f116 : (-2147483648 : Int) ≤ σ 23 4 ∧ σ 23 4 ≤ 2147483647 := hI 23 4
              have y117 : σ102 23 5 = σ 23 5 := (hGσ102 23 5 (show ¬ ((47 ≤ 23 ∧ 23 < 55)) from by decide))
              have f118 : (-2147483648 : Int) ≤ σ 23 5 ∧ σ 23 5 ≤ 2147483647 := hI 23 5
              exact (l_X11_read hX k hk l hl f hf n hn σ hI (((10 - (0 : Int)).toNat) + 1)) 80 (s_Sheet_80 hX) 0 (by (first | decide | exact ⟨by omega, by omega⟩)) 0 (by (first | decide | exact ⟨by omega, by omega⟩)) 0 (by (first | decide | exact ⟨by omega, by omega⟩)) σ102 hIσ102 hFσ102 (show (0 : Int) ≤ (0 : Int) from by omega) (show n ≤ 10 from by omega) (show 0 ≤ n from by omega) (show σ102 29 0 = σ 29 0 from by omega) (show σ102 30 0 = σ 30 0 from by omega) (show σ102 29 1 = σ 29 1 from by omega) (show σ102 30 1 = σ 30 1 from by omega) (show σ102 53 0 = σ 29 0 from by omega) (show σ102 54 0 = σ 30 0 from by omega) (show σ102 53 1 = σ 29 1 from by omega) (show σ102 54 1 = σ 30 1 from by omega) (show (80 : Int) = 80 + 2 * k from by omega) (show CPY 47 23 σ σ102 from cp9) (show σ102 0 14 = σ 0 14 from by omega) (show ((0 : Int) = 0 ∧ (0 : Int) = (0 : Int)) ∨ ((0 : Int) = 2 ∧ (0 : Int) + 1 = (0 : Int) ∧ ¬ (0 ≤ f + 2 * (0 : Int) ∧ f + 2 * (0 : Int) + 1 < σ 80 3)) ∨ ((0 : Int) = 1 ∧ (0 : Int) = 0 ∧ (0 : Int) = 0 ∧ 0 < n ∧ σ 80 1 = 0) ∨ ((0 : Int) = 3 ∧ (0 : Int) = 0 ∧ (0 : Int) = 0 ∧ 0 < n ∧ ¬ σ 80 1 = 0 ∧ ¬ σ 80 2 = l) from (by first | exact Or.inl ⟨rfl, by omega⟩ | exact Or.inr (Or.inl ⟨rfl, by omega, by omega⟩) | exact Or.inr (Or.inr (Or.inl ⟨rfl, by omega, by omega, by omega, by omega⟩)) | exact Or.inr (Or.inr (Or.inr ⟨rfl, by omega, by omega, by omega, by omega, by omega⟩)) | omega)) (show (0 : Int) = 1 ∨ (0 : Int) = 3 ∨ n = 0 ∨ (¬ σ 80 1 = 0 ∧ σ 80 2 = l) from (by first | exact Or.inl rfl | exact Or.inr (Or.inl rfl) | exact Or.inr (Or.inr (Or.inl (by omega))) | exact Or.inr (Or.inr (Or.inr ⟨by omega, by omega⟩)) | omega)) (show (0 : Int) ≤ n from by omega) (show (0 : Int) ≤ n from by omega) (show 0 ≤ k ∧ k ≤ 3 ∧ 0 ≤ l ∧ l ≤ 2 from by omega) (show σ102 23 4 = σ 23 4 from by omega) (show σ102 23 5 = σ 23 5 from by omega) (show ∀ gg qq rk : Nat → Int, RG 24 gg qq σ → CNR rk gg 28 σ → RDX rk (CC (80 + 1) σ) f gg qq (0 : Int).toNat σ102 ∧ ∀ x : Nat, (x : Int) < (0 : Int) → rdF (σ 80 3) f x ∧ rdO (wW 1 σ) rk (CC (80 + 1) σ) f gg x = 0 from (fun gg qq rk H C => ⟨RDX_F (i := 0) ⟨H, C⟩ (fun c j a b => ((hGσ102 c j (show ¬ ((47 ≤ c ∧ c < 55)) from by omega)))), fun x hx => by exfalso; omega⟩)) (Nat.lt_succ_self _)
            · refine j_aload (pc := 48) dX11_read_48 rfl ?_
              refine j_getI (pc := 50) fl_X11_409 dX11_read_50 (a_80 hX) rfl ?_
              have f119 : (0 : Int) ≤ σ 80 1 ∧ σ 80 1 ≤ 1 := hI 80 1
              refine j_ifR_ne (pc := 53) (tgt := 60) ⟨by omega, by omega⟩ dX11_read_53 rfl (fun h120 => ?_) (fun h120 => ?_)
              · refine j_aload (pc := 60) dX11_read_60 rfl ?_
                refine j_getI (pc := 62) fl_X11_416 dX11_read_62 (a_80 hX) rfl ?_
                have f121 : (-2147483648 : Int) ≤ σ 80 2 ∧ σ 80 2 ≤ 2147483647 := hI 80 2
                refine j_iload_n (pc := 65) dX11_read_65 rfl rfl ?_
                refine j_icmpR_eq (pc := 66) (tgt := 73) ⟨by omega, by omega⟩ ⟨by omega, by omega⟩ dX11_read_66 rfl (fun h122 => ?_) (fun h122 => ?_)
                · refine j_iconst (pc := 73) dX11_read_73 ?_
                  refine j_istore (pc := 74) (i := 6) (ls' := [(0, vR 0), (3, vI f), (4, vI n), (5, vR 80), (6, vI 0), (7, vI 0)]) [1, 3, 4, 5, 0, 6] dX11_read_74 (Nat.le_of_ble_eq_true rfl) rfl rfl ?_
                  refine j_aload_n (pc := 76) dX11_read_76 rfl rfl ?_
                  refine j_getR (pc := 77) (r := 47) fl_X11_36 dX11_read_77 (a_0 hX) rfl ?_
                  refine j_aload_n (pc := 80) dX11_read_80 rfl rfl ?_
                  refine j_getR (pc := 81) (r := 23) fl_X11_26 dX11_read_81 (a_0 hX) rfl ?_
                  refine j_callV (pc := 84) (As := [vR 23]) (st := []) (c_X3_copyOf 47 (s_Hand_47 hX) 23 (s_Hand_23 hX) σ hI (by omega)) mv_X11_398 rfl rfl rfl (a_47 hX) dX11_read_84 ⟨Nat.le_of_ble_eq_true rfl, Nat.le_of_ble_eq_true rfl⟩ ⟨Nat.le_refl _, Nat.le_refl _⟩ rfl (Nat.le_of_ble_eq_true rfl) rfl (fun z123 σ124 hz123 => ?_)
                  obtain ⟨rfl, hIσ124, hGσ124, q125_0, q125_1, q125_2, q125_3, q125_4⟩ := hz123
                  replace q125_0 : σ124 53 0 = σ 29 0 := q125_0
                  replace q125_1 : σ124 54 0 = σ 30 0 := q125_1
                  replace q125_2 : σ124 53 1 = σ 29 1 := q125_2
                  replace q125_3 : σ124 54 1 = σ 30 1 := q125_3
                  replace q125_4 : CPY 47 23 σ σ124 := q125_4
                  have hFσ124 : tw_F (fun c j => (23 ≤ c ∧ c < 31) ∨ (47 ≤ c ∧ c < 55) ∨ (c = 0 ∧ (j = 14))) σ σ124 := tw_F_tr (tw_F_rf) hGσ124 (fun c j q => (show (23 ≤ c ∧ c < 31) ∨ (47 ≤ c ∧ c < 55) ∨ (c = 0 ∧ (j = 14)) from by replace q : (47 ≤ c ∧ c < 55) := q; exact (Or.inr (Or.inl q))))
                  refine j_st (st' := []) rfl ?_
                  have cp9 := q125_4
                  refine j_iconst (pc := 87) dX11_read_87 ?_
                  refine j_istore (pc := 88) (i := 8) (ls' := [(0, vR 0), (3, vI f), (4, vI n), (5, vR 80), (6, vI 0), (7, vI 0), (8, vI 0)]) [1, 2, 3, 4, 5, 6, 0] dX11_read_88 (Nat.le_of_ble_eq_true rfl) rfl rfl ?_
                  refine j_ls (ls' := [(0, vR 0), (3, vI f), (4, vI n), (5, vR 80), (6, vI 0), (7, vI 0), (8, vI 0)]) [0, 1, 2, 3, 4, 5, 6] rfl ?_
                  have y127 : σ124 29 0 = σ 29 0 := (hGσ124 29 0 (show ¬ ((47 ≤ 29 ∧ 29 < 55)) from by decide))
                  have f128 : (0 : Int) ≤ σ 29 0 ∧ σ 29 0 ≤ 999 := hI 29 0
                  have y129 : σ124 30 0 = σ 30 0 := (hGσ124 30 0 (show ¬ ((47 ≤ 30 ∧ 30 < 55)) from by decide))
                  have f130 : (-2147483648 : Int) ≤ σ 30 0 ∧ σ 30 0 ≤ 2147483647 := hI 30 0
                  have y131 : σ124 29 1 = σ 29 1 := (hGσ124 29 1 (show ¬ ((47 ≤ 29 ∧ 29 < 55)) from by decide))
                  have f132 : (0 : Int) ≤ σ 29 1 ∧ σ 29 1 ≤ 999 := hI 29 1
                  have y133 : σ124 30 1 = σ 30 1 := (hGσ124 30 1 (show ¬ ((47 ≤ 30 ∧ 30 < 55)) from by decide))
                  have f134 : (-2147483648 : Int) ≤ σ 30 1 ∧ σ 30 1 ≤ 2147483647 := hI 30 1
                  have y135 : σ124 0 14 = σ 0 14 := (hGσ124 0 14 (show ¬ ((47 ≤ 0 ∧ 0 < 55)) from by decide))
                  have f136 : (-2147483648 : Int) ≤ σ 0 14 ∧ σ 0 14 ≤ 2147483647 := hI 0 14
                  have y137 : σ124 23 4 = σ 23 4 := (hGσ124 23 4 (show ¬ ((47 ≤ 23 ∧ 23 < 55)) from by decide))
                  have f138 : (-2147483648 : Int) ≤ σ 23 4 ∧ σ 23 4 ≤ 2147483647 := hI 23 4
                  have y139 : σ124 23 5 = σ 23 5 := (hGσ124 23 5 (show ¬ ((47 ≤ 23 ∧ 23 < 55)) from by decide))
                  have f140 : (-2147483648 : Int) ≤ σ 23 5 ∧ σ 23 5 ≤ 2147483647 := hI 23 5
                  exact (l_X11_read hX k hk l hl f hf n hn σ hI (((10 - (0 : Int)).toNat) + 1)) 80 (s_Sheet_80 hX) 0 (by (first | decide | exact ⟨by omega, by omega⟩)) 0 (by (first | decide | exact ⟨by omega, by omega⟩)) 0 (by (first | decide | exact ⟨by omega, by omega⟩)) σ124 hIσ124 hFσ124 (show (0 : Int) ≤ (0 : Int) from by omega) (show n ≤ 10 from by omega) (show 0 ≤ n from by omega) (show σ124 29 0 = σ 29 0 from by omega) (show σ124 30 0 = σ 30 0 from by omega) (show σ124 29 1 = σ 29 1 from by omega) (show σ124 30 1 = σ 30 1 from by omega) (show σ124 53 0 = σ 29 0 from by omega) (show σ124 54 0 = σ 30 0 from by omega) (show σ124 53 1 = σ 29 1 from by omega) (show σ124 54 1 = σ 30 1 from by omega) (show (80 : Int) = 80 + 2 * k from by omega) (show CPY 47 23 σ σ124 from cp9) (show σ124 0 14 = σ 0 14 from by omega) (show ((0 : Int) = 0 ∧ (0 : Int) = (0 : Int)) ∨ ((0 : Int) = 2 ∧ (0 : Int) + 1 = (0 : Int) ∧ ¬ (0 ≤ f + 2 * (0 : Int) ∧ f + 2 * (0 : Int) + 1 < σ 80 3)) ∨ ((0 : Int) = 1 ∧ (0 : Int) = 0 ∧ (0 : Int) = 0 ∧ 0 < n ∧ σ 80 1 = 0) ∨ ((0 : Int) = 3 ∧ (0 : Int) = 0 ∧ (0 : Int) = 0 ∧ 0 < n ∧ ¬ σ 80 1 = 0 ∧ ¬ σ 80 2 = l) from (by first | exact Or.inl ⟨rfl, by omega⟩ | exact Or.inr (Or.inl ⟨rfl, by omega, by omega⟩) | exact Or.inr (Or.inr (Or.inl ⟨rfl, by omega, by omega, by omega, by omega⟩)) | exact Or.inr (Or.inr (Or.inr ⟨rfl, by omega, by omega, by omega, by omega, by omega⟩)) | omega)) (show (0 : Int) = 1 ∨ (0 : Int) = 3 ∨ n = 0 ∨ (¬ σ 80 1 = 0 ∧ σ 80 2 = l) from (by first | exact Or.inl rfl | exact Or.inr (Or.inl rfl) | exact Or.inr (Or.inr (Or.inl (by omega))) | exact Or.inr (Or.inr (Or.inr ⟨by omega, by omega⟩)) | omega)) (show (0 : Int) ≤ n from by omega) (show (0 : Int) ≤ n from by omega) (show 0 ≤ k ∧ k ≤ 3 ∧ 0 ≤ l ∧ l ≤ 2 from by omega) (show σ124 23 4 = σ 23 4 from by omega) (show σ124 23 5 = σ 23 5 from by omega) (show ∀ gg qq rk : Nat → Int, RG 24 gg qq σ → CNR rk gg 28 σ → RDX rk (CC (80 + 1) σ) f gg qq (0 : Int).toNat σ124 ∧ ∀ x : Nat, (x : Int) < (0 : Int) → rdF (σ 80 3) f x ∧ rdO (wW 1 σ) rk (CC (80 + 1) σ) f gg x = 0 from (fun gg qq rk H C => ⟨RDX_F (i := 0) ⟨H, C⟩ (fun c j a b => ((hGσ124 c j (show ¬ ((47 ≤ c ∧ c < 55)) from by omega)))), fun x hx => by exfalso; omega⟩)) (Nat.lt_succ_self _)
                · refine j_iconst (pc := 69) dX11_read_69 ?_
                  refine j_goto (pc := 70) (tgt := 74) dX11_read_70 rfl ?_
                  refine j_istore (pc := 74) (i := 6) (ls' := [(0, vR 0), (3, vI f), (4, vI n), (5, vR 80), (6, vI 3), (7, vI 0)]) [1, 3, 4, 5, 0, 6] dX11_read_74 (Nat.le_of_ble_eq_true rfl) rfl rfl ?_
                  refine j_aload_n (pc := 76) dX11_read_76 rfl rfl ?_
                  refine j_getR (pc := 77) (r := 47) fl_X11_36 dX11_read_77 (a_0 hX) rfl ?_
                  refine j_aload_n (pc := 80) dX11_read_80 rfl rfl ?_
                  refine j_getR (pc := 81) (r := 23) fl_X11_26 dX11_read_81 (a_0 hX) rfl ?_
                  refine j_callV (pc := 84) (As := [vR 23]) (st := []) (c_X3_copyOf 47 (s_Hand_47 hX) 23 (s_Hand_23 hX) σ hI (by omega)) mv_X11_398 rfl rfl rfl (a_47 hX) dX11_read_84 ⟨Nat.le_of_ble_eq_true rfl, Nat.le_of_ble_eq_true rfl⟩ ⟨Nat.le_refl _, Nat.le_refl _⟩ rfl (Nat.le_of_ble_eq_true rfl) rfl (fun z141 σ142 hz141 => ?_)
                  obtain ⟨rfl, hIσ142, hGσ142, q143_0, q143_1, q143_2, q143_3, q143_4⟩ := hz141
                  replace q143_0 : σ142 53 0 = σ 29 0 := q143_0
                  replace q143_1 : σ142 54 0 = σ 30 0 := q143_1
                  replace q143_2 : σ142 53 1 = σ 29 1 := q143_2
                  replace q143_3 : σ142 54 1 = σ 30 1 := q143_3
                  replace q143_4 : CPY 47 23 σ σ142 := q143_4
                  have hFσ142 : tw_F (fun c j => (23 ≤ c ∧ c < 31) ∨ (47 ≤ c ∧ c < 55) ∨ (c = 0 ∧ (j = 14))) σ σ142 := tw_F_tr (tw_F_rf) hGσ142 (fun c j q => (show (23 ≤ c ∧ c < 31) ∨ (47 ≤ c ∧ c < 55) ∨ (c = 0 ∧ (j = 14)) from by replace q : (47 ≤ c ∧ c < 55) := q; exact (Or.inr (Or.inl q))))
                  refine j_st (st' := []) rfl ?_
                  have cp9 := q143_4
                  refine j_iconst (pc := 87) dX11_read_87 ?_
                  refine j_istore (pc := 88) (i := 8) (ls' := [(0, vR 0), (3, vI f), (4, vI n), (5, vR 80), (6, vI 3), (7, vI 0), (8, vI 0)]) [1, 2, 3, 4, 5, 6, 0] dX11_read_88 (Nat.le_of_ble_eq_true rfl) rfl rfl ?_
                  refine j_ls (ls' := [(0, vR 0), (3, vI f), (4, vI n), (5, vR 80), (6, vI 3), (7, vI 0), (8, vI 0)]) [0, 1, 2, 3, 4, 5, 6] rfl ?_
                  have y145 : σ142 29 0 = σ 29 0 := (hGσ142 29 0 (show ¬ ((47 ≤ 29 ∧ 29 < 55)) from by decide))
                  have f146 : (0 : Int) ≤ σ 29 0 ∧ σ 29 0 ≤ 999 := hI 29 0
                  have y147 : σ142 30 0 = σ 30 0 := (hGσ142 30 0 (show ¬ ((47 ≤ 30 ∧ 30 < 55)) from by decide))
                  have f148 : (-2147483648 : Int) ≤ σ 30 0 ∧ σ 30 0 ≤ 2147483647 := hI 30 0
                  have y149 : σ142 29 1 = σ 29 1 := (hGσ142 29 1 (show ¬ ((47 ≤ 29 ∧ 29 < 55)) from by decide))
                  have f150 : (0 : Int) ≤ σ 29 1 ∧ σ 29 1 ≤ 999 := hI 29 1
                  have y151 : σ142 30 1 = σ 30 1 := (hGσ142 30 1 (show ¬ ((47 ≤ 30 ∧ 30 < 55)) from by decide))
                  have f152 : (-2147483648 : Int) ≤ σ 30 1 ∧ σ 30 1 ≤ 2147483647 := hI 30 1
                  have y153 : σ142 0 14 = σ 0 14 := (hGσ142 0 14 (show ¬ ((47 ≤ 0 ∧ 0 < 55)) from by decide))
                  have f154 : (-2147483648 : Int) ≤ σ 0 14 ∧ σ 0 14 ≤ 2147483647 := hI 0 14
                  have y155 : σ142 23 4 = σ 23 4 := (hGσ142 23 4 (show ¬ ((47 ≤ 23 ∧ 23 < 55)) from by decide))
                  have f156 : (-2147483648 : Int) ≤ σ 23 4 ∧ σ 23 4 ≤ 2147483647 := hI 23 4
                  have y157 : σ142 23 5 = σ 23 5 := (hGσ142 23 5 (show ¬ ((47 ≤ 23 ∧ 23 < 55)) from by decide))
                  have f158 : (-2147483648 : Int) ≤ σ 23 5 ∧ σ 23 5 ≤ 2147483647 := hI 23 5
                  exact (l_X11_read hX k hk l hl f hf n hn σ hI (((10 - (0 : Int)).toNat) + 1)) 80 (s_Sheet_80 hX) 3 (by (first | decide | exact ⟨by omega, by omega⟩)) 0 (by (first | decide | exact ⟨by omega, by omega⟩)) 0 (by (first | decide | exact ⟨by omega, by omega⟩)) σ142 hIσ142 hFσ142 (show (0 : Int) ≤ (0 : Int) from by omega) (show n ≤ 10 from by omega) (show 0 ≤ n from by omega) (show σ142 29 0 = σ 29 0 from by omega) (show σ142 30 0 = σ 30 0 from by omega) (show σ142 29 1 = σ 29 1 from by omega) (show σ142 30 1 = σ 30 1 from by omega) (show σ142 53 0 = σ 29 0 from by omega) (show σ142 54 0 = σ 30 0 from by omega) (show σ142 53 1 = σ 29 1 from by omega) (show σ142 54 1 = σ 30 1 from by omega) (show (80 : Int) = 80 + 2 * k from by omega) (show CPY 47 23 σ σ142 from cp9) (show σ142 0 14 = σ 0 14 from by omega) (show ((3 : Int) = 0 ∧ (0 : Int) = (0 : Int)) ∨ ((3 : Int) = 2 ∧ (0 : Int) + 1 = (0 : Int) ∧ ¬ (0 ≤ f + 2 * (0 : Int) ∧ f + 2 * (0 : Int) + 1 < σ 80 3)) ∨ ((3 : Int) = 1 ∧ (0 : Int) = 0 ∧ (0 : Int) = 0 ∧ 0 < n ∧ σ 80 1 = 0) ∨ ((3 : Int) = 3 ∧ (0 : Int) = 0 ∧ (0 : Int) = 0 ∧ 0 < n ∧ ¬ σ 80 1 = 0 ∧ ¬ σ 80 2 = l) from (by first | exact Or.inl ⟨rfl, by omega⟩ | exact Or.inr (Or.inl ⟨rfl, by omega, by omega⟩) | exact Or.inr (Or.inr (Or.inl ⟨rfl, by omega, by omega, by omega, by omega⟩)) | exact Or.inr (Or.inr (Or.inr ⟨rfl, by omega, by omega, by omega, by omega, by omega⟩)) | omega)) (show (3 : Int) = 1 ∨ (3 : Int) = 3 ∨ n = 0 ∨ (¬ σ 80 1 = 0 ∧ σ 80 2 = l) from (by first | exact Or.inl rfl | exact Or.inr (Or.inl rfl) | exact Or.inr (Or.inr (Or.inl (by omega))) | exact Or.inr (Or.inr (Or.inr ⟨by omega, by omega⟩)) | omega)) (show (0 : Int) ≤ n from by omega) (show (0 : Int) ≤ n from by omega) (show 0 ≤ k ∧ k ≤ 3 ∧ 0 ≤ l ∧ l ≤ 2 from by omega) (show σ142 23 4 = σ 23 4 from by omega) (show σ142 23 5 = σ 23 5 from by omega) (show ∀ gg qq rk : Nat → Int, RG 24 gg qq σ → CNR rk gg 28 σ → RDX rk (CC (80 + 1) σ) f gg qq (0 : Int).toNat σ142 ∧ ∀ x : Nat, (x : Int) < (0 : Int) → rdF (σ 80 3) f x ∧ rdO (wW 1 σ) rk (CC (80 + 1) σ) f gg x = 0 from (fun gg qq rk H C => ⟨RDX_F (i := 0) ⟨H, C⟩ (fun c j a b => ((hGσ142 c j (show ¬ ((47 ≤ c ∧ c < 55)) from by omega)))), fun x hx => by exfalso; omega⟩)) (Nat.lt_succ_self _)
              · refine j_iconst (pc := 56) dX11_read_56 ?_
                refine j_goto (pc := 57) (tgt := 74) dX11_read_57 rfl ?_
                refine j_istore (pc := 74) (i := 6) (ls' := [(0, vR 0), (3, vI f), (4, vI n), (5, vR 80), (6, vI 1), (7, vI 0)]) [1, 3, 4, 5, 0, 6] dX11_read_74 (Nat.le_of_ble_eq_true rfl) rfl rfl ?_
                refine j_aload_n (pc := 76) dX11_read_76 rfl rfl ?_
                refine j_getR (pc := 77) (r := 47) fl_X11_36 dX11_read_77 (a_0 hX) rfl ?_
                refine j_aload_n (pc := 80) dX11_read_80 rfl rfl ?_
                refine j_getR (pc := 81) (r := 23) fl_X11_26 dX11_read_81 (a_0 hX) rfl ?_
                refine j_callV (pc := 84) (As := [vR 23]) (st := []) (c_X3_copyOf 47 (s_Hand_47 hX) 23 (s_Hand_23 hX) σ hI (by omega)) mv_X11_398 rfl rfl rfl (a_47 hX) dX11_read_84 ⟨Nat.le_of_ble_eq_true rfl, Nat.le_of_ble_eq_true rfl⟩ ⟨Nat.le_refl _, Nat.le_refl _⟩ rfl (Nat.le_of_ble_eq_true rfl) rfl (fun z159 σ160 hz159 => ?_)
                obtain ⟨rfl, hIσ160, hGσ160, q161_0, q161_1, q161_2, q161_3, q161_4⟩ := hz159
                replace q161_0 : σ160 53 0 = σ 29 0 := q161_0
                replace q161_1 : σ160 54 0 = σ 30 0 := q161_1
                replace q161_2 : σ160 53 1 = σ 29 1 := q161_2
                replace q161_3 : σ160 54 1 = σ 30 1 := q161_3
                replace q161_4 : CPY 47 23 σ σ160 := q161_4
                have hFσ160 : tw_F (fun c j => (23 ≤ c ∧ c < 31) ∨ (47 ≤ c ∧ c < 55) ∨ (c = 0 ∧ (j = 14))) σ σ160 := tw_F_tr (tw_F_rf) hGσ160 (fun c j q => (show (23 ≤ c ∧ c < 31) ∨ (47 ≤ c ∧ c < 55) ∨ (c = 0 ∧ (j = 14)) from by replace q : (47 ≤ c ∧ c < 55) := q; exact (Or.inr (Or.inl q))))
                refine j_st (st' := []) rfl ?_
                have cp9 := q161_4
                refine j_iconst (pc := 87) dX11_read_87 ?_
                refine j_istore (pc := 88) (i := 8) (ls' := [(0, vR 0), (3, vI f), (4, vI n), (5, vR 80), (6, vI 1), (7, vI 0), (8, vI 0)]) [1, 2, 3, 4, 5, 6, 0] dX11_read_88 (Nat.le_of_ble_eq_true rfl) rfl rfl ?_
                refine j_ls (ls' := [(0, vR 0), (3, vI f), (4, vI n), (5, vR 80), (6, vI 1), (7, vI 0), (8, vI 0)]) [0, 1, 2, 3, 4, 5, 6] rfl ?_
                have y163 : σ160 29 0 = σ 29 0 := (hGσ160 29 0 (show ¬ ((47 ≤ 29 ∧ 29 < 55)) from by decide))
                have f164 : (0 : Int) ≤ σ 29 0 ∧ σ 29 0 ≤ 999 := hI 29 0
                have y165 : σ160 30 0 = σ 30 0 := (hGσ160 30 0 (show ¬ ((47 ≤ 30 ∧ 30 < 55)) from by decide))
                have f166 : (-2147483648 : Int) ≤ σ 30 0 ∧ σ 30 0 ≤ 2147483647 := hI 30 0
                have y167 : σ160 29 1 = σ 29 1 := (hGσ160 29 1 (show ¬ ((47 ≤ 29 ∧ 29 < 55)) from by decide))
                have f168 : (0 : Int) ≤ σ 29 1 ∧ σ 29 1 ≤ 999 := hI 29 1
                have y169 : σ160 30 1 = σ 30 1 := (hGσ160 30 1 (show ¬ ((47 ≤ 30 ∧ 30 < 55)) from by decide))
                have f170 : (-2147483648 : Int) ≤ σ 30 1 ∧ σ 30 1 ≤ 2147483647 := hI 30 1
                have y171 : σ160 0 14 = σ 0 14 := (hGσ160 0 14 (show ¬ ((47 ≤ 0 ∧ 0 < 55)) from by decide))
                have f172 : (-2147483648 : Int) ≤ σ 0 14 ∧ σ 0 14 ≤ 2147483647 := hI 0 14
                have y173 : σ160 23 4 = σ 23 4 := (hGσ160 23 4 (show ¬ ((47 ≤ 23 ∧ 23 < 55)) from by decide))
                have f174 : (-2147483648 : Int) ≤ σ 23 4 ∧ σ 23 4 ≤ 2147483647 := hI 23 4
                have y175 : σ160 23 5 = σ 23 5 := (hGσ160 23 5 (show ¬ ((47 ≤ 23 ∧ 23 < 55)) from by decide))
                have f176 : (-2147483648 : Int) ≤ σ 23 5 ∧ σ 23 5 ≤ 2147483647 := hI 23 5
                exact (l_X11_read hX k hk l hl f hf n hn σ hI (((10 - (0 : Int)).toNat) + 1)) 80 (s_Sheet_80 hX) 1 (by (first | decide | exact ⟨by omega, by omega⟩)) 0 (by (first | decide | exact ⟨by omega, by omega⟩)) 0 (by (first | decide | exact ⟨by omega, by omega⟩)) σ160 hIσ160 hFσ160 (show (0 : Int) ≤ (0 : Int) from by omega) (show n ≤ 10 from by omega) (show 0 ≤ n from by omega) (show σ160 29 0 = σ 29 0 from by omega) (show σ160 30 0 = σ 30 0 from by omega) (show σ160 29 1 = σ 29 1 from by omega) (show σ160 30 1 = σ 30 1 from by omega) (show σ160 53 0 = σ 29 0 from by omega) (show σ160 54 0 = σ 30 0 from by omega) (show σ160 53 1 = σ 29 1 from by omega) (show σ160 54 1 = σ 30 1 from by omega) (show (80 : Int) = 80 + 2 * k from by omega) (show CPY 47 23 σ σ160 from cp9) (show σ160 0 14 = σ 0 14 from by omega) (show ((1 : Int) = 0 ∧ (0 : Int) = (0 : Int)) ∨ ((1 : Int) = 2 ∧ (0 : Int) + 1 = (0 : Int) ∧ ¬ (0 ≤ f + 2 * (0 : Int) ∧ f + 2 * (0 : Int) + 1 < σ 80 3)) ∨ ((1 : Int) = 1 ∧ (0 : Int) = 0 ∧ (0 : Int) = 0 ∧ 0 < n ∧ σ 80 1 = 0) ∨ ((1 : Int) = 3 ∧ (0 : Int) = 0 ∧ (0 : Int) = 0 ∧ 0 < n ∧ ¬ σ 80 1 = 0 ∧ ¬ σ 80 2 = l) from (by first | exact Or.inl ⟨rfl, by omega⟩ | exact Or.inr (Or.inl ⟨rfl, by omega, by omega⟩) | exact Or.inr (Or.inr (Or.inl ⟨rfl, by omega, by omega, by omega, by omega⟩)) | exact Or.inr (Or.inr (Or.inr ⟨rfl, by omega, by omega, by omega, by omega, by omega⟩)) | omega)) (show (1 : Int) = 1 ∨ (1 : Int) = 3 ∨ n = 0 ∨ (¬ σ 80 1 = 0 ∧ σ 80 2 = l) from (by first | exact Or.inl rfl | exact Or.inr (Or.inl rfl) | exact Or.inr (Or.inr (Or.inl (by omega))) | exact Or.inr (Or.inr (Or.inr ⟨by omega, by omega⟩)) | omega)) (show (0 : Int) ≤ n from by omega) (show (0 : Int) ≤ n from by omega) (show 0 ≤ k ∧ k ≤ 3 ∧ 0 ≤ l ∧ l ≤ 2 from by omega) (show σ160 23 4 = σ 23 4 from by omega) (show σ160 23 5 = σ 23 5 from by omega) (show ∀ gg qq rk : Nat → Int, RG 24 gg qq σ → CNR rk gg 28 σ → RDX rk (CC (80 + 1) σ) f gg qq (0 : Int).toNat σ160 ∧ ∀ x : Nat, (x : Int) < (0 : Int) → rdF (σ 80 3) f x ∧ rdO (wW 1 σ) rk (CC (80 + 1) σ) f gg x = 0 from (fun gg qq rk H C => ⟨RDX_F (i := 0) ⟨H, C⟩ (fun c j a b => ((hGσ160 c j (show ¬ ((47 ≤ c ∧ c < 55)) from by omega)))), fun x hx => by exfalso; omega⟩)) (Nat.lt_succ_self _)
          · refine j_aald (pc := 34) (r := 82) dX11_read_34 (a_79 hX) (by omega) (by rw [h99]; decide) (by rw [h99]; rfl) (by decide) ?_
            refine j_astore (pc := 35) (i := 5) (ls' := [(0, vR 0), (2, vI l), (3, vI f), (4, vI n), (5, vR 82)]) [1, 3, 4, 5, 0] dX11_read_35 (Nat.le_of_ble_eq_true rfl) rfl rfl ?_
            refine j_iconst (pc := 37) dX11_read_37 ?_
            refine j_istore (pc := 38) (i := 6) (ls' := [(0, vR 0), (2, vI l), (3, vI f), (4, vI n), (5, vR 82), (6, vI 0)]) [1, 2, 3, 4, 5, 0] dX11_read_38 (Nat.le_of_ble_eq_true rfl) rfl rfl ?_
            refine j_iconst (pc := 40) dX11_read_40 ?_
            refine j_istore (pc := 41) (i := 7) (ls' := [(0, vR 0), (2, vI l), (3, vI f), (4, vI n), (5, vR 82), (6, vI 0), (7, vI 0)]) [1, 2, 3, 4, 5, 6, 0] dX11_read_41 (Nat.le_of_ble_eq_true rfl) rfl rfl ?_
            refine j_iload (pc := 43) dX11_read_43 rfl ?_
            refine j_ifR_le (pc := 45) (tgt := 76) ⟨by omega, by omega⟩ dX11_read_45 rfl (fun h177 => ?_) (fun h177 => ?_)
            · refine j_aload_n (pc := 76) dX11_read_76 rfl rfl ?_
              refine j_getR (pc := 77) (r := 47) fl_X11_36 dX11_read_77 (a_0 hX) rfl ?_
              refine j_aload_n (pc := 80) dX11_read_80 rfl rfl ?_
              refine j_getR (pc := 81) (r := 23) fl_X11_26 dX11_read_81 (a_0 hX) rfl ?_
              refine j_callV (pc := 84) (As := [vR 23]) (st := []) (c_X3_copyOf 47 (s_Hand_47 hX) 23 (s_Hand_23 hX) σ hI (by omega)) mv_X11_398 rfl rfl rfl (a_47 hX) dX11_read_84 ⟨Nat.le_of_ble_eq_true rfl, Nat.le_of_ble_eq_true rfl⟩ ⟨Nat.le_refl _, Nat.le_refl _⟩ rfl (Nat.le_of_ble_eq_true rfl) rfl (fun z178 σ179 hz178 => ?_)
              obtain ⟨rfl, hIσ179, hGσ179, q180_0, q180_1, q180_2, q180_3, q180_4⟩ := hz178
              replace q180_0 : σ179 53 0 = σ 29 0 := q180_0
              replace q180_1 : σ179 54 0 = σ 30 0 := q180_1
              replace q180_2 : σ179 53 1 = σ 29 1 := q180_2
              replace q180_3 : σ179 54 1 = σ 30 1 := q180_3
              replace q180_4 : CPY 47 23 σ σ179 := q180_4
              have hFσ179 : tw_F (fun c j => (23 ≤ c ∧ c < 31) ∨ (47 ≤ c ∧ c < 55) ∨ (c = 0 ∧ (j = 14))) σ σ179 := tw_F_tr (tw_F_rf) hGσ179 (fun c j q => (show (23 ≤ c ∧ c < 31) ∨ (47 ≤ c ∧ c < 55) ∨ (c = 0 ∧ (j = 14)) from by replace q : (47 ≤ c ∧ c < 55) := q; exact (Or.inr (Or.inl q))))
              refine j_st (st' := []) rfl ?_
              have cp9 := q180_4
              refine j_iconst (pc := 87) dX11_read_87 ?_
              refine j_istore (pc := 88) (i := 8) (ls' := [(0, vR 0), (3, vI f), (4, vI n), (5, vR 82), (6, vI 0), (7, vI 0), (8, vI 0)]) [1, 3, 4, 5, 6, 7, 0] dX11_read_88 (Nat.le_of_ble_eq_true rfl) rfl rfl ?_
              refine j_ls (ls' := [(0, vR 0), (3, vI f), (4, vI n), (5, vR 82), (6, vI 0), (7, vI 0), (8, vI 0)]) [0, 1, 2, 3, 4, 5, 6] rfl ?_
              have y182 : σ179 29 0 = σ 29 0 := (hGσ179 29 0 (show ¬ ((47 ≤ 29 ∧ 29 < 55)) from by decide))
              have f183 : (0 : Int) ≤ σ 29 0 ∧ σ 29 0 ≤ 999 := hI 29 0
              have y184 : σ179 30 0 = σ 30 0 := (hGσ179 30 0 (show ¬ ((47 ≤ 30 ∧ 30 < 55)) from by decide))
              have f185 : (-2147483648 : Int) ≤ σ 30 0 ∧ σ 30 0 ≤ 2147483647 := hI 30 0
              have y186 : σ179 29 1 = σ 29 1 := (hGσ179 29 1 (show ¬ ((47 ≤ 29 ∧ 29 < 55)) from by decide))
              have f187 : (0 : Int) ≤ σ 29 1 ∧ σ 29 1 ≤ 999 := hI 29 1
              have y188 : σ179 30 1 = σ 30 1 := (hGσ179 30 1 (show ¬ ((47 ≤ 30 ∧ 30 < 55)) from by decide))
              have f189 : (-2147483648 : Int) ≤ σ 30 1 ∧ σ 30 1 ≤ 2147483647 := hI 30 1
              have y190 : σ179 0 14 = σ 0 14 := (hGσ179 0 14 (show ¬ ((47 ≤ 0 ∧ 0 < 55)) from by decide))
              have f191 : (-2147483648 : Int) ≤ σ 0 14 ∧ σ 0 14 ≤ 2147483647 := hI 0 14
              have y192 : σ179 23 4 = σ 23 4 := (hGσ179 23 4 (show ¬ ((47 ≤ 23 ∧ 23 < 55)) from by decide))
              have f193 : (-2147483648 : Int) ≤ σ 23 4 ∧ σ 23 4 ≤ 2147483647 := hI 23 4
              have y194 : σ179 23 5 = σ 23 5 := (hGσ179 23 5 (show ¬ ((47 ≤ 23 ∧ 23 < 55)) from by decide))
              have f195 : (-2147483648 : Int) ≤ σ 23 5 ∧ σ 23 5 ≤ 2147483647 := hI 23 5
              exact (l_X11_read hX k hk l hl f hf n hn σ hI (((10 - (0 : Int)).toNat) + 1)) 82 (s_Sheet_82 hX) 0 (by (first | decide | exact ⟨by omega, by omega⟩)) 0 (by (first | decide | exact ⟨by omega, by omega⟩)) 0 (by (first | decide | exact ⟨by omega, by omega⟩)) σ179 hIσ179 hFσ179 (show (0 : Int) ≤ (0 : Int) from by omega) (show n ≤ 10 from by omega) (show 0 ≤ n from by omega) (show σ179 29 0 = σ 29 0 from by omega) (show σ179 30 0 = σ 30 0 from by omega) (show σ179 29 1 = σ 29 1 from by omega) (show σ179 30 1 = σ 30 1 from by omega) (show σ179 53 0 = σ 29 0 from by omega) (show σ179 54 0 = σ 30 0 from by omega) (show σ179 53 1 = σ 29 1 from by omega) (show σ179 54 1 = σ 30 1 from by omega) (show (82 : Int) = 80 + 2 * k from by omega) (show CPY 47 23 σ σ179 from cp9) (show σ179 0 14 = σ 0 14 from by omega) (show ((0 : Int) = 0 ∧ (0 : Int) = (0 : Int)) ∨ ((0 : Int) = 2 ∧ (0 : Int) + 1 = (0 : Int) ∧ ¬ (0 ≤ f + 2 * (0 : Int) ∧ f + 2 * (0 : Int) + 1 < σ 82 3)) ∨ ((0 : Int) = 1 ∧ (0 : Int) = 0 ∧ (0 : Int) = 0 ∧ 0 < n ∧ σ 82 1 = 0) ∨ ((0 : Int) = 3 ∧ (0 : Int) = 0 ∧ (0 : Int) = 0 ∧ 0 < n ∧ ¬ σ 82 1 = 0 ∧ ¬ σ 82 2 = l) from (by first | exact Or.inl ⟨rfl, by omega⟩ | exact Or.inr (Or.inl ⟨rfl, by omega, by omega⟩) | exact Or.inr (Or.inr (Or.inl ⟨rfl, by omega, by omega, by omega, by omega⟩)) | exact Or.inr (Or.inr (Or.inr ⟨rfl, by omega, by omega, by omega, by omega, by omega⟩)) | omega)) (show (0 : Int) = 1 ∨ (0 : Int) = 3 ∨ n = 0 ∨ (¬ σ 82 1 = 0 ∧ σ 82 2 = l) from (by first | exact Or.inl rfl | exact Or.inr (Or.inl rfl) | exact Or.inr (Or.inr (Or.inl (by omega))) | exact Or.inr (Or.inr (Or.inr ⟨by omega, by omega⟩)) | omega)) (show (0 : Int) ≤ n from by omega) (show (0 : Int) ≤ n from by omega) (show 0 ≤ k ∧ k ≤ 3 ∧ 0 ≤ l ∧ l ≤ 2 from by omega) (show σ179 23 4 = σ 23 4 from by omega) (show σ179 23 5 = σ 23 5 from by omega) (show ∀ gg qq rk : Nat → Int, RG 24 gg qq σ → CNR rk gg 28 σ → RDX rk (CC (82 + 1) σ) f gg qq (0 : Int).toNat σ179 ∧ ∀ x : Nat, (x : Int) < (0 : Int) → rdF (σ 82 3) f x ∧ rdO (wW 1 σ) rk (CC (82 + 1) σ) f gg x = 0 from (fun gg qq rk H C => ⟨RDX_F (i := 0) ⟨H, C⟩ (fun c j a b => ((hGσ179 c j (show ¬ ((47 ≤ c ∧ c < 55)) from by omega)))), fun x hx => by exfalso; omega⟩)) (Nat.lt_succ_self _)
            · refine j_aload (pc := 48) dX11_read_48 rfl ?_
              refine j_getI (pc := 50) fl_X11_409 dX11_read_50 (a_82 hX) rfl ?_
              have f196 : (0 : Int) ≤ σ 82 1 ∧ σ 82 1 ≤ 1 := hI 82 1
              refine j_ifR_ne (pc := 53) (tgt := 60) ⟨by omega, by omega⟩ dX11_read_53 rfl (fun h197 => ?_) (fun h197 => ?_)
              · refine j_aload (pc := 60) dX11_read_60 rfl ?_
                refine j_getI (pc := 62) fl_X11_416 dX11_read_62 (a_82 hX) rfl ?_
                have f198 : (-2147483648 : Int) ≤ σ 82 2 ∧ σ 82 2 ≤ 2147483647 := hI 82 2
                refine j_iload_n (pc := 65) dX11_read_65 rfl rfl ?_
                refine j_icmpR_eq (pc := 66) (tgt := 73) ⟨by omega, by omega⟩ ⟨by omega, by omega⟩ dX11_read_66 rfl (fun h199 => ?_) (fun h199 => ?_)
                · refine j_iconst (pc := 73) dX11_read_73 ?_
                  refine j_istore (pc := 74) (i := 6) (ls' := [(0, vR 0), (3, vI f), (4, vI n), (5, vR 82), (6, vI 0), (7, vI 0)]) [1, 3, 4, 5, 0, 6] dX11_read_74 (Nat.le_of_ble_eq_true rfl) rfl rfl ?_
                  refine j_aload_n (pc := 76) dX11_read_76 rfl rfl ?_
                  refine j_getR (pc := 77) (r := 47) fl_X11_36 dX11_read_77 (a_0 hX) rfl ?_
                  refine j_aload_n (pc := 80) dX11_read_80 rfl rfl ?_
                  refine j_getR (pc := 81) (r := 23) fl_X11_26 dX11_read_81 (a_0 hX) rfl ?_
                  refine j_callV (pc := 84) (As := [vR 23]) (st := []) (c_X3_copyOf 47 (s_Hand_47 hX) 23 (s_Hand_23 hX) σ hI (by omega)) mv_X11_398 rfl rfl rfl (a_47 hX) dX11_read_84 ⟨Nat.le_of_ble_eq_true rfl, Nat.le_of_ble_eq_true rfl⟩ ⟨Nat.le_refl _, Nat.le_refl _⟩ rfl (Nat.le_of_ble_eq_true rfl) rfl (fun z200 σ201 hz200 => ?_)
                  obtain ⟨rfl, hIσ201, hGσ201, q202_0, q202_1, q202_2, q202_3, q202_4⟩ := hz200
                  replace q202_0 : σ201 53 0 = σ 29 0 := q202_0
                  replace q202_1 : σ201 54 0 = σ 30 0 := q202_1
                  replace q202_2 : σ201 53 1 = σ 29 1 := q202_2
                  replace q202_3 : σ201 54 1 = σ 30 1 := q202_3
                  replace q202_4 : CPY 47 23 σ σ201 := q202_4
                  have hFσ201 : tw_F (fun c j => (23 ≤ c ∧ c < 31) ∨ (47 ≤ c ∧ c < 55) ∨ (c = 0 ∧ (j = 14))) σ σ201 := tw_F_tr (tw_F_rf) hGσ201 (fun c j q => (show (23 ≤ c ∧ c < 31) ∨ (47 ≤ c ∧ c < 55) ∨ (c = 0 ∧ (j = 14)) from by replace q : (47 ≤ c ∧ c < 55) := q; exact (Or.inr (Or.inl q))))
                  refine j_st (st' := []) rfl ?_
                  have cp9 := q202_4
                  refine j_iconst (pc := 87) dX11_read_87 ?_
                  refine j_istore (pc := 88) (i := 8) (ls' := [(0, vR 0), (3, vI f), (4, vI n), (5, vR 82), (6, vI 0), (7, vI 0), (8, vI 0)]) [1, 2, 3, 4, 5, 6, 0] dX11_read_88 (Nat.le_of_ble_eq_true rfl) rfl rfl ?_
                  refine j_ls (ls' := [(0, vR 0), (3, vI f), (4, vI n), (5, vR 82), (6, vI 0), (7, vI 0), (8, vI 0)]) [0, 1, 2, 3, 4, 5, 6] rfl ?_
                  have y204 : σ201 29 0 = σ 29 0 := (hGσ201 29 0 (show ¬ ((47 ≤ 29 ∧ 29 < 55)) from by decide))
                  have f205 : (0 : Int) ≤ σ 29 0 ∧ σ 29 0 ≤ 999 := hI 29 0
                  have y206 : σ201 30 0 = σ 30 0 := (hGσ201 30 0 (show ¬ ((47 ≤ 30 ∧ 30 < 55)) from by decide))
                  have f207 : (-2147483648 : Int) ≤ σ 30 0 ∧ σ 30 0 ≤ 2147483647 := hI 30 0
                  have y208 : σ201 29 1 = σ 29 1 := (hGσ201 29 1 (show ¬ ((47 ≤ 29 ∧ 29 < 55)) from by decide))
                  have f209 : (0 : Int) ≤ σ 29 1 ∧ σ 29 1 ≤ 999 := hI 29 1
                  have y210 : σ201 30 1 = σ 30 1 := (hGσ201 30 1 (show ¬ ((47 ≤ 30 ∧ 30 < 55)) from by decide))
                  have f211 : (-2147483648 : Int) ≤ σ 30 1 ∧ σ 30 1 ≤ 2147483647 := hI 30 1
                  have y212 : σ201 0 14 = σ 0 14 := (hGσ201 0 14 (show ¬ ((47 ≤ 0 ∧ 0 < 55)) from by decide))
                  have f213 : (-2147483648 : Int) ≤ σ 0 14 ∧ σ 0 14 ≤ 2147483647 := hI 0 14
                  have y214 : σ201 23 4 = σ 23 4 := (hGσ201 23 4 (show ¬ ((47 ≤ 23 ∧ 23 < 55)) from by decide))
                  have f215 : (-2147483648 : Int) ≤ σ 23 4 ∧ σ 23 4 ≤ 2147483647 := hI 23 4
                  have y216 : σ201 23 5 = σ 23 5 := (hGσ201 23 5 (show ¬ ((47 ≤ 23 ∧ 23 < 55)) from by decide))
                  have f217 : (-2147483648 : Int) ≤ σ 23 5 ∧ σ 23 5 ≤ 2147483647 := hI 23 5
                  exact (l_X11_read hX k hk l hl f hf n hn σ hI (((10 - (0 : Int)).toNat) + 1)) 82 (s_Sheet_82 hX) 0 (by (first | decide | exact ⟨by omega, by omega⟩)) 0 (by (first | decide | exact ⟨by omega, by omega⟩)) 0 (by (first | decide | exact ⟨by omega, by omega⟩)) σ201 hIσ201 hFσ201 (show (0 : Int) ≤ (0 : Int) from by omega) (show n ≤ 10 from by omega) (show 0 ≤ n from by omega) (show σ201 29 0 = σ 29 0 from by omega) (show σ201 30 0 = σ 30 0 from by omega) (show σ201 29 1 = σ 29 1 from by omega) (show σ201 30 1 = σ 30 1 from by omega) (show σ201 53 0 = σ 29 0 from by omega) (show σ201 54 0 = σ 30 0 from by omega) (show σ201 53 1 = σ 29 1 from by omega) (show σ201 54 1 = σ 30 1 from by omega) (show (82 : Int) = 80 + 2 * k from by omega) (show CPY 47 23 σ σ201 from cp9) (show σ201 0 14 = σ 0 14 from by omega) (show ((0 : Int) = 0 ∧ (0 : Int) = (0 : Int)) ∨ ((0 : Int) = 2 ∧ (0 : Int) + 1 = (0 : Int) ∧ ¬ (0 ≤ f + 2 * (0 : Int) ∧ f + 2 * (0 : Int) + 1 < σ 82 3)) ∨ ((0 : Int) = 1 ∧ (0 : Int) = 0 ∧ (0 : Int) = 0 ∧ 0 < n ∧ σ 82 1 = 0) ∨ ((0 : Int) = 3 ∧ (0 : Int) = 0 ∧ (0 : Int) = 0 ∧ 0 < n ∧ ¬ σ 82 1 = 0 ∧ ¬ σ 82 2 = l) from (by first | exact Or.inl ⟨rfl, by omega⟩ | exact Or.inr (Or.inl ⟨rfl, by omega, by omega⟩) | exact Or.inr (Or.inr (Or.inl ⟨rfl, by omega, by omega, by omega, by omega⟩)) | exact Or.inr (Or.inr (Or.inr ⟨rfl, by omega, by omega, by omega, by omega, by omega⟩)) | omega)) (show (0 : Int) = 1 ∨ (0 : Int) = 3 ∨ n = 0 ∨ (¬ σ 82 1 = 0 ∧ σ 82 2 = l) from (by first | exact Or.inl rfl | exact Or.inr (Or.inl rfl) | exact Or.inr (Or.inr (Or.inl (by omega))) | exact Or.inr (Or.inr (Or.inr ⟨by omega, by omega⟩)) | omega)) (show (0 : Int) ≤ n from by omega) (show (0 : Int) ≤ n from by omega) (show 0 ≤ k ∧ k ≤ 3 ∧ 0 ≤ l ∧ l ≤ 2 from by omega) (show σ201 23 4 = σ 23 4 from by omega) (show σ201 23 5 = σ 23 5 from by omega) (show ∀ gg qq rk : Nat → Int, RG 24 gg qq σ → CNR rk gg 28 σ → RDX rk (CC (82 + 1) σ) f gg qq (0 : Int).toNat σ201 ∧ ∀ x : Nat, (x : Int) < (0 : Int) → rdF (σ 82 3) f x ∧ rdO (wW 1 σ) rk (CC (82 + 1) σ) f gg x = 0 from (fun gg qq rk H C => ⟨RDX_F (i := 0) ⟨H, C⟩ (fun c j a b => ((hGσ201 c j (show ¬ ((47 ≤ c ∧ c < 55)) from by omega)))), fun x hx => by exfalso; omega⟩)) (Nat.lt_succ_self _)
                · refine j_iconst (pc := 69) dX11_read_69 ?_
                  refine j_goto (pc := 70) (tgt := 74) dX11_read_70 rfl ?_
                  refine j_istore (pc := 74) (i := 6) (ls' := [(0, vR 0), (3, vI f), (4, vI n), (5, vR 82), (6, vI 3), (7, vI 0)]) [1, 3, 4, 5, 0, 6] dX11_read_74 (Nat.le_of_ble_eq_true rfl) rfl rfl ?_
                  refine j_aload_n (pc := 76) dX11_read_76 rfl rfl ?_
                  refine j_getR (pc := 77) (r := 47) fl_X11_36 dX11_read_77 (a_0 hX) rfl ?_
                  refine j_aload_n (pc := 80) dX11_read_80 rfl rfl ?_
                  refine j_getR (pc := 81) (r := 23) fl_X11_26 dX11_read_81 (a_0 hX) rfl ?_
                  refine j_callV (pc := 84) (As := [vR 23]) (st := []) (c_X3_copyOf 47 (s_Hand_47 hX) 23 (s_Hand_23 hX) σ hI (by omega)) mv_X11_398 rfl rfl rfl (a_47 hX) dX11_read_84 ⟨Nat.le_of_ble_eq_true rfl, Nat.le_of_ble_eq_true rfl⟩ ⟨Nat.le_refl _, Nat.le_refl _⟩ rfl (Nat.le_of_ble_eq_true rfl) rfl (fun z218 σ219 hz218 => ?_)
                  obtain ⟨rfl, hIσ219, hGσ219, q220_0, q220_1, q220_2, q220_3, q220_4⟩ := hz218
                  replace q220_0 : σ219 53 0 = σ 29 0 := q220_0
                  replace q220_1 : σ219 54 0 = σ 30 0 := q220_1
                  replace q220_2 : σ219 53 1 = σ 29 1 := q220_2
                  replace q220_3 : σ219 54 1 = σ 30 1 := q220_3
                  replace q220_4 : CPY 47 23 σ σ219 := q220_4
                  have hFσ219 : tw_F (fun c j => (23 ≤ c ∧ c < 31) ∨ (47 ≤ c ∧ c < 55) ∨ (c = 0 ∧ (j = 14))) σ σ219 := tw_F_tr (tw_F_rf) hGσ219 (fun c j q => (show (23 ≤ c ∧ c < 31) ∨ (47 ≤ c ∧ c < 55) ∨ (c = 0 ∧ (j = 14)) from by replace q : (47 ≤ c ∧ c < 55) := q; exact (Or.inr (Or.inl q))))
                  refine j_st (st' := []) rfl ?_
                  have cp9 := q220_4
                  refine j_iconst (pc := 87) dX11_read_87 ?_
                  refine j_istore (pc := 88) (i := 8) (ls' := [(0, vR 0), (3, vI f), (4, vI n), (5, vR 82), (6, vI 3), (7, vI 0), (8, vI 0)]) [1, 2, 3, 4, 5, 6, 0] dX11_read_88 (Nat.le_of_ble_eq_true rfl) rfl rfl ?_
                  refine j_ls (ls' := [(0, vR 0), (3, vI f), (4, vI n), (5, vR 82), (6, vI 3), (7, vI 0), (8, vI 0)]) [0, 1, 2, 3, 4, 5, 6] rfl ?_
                  have y222 : σ219 29 0 = σ 29 0 := (hGσ219 29 0 (show ¬ ((47 ≤ 29 ∧ 29 < 55)) from by decide))
                  have f223 : (0 : Int) ≤ σ 29 0 ∧ σ 29 0 ≤ 999 := hI 29 0
                  have y224 : σ219 30 0 = σ 30 0 := (hGσ219 30 0 (show ¬ ((47 ≤ 30 ∧ 30 < 55)) from by decide))
                  have f225 : (-2147483648 : Int) ≤ σ 30 0 ∧ σ 30 0 ≤ 2147483647 := hI 30 0
                  have y226 : σ219 29 1 = σ 29 1 := (hGσ219 29 1 (show ¬ ((47 ≤ 29 ∧ 29 < 55)) from by decide))
                  have f227 : (0 : Int) ≤ σ 29 1 ∧ σ 29 1 ≤ 999 := hI 29 1
                  have y228 : σ219 30 1 = σ 30 1 := (hGσ219 30 1 (show ¬ ((47 ≤ 30 ∧ 30 < 55)) from by decide))
                  have f229 : (-2147483648 : Int) ≤ σ 30 1 ∧ σ 30 1 ≤ 2147483647 := hI 30 1
                  have y230 : σ219 0 14 = σ 0 14 := (hGσ219 0 14 (show ¬ ((47 ≤ 0 ∧ 0 < 55)) from by decide))
                  have f231 : (-2147483648 : Int) ≤ σ 0 14 ∧ σ 0 14 ≤ 2147483647 := hI 0 14
                  have y232 : σ219 23 4 = σ 23 4 := (hGσ219 23 4 (show ¬ ((47 ≤ 23 ∧ 23 < 55)) from by decide))
                  have f233 : (-2147483648 : Int) ≤ σ 23 4 ∧ σ 23 4 ≤ 2147483647 := hI 23 4
                  have y234 : σ219 23 5 = σ 23 5 := (hGσ219 23 5 (show ¬ ((47 ≤ 23 ∧ 23 < 55)) from by decide))
                  have f235 : (-2147483648 : Int) ≤ σ 23 5 ∧ σ 23 5 ≤ 2147483647 := hI 23 5
                  exact (l_X11_read hX k hk l hl f hf n hn σ hI (((10 - (0 : Int)).toNat) + 1)) 82 (s_Sheet_82 hX) 3 (by (first | decide | exact ⟨by omega, by omega⟩)) 0 (by (first | decide | exact ⟨by omega, by omega⟩)) 0 (by (first | decide | exact ⟨by omega, by omega⟩)) σ219 hIσ219 hFσ219 (show (0 : Int) ≤ (0 : Int) from by omega) (show n ≤ 10 from by omega) (show 0 ≤ n from by omega) (show σ219 29 0 = σ 29 0 from by omega) (show σ219 30 0 = σ 30 0 from by omega) (show σ219 29 1 = σ 29 1 from by omega) (show σ219 30 1 = σ 30 1 from by omega) (show σ219 53 0 = σ 29 0 from by omega) (show σ219 54 0 = σ 30 0 from by omega) (show σ219 53 1 = σ 29 1 from by omega) (show σ219 54 1 = σ 30 1 from by omega) (show (82 : Int) = 80 + 2 * k from by omega) (show CPY 47 23 σ σ219 from cp9) (show σ219 0 14 = σ 0 14 from by omega) (show ((3 : Int) = 0 ∧ (0 : Int) = (0 : Int)) ∨ ((3 : Int) = 2 ∧ (0 : Int) + 1 = (0 : Int) ∧ ¬ (0 ≤ f + 2 * (0 : Int) ∧ f + 2 * (0 : Int) + 1 < σ 82 3)) ∨ ((3 : Int) = 1 ∧ (0 : Int) = 0 ∧ (0 : Int) = 0 ∧ 0 < n ∧ σ 82 1 = 0) ∨ ((3 : Int) = 3 ∧ (0 : Int) = 0 ∧ (0 : Int) = 0 ∧ 0 < n ∧ ¬ σ 82 1 = 0 ∧ ¬ σ 82 2 = l) from (by first | exact Or.inl ⟨rfl, by omega⟩ | exact Or.inr (Or.inl ⟨rfl, by omega, by omega⟩) | exact Or.inr (Or.inr (Or.inl ⟨rfl, by omega, by omega, by omega, by omega⟩)) | exact Or.inr (Or.inr (Or.inr ⟨rfl, by omega, by omega, by omega, by omega, by omega⟩)) | omega)) (show (3 : Int) = 1 ∨ (3 : Int) = 3 ∨ n = 0 ∨ (¬ σ 82 1 = 0 ∧ σ 82 2 = l) from (by first | exact Or.inl rfl | exact Or.inr (Or.inl rfl) | exact Or.inr (Or.inr (Or.inl (by omega))) | exact Or.inr (Or.inr (Or.inr ⟨by omega, by omega⟩)) | omega)) (show (0 : Int) ≤ n from by omega) (show (0 : Int) ≤ n from by omega) (show 0 ≤ k ∧ k ≤ 3 ∧ 0 ≤ l ∧ l ≤ 2 from by omega) (show σ219 23 4 = σ 23 4 from by omega) (show σ219 23 5 = σ 23 5 from by omega) (show ∀ gg qq rk : Nat → Int, RG 24 gg qq σ → CNR rk gg 28 σ → RDX rk (CC (82 + 1) σ) f gg qq (0 : Int).toNat σ219 ∧ ∀ x : Nat, (x : Int) < (0 : Int) → rdF (σ 82 3) f x ∧ rdO (wW 1 σ) rk (CC (82 + 1) σ) f gg x = 0 from (fun gg qq rk H C => ⟨RDX_F (i := 0) ⟨H, C⟩ (fun c j a b => ((hGσ219 c j (show ¬ ((47 ≤ c ∧ c < 55)) from by omega)))), fun x hx => by exfalso; omega⟩)) (Nat.lt_succ_self _)
              · refine j_iconst (pc := 56) dX11_read_56 ?_
                refine j_goto (pc := 57) (tgt := 74) dX11_read_57 rfl ?_
                refine j_istore (pc := 74) (i := 6) (ls' := [(0, vR 0), (3, vI f), (4, vI n), (5, vR 82), (6, vI 1), (7, vI 0)]) [1, 3, 4, 5, 0, 6] dX11_read_74 (Nat.le_of_ble_eq_true rfl) rfl rfl ?_
                refine j_aload_n (pc := 76) dX11_read_76 rfl rfl ?_
                refine j_getR (pc := 77) (r := 47) fl_X11_36 dX11_read_77 (a_0 hX) rfl ?_
                refine j_aload_n (pc := 80) dX11_read_80 rfl rfl ?_
                refine j_getR (pc := 81) (r := 23) fl_X11_26 dX11_read_81 (a_0 hX) rfl ?_
                refine j_callV (pc := 84) (As := [vR 23]) (st := []) (c_X3_copyOf 47 (s_Hand_47 hX) 23 (s_Hand_23 hX) σ hI (by omega)) mv_X11_398 rfl rfl rfl (a_47 hX) dX11_read_84 ⟨Nat.le_of_ble_eq_true rfl, Nat.le_of_ble_eq_true rfl⟩ ⟨Nat.le_refl _, Nat.le_refl _⟩ rfl (Nat.le_of_ble_eq_true rfl) rfl (fun z236 σ237 hz236 => ?_)
                obtain ⟨rfl, hIσ237, hGσ237, q238_0, q238_1, q238_2, q238_3, q238_4⟩ := hz236
                replace q238_0 : σ237 53 0 = σ 29 0 := q238_0
                replace q238_1 : σ237 54 0 = σ 30 0 := q238_1
                replace q238_2 : σ237 53 1 = σ 29 1 := q238_2
                replace q238_3 : σ237 54 1 = σ 30 1 := q238_3
                replace q238_4 : CPY 47 23 σ σ237 := q238_4
                have hFσ237 : tw_F (fun c j => (23 ≤ c ∧ c < 31) ∨ (47 ≤ c ∧ c < 55) ∨ (c = 0 ∧ (j = 14))) σ σ237 := tw_F_tr (tw_F_rf) hGσ237 (fun c j q => (show (23 ≤ c ∧ c < 31) ∨ (47 ≤ c ∧ c < 55) ∨ (c = 0 ∧ (j = 14)) from by replace q : (47 ≤ c ∧ c < 55) := q; exact (Or.inr (Or.inl q))))
                refine j_st (st' := []) rfl ?_
                have cp9 := q238_4
                refine j_iconst (pc := 87) dX11_read_87 ?_
                refine j_istore (pc := 88) (i := 8) (ls' := [(0, vR 0), (3, vI f), (4, vI n), (5, vR 82), (6, vI 1), (7, vI 0), (8, vI 0)]) [1, 2, 3, 4, 5, 6, 0] dX11_read_88 (Nat.le_of_ble_eq_true rfl) rfl rfl ?_
                refine j_ls (ls' := [(0, vR 0), (3, vI f), (4, vI n), (5, vR 82), (6, vI 1), (7, vI 0), (8, vI 0)]) [0, 1, 2, 3, 4, 5, 6] rfl ?_
                have y240 : σ237 29 0 = σ 29 0 := (hGσ237 29 0 (show ¬ ((47 ≤ 29 ∧ 29 < 55)) from by decide))
                have f241 : (0 : Int) ≤ σ 29 0 ∧ σ 29 0 ≤ 999 := hI 29 0
                have y242 : σ237 30 0 = σ 30 0 := (hGσ237 30 0 (show ¬ ((47 ≤ 30 ∧ 30 < 55)) from by decide))
                have f243 : (-2147483648 : Int) ≤ σ 30 0 ∧ σ 30 0 ≤ 2147483647 := hI 30 0
                have y244 : σ237 29 1 = σ 29 1 := (hGσ237 29 1 (show ¬ ((47 ≤ 29 ∧ 29 < 55)) from by decide))
                have f245 : (0 : Int) ≤ σ 29 1 ∧ σ 29 1 ≤ 999 := hI 29 1
                have y246 : σ237 30 1 = σ 30 1 := (hGσ237 30 1 (show ¬ ((47 ≤ 30 ∧ 30 < 55)) from by decide))
                have f247 : (-2147483648 : Int) ≤ σ 30 1 ∧ σ 30 1 ≤ 2147483647 := hI 30 1
                have y248 : σ237 0 14 = σ 0 14 := (hGσ237 0 14 (show ¬ ((47 ≤ 0 ∧ 0 < 55)) from by decide))
                have f249 : (-2147483648 : Int) ≤ σ 0 14 ∧ σ 0 14 ≤ 2147483647 := hI 0 14
                have y250 : σ237 23 4 = σ 23 4 := (hGσ237 23 4 (show ¬ ((47 ≤ 23 ∧ 23 < 55)) from by decide))
                have f251 : (-2147483648 : Int) ≤ σ 23 4 ∧ σ 23 4 ≤ 2147483647 := hI 23 4
                have y252 : σ237 23 5 = σ 23 5 := (hGσ237 23 5 (show ¬ ((47 ≤ 23 ∧ 23 < 55)) from by decide))
                have f253 : (-2147483648 : Int) ≤ σ 23 5 ∧ σ 23 5 ≤ 2147483647 := hI 23 5
                exact (l_X11_read hX k hk l hl f hf n hn σ hI (((10 - (0 : Int)).toNat) + 1)) 82 (s_Sheet_82 hX) 1 (by (first | decide | exact ⟨by omega, by omega⟩)) 0 (by (first | decide | exact ⟨by omega, by omega⟩)) 0 (by (first | decide | exact ⟨by omega, by omega⟩)) σ237 hIσ237 hFσ237 (show (0 : Int) ≤ (0 : Int) from by omega) (show n ≤ 10 from by omega) (show 0 ≤ n from by omega) (show σ237 29 0 = σ 29 0 from by omega) (show σ237 30 0 = σ 30 0 from by omega) (show σ237 29 1 = σ 29 1 from by omega) (show σ237 30 1 = σ 30 1 from by omega) (show σ237 53 0 = σ 29 0 from by omega) (show σ237 54 0 = σ 30 0 from by omega) (show σ237 53 1 = σ 29 1 from by omega) (show σ237 54 1 = σ 30 1 from by omega) (show (82 : Int) = 80 + 2 * k from by omega) (show CPY 47 23 σ σ237 from cp9) (show σ237 0 14 = σ 0 14 from by omega) (show ((1 : Int) = 0 ∧ (0 : Int) = (0 : Int)) ∨ ((1 : Int) = 2 ∧ (0 : Int) + 1 = (0 : Int) ∧ ¬ (0 ≤ f + 2 * (0 : Int) ∧ f + 2 * (0 : Int) + 1 < σ 82 3)) ∨ ((1 : Int) = 1 ∧ (0 : Int) = 0 ∧ (0 : Int) = 0 ∧ 0 < n ∧ σ 82 1 = 0) ∨ ((1 : Int) = 3 ∧ (0 : Int) = 0 ∧ (0 : Int) = 0 ∧ 0 < n ∧ ¬ σ 82 1 = 0 ∧ ¬ σ 82 2 = l) from (by first | exact Or.inl ⟨rfl, by omega⟩ | exact Or.inr (Or.inl ⟨rfl, by omega, by omega⟩) | exact Or.inr (Or.inr (Or.inl ⟨rfl, by omega, by omega, by omega, by omega⟩)) | exact Or.inr (Or.inr (Or.inr ⟨rfl, by omega, by omega, by omega, by omega, by omega⟩)) | omega)) (show (1 : Int) = 1 ∨ (1 : Int) = 3 ∨ n = 0 ∨ (¬ σ 82 1 = 0 ∧ σ 82 2 = l) from (by first | exact Or.inl rfl | exact Or.inr (Or.inl rfl) | exact Or.inr (Or.inr (Or.inl (by omega))) | exact Or.inr (Or.inr (Or.inr ⟨by omega, by omega⟩)) | omega)) (show (0 : Int) ≤ n from by omega) (show (0 : Int) ≤ n from by omega) (show 0 ≤ k ∧ k ≤ 3 ∧ 0 ≤ l ∧ l ≤ 2 from by omega) (show σ237 23 4 = σ 23 4 from by omega) (show σ237 23 5 = σ 23 5 from by omega) (show ∀ gg qq rk : Nat → Int, RG 24 gg qq σ → CNR rk gg 28 σ → RDX rk (CC (82 + 1) σ) f gg qq (0 : Int).toNat σ237 ∧ ∀ x : Nat, (x : Int) < (0 : Int) → rdF (σ 82 3) f x ∧ rdO (wW 1 σ) rk (CC (82 + 1) σ) f gg x = 0 from (fun gg qq rk H C => ⟨RDX_F (i := 0) ⟨H, C⟩ (fun c j a b => ((hGσ237 c j (show ¬ ((47 ≤ c ∧ c < 55)) from by omega)))), fun x hx => by exfalso; omega⟩)) (Nat.lt_succ_self _)
          · refine j_aald (pc := 34) (r := 84) dX11_read_34 (a_79 hX) (by omega) (by rw [h99]; decide) (by rw [h99]; rfl) (by decide) ?_
            refine j_astore (pc := 35) (i := 5) (ls' := [(0, vR 0), (2, vI l), (3, vI f), (4, vI n), (5, vR 84)]) [1, 3, 4, 5, 0] dX11_read_35 (Nat.le_of_ble_eq_true rfl) rfl rfl ?_
            refine j_iconst (pc := 37) dX11_read_37 ?_
            refine j_istore (pc := 38) (i := 6) (ls' := [(0, vR 0), (2, vI l), (3, vI f), (4, vI n), (5, vR 84), (6, vI 0)]) [1, 2, 3, 4, 5, 0] dX11_read_38 (Nat.le_of_ble_eq_true rfl) rfl rfl ?_
            refine j_iconst (pc := 40) dX11_read_40 ?_
            refine j_istore (pc := 41) (i := 7) (ls' := [(0, vR 0), (2, vI l), (3, vI f), (4, vI n), (5, vR 84), (6, vI 0), (7, vI 0)]) [1, 2, 3, 4, 5, 6, 0] dX11_read_41 (Nat.le_of_ble_eq_true rfl) rfl rfl ?_
            refine j_iload (pc := 43) dX11_read_43 rfl ?_
            refine j_ifR_le (pc := 45) (tgt := 76) ⟨by omega, by omega⟩ dX11_read_45 rfl (fun h254 => ?_) (fun h254 => ?_)
            · refine j_aload_n (pc := 76) dX11_read_76 rfl rfl ?_
              refine j_getR (pc := 77) (r := 47) fl_X11_36 dX11_read_77 (a_0 hX) rfl ?_
              refine j_aload_n (pc := 80) dX11_read_80 rfl rfl ?_
              refine j_getR (pc := 81) (r := 23) fl_X11_26 dX11_read_81 (a_0 hX) rfl ?_
              refine j_callV (pc := 84) (As := [vR 23]) (st := []) (c_X3_copyOf 47 (s_Hand_47 hX) 23 (s_Hand_23 hX) σ hI (by omega)) mv_X11_398 rfl rfl rfl (a_47 hX) dX11_read_84 ⟨Nat.le_of_ble_eq_true rfl, Nat.le_of_ble_eq_true rfl⟩ ⟨Nat.le_refl _, Nat.le_refl _⟩ rfl (Nat.le_of_ble_eq_true rfl) rfl (fun z255 σ256 hz255 => ?_)
              obtain ⟨rfl, hIσ256, hGσ256, q257_0, q257_1, q257_2, q257_3, q257_4⟩ := hz255
              replace q257_0 : σ256 53 0 = σ 29 0 := q257_0
              replace q257_1 : σ256 54 0 = σ 30 0 := q257_1
              replace q257_2 : σ256 53 1 = σ 29 1 := q257_2
              replace q257_3 : σ256 54 1 = σ 30 1 := q257_3
              replace q257_4 : CPY 47 23 σ σ256 := q257_4
              have hFσ256 : tw_F (fun c j => (23 ≤ c ∧ c < 31) ∨ (47 ≤ c ∧ c < 55) ∨ (c = 0 ∧ (j = 14))) σ σ256 := tw_F_tr (tw_F_rf) hGσ256 (fun c j q => (show (23 ≤ c ∧ c < 31) ∨ (47 ≤ c ∧ c < 55) ∨ (c = 0 ∧ (j = 14)) from by replace q : (47 ≤ c ∧ c < 55) := q; exact (Or.inr (Or.inl q))))
              refine j_st (st' := []) rfl ?_
              have cp9 := q257_4
              refine j_iconst (pc := 87) dX11_read_87 ?_
              refine j_istore (pc := 88) (i := 8) (ls' := [(0, vR 0), (3, vI f), (4, vI n), (5, vR 84), (6, vI 0), (7, vI 0), (8, vI 0)]) [1, 3, 4, 5, 6, 7, 0] dX11_read_88 (Nat.le_of_ble_eq_true rfl) rfl rfl ?_
              refine j_ls (ls' := [(0, vR 0), (3, vI f), (4, vI n), (5, vR 84), (6, vI 0), (7, vI 0), (8, vI 0)]) [0, 1, 2, 3, 4, 5, 6] rfl ?_
              have y259 : σ256 29 0 = σ 29 0 := (hGσ256 29 0 (show ¬ ((47 ≤ 29 ∧ 29 < 55)) from by decide))
              have f260 : (0 : Int) ≤ σ 29 0 ∧ σ 29 0 ≤ 999 := hI 29 0
              have y261 : σ256 30 0 = σ 30 0 := (hGσ256 30 0 (show ¬ ((47 ≤ 30 ∧ 30 < 55)) from by decide))
              have f262 : (-2147483648 : Int) ≤ σ 30 0 ∧ σ 30 0 ≤ 2147483647 := hI 30 0
              have y263 : σ256 29 1 = σ 29 1 := (hGσ256 29 1 (show ¬ ((47 ≤ 29 ∧ 29 < 55)) from by decide))
              have f264 : (0 : Int) ≤ σ 29 1 ∧ σ 29 1 ≤ 999 := hI 29 1
              have y265 : σ256 30 1 = σ 30 1 := (hGσ256 30 1 (show ¬ ((47 ≤ 30 ∧ 30 < 55)) from by decide))
              have f266 : (-2147483648 : Int) ≤ σ 30 1 ∧ σ 30 1 ≤ 2147483647 := hI 30 1
              have y267 : σ256 0 14 = σ 0 14 := (hGσ256 0 14 (show ¬ ((47 ≤ 0 ∧ 0 < 55)) from by decide))
              have f268 : (-2147483648 : Int) ≤ σ 0 14 ∧ σ 0 14 ≤ 2147483647 := hI 0 14
              have y269 : σ256 23 4 = σ 23 4 := (hGσ256 23 4 (show ¬ ((47 ≤ 23 ∧ 23 < 55)) from by decide))
              have f270 : (-2147483648 : Int) ≤ σ 23 4 ∧ σ 23 4 ≤ 2147483647 := hI 23 4
              have y271 : σ256 23 5 = σ 23 5 := (hGσ256 23 5 (show ¬ ((47 ≤ 23 ∧ 23 < 55)) from by decide))
              have f272 : (-2147483648 : Int) ≤ σ 23 5 ∧ σ 23 5 ≤ 2147483647 := hI 23 5
              exact (l_X11_read hX k hk l hl f hf n hn σ hI (((10 - (0 : Int)).toNat) + 1)) 84 (s_Sheet_84 hX) 0 (by (first | decide | exact ⟨by omega, by omega⟩)) 0 (by (first | decide | exact ⟨by omega, by omega⟩)) 0 (by (first | decide | exact ⟨by omega, by omega⟩)) σ256 hIσ256 hFσ256 (show (0 : Int) ≤ (0 : Int) from by omega) (show n ≤ 10 from by omega) (show 0 ≤ n from by omega) (show σ256 29 0 = σ 29 0 from by omega) (show σ256 30 0 = σ 30 0 from by omega) (show σ256 29 1 = σ 29 1 from by omega) (show σ256 30 1 = σ 30 1 from by omega) (show σ256 53 0 = σ 29 0 from by omega) (show σ256 54 0 = σ 30 0 from by omega) (show σ256 53 1 = σ 29 1 from by omega) (show σ256 54 1 = σ 30 1 from by omega) (show (84 : Int) = 80 + 2 * k from by omega) (show CPY 47 23 σ σ256 from cp9) (show σ256 0 14 = σ 0 14 from by omega) (show ((0 : Int) = 0 ∧ (0 : Int) = (0 : Int)) ∨ ((0 : Int) = 2 ∧ (0 : Int) + 1 = (0 : Int) ∧ ¬ (0 ≤ f + 2 * (0 : Int) ∧ f + 2 * (0 : Int) + 1 < σ 84 3)) ∨ ((0 : Int) = 1 ∧ (0 : Int) = 0 ∧ (0 : Int) = 0 ∧ 0 < n ∧ σ 84 1 = 0) ∨ ((0 : Int) = 3 ∧ (0 : Int) = 0 ∧ (0 : Int) = 0 ∧ 0 < n ∧ ¬ σ 84 1 = 0 ∧ ¬ σ 84 2 = l) from (by first | exact Or.inl ⟨rfl, by omega⟩ | exact Or.inr (Or.inl ⟨rfl, by omega, by omega⟩) | exact Or.inr (Or.inr (Or.inl ⟨rfl, by omega, by omega, by omega, by omega⟩)) | exact Or.inr (Or.inr (Or.inr ⟨rfl, by omega, by omega, by omega, by omega, by omega⟩)) | omega)) (show (0 : Int) = 1 ∨ (0 : Int) = 3 ∨ n = 0 ∨ (¬ σ 84 1 = 0 ∧ σ 84 2 = l) from (by first | exact Or.inl rfl | exact Or.inr (Or.inl rfl) | exact Or.inr (Or.inr (Or.inl (by omega))) | exact Or.inr (Or.inr (Or.inr ⟨by omega, by omega⟩)) | omega)) (show (0 : Int) ≤ n from by omega) (show (0 : Int) ≤ n from by omega) (show 0 ≤ k ∧ k ≤ 3 ∧ 0 ≤ l ∧ l ≤ 2 from by omega) (show σ256 23 4 = σ 23 4 from by omega) (show σ256 23 5 = σ 23 5 from by omega) (show ∀ gg qq rk : Nat → Int, RG 24 gg qq σ → CNR rk gg 28 σ → RDX rk (CC (84 + 1) σ) f gg qq (0 : Int).toNat σ256 ∧ ∀ x : Nat, (x : Int) < (0 : Int) → rdF (σ 84 3) f x ∧ rdO (wW 1 σ) rk (CC (84 + 1) σ) f gg x = 0 from (fun gg qq rk H C => ⟨RDX_F (i := 0) ⟨H, C⟩ (fun c j a b => ((hGσ256 c j (show ¬ ((47 ≤ c ∧ c < 55)) from by omega)))), fun x hx => by exfalso; omega⟩)) (Nat.lt_succ_self _)
            · refine j_aload (pc := 48) dX11_read_48 rfl ?_
              refine j_getI (pc := 50) fl_X11_409 dX11_read_50 (a_84 hX) rfl ?_
              have f273 : (0 : Int) ≤ σ 84 1 ∧ σ 84 1 ≤ 1 := hI 84 1
              refine j_ifR_ne (pc := 53) (tgt := 60) ⟨by omega, by omega⟩ dX11_read_53 rfl (fun h274 => ?_) (fun h274 => ?_)
              · refine j_aload (pc := 60) dX11_read_60 rfl ?_
                refine j_getI (pc := 62) fl_X11_416 dX11_read_62 (a_84 hX) rfl ?_
                have f275 : (-2147483648 : Int) ≤ σ 84 2 ∧ σ 84 2 ≤ 2147483647 := hI 84 2
                refine j_iload_n (pc := 65) dX11_read_65 rfl rfl ?_
                refine j_icmpR_eq (pc := 66) (tgt := 73) ⟨by omega, by omega⟩ ⟨by omega, by omega⟩ dX11_read_66 rfl (fun h276 => ?_) (fun h276 => ?_)
                · refine j_iconst (pc := 73) dX11_read_73 ?_
                  refine j_istore (pc := 74) (i := 6) (ls' := [(0, vR 0), (3, vI f), (4, vI n), (5, vR 84), (6, vI 0), (7, vI 0)]) [1, 3, 4, 5, 0, 6] dX11_read_74 (Nat.le_of_ble_eq_true rfl) rfl rfl ?_
                  refine j_aload_n (pc := 76) dX11_read_76 rfl rfl ?_
                  refine j_getR (pc := 77) (r := 47) fl_X11_36 dX11_read_77 (a_0 hX) rfl ?_
                  refine j_aload_n (pc := 80) dX11_read_80 rfl rfl ?_
                  refine j_getR (pc := 81) (r := 23) fl_X11_26 dX11_read_81 (a_0 hX) rfl ?_
                  refine j_callV (pc := 84) (As := [vR 23]) (st := []) (c_X3_copyOf 47 (s_Hand_47 hX) 23 (s_Hand_23 hX) σ hI (by omega)) mv_X11_398 rfl rfl rfl (a_47 hX) dX11_read_84 ⟨Nat.le_of_ble_eq_true rfl, Nat.le_of_ble_eq_true rfl⟩ ⟨Nat.le_refl _, Nat.le_refl _⟩ rfl (Nat.le_of_ble_eq_true rfl) rfl (fun z277 σ278 hz277 => ?_)
                  obtain ⟨rfl, hIσ278, hGσ278, q279_0, q279_1, q279_2, q279_3, q279_4⟩ := hz277
                  replace q279_0 : σ278 53 0 = σ 29 0 := q279_0
                  replace q279_1 : σ278 54 0 = σ 30 0 := q279_1
                  replace q279_2 : σ278 53 1 = σ 29 1 := q279_2
                  replace q279_3 : σ278 54 1 = σ 30 1 := q279_3
                  replace q279_4 : CPY 47 23 σ σ278 := q279_4
                  have hFσ278 : tw_F (fun c j => (23 ≤ c ∧ c < 31) ∨ (47 ≤ c ∧ c < 55) ∨ (c = 0 ∧ (j = 14))) σ σ278 := tw_F_tr (tw_F_rf) hGσ278 (fun c j q => (show (23 ≤ c ∧ c < 31) ∨ (47 ≤ c ∧ c < 55) ∨ (c = 0 ∧ (j = 14)) from by replace q : (47 ≤ c ∧ c < 55) := q; exact (Or.inr (Or.inl q))))
                  refine j_st (st' := []) rfl ?_
                  have cp9 := q279_4
                  refine j_iconst (pc := 87) dX11_read_87 ?_
                  refine j_istore (pc := 88) (i := 8) (ls' := [(0, vR 0), (3, vI f), (4, vI n), (5, vR 84), (6, vI 0), (7, vI 0), (8, vI 0)]) [1, 2, 3, 4, 5, 6, 0] dX11_read_88 (Nat.le_of_ble_eq_true rfl) rfl rfl ?_
                  refine j_ls (ls' := [(0, vR 0), (3, vI f), (4, vI n), (5, vR 84), (6, vI 0), (7, vI 0), (8, vI 0)]) [0, 1, 2, 3, 4, 5, 6] rfl ?_
                  have y281 : σ278 29 0 = σ 29 0 := (hGσ278 29 0 (show ¬ ((47 ≤ 29 ∧ 29 < 55)) from by decide))
                  have f282 : (0 : Int) ≤ σ 29 0 ∧ σ 29 0 ≤ 999 := hI 29 0
                  have y283 : σ278 30 0 = σ 30 0 := (hGσ278 30 0 (show ¬ ((47 ≤ 30 ∧ 30 < 55)) from by decide))
                  have f284 : (-2147483648 : Int) ≤ σ 30 0 ∧ σ 30 0 ≤ 2147483647 := hI 30 0
                  have y285 : σ278 29 1 = σ 29 1 := (hGσ278 29 1 (show ¬ ((47 ≤ 29 ∧ 29 < 55)) from by decide))
                  have f286 : (0 : Int) ≤ σ 29 1 ∧ σ 29 1 ≤ 999 := hI 29 1
                  have y287 : σ278 30 1 = σ 30 1 := (hGσ278 30 1 (show ¬ ((47 ≤ 30 ∧ 30 < 55)) from by decide))
                  have f288 : (-2147483648 : Int) ≤ σ 30 1 ∧ σ 30 1 ≤ 2147483647 := hI 30 1
                  have y289 : σ278 0 14 = σ 0 14 := (hGσ278 0 14 (show ¬ ((47 ≤ 0 ∧ 0 < 55)) from by decide))
                  have f290 : (-2147483648 : Int) ≤ σ 0 14 ∧ σ 0 14 ≤ 2147483647 := hI 0 14
                  have y291 : σ278 23 4 = σ 23 4 := (hGσ278 23 4 (show ¬ ((47 ≤ 23 ∧ 23 < 55)) from by decide))
                  have f292 : (-2147483648 : Int) ≤ σ 23 4 ∧ σ 23 4 ≤ 2147483647 := hI 23 4
                  have y293 : σ278 23 5 = σ 23 5 := (hGσ278 23 5 (show ¬ ((47 ≤ 23 ∧ 23 < 55)) from by decide))
                  have f294 : (-2147483648 : Int) ≤ σ 23 5 ∧ σ 23 5 ≤ 2147483647 := hI 23 5
                  exact (l_X11_read hX k hk l hl f hf n hn σ hI (((10 - (0 : Int)).toNat) + 1)) 84 (s_Sheet_84 hX) 0 (by (first | decide | exact ⟨by omega, by omega⟩)) 0 (by (first | decide | exact ⟨by omega, by omega⟩)) 0 (by (first | decide | exact ⟨by omega, by omega⟩)) σ278 hIσ278 hFσ278 (show (0 : Int) ≤ (0 : Int) from by omega) (show n ≤ 10 from by omega) (show 0 ≤ n from by omega) (show σ278 29 0 = σ 29 0 from by omega) (show σ278 30 0 = σ 30 0 from by omega) (show σ278 29 1 = σ 29 1 from by omega) (show σ278 30 1 = σ 30 1 from by omega) (show σ278 53 0 = σ 29 0 from by omega) (show σ278 54 0 = σ 30 0 from by omega) (show σ278 53 1 = σ 29 1 from by omega) (show σ278 54 1 = σ 30 1 from by omega) (show (84 : Int) = 80 + 2 * k from by omega) (show CPY 47 23 σ σ278 from cp9) (show σ278 0 14 = σ 0 14 from by omega) (show ((0 : Int) = 0 ∧ (0 : Int) = (0 : Int)) ∨ ((0 : Int) = 2 ∧ (0 : Int) + 1 = (0 : Int) ∧ ¬ (0 ≤ f + 2 * (0 : Int) ∧ f + 2 * (0 : Int) + 1 < σ 84 3)) ∨ ((0 : Int) = 1 ∧ (0 : Int) = 0 ∧ (0 : Int) = 0 ∧ 0 < n ∧ σ 84 1 = 0) ∨ ((0 : Int) = 3 ∧ (0 : Int) = 0 ∧ (0 : Int) = 0 ∧ 0 < n ∧ ¬ σ 84 1 = 0 ∧ ¬ σ 84 2 = l) from (by first | exact Or.inl ⟨rfl, by omega⟩ | exact Or.inr (Or.inl ⟨rfl, by omega, by omega⟩) | exact Or.inr (Or.inr (Or.inl ⟨rfl, by omega, by omega, by omega, by omega⟩)) | exact Or.inr (Or.inr (Or.inr ⟨rfl, by omega, by omega, by omega, by omega, by omega⟩)) | omega)) (show (0 : Int) = 1 ∨ (0 : Int) = 3 ∨ n = 0 ∨ (¬ σ 84 1 = 0 ∧ σ 84 2 = l) from (by first | exact Or.inl rfl | exact Or.inr (Or.inl rfl) | exact Or.inr (Or.inr (Or.inl (by omega))) | exact Or.inr (Or.inr (Or.inr ⟨by omega, by omega⟩)) | omega)) (show (0 : Int) ≤ n from by omega) (show (0 : Int) ≤ n from by omega) (show 0 ≤ k ∧ k ≤ 3 ∧ 0 ≤ l ∧ l ≤ 2 from by omega) (show σ278 23 4 = σ 23 4 from by omega) (show σ278 23 5 = σ 23 5 from by omega) (show ∀ gg qq rk : Nat → Int, RG 24 gg qq σ → CNR rk gg 28 σ → RDX rk (CC (84 + 1) σ) f gg qq (0 : Int).toNat σ278 ∧ ∀ x : Nat, (x : Int) < (0 : Int) → rdF (σ 84 3) f x ∧ rdO (wW 1 σ) rk (CC (84 + 1) σ) f gg x = 0 from (fun gg qq rk H C => ⟨RDX_F (i := 0) ⟨H, C⟩ (fun c j a b => ((hGσ278 c j (show ¬ ((47 ≤ c ∧ c < 55)) from by omega)))), fun x hx => by exfalso; omega⟩)) (Nat.lt_succ_self _)
                · refine j_iconst (pc := 69) dX11_read_69 ?_
                  refine j_goto (pc := 70) (tgt := 74) dX11_read_70 rfl ?_
                  refine j_istore (pc := 74) (i := 6) (ls' := [(0, vR 0), (3, vI f), (4, vI n), (5, vR 84), (6, vI 3), (7, vI 0)]) [1, 3, 4, 5, 0, 6] dX11_read_74 (Nat.le_of_ble_eq_true rfl) rfl rfl ?_
                  refine j_aload_n (pc := 76) dX11_read_76 rfl rfl ?_
                  refine j_getR (pc := 77) (r := 47) fl_X11_36 dX11_read_77 (a_0 hX) rfl ?_
                  refine j_aload_n (pc := 80) dX11_read_80 rfl rfl ?_
                  refine j_getR (pc := 81) (r := 23) fl_X11_26 dX11_read_81 (a_0 hX) rfl ?_
                  refine j_callV (pc := 84) (As := [vR 23]) (st := []) (c_X3_copyOf 47 (s_Hand_47 hX) 23 (s_Hand_23 hX) σ hI (by omega)) mv_X11_398 rfl rfl rfl (a_47 hX) dX11_read_84 ⟨Nat.le_of_ble_eq_true rfl, Nat.le_of_ble_eq_true rfl⟩ ⟨Nat.le_refl _, Nat.le_refl _⟩ rfl (Nat.le_of_ble_eq_true rfl) rfl (fun z295 σ296 hz295 => ?_)
                  obtain ⟨rfl, hIσ296, hGσ296, q297_0, q297_1, q297_2, q297_3, q297_4⟩ := hz295
                  replace q297_0 : σ296 53 0 = σ 29 0 := q297_0
                  replace q297_1 : σ296 54 0 = σ 30 0 := q297_1
                  replace q297_2 : σ296 53 1 = σ 29 1 := q297_2
                  replace q297_3 : σ296 54 1 = σ 30 1 := q297_3
                  replace q297_4 : CPY 47 23 σ σ296 := q297_4
                  have hFσ296 : tw_F (fun c j => (23 ≤ c ∧ c < 31) ∨ (47 ≤ c ∧ c < 55) ∨ (c = 0 ∧ (j = 14))) σ σ296 := tw_F_tr (tw_F_rf) hGσ296 (fun c j q => (show (23 ≤ c ∧ c < 31) ∨ (47 ≤ c ∧ c < 55) ∨ (c = 0 ∧ (j = 14)) from by replace q : (47 ≤ c ∧ c < 55) := q; exact (Or.inr (Or.inl q))))
                  refine j_st (st' := []) rfl ?_
                  have cp9 := q297_4
                  refine j_iconst (pc := 87) dX11_read_87 ?_
                  refine j_istore (pc := 88) (i := 8) (ls' := [(0, vR 0), (3, vI f), (4, vI n), (5, vR 84), (6, vI 3), (7, vI 0), (8, vI 0)]) [1, 2, 3, 4, 5, 6, 0] dX11_read_88 (Nat.le_of_ble_eq_true rfl) rfl rfl ?_
                  refine j_ls (ls' := [(0, vR 0), (3, vI f), (4, vI n), (5, vR 84), (6, vI 3), (7, vI 0), (8, vI 0)]) [0, 1, 2, 3, 4, 5, 6] rfl ?_
                  have y299 : σ296 29 0 = σ 29 0 := (hGσ296 29 0 (show ¬ ((47 ≤ 29 ∧ 29 < 55)) from by decide))
                  have f300 : (0 : Int) ≤ σ 29 0 ∧ σ 29 0 ≤ 999 := hI 29 0
                  have y301 : σ296 30 0 = σ 30 0 := (hGσ296 30 0 (show ¬ ((47 ≤ 30 ∧ 30 < 55)) from by decide))
                  have f302 : (-2147483648 : Int) ≤ σ 30 0 ∧ σ 30 0 ≤ 2147483647 := hI 30 0
                  have y303 : σ296 29 1 = σ 29 1 := (hGσ296 29 1 (show ¬ ((47 ≤ 29 ∧ 29 < 55)) from by decide))
                  have f304 : (0 : Int) ≤ σ 29 1 ∧ σ 29 1 ≤ 999 := hI 29 1
                  have y305 : σ296 30 1 = σ 30 1 := (hGσ296 30 1 (show ¬ ((47 ≤ 30 ∧ 30 < 55)) from by decide))
                  have f306 : (-2147483648 : Int) ≤ σ 30 1 ∧ σ 30 1 ≤ 2147483647 := hI 30 1
                  have y307 : σ296 0 14 = σ 0 14 := (hGσ296 0 14 (show ¬ ((47 ≤ 0 ∧ 0 < 55)) from by decide))
                  have f308 : (-2147483648 : Int) ≤ σ 0 14 ∧ σ 0 14 ≤ 2147483647 := hI 0 14
                  have y309 : σ296 23 4 = σ 23 4 := (hGσ296 23 4 (show ¬ ((47 ≤ 23 ∧ 23 < 55)) from by decide))
                  have f310 : (-2147483648 : Int) ≤ σ 23 4 ∧ σ 23 4 ≤ 2147483647 := hI 23 4
                  have y311 : σ296 23 5 = σ 23 5 := (hGσ296 23 5 (show ¬ ((47 ≤ 23 ∧ 23 < 55)) from by decide))
                  have f312 : (-2147483648 : Int) ≤ σ 23 5 ∧ σ 23 5 ≤ 2147483647 := hI 23 5
                  exact (l_X11_read hX k hk l hl f hf n hn σ hI (((10 - (0 : Int)).toNat) + 1)) 84 (s_Sheet_84 hX) 3 (by (first | decide | exact ⟨by omega, by omega⟩)) 0 (by (first | decide | exact ⟨by omega, by omega⟩)) 0 (by (first | decide | exact ⟨by omega, by omega⟩)) σ296 hIσ296 hFσ296 (show (0 : Int) ≤ (0 : Int) from by omega) (show n ≤ 10 from by omega) (show 0 ≤ n from by omega) (show σ296 29 0 = σ 29 0 from by omega) (show σ296 30 0 = σ 30 0 from by omega) (show σ296 29 1 = σ 29 1 from by omega) (show σ296 30 1 = σ 30 1 from by omega) (show σ296 53 0 = σ 29 0 from by omega) (show σ296 54 0 = σ 30 0 from by omega) (show σ296 53 1 = σ 29 1 from by omega) (show σ296 54 1 = σ 30 1 from by omega) (show (84 : Int) = 80 + 2 * k from by omega) (show CPY 47 23 σ σ296 from cp9) (show σ296 0 14 = σ 0 14 from by omega) (show ((3 : Int) = 0 ∧ (0 : Int) = (0 : Int)) ∨ ((3 : Int) = 2 ∧ (0 : Int) + 1 = (0 : Int) ∧ ¬ (0 ≤ f + 2 * (0 : Int) ∧ f + 2 * (0 : Int) + 1 < σ 84 3)) ∨ ((3 : Int) = 1 ∧ (0 : Int) = 0 ∧ (0 : Int) = 0 ∧ 0 < n ∧ σ 84 1 = 0) ∨ ((3 : Int) = 3 ∧ (0 : Int) = 0 ∧ (0 : Int) = 0 ∧ 0 < n ∧ ¬ σ 84 1 = 0 ∧ ¬ σ 84 2 = l) from (by first | exact Or.inl ⟨rfl, by omega⟩ | exact Or.inr (Or.inl ⟨rfl, by omega, by omega⟩) | exact Or.inr (Or.inr (Or.inl ⟨rfl, by omega, by omega, by omega, by omega⟩)) | exact Or.inr (Or.inr (Or.inr ⟨rfl, by omega, by omega, by omega, by omega, by omega⟩)) | omega)) (show (3 : Int) = 1 ∨ (3 : Int) = 3 ∨ n = 0 ∨ (¬ σ 84 1 = 0 ∧ σ 84 2 = l) from (by first | exact Or.inl rfl | exact Or.inr (Or.inl rfl) | exact Or.inr (Or.inr (Or.inl (by omega))) | exact Or.inr (Or.inr (Or.inr ⟨by omega, by omega⟩)) | omega)) (show (0 : Int) ≤ n from by omega) (show (0 : Int) ≤ n from by omega) (show 0 ≤ k ∧ k ≤ 3 ∧ 0 ≤ l ∧ l ≤ 2 from by omega) (show σ296 23 4 = σ 23 4 from by omega) (show σ296 23 5 = σ 23 5 from by omega) (show ∀ gg qq rk : Nat → Int, RG 24 gg qq σ → CNR rk gg 28 σ → RDX rk (CC (84 + 1) σ) f gg qq (0 : Int).toNat σ296 ∧ ∀ x : Nat, (x : Int) < (0 : Int) → rdF (σ 84 3) f x ∧ rdO (wW 1 σ) rk (CC (84 + 1) σ) f gg x = 0 from (fun gg qq rk H C => ⟨RDX_F (i := 0) ⟨H, C⟩ (fun c j a b => ((hGσ296 c j (show ¬ ((47 ≤ c ∧ c < 55)) from by omega)))), fun x hx => by exfalso; omega⟩)) (Nat.lt_succ_self _)
              · refine j_iconst (pc := 56) dX11_read_56 ?_
                refine j_goto (pc := 57) (tgt := 74) dX11_read_57 rfl ?_
                refine j_istore (pc := 74) (i := 6) (ls' := [(0, vR 0), (3, vI f), (4, vI n), (5, vR 84), (6, vI 1), (7, vI 0)]) [1, 3, 4, 5, 0, 6] dX11_read_74 (Nat.le_of_ble_eq_true rfl) rfl rfl ?_
                refine j_aload_n (pc := 76) dX11_read_76 rfl rfl ?_
                refine j_getR (pc := 77) (r := 47) fl_X11_36 dX11_read_77 (a_0 hX) rfl ?_
                refine j_aload_n (pc := 80) dX11_read_80 rfl rfl ?_
                refine j_getR (pc := 81) (r := 23) fl_X11_26 dX11_read_81 (a_0 hX) rfl ?_
                refine j_callV (pc := 84) (As := [vR 23]) (st := []) (c_X3_copyOf 47 (s_Hand_47 hX) 23 (s_Hand_23 hX) σ hI (by omega)) mv_X11_398 rfl rfl rfl (a_47 hX) dX11_read_84 ⟨Nat.le_of_ble_eq_true rfl, Nat.le_of_ble_eq_true rfl⟩ ⟨Nat.le_refl _, Nat.le_refl _⟩ rfl (Nat.le_of_ble_eq_true rfl) rfl (fun z313 σ314 hz313 => ?_)
                obtain ⟨rfl, hIσ314, hGσ314, q315_0, q315_1, q315_2, q315_3, q315_4⟩ := hz313
                replace q315_0 : σ314 53 0 = σ 29 0 := q315_0
                replace q315_1 : σ314 54 0 = σ 30 0 := q315_1
                replace q315_2 : σ314 53 1 = σ 29 1 := q315_2
                replace q315_3 : σ314 54 1 = σ 30 1 := q315_3
                replace q315_4 : CPY 47 23 σ σ314 := q315_4
                have hFσ314 : tw_F (fun c j => (23 ≤ c ∧ c < 31) ∨ (47 ≤ c ∧ c < 55) ∨ (c = 0 ∧ (j = 14))) σ σ314 := tw_F_tr (tw_F_rf) hGσ314 (fun c j q => (show (23 ≤ c ∧ c < 31) ∨ (47 ≤ c ∧ c < 55) ∨ (c = 0 ∧ (j = 14)) from by replace q : (47 ≤ c ∧ c < 55) := q; exact (Or.inr (Or.inl q))))
                refine j_st (st' := []) rfl ?_
                have cp9 := q315_4
                refine j_iconst (pc := 87) dX11_read_87 ?_
                refine j_istore (pc := 88) (i := 8) (ls' := [(0, vR 0), (3, vI f), (4, vI n), (5, vR 84), (6, vI 1), (7, vI 0), (8, vI 0)]) [1, 2, 3, 4, 5, 6, 0] dX11_read_88 (Nat.le_of_ble_eq_true rfl) rfl rfl ?_
                refine j_ls (ls' := [(0, vR 0), (3, vI f), (4, vI n), (5, vR 84), (6, vI 1), (7, vI 0), (8, vI 0)]) [0, 1, 2, 3, 4, 5, 6] rfl ?_
                have y317 : σ314 29 0 = σ 29 0 := (hGσ314 29 0 (show ¬ ((47 ≤ 29 ∧ 29 < 55)) from by decide))
                have f318 : (0 : Int) ≤ σ 29 0 ∧ σ 29 0 ≤ 999 := hI 29 0
                have y319 : σ314 30 0 = σ 30 0 := (hGσ314 30 0 (show ¬ ((47 ≤ 30 ∧ 30 < 55)) from by decide))
                have f320 : (-2147483648 : Int) ≤ σ 30 0 ∧ σ 30 0 ≤ 2147483647 := hI 30 0
                have y321 : σ314 29 1 = σ 29 1 := (hGσ314 29 1 (show ¬ ((47 ≤ 29 ∧ 29 < 55)) from by decide))
                have f322 : (0 : Int) ≤ σ 29 1 ∧ σ 29 1 ≤ 999 := hI 29 1
                have y323 : σ314 30 1 = σ 30 1 := (hGσ314 30 1 (show ¬ ((47 ≤ 30 ∧ 30 < 55)) from by decide))
                have f324 : (-2147483648 : Int) ≤ σ 30 1 ∧ σ 30 1 ≤ 2147483647 := hI 30 1
                have y325 : σ314 0 14 = σ 0 14 := (hGσ314 0 14 (show ¬ ((47 ≤ 0 ∧ 0 < 55)) from by decide))
                have f326 : (-2147483648 : Int) ≤ σ 0 14 ∧ σ 0 14 ≤ 2147483647 := hI 0 14
                have y327 : σ314 23 4 = σ 23 4 := (hGσ314 23 4 (show ¬ ((47 ≤ 23 ∧ 23 < 55)) from by decide))
                have f328 : (-2147483648 : Int) ≤ σ 23 4 ∧ σ 23 4 ≤ 2147483647 := hI 23 4
                have y329 : σ314 23 5 = σ 23 5 := (hGσ314 23 5 (show ¬ ((47 ≤ 23 ∧ 23 < 55)) from by decide))
                have f330 : (-2147483648 : Int) ≤ σ 23 5 ∧ σ 23 5 ≤ 2147483647 := hI 23 5
                exact (l_X11_read hX k hk l hl f hf n hn σ hI (((10 - (0 : Int)).toNat) + 1)) 84 (s_Sheet_84 hX) 1 (by (first | decide | exact ⟨by omega, by omega⟩)) 0 (by (first | decide | exact ⟨by omega, by omega⟩)) 0 (by (first | decide | exact ⟨by omega, by omega⟩)) σ314 hIσ314 hFσ314 (show (0 : Int) ≤ (0 : Int) from by omega) (show n ≤ 10 from by omega) (show 0 ≤ n from by omega) (show σ314 29 0 = σ 29 0 from by omega) (show σ314 30 0 = σ 30 0 from by omega) (show σ314 29 1 = σ 29 1 from by omega) (show σ314 30 1 = σ 30 1 from by omega) (show σ314 53 0 = σ 29 0 from by omega) (show σ314 54 0 = σ 30 0 from by omega) (show σ314 53 1 = σ 29 1 from by omega) (show σ314 54 1 = σ 30 1 from by omega) (show (84 : Int) = 80 + 2 * k from by omega) (show CPY 47 23 σ σ314 from cp9) (show σ314 0 14 = σ 0 14 from by omega) (show ((1 : Int) = 0 ∧ (0 : Int) = (0 : Int)) ∨ ((1 : Int) = 2 ∧ (0 : Int) + 1 = (0 : Int) ∧ ¬ (0 ≤ f + 2 * (0 : Int) ∧ f + 2 * (0 : Int) + 1 < σ 84 3)) ∨ ((1 : Int) = 1 ∧ (0 : Int) = 0 ∧ (0 : Int) = 0 ∧ 0 < n ∧ σ 84 1 = 0) ∨ ((1 : Int) = 3 ∧ (0 : Int) = 0 ∧ (0 : Int) = 0 ∧ 0 < n ∧ ¬ σ 84 1 = 0 ∧ ¬ σ 84 2 = l) from (by first | exact Or.inl ⟨rfl, by omega⟩ | exact Or.inr (Or.inl ⟨rfl, by omega, by omega⟩) | exact Or.inr (Or.inr (Or.inl ⟨rfl, by omega, by omega, by omega, by omega⟩)) | exact Or.inr (Or.inr (Or.inr ⟨rfl, by omega, by omega, by omega, by omega, by omega⟩)) | omega)) (show (1 : Int) = 1 ∨ (1 : Int) = 3 ∨ n = 0 ∨ (¬ σ 84 1 = 0 ∧ σ 84 2 = l) from (by first | exact Or.inl rfl | exact Or.inr (Or.inl rfl) | exact Or.inr (Or.inr (Or.inl (by omega))) | exact Or.inr (Or.inr (Or.inr ⟨by omega, by omega⟩)) | omega)) (show (0 : Int) ≤ n from by omega) (show (0 : Int) ≤ n from by omega) (show 0 ≤ k ∧ k ≤ 3 ∧ 0 ≤ l ∧ l ≤ 2 from by omega) (show σ314 23 4 = σ 23 4 from by omega) (show σ314 23 5 = σ 23 5 from by omega) (show ∀ gg qq rk : Nat → Int, RG 24 gg qq σ → CNR rk gg 28 σ → RDX rk (CC (84 + 1) σ) f gg qq (0 : Int).toNat σ314 ∧ ∀ x : Nat, (x : Int) < (0 : Int) → rdF (σ 84 3) f x ∧ rdO (wW 1 σ) rk (CC (84 + 1) σ) f gg x = 0 from (fun gg qq rk H C => ⟨RDX_F (i := 0) ⟨H, C⟩ (fun c j a b => ((hGσ314 c j (show ¬ ((47 ≤ c ∧ c < 55)) from by omega)))), fun x hx => by exfalso; omega⟩)) (Nat.lt_succ_self _)
          · refine j_aald (pc := 34) (r := 86) dX11_read_34 (a_79 hX) (by omega) (by rw [h99]; decide) (by rw [h99]; rfl) (by decide) ?_
            refine j_astore (pc := 35) (i := 5) (ls' := [(0, vR 0), (2, vI l), (3, vI f), (4, vI n), (5, vR 86)]) [1, 3, 4, 5, 0] dX11_read_35 (Nat.le_of_ble_eq_true rfl) rfl rfl ?_
            refine j_iconst (pc := 37) dX11_read_37 ?_
            refine j_istore (pc := 38) (i := 6) (ls' := [(0, vR 0), (2, vI l), (3, vI f), (4, vI n), (5, vR 86), (6, vI 0)]) [1, 2, 3, 4, 5, 0] dX11_read_38 (Nat.le_of_ble_eq_true rfl) rfl rfl ?_
            refine j_iconst (pc := 40) dX11_read_40 ?_
            refine j_istore (pc := 41) (i := 7) (ls' := [(0, vR 0), (2, vI l), (3, vI f), (4, vI n), (5, vR 86), (6, vI 0), (7, vI 0)]) [1, 2, 3, 4, 5, 6, 0] dX11_read_41 (Nat.le_of_ble_eq_true rfl) rfl rfl ?_
            refine j_iload (pc := 43) dX11_read_43 rfl ?_
            refine j_ifR_le (pc := 45) (tgt := 76) ⟨by omega, by omega⟩ dX11_read_45 rfl (fun h331 => ?_) (fun h331 => ?_)
            · refine j_aload_n (pc := 76) dX11_read_76 rfl rfl ?_
              refine j_getR (pc := 77) (r := 47) fl_X11_36 dX11_read_77 (a_0 hX) rfl ?_
              refine j_aload_n (pc := 80) dX11_read_80 rfl rfl ?_
              refine j_getR (pc := 81) (r := 23) fl_X11_26 dX11_read_81 (a_0 hX) rfl ?_
              refine j_callV (pc := 84) (As := [vR 23]) (st := []) (c_X3_copyOf 47 (s_Hand_47 hX) 23 (s_Hand_23 hX) σ hI (by omega)) mv_X11_398 rfl rfl rfl (a_47 hX) dX11_read_84 ⟨Nat.le_of_ble_eq_true rfl, Nat.le_of_ble_eq_true rfl⟩ ⟨Nat.le_refl _, Nat.le_refl _⟩ rfl (Nat.le_of_ble_eq_true rfl) rfl (fun z332 σ333 hz332 => ?_)
              obtain ⟨rfl, hIσ333, hGσ333, q334_0, q334_1, q334_2, q334_3, q334_4⟩ := hz332
              replace q334_0 : σ333 53 0 = σ 29 0 := q334_0
              replace q334_1 : σ333 54 0 = σ 30 0 := q334_1
              replace q334_2 : σ333 53 1 = σ 29 1 := q334_2
              replace q334_3 : σ333 54 1 = σ 30 1 := q334_3
              replace q334_4 : CPY 47 23 σ σ333 := q334_4
              have hFσ333 : tw_F (fun c j => (23 ≤ c ∧ c < 31) ∨ (47 ≤ c ∧ c < 55) ∨ (c = 0 ∧ (j = 14))) σ σ333 := tw_F_tr (tw_F_rf) hGσ333 (fun c j q => (show (23 ≤ c ∧ c < 31) ∨ (47 ≤ c ∧ c < 55) ∨ (c = 0 ∧ (j = 14)) from by replace q : (47 ≤ c ∧ c < 55) := q; exact (Or.inr (Or.inl q))))
              refine j_st (st' := []) rfl ?_
              have cp9 := q334_4
              refine j_iconst (pc := 87) dX11_read_87 ?_
              refine j_istore (pc := 88) (i := 8) (ls' := [(0, vR 0), (3, vI f), (4, vI n), (5, vR 86), (6, vI 0), (7, vI 0), (8, vI 0)]) [1, 3, 4, 5, 6, 7, 0] dX11_read_88 (Nat.le_of_ble_eq_true rfl) rfl rfl ?_
              refine j_ls (ls' := [(0, vR 0), (3, vI f), (4, vI n), (5, vR 86), (6, vI 0), (7, vI 0), (8, vI 0)]) [0, 1, 2, 3, 4, 5, 6] rfl ?_
              have y336 : σ333 29 0 = σ 29 0 := (hGσ333 29 0 (show ¬ ((47 ≤ 29 ∧ 29 < 55)) from by decide))
              have f337 : (0 : Int) ≤ σ 29 0 ∧ σ 29 0 ≤ 999 := hI 29 0
              have y338 : σ333 30 0 = σ 30 0 := (hGσ333 30 0 (show ¬ ((47 ≤ 30 ∧ 30 < 55)) from by decide))
              have f339 : (-2147483648 : Int) ≤ σ 30 0 ∧ σ 30 0 ≤ 2147483647 := hI 30 0
              have y340 : σ333 29 1 = σ 29 1 := (hGσ333 29 1 (show ¬ ((47 ≤ 29 ∧ 29 < 55)) from by decide))
              have f341 : (0 : Int) ≤ σ 29 1 ∧ σ 29 1 ≤ 999 := hI 29 1
              have y342 : σ333 30 1 = σ 30 1 := (hGσ333 30 1 (show ¬ ((47 ≤ 30 ∧ 30 < 55)) from by decide))
              have f343 : (-2147483648 : Int) ≤ σ 30 1 ∧ σ 30 1 ≤ 2147483647 := hI 30 1
              have y344 : σ333 0 14 = σ 0 14 := (hGσ333 0 14 (show ¬ ((47 ≤ 0 ∧ 0 < 55)) from by decide))
              have f345 : (-2147483648 : Int) ≤ σ 0 14 ∧ σ 0 14 ≤ 2147483647 := hI 0 14
              have y346 : σ333 23 4 = σ 23 4 := (hGσ333 23 4 (show ¬ ((47 ≤ 23 ∧ 23 < 55)) from by decide))
              have f347 : (-2147483648 : Int) ≤ σ 23 4 ∧ σ 23 4 ≤ 2147483647 := hI 23 4
              have y348 : σ333 23 5 = σ 23 5 := (hGσ333 23 5 (show ¬ ((47 ≤ 23 ∧ 23 < 55)) from by decide))
              have f349 : (-2147483648 : Int) ≤ σ 23 5 ∧ σ 23 5 ≤ 2147483647 := hI 23 5
              exact (l_X11_read hX k hk l hl f hf n hn σ hI (((10 - (0 : Int)).toNat) + 1)) 86 (s_Sheet_86 hX) 0 (by (first | decide | exact ⟨by omega, by omega⟩)) 0 (by (first | decide | exact ⟨by omega, by omega⟩)) 0 (by (first | decide | exact ⟨by omega, by omega⟩)) σ333 hIσ333 hFσ333 (show (0 : Int) ≤ (0 : Int) from by omega) (show n ≤ 10 from by omega) (show 0 ≤ n from by omega) (show σ333 29 0 = σ 29 0 from by omega) (show σ333 30 0 = σ 30 0 from by omega) (show σ333 29 1 = σ 29 1 from by omega) (show σ333 30 1 = σ 30 1 from by omega) (show σ333 53 0 = σ 29 0 from by omega) (show σ333 54 0 = σ 30 0 from by omega) (show σ333 53 1 = σ 29 1 from by omega) (show σ333 54 1 = σ 30 1 from by omega) (show (86 : Int) = 80 + 2 * k from by omega) (show CPY 47 23 σ σ333 from cp9) (show σ333 0 14 = σ 0 14 from by omega) (show ((0 : Int) = 0 ∧ (0 : Int) = (0 : Int)) ∨ ((0 : Int) = 2 ∧ (0 : Int) + 1 = (0 : Int) ∧ ¬ (0 ≤ f + 2 * (0 : Int) ∧ f + 2 * (0 : Int) + 1 < σ 86 3)) ∨ ((0 : Int) = 1 ∧ (0 : Int) = 0 ∧ (0 : Int) = 0 ∧ 0 < n ∧ σ 86 1 = 0) ∨ ((0 : Int) = 3 ∧ (0 : Int) = 0 ∧ (0 : Int) = 0 ∧ 0 < n ∧ ¬ σ 86 1 = 0 ∧ ¬ σ 86 2 = l) from (by first | exact Or.inl ⟨rfl, by omega⟩ | exact Or.inr (Or.inl ⟨rfl, by omega, by omega⟩) | exact Or.inr (Or.inr (Or.inl ⟨rfl, by omega, by omega, by omega, by omega⟩)) | exact Or.inr (Or.inr (Or.inr ⟨rfl, by omega, by omega, by omega, by omega, by omega⟩)) | omega)) (show (0 : Int) = 1 ∨ (0 : Int) = 3 ∨ n = 0 ∨ (¬ σ 86 1 = 0 ∧ σ 86 2 = l) from (by first | exact Or.inl rfl | exact Or.inr (Or.inl rfl) | exact Or.inr (Or.inr (Or.inl (by omega))) | exact Or.inr (Or.inr (Or.inr ⟨by omega, by omega⟩)) | omega)) (show (0 : Int) ≤ n from by omega) (show (0 : Int) ≤ n from by omega) (show 0 ≤ k ∧ k ≤ 3 ∧ 0 ≤ l ∧ l ≤ 2 from by omega) (show σ333 23 4 = σ 23 4 from by omega) (show σ333 23 5 = σ 23 5 from by omega) (show ∀ gg qq rk : Nat → Int, RG 24 gg qq σ → CNR rk gg 28 σ → RDX rk (CC (86 + 1) σ) f gg qq (0 : Int).toNat σ333 ∧ ∀ x : Nat, (x : Int) < (0 : Int) → rdF (σ 86 3) f x ∧ rdO (wW 1 σ) rk (CC (86 + 1) σ) f gg x = 0 from (fun gg qq rk H C => ⟨RDX_F (i := 0) ⟨H, C⟩ (fun c j a b => ((hGσ333 c j (show ¬ ((47 ≤ c ∧ c < 55)) from by omega)))), fun x hx => by exfalso; omega⟩)) (Nat.lt_succ_self _)
            · refine j_aload (pc := 48) dX11_read_48 rfl ?_
              refine j_getI (pc := 50) fl_X11_409 dX11_read_50 (a_86 hX) rfl ?_
              have f350 : (0 : Int) ≤ σ 86 1 ∧ σ 86 1 ≤ 1 := hI 86 1
              refine j_ifR_ne (pc := 53) (tgt := 60) ⟨by omega, by omega⟩ dX11_read_53 rfl (fun h351 => ?_) (fun h351 => ?_)
              · refine j_aload (pc := 60) dX11_read_60 rfl ?_
                refine j_getI (pc := 62) fl_X11_416 dX11_read_62 (a_86 hX) rfl ?_
                have f352 : (-2147483648 : Int) ≤ σ 86 2 ∧ σ 86 2 ≤ 2147483647 := hI 86 2
                refine j_iload_n (pc := 65) dX11_read_65 rfl rfl ?_
                refine j_icmpR_eq (pc := 66) (tgt := 73) ⟨by omega, by omega⟩ ⟨by omega, by omega⟩ dX11_read_66 rfl (fun h353 => ?_) (fun h353 => ?_)
                · refine j_iconst (pc := 73) dX11_read_73 ?_
                  refine j_istore (pc := 74) (i := 6) (ls' := [(0, vR 0), (3, vI f), (4, vI n), (5, vR 86), (6, vI 0), (7, vI 0)]) [1, 3, 4, 5, 0, 6] dX11_read_74 (Nat.le_of_ble_eq_true rfl) rfl rfl ?_
                  refine j_aload_n (pc := 76) dX11_read_76 rfl rfl ?_
                  refine j_getR (pc := 77) (r := 47) fl_X11_36 dX11_read_77 (a_0 hX) rfl ?_
                  refine j_aload_n (pc := 80) dX11_read_80 rfl rfl ?_
                  refine j_getR (pc := 81) (r := 23) fl_X11_26 dX11_read_81 (a_0 hX) rfl ?_
                  refine j_callV (pc := 84) (As := [vR 23]) (st := []) (c_X3_copyOf 47 (s_Hand_47 hX) 23 (s_Hand_23 hX) σ hI (by omega)) mv_X11_398 rfl rfl rfl (a_47 hX) dX11_read_84 ⟨Nat.le_of_ble_eq_true rfl, Nat.le_of_ble_eq_true rfl⟩ ⟨Nat.le_refl _, Nat.le_refl _⟩ rfl (Nat.le_of_ble_eq_true rfl) rfl (fun z354 σ355 hz354 => ?_)
                  obtain ⟨rfl, hIσ355, hGσ355, q356_0, q356_1, q356_2, q356_3, q356_4⟩ := hz354
                  replace q356_0 : σ355 53 0 = σ 29 0 := q356_0
                  replace q356_1 : σ355 54 0 = σ 30 0 := q356_1
                  replace q356_2 : σ355 53 1 = σ 29 1 := q356_2
                  replace q356_3 : σ355 54 1 = σ 30 1 := q356_3
                  replace q356_4 : CPY 47 23 σ σ355 := q356_4
                  have hFσ355 : tw_F (fun c j => (23 ≤ c ∧ c < 31) ∨ (47 ≤ c ∧ c < 55) ∨ (c = 0 ∧ (j = 14))) σ σ355 := tw_F_tr (tw_F_rf) hGσ355 (fun c j q => (show (23 ≤ c ∧ c < 31) ∨ (47 ≤ c ∧ c < 55) ∨ (c = 0 ∧ (j = 14)) from by replace q : (47 ≤ c ∧ c < 55) := q; exact (Or.inr (Or.inl q))))
                  refine j_st (st' := []) rfl ?_
                  have cp9 := q356_4
                  refine j_iconst (pc := 87) dX11_read_87 ?_
                  refine j_istore (pc := 88) (i := 8) (ls' := [(0, vR 0), (3, vI f), (4, vI n), (5, vR 86), (6, vI 0), (7, vI 0), (8, vI 0)]) [1, 2, 3, 4, 5, 6, 0] dX11_read_88 (Nat.le_of_ble_eq_true rfl) rfl rfl ?_
                  refine j_ls (ls' := [(0, vR 0), (3, vI f), (4, vI n), (5, vR 86), (6, vI 0), (7, vI 0), (8, vI 0)]) [0, 1, 2, 3, 4, 5, 6] rfl ?_
                  have y358 : σ355 29 0 = σ 29 0 := (hGσ355 29 0 (show ¬ ((47 ≤ 29 ∧ 29 < 55)) from by decide))
                  have f359 : (0 : Int) ≤ σ 29 0 ∧ σ 29 0 ≤ 999 := hI 29 0
                  have y360 : σ355 30 0 = σ 30 0 := (hGσ355 30 0 (show ¬ ((47 ≤ 30 ∧ 30 < 55)) from by decide))
                  have f361 : (-2147483648 : Int) ≤ σ 30 0 ∧ σ 30 0 ≤ 2147483647 := hI 30 0
                  have y362 : σ355 29 1 = σ 29 1 := (hGσ355 29 1 (show ¬ ((47 ≤ 29 ∧ 29 < 55)) from by decide))
                  have f363 : (0 : Int) ≤ σ 29 1 ∧ σ 29 1 ≤ 999 := hI 29 1
                  have y364 : σ355 30 1 = σ 30 1 := (hGσ355 30 1 (show ¬ ((47 ≤ 30 ∧ 30 < 55)) from by decide))
                  have f365 : (-2147483648 : Int) ≤ σ 30 1 ∧ σ 30 1 ≤ 2147483647 := hI 30 1
                  have y366 : σ355 0 14 = σ 0 14 := (hGσ355 0 14 (show ¬ ((47 ≤ 0 ∧ 0 < 55)) from by decide))
                  have f367 : (-2147483648 : Int) ≤ σ 0 14 ∧ σ 0 14 ≤ 2147483647 := hI 0 14
                  have y368 : σ355 23 4 = σ 23 4 := (hGσ355 23 4 (show ¬ ((47 ≤ 23 ∧ 23 < 55)) from by decide))
                  have f369 : (-2147483648 : Int) ≤ σ 23 4 ∧ σ 23 4 ≤ 2147483647 := hI 23 4
                  have y370 : σ355 23 5 = σ 23 5 := (hGσ355 23 5 (show ¬ ((47 ≤ 23 ∧ 23 < 55)) from by decide))
                  have f371 : (-2147483648 : Int) ≤ σ 23 5 ∧ σ 23 5 ≤ 2147483647 := hI 23 5
                  exact (l_X11_read hX k hk l hl f hf n hn σ hI (((10 - (0 : Int)).toNat) + 1)) 86 (s_Sheet_86 hX) 0 (by (first | decide | exact ⟨by omega, by omega⟩)) 0 (by (first | decide | exact ⟨by omega, by omega⟩)) 0 (by (first | decide | exact ⟨by omega, by omega⟩)) σ355 hIσ355 hFσ355 (show (0 : Int) ≤ (0 : Int) from by omega) (show n ≤ 10 from by omega) (show 0 ≤ n from by omega) (show σ355 29 0 = σ 29 0 from by omega) (show σ355 30 0 = σ 30 0 from by omega) (show σ355 29 1 = σ 29 1 from by omega) (show σ355 30 1 = σ 30 1 from by omega) (show σ355 53 0 = σ 29 0 from by omega) (show σ355 54 0 = σ 30 0 from by omega) (show σ355 53 1 = σ 29 1 from by omega) (show σ355 54 1 = σ 30 1 from by omega) (show (86 : Int) = 80 + 2 * k from by omega) (show CPY 47 23 σ σ355 from cp9) (show σ355 0 14 = σ 0 14 from by omega) (show ((0 : Int) = 0 ∧ (0 : Int) = (0 : Int)) ∨ ((0 : Int) = 2 ∧ (0 : Int) + 1 = (0 : Int) ∧ ¬ (0 ≤ f + 2 * (0 : Int) ∧ f + 2 * (0 : Int) + 1 < σ 86 3)) ∨ ((0 : Int) = 1 ∧ (0 : Int) = 0 ∧ (0 : Int) = 0 ∧ 0 < n ∧ σ 86 1 = 0) ∨ ((0 : Int) = 3 ∧ (0 : Int) = 0 ∧ (0 : Int) = 0 ∧ 0 < n ∧ ¬ σ 86 1 = 0 ∧ ¬ σ 86 2 = l) from (by first | exact Or.inl ⟨rfl, by omega⟩ | exact Or.inr (Or.inl ⟨rfl, by omega, by omega⟩) | exact Or.inr (Or.inr (Or.inl ⟨rfl, by omega, by omega, by omega, by omega⟩)) | exact Or.inr (Or.inr (Or.inr ⟨rfl, by omega, by omega, by omega, by omega, by omega⟩)) | omega)) (show (0 : Int) = 1 ∨ (0 : Int) = 3 ∨ n = 0 ∨ (¬ σ 86 1 = 0 ∧ σ 86 2 = l) from (by first | exact Or.inl rfl | exact Or.inr (Or.inl rfl) | exact Or.inr (Or.inr (Or.inl (by omega))) | exact Or.inr (Or.inr (Or.inr ⟨by omega, by omega⟩)) | omega)) (show (0 : Int) ≤ n from by omega) (show (0 : Int) ≤ n from by omega) (show 0 ≤ k ∧ k ≤ 3 ∧ 0 ≤ l ∧ l ≤ 2 from by omega) (show σ355 23 4 = σ 23 4 from by omega) (show σ355 23 5 = σ 23 5 from by omega) (show ∀ gg qq rk : Nat → Int, RG 24 gg qq σ → CNR rk gg 28 σ → RDX rk (CC (86 + 1) σ) f gg qq (0 : Int).toNat σ355 ∧ ∀ x : Nat, (x : Int) < (0 : Int) → rdF (σ 86 3) f x ∧ rdO (wW 1 σ) rk (CC (86 + 1) σ) f gg x = 0 from (fun gg qq rk H C => ⟨RDX_F (i := 0) ⟨H, C⟩ (fun c j a b => ((hGσ355 c j (show ¬ ((47 ≤ c ∧ c < 55)) from by omega)))), fun x hx => by exfalso; omega⟩)) (Nat.lt_succ_self _)
                · refine j_iconst (pc := 69) dX11_read_69 ?_
                  refine j_goto (pc := 70) (tgt := 74) dX11_read_70 rfl ?_
                  refine j_istore (pc := 74) (i := 6) (ls' := [(0, vR 0), (3, vI f), (4, vI n), (5, vR 86), (6, vI 3), (7, vI 0)]) [1, 3, 4, 5, 0, 6] dX11_read_74 (Nat.le_of_ble_eq_true rfl) rfl rfl ?_
                  refine j_aload_n (pc := 76) dX11_read_76 rfl rfl ?_
                  refine j_getR (pc := 77) (r := 47) fl_X11_36 dX11_read_77 (a_0 hX) rfl ?_
                  refine j_aload_n (pc := 80) dX11_read_80 rfl rfl ?_
                  refine j_getR (pc := 81) (r := 23) fl_X11_26 dX11_read_81 (a_0 hX) rfl ?_
                  refine j_callV (pc := 84) (As := [vR 23]) (st := []) (c_X3_copyOf 47 (s_Hand_47 hX) 23 (s_Hand_23 hX) σ hI (by omega)) mv_X11_398 rfl rfl rfl (a_47 hX) dX11_read_84 ⟨Nat.le_of_ble_eq_true rfl, Nat.le_of_ble_eq_true rfl⟩ ⟨Nat.le_refl _, Nat.le_refl _⟩ rfl (Nat.le_of_ble_eq_true rfl) rfl (fun z372 σ373 hz372 => ?_)
                  obtain ⟨rfl, hIσ373, hGσ373, q374_0, q374_1, q374_2, q374_3, q374_4⟩ := hz372
                  replace q374_0 : σ373 53 0 = σ 29 0 := q374_0
                  replace q374_1 : σ373 54 0 = σ 30 0 := q374_1
                  replace q374_2 : σ373 53 1 = σ 29 1 := q374_2
                  replace q374_3 : σ373 54 1 = σ 30 1 := q374_3
                  replace q374_4 : CPY 47 23 σ σ373 := q374_4
                  have hFσ373 : tw_F (fun c j => (23 ≤ c ∧ c < 31) ∨ (47 ≤ c ∧ c < 55) ∨ (c = 0 ∧ (j = 14))) σ σ373 := tw_F_tr (tw_F_rf) hGσ373 (fun c j q => (show (23 ≤ c ∧ c < 31) ∨ (47 ≤ c ∧ c < 55) ∨ (c = 0 ∧ (j = 14)) from by replace q : (47 ≤ c ∧ c < 55) := q; exact (Or.inr (Or.inl q))))
                  refine j_st (st' := []) rfl ?_
                  have cp9 := q374_4
                  refine j_iconst (pc := 87) dX11_read_87 ?_
                  refine j_istore (pc := 88) (i := 8) (ls' := [(0, vR 0), (3, vI f), (4, vI n), (5, vR 86), (6, vI 3), (7, vI 0), (8, vI 0)]) [1, 2, 3, 4, 5, 6, 0] dX11_read_88 (Nat.le_of_ble_eq_true rfl) rfl rfl ?_
                  refine j_ls (ls' := [(0, vR 0), (3, vI f), (4, vI n), (5, vR 86), (6, vI 3), (7, vI 0), (8, vI 0)]) [0, 1, 2, 3, 4, 5, 6] rfl ?_
                  have y376 : σ373 29 0 = σ 29 0 := (hGσ373 29 0 (show ¬ ((47 ≤ 29 ∧ 29 < 55)) from by decide))
                  have f377 : (0 : Int) ≤ σ 29 0 ∧ σ 29 0 ≤ 999 := hI 29 0
                  have y378 : σ373 30 0 = σ 30 0 := (hGσ373 30 0 (show ¬ ((47 ≤ 30 ∧ 30 < 55)) from by decide))
                  have f379 : (-2147483648 : Int) ≤ σ 30 0 ∧ σ 30 0 ≤ 2147483647 := hI 30 0
                  have y380 : σ373 29 1 = σ 29 1 := (hGσ373 29 1 (show ¬ ((47 ≤ 29 ∧ 29 < 55)) from by decide))
                  have f381 : (0 : Int) ≤ σ 29 1 ∧ σ 29 1 ≤ 999 := hI 29 1
                  have y382 : σ373 30 1 = σ 30 1 := (hGσ373 30 1 (show ¬ ((47 ≤ 30 ∧ 30 < 55)) from by decide))
                  have f383 : (-2147483648 : Int) ≤ σ 30 1 ∧ σ 30 1 ≤ 2147483647 := hI 30 1
                  have y384 : σ373 0 14 = σ 0 14 := (hGσ373 0 14 (show ¬ ((47 ≤ 0 ∧ 0 < 55)) from by decide))
                  have f385 : (-2147483648 : Int) ≤ σ 0 14 ∧ σ 0 14 ≤ 2147483647 := hI 0 14
                  have y386 : σ373 23 4 = σ 23 4 := (hGσ373 23 4 (show ¬ ((47 ≤ 23 ∧ 23 < 55)) from by decide))
                  have f387 : (-2147483648 : Int) ≤ σ 23 4 ∧ σ 23 4 ≤ 2147483647 := hI 23 4
                  have y388 : σ373 23 5 = σ 23 5 := (hGσ373 23 5 (show ¬ ((47 ≤ 23 ∧ 23 < 55)) from by decide))
                  have f389 : (-2147483648 : Int) ≤ σ 23 5 ∧ σ 23 5 ≤ 2147483647 := hI 23 5
                  exact (l_X11_read hX k hk l hl f hf n hn σ hI (((10 - (0 : Int)).toNat) + 1)) 86 (s_Sheet_86 hX) 3 (by (first | decide | exact ⟨by omega, by omega⟩)) 0 (by (first | decide | exact ⟨by omega, by omega⟩)) 0 (by (first | decide | exact ⟨by omega, by omega⟩)) σ373 hIσ373 hFσ373 (show (0 : Int) ≤ (0 : Int) from by omega) (show n ≤ 10 from by omega) (show 0 ≤ n from by omega) (show σ373 29 0 = σ 29 0 from by omega) (show σ373 30 0 = σ 30 0 from by omega) (show σ373 29 1 = σ 29 1 from by omega) (show σ373 30 1 = σ 30 1 from by omega) (show σ373 53 0 = σ 29 0 from by omega) (show σ373 54 0 = σ 30 0 from by omega) (show σ373 53 1 = σ 29 1 from by omega) (show σ373 54 1 = σ 30 1 from by omega) (show (86 : Int) = 80 + 2 * k from by omega) (show CPY 47 23 σ σ373 from cp9) (show σ373 0 14 = σ 0 14 from by omega) (show ((3 : Int) = 0 ∧ (0 : Int) = (0 : Int)) ∨ ((3 : Int) = 2 ∧ (0 : Int) + 1 = (0 : Int) ∧ ¬ (0 ≤ f + 2 * (0 : Int) ∧ f + 2 * (0 : Int) + 1 < σ 86 3)) ∨ ((3 : Int) = 1 ∧ (0 : Int) = 0 ∧ (0 : Int) = 0 ∧ 0 < n ∧ σ 86 1 = 0) ∨ ((3 : Int) = 3 ∧ (0 : Int) = 0 ∧ (0 : Int) = 0 ∧ 0 < n ∧ ¬ σ 86 1 = 0 ∧ ¬ σ 86 2 = l) from (by first | exact Or.inl ⟨rfl, by omega⟩ | exact Or.inr (Or.inl ⟨rfl, by omega, by omega⟩) | exact Or.inr (Or.inr (Or.inl ⟨rfl, by omega, by omega, by omega, by omega⟩)) | exact Or.inr (Or.inr (Or.inr ⟨rfl, by omega, by omega, by omega, by omega, by omega⟩)) | omega)) (show (3 : Int) = 1 ∨ (3 : Int) = 3 ∨ n = 0 ∨ (¬ σ 86 1 = 0 ∧ σ 86 2 = l) from (by first | exact Or.inl rfl | exact Or.inr (Or.inl rfl) | exact Or.inr (Or.inr (Or.inl (by omega))) | exact Or.inr (Or.inr (Or.inr ⟨by omega, by omega⟩)) | omega)) (show (0 : Int) ≤ n from by omega) (show (0 : Int) ≤ n from by omega) (show 0 ≤ k ∧ k ≤ 3 ∧ 0 ≤ l ∧ l ≤ 2 from by omega) (show σ373 23 4 = σ 23 4 from by omega) (show σ373 23 5 = σ 23 5 from by omega) (show ∀ gg qq rk : Nat → Int, RG 24 gg qq σ → CNR rk gg 28 σ → RDX rk (CC (86 + 1) σ) f gg qq (0 : Int).toNat σ373 ∧ ∀ x : Nat, (x : Int) < (0 : Int) → rdF (σ 86 3) f x ∧ rdO (wW 1 σ) rk (CC (86 + 1) σ) f gg x = 0 from (fun gg qq rk H C => ⟨RDX_F (i := 0) ⟨H, C⟩ (fun c j a b => ((hGσ373 c j (show ¬ ((47 ≤ c ∧ c < 55)) from by omega)))), fun x hx => by exfalso; omega⟩)) (Nat.lt_succ_self _)
              · refine j_iconst (pc := 56) dX11_read_56 ?_
                refine j_goto (pc := 57) (tgt := 74) dX11_read_57 rfl ?_
                refine j_istore (pc := 74) (i := 6) (ls' := [(0, vR 0), (3, vI f), (4, vI n), (5, vR 86), (6, vI 1), (7, vI 0)]) [1, 3, 4, 5, 0, 6] dX11_read_74 (Nat.le_of_ble_eq_true rfl) rfl rfl ?_
                refine j_aload_n (pc := 76) dX11_read_76 rfl rfl ?_
                refine j_getR (pc := 77) (r := 47) fl_X11_36 dX11_read_77 (a_0 hX) rfl ?_
                refine j_aload_n (pc := 80) dX11_read_80 rfl rfl ?_
                refine j_getR (pc := 81) (r := 23) fl_X11_26 dX11_read_81 (a_0 hX) rfl ?_
                refine j_callV (pc := 84) (As := [vR 23]) (st := []) (c_X3_copyOf 47 (s_Hand_47 hX) 23 (s_Hand_23 hX) σ hI (by omega)) mv_X11_398 rfl rfl rfl (a_47 hX) dX11_read_84 ⟨Nat.le_of_ble_eq_true rfl, Nat.le_of_ble_eq_true rfl⟩ ⟨Nat.le_refl _, Nat.le_refl _⟩ rfl (Nat.le_of_ble_eq_true rfl) rfl (fun z390 σ391 hz390 => ?_)
                obtain ⟨rfl, hIσ391, hGσ391, q392_0, q392_1, q392_2, q392_3, q392_4⟩ := hz390
                replace q392_0 : σ391 53 0 = σ 29 0 := q392_0
                replace q392_1 : σ391 54 0 = σ 30 0 := q392_1
                replace q392_2 : σ391 53 1 = σ 29 1 := q392_2
                replace q392_3 : σ391 54 1 = σ 30 1 := q392_3
                replace q392_4 : CPY 47 23 σ σ391 := q392_4
                have hFσ391 : tw_F (fun c j => (23 ≤ c ∧ c < 31) ∨ (47 ≤ c ∧ c < 55) ∨ (c = 0 ∧ (j = 14))) σ σ391 := tw_F_tr (tw_F_rf) hGσ391 (fun c j q => (show (23 ≤ c ∧ c < 31) ∨ (47 ≤ c ∧ c < 55) ∨ (c = 0 ∧ (j = 14)) from by replace q : (47 ≤ c ∧ c < 55) := q; exact (Or.inr (Or.inl q))))
                refine j_st (st' := []) rfl ?_
                have cp9 := q392_4
                refine j_iconst (pc := 87) dX11_read_87 ?_
                refine j_istore (pc := 88) (i := 8) (ls' := [(0, vR 0), (3, vI f), (4, vI n), (5, vR 86), (6, vI 1), (7, vI 0), (8, vI 0)]) [1, 2, 3, 4, 5, 6, 0] dX11_read_88 (Nat.le_of_ble_eq_true rfl) rfl rfl ?_
                refine j_ls (ls' := [(0, vR 0), (3, vI f), (4, vI n), (5, vR 86), (6, vI 1), (7, vI 0), (8, vI 0)]) [0, 1, 2, 3, 4, 5, 6] rfl ?_
                have y394 : σ391 29 0 = σ 29 0 := (hGσ391 29 0 (show ¬ ((47 ≤ 29 ∧ 29 < 55)) from by decide))
                have f395 : (0 : Int) ≤ σ 29 0 ∧ σ 29 0 ≤ 999 := hI 29 0
                have y396 : σ391 30 0 = σ 30 0 := (hGσ391 30 0 (show ¬ ((47 ≤ 30 ∧ 30 < 55)) from by decide))
                have f397 : (-2147483648 : Int) ≤ σ 30 0 ∧ σ 30 0 ≤ 2147483647 := hI 30 0
                have y398 : σ391 29 1 = σ 29 1 := (hGσ391 29 1 (show ¬ ((47 ≤ 29 ∧ 29 < 55)) from by decide))
                have f399 : (0 : Int) ≤ σ 29 1 ∧ σ 29 1 ≤ 999 := hI 29 1
                have y400 : σ391 30 1 = σ 30 1 := (hGσ391 30 1 (show ¬ ((47 ≤ 30 ∧ 30 < 55)) from by decide))
                have f401 : (-2147483648 : Int) ≤ σ 30 1 ∧ σ 30 1 ≤ 2147483647 := hI 30 1
                have y402 : σ391 0 14 = σ 0 14 := (hGσ391 0 14 (show ¬ ((47 ≤ 0 ∧ 0 < 55)) from by decide))
                have f403 : (-2147483648 : Int) ≤ σ 0 14 ∧ σ 0 14 ≤ 2147483647 := hI 0 14
                have y404 : σ391 23 4 = σ 23 4 := (hGσ391 23 4 (show ¬ ((47 ≤ 23 ∧ 23 < 55)) from by decide))
                have f405 : (-2147483648 : Int) ≤ σ 23 4 ∧ σ 23 4 ≤ 2147483647 := hI 23 4
                have y406 : σ391 23 5 = σ 23 5 := (hGσ391 23 5 (show ¬ ((47 ≤ 23 ∧ 23 < 55)) from by decide))
                have f407 : (-2147483648 : Int) ≤ σ 23 5 ∧ σ 23 5 ≤ 2147483647 := hI 23 5
                exact (l_X11_read hX k hk l hl f hf n hn σ hI (((10 - (0 : Int)).toNat) + 1)) 86 (s_Sheet_86 hX) 1 (by (first | decide | exact ⟨by omega, by omega⟩)) 0 (by (first | decide | exact ⟨by omega, by omega⟩)) 0 (by (first | decide | exact ⟨by omega, by omega⟩)) σ391 hIσ391 hFσ391 (show (0 : Int) ≤ (0 : Int) from by omega) (show n ≤ 10 from by omega) (show 0 ≤ n from by omega) (show σ391 29 0 = σ 29 0 from by omega) (show σ391 30 0 = σ 30 0 from by omega) (show σ391 29 1 = σ 29 1 from by omega) (show σ391 30 1 = σ 30 1 from by omega) (show σ391 53 0 = σ 29 0 from by omega) (show σ391 54 0 = σ 30 0 from by omega) (show σ391 53 1 = σ 29 1 from by omega) (show σ391 54 1 = σ 30 1 from by omega) (show (86 : Int) = 80 + 2 * k from by omega) (show CPY 47 23 σ σ391 from cp9) (show σ391 0 14 = σ 0 14 from by omega) (show ((1 : Int) = 0 ∧ (0 : Int) = (0 : Int)) ∨ ((1 : Int) = 2 ∧ (0 : Int) + 1 = (0 : Int) ∧ ¬ (0 ≤ f + 2 * (0 : Int) ∧ f + 2 * (0 : Int) + 1 < σ 86 3)) ∨ ((1 : Int) = 1 ∧ (0 : Int) = 0 ∧ (0 : Int) = 0 ∧ 0 < n ∧ σ 86 1 = 0) ∨ ((1 : Int) = 3 ∧ (0 : Int) = 0 ∧ (0 : Int) = 0 ∧ 0 < n ∧ ¬ σ 86 1 = 0 ∧ ¬ σ 86 2 = l) from (by first | exact Or.inl ⟨rfl, by omega⟩ | exact Or.inr (Or.inl ⟨rfl, by omega, by omega⟩) | exact Or.inr (Or.inr (Or.inl ⟨rfl, by omega, by omega, by omega, by omega⟩)) | exact Or.inr (Or.inr (Or.inr ⟨rfl, by omega, by omega, by omega, by omega, by omega⟩)) | omega)) (show (1 : Int) = 1 ∨ (1 : Int) = 3 ∨ n = 0 ∨ (¬ σ 86 1 = 0 ∧ σ 86 2 = l) from (by first | exact Or.inl rfl | exact Or.inr (Or.inl rfl) | exact Or.inr (Or.inr (Or.inl (by omega))) | exact Or.inr (Or.inr (Or.inr ⟨by omega, by omega⟩)) | omega)) (show (0 : Int) ≤ n from by omega) (show (0 : Int) ≤ n from by omega) (show 0 ≤ k ∧ k ≤ 3 ∧ 0 ≤ l ∧ l ≤ 2 from by omega) (show σ391 23 4 = σ 23 4 from by omega) (show σ391 23 5 = σ 23 5 from by omega) (show ∀ gg qq rk : Nat → Int, RG 24 gg qq σ → CNR rk gg 28 σ → RDX rk (CC (86 + 1) σ) f gg qq (0 : Int).toNat σ391 ∧ ∀ x : Nat, (x : Int) < (0 : Int) → rdF (σ 86 3) f x ∧ rdO (wW 1 σ) rk (CC (86 + 1) σ) f gg x = 0 from (fun gg qq rk H C => ⟨RDX_F (i := 0) ⟨H, C⟩ (fun c j a b => ((hGσ391 c j (show ¬ ((47 ≤ c ∧ c < 55)) from by omega)))), fun x hx => by exfalso; omega⟩)) (Nat.lt_succ_self _)
        · refine j_iconst (pc := 27) dX11_read_27 ?_
          have fin : ∀ gg qq rk : Nat → Int, RG 24 gg qq σ → CNR rk gg 28 σ → ((-1) = -1 ∧ ¬ (0 ≤ k ∧ k ≤ 3 ∧ 0 ≤ l ∧ l ≤ 2 ∧ 0 ≤ n ∧ n ≤ 10) ∧ ∀ c j, σ c j = σ c j) ∨ ((0 ≤ k ∧ k ≤ 3 ∧ 0 ≤ l ∧ l ≤ 2 ∧ 0 ≤ n ∧ n ≤ 10) ∧ ∃ cz : Int, ((cz = 0 ∧ 0 < n ∧ (-1) = 0 ∧ σ 0 14 = 1 ∧ σ (80 + 2 * k.toNat) 1 = 0) ∨ (cz = 0 ∧ 0 < n ∧ (-1) = 0 ∧ σ 0 14 = 3 ∧ ¬ σ (80 + 2 * k.toNat) 1 = 0 ∧ ¬ σ (80 + 2 * k.toNat) 2 = l) ∨ ((n = 0 ∨ (¬ σ (80 + 2 * k.toNat) 1 = 0 ∧ σ (80 + 2 * k.toNat) 2 = l)) ∧ RDE (rdF (σ (80 + 2 * k.toNat) 3) f) (fun x => rdO (wW 1 σ) rk (CC (81 + 2 * k.toNat) σ) f gg x = 0) n cz (-1) (σ 0 14))) ∧ ((0 ≤ (-1) ∧ RDX rk (CC (81 + 2 * k.toNat) σ) f gg qq cz.toNat σ) ∨ ((-1) < 0 ∧ RDX rk (CC (81 + 2 * k.toNat) σ) f gg qq 0 σ ∧ σ 0 14 = σ 0 14))) := fun gg qq rk H C => Or.inl ⟨rfl, by omega, fun c j => rfl⟩
          exact j_iret (pc := 28) ⟨rfl, rfl⟩ dX11_read_28 rfl ⟨_, rfl, ⟨by omega, by omega⟩, hI, (tw_F_rf), by omega, by omega, by omega, by omega, fin, (by first | rfl | exact (rfl).trans i19 | exact cb9.2.2.2.1), (by first | rfl | exact (rfl).trans i20 | exact cb9.2.2.2.2)⟩
abbrev q_X11_torn  (σ : tw_M) : Option tw_V → tw_M → Prop := fun z τ => ∃ r : Int, z = some (vI r) ∧ (-2147483648 ≤ r ∧ r ≤ 2147483647) ∧ σ = τ ∧ (r = σ 0 14)
set_option maxHeartbeats 4000000 in
set_option maxRecDepth 100000 in
theorem c_X11_torn {G : tw_G} (hX : tw_isX G) (σ : tw_M) (hI : tw_I σ) : tw_C G yX11_torn cX11_torn 1 (some .int) 0 [vR 0] σ (q_X11_torn σ) := by
  refine tw_met [(0, vR 0)] (by decide +kernel) rfl (Nat.le_of_ble_eq_true rfl) ?_
  refine j_aload_n (pc := 0) dX11_torn_0 rfl rfl ?_
  refine j_getI (pc := 1) fl_X11_95 dX11_torn_1 (a_0 hX) rfl ?_
  have f1 : (-2147483648 : Int) ≤ σ 0 14 ∧ σ 0 14 ≤ 2147483647 := hI 0 14
  exact j_iret (pc := 4) ⟨rfl, rfl⟩ dX11_torn_4 rfl ⟨_, rfl, ⟨by omega, by omega⟩, rfl, rfl⟩
abbrev q_X11_count (w : Int) (σ : tw_M) : Option tw_V → tw_M → Prop := fun z τ => ∃ r : Int, z = some (vI r) ∧ (-2147483648 ≤ r ∧ r ≤ 2147483647) ∧ σ = τ ∧ True
set_option maxHeartbeats 4000000 in
set_option maxRecDepth 100000 in
theorem c_X11_count {G : tw_G} (hX : tw_isX G) (w : Int) (hw : -2147483648 ≤ w ∧ w ≤ 2147483647) (σ : tw_M) (hI : tw_I σ) : tw_C G yX11_count cX11_count 2 (some .int) 1 [vR 0, vI w] σ (q_X11_count w σ) := by
  refine tw_met [(0, vR 0), (1, vI w)] (by decide +kernel) rfl (Nat.le_of_ble_eq_true rfl) ?_
  refine j_iload_n (pc := 0) dX11_count_0 rfl rfl ?_
  rcases (show w < 0 ∨ w = 0 ∨ w = 1 ∨ w = 2 ∨ w = 3 ∨ w = 4 ∨ w = 5 ∨ w = 6 ∨ w = 7 ∨ w = 8 ∨ 8 < w from by omega) with h1 | h1 | h1 | h1 | h1 | h1 | h1 | h1 | h1 | h1 | h1
  · refine j_tsOut (pc := 1) (tgt := 191) dX11_count_1 ⟨by omega, by omega⟩ (Or.inl h1) rfl ?_
    refine j_iconst (pc := 191) dX11_count_191 ?_
    exact j_iret (pc := 192) ⟨rfl, rfl⟩ dX11_count_192 rfl ⟨_, rfl, ⟨by omega, by omega⟩, rfl, trivial⟩
  · refine j_tsIn (pc := 1) (tgt := 52) 0 dX11_count_1 h1 (by decide) ⟨by decide, by decide⟩ rfl rfl ?_
    refine j_aload_n (pc := 52) dX11_count_52 rfl rfl ?_
    refine j_getR (pc := 53) (r := 23) fl_X11_26 dX11_count_53 (a_0 hX) rfl ?_
    refine j_getR (pc := 56) (r := 24) fl_X11_168 dX11_count_56 (a_23 hX) rfl ?_
    refine j_getI (pc := 59) fl_X11_187 dX11_count_59 (a_24 hX) rfl ?_
    have f2 : (0 : Int) ≤ σ 24 0 ∧ σ 24 0 ≤ 10 := hI 24 0
    exact j_iret (pc := 62) ⟨rfl, rfl⟩ dX11_count_62 rfl ⟨_, rfl, ⟨by omega, by omega⟩, rfl, trivial⟩
  · refine j_tsIn (pc := 1) (tgt := 63) 1 dX11_count_1 h1 (by decide) ⟨by decide, by decide⟩ rfl rfl ?_
    refine j_aload_n (pc := 63) dX11_count_63 rfl rfl ?_
    refine j_getR (pc := 64) (r := 1) fl_X11_10 dX11_count_64 (a_0 hX) rfl ?_
    refine j_aload_n (pc := 67) dX11_count_67 rfl rfl ?_
    refine j_getR (pc := 68) (r := 1) fl_X11_10 dX11_count_68 (a_0 hX) rfl ?_
    refine j_getR (pc := 71) (r := 5) fl_X11_156 dX11_count_71 (a_1 hX) rfl ?_
    refine j_callV (pc := 74) (As := [vR 5]) (st := []) (c_X10_countOf 1 (s_Wall_1 hX) 5 (a_5 hX) σ hI (fun j => by have h : (0 : Int) ≤ σ 5 j ∧ σ 5 j ≤ 10 := hI 5 j; omega)) mv_X11_422 rfl rfl rfl (a_1 hX) dX11_count_74 ⟨Nat.le_of_ble_eq_true rfl, Nat.le_of_ble_eq_true rfl⟩ ⟨Nat.le_refl _, Nat.le_refl _⟩ rfl (Nat.le_of_ble_eq_true rfl) rfl (fun z3 σ4 hz3 => ?_)
    obtain ⟨r6, rfl, hr6, rfl, -⟩ := hz3
    refine j_st (st' := [vI r6]) rfl ?_
    exact j_iret (pc := 77) ⟨rfl, rfl⟩ dX11_count_77 rfl ⟨_, rfl, ⟨by omega, by omega⟩, rfl, trivial⟩
  · refine j_tsIn (pc := 1) (tgt := 78) 2 dX11_count_1 h1 (by decide) ⟨by decide, by decide⟩ rfl rfl ?_
    refine j_aload_n (pc := 78) dX11_count_78 rfl rfl ?_
    refine j_getR (pc := 79) (r := 1) fl_X11_10 dX11_count_79 (a_0 hX) rfl ?_
    refine j_aload_n (pc := 82) dX11_count_82 rfl rfl ?_
    refine j_getR (pc := 83) (r := 1) fl_X11_10 dX11_count_83 (a_0 hX) rfl ?_
    refine j_getR (pc := 86) (r := 6) fl_X11_159 dX11_count_86 (a_1 hX) rfl ?_
    refine j_callV (pc := 89) (As := [vR 6]) (st := []) (c_X10_countOf 1 (s_Wall_1 hX) 6 (a_6 hX) σ hI (fun j => by have h : (0 : Int) ≤ σ 6 j ∧ σ 6 j ≤ 1 := hI 6 j; omega)) mv_X11_422 rfl rfl rfl (a_1 hX) dX11_count_89 ⟨Nat.le_of_ble_eq_true rfl, Nat.le_of_ble_eq_true rfl⟩ ⟨Nat.le_refl _, Nat.le_refl _⟩ rfl (Nat.le_of_ble_eq_true rfl) rfl (fun z7 σ8 hz7 => ?_)
    obtain ⟨r10, rfl, hr10, rfl, -⟩ := hz7
    refine j_st (st' := [vI r10]) rfl ?_
    exact j_iret (pc := 92) ⟨rfl, rfl⟩ dX11_count_92 rfl ⟨_, rfl, ⟨by omega, by omega⟩, rfl, trivial⟩
  · refine j_tsIn (pc := 1) (tgt := 93) 3 dX11_count_1 h1 (by decide) ⟨by decide, by decide⟩ rfl rfl ?_
    refine j_aload_n (pc := 93) dX11_count_93 rfl rfl ?_
    refine j_getR (pc := 94) (r := 1) fl_X11_10 dX11_count_94 (a_0 hX) rfl ?_
    refine j_aload_n (pc := 97) dX11_count_97 rfl rfl ?_
    refine j_getR (pc := 98) (r := 1) fl_X11_10 dX11_count_98 (a_0 hX) rfl ?_
    refine j_getR (pc := 101) (r := 7) fl_X11_162 dX11_count_101 (a_1 hX) rfl ?_
    refine j_callV (pc := 104) (As := [vR 7]) (st := []) (c_X10_countOf 1 (s_Wall_1 hX) 7 (a_7 hX) σ hI (fun j => by have h : (0 : Int) ≤ σ 7 j ∧ σ 7 j ≤ 1 := hI 7 j; omega)) mv_X11_422 rfl rfl rfl (a_1 hX) dX11_count_104 ⟨Nat.le_of_ble_eq_true rfl, Nat.le_of_ble_eq_true rfl⟩ ⟨Nat.le_refl _, Nat.le_refl _⟩ rfl (Nat.le_of_ble_eq_true rfl) rfl (fun z11 σ12 hz11 => ?_)
    obtain ⟨r14, rfl, hr14, rfl, -⟩ := hz11
    refine j_st (st' := [vI r14]) rfl ?_
    exact j_iret (pc := 107) ⟨rfl, rfl⟩ dX11_count_107 rfl ⟨_, rfl, ⟨by omega, by omega⟩, rfl, trivial⟩
  · refine j_tsIn (pc := 1) (tgt := 108) 4 dX11_count_1 h1 (by decide) ⟨by decide, by decide⟩ rfl rfl ?_
    refine j_aload_n (pc := 108) dX11_count_108 rfl rfl ?_
    refine j_getR (pc := 109) (r := 23) fl_X11_26 dX11_count_109 (a_0 hX) rfl ?_
    refine j_callV (pc := 112) (As := []) (st := []) (c_X3_inRack 23 (s_Hand_23 hX) σ hI) mv_X11_426 rfl rfl rfl (a_23 hX) dX11_count_112 ⟨Nat.le_of_ble_eq_true rfl, Nat.le_of_ble_eq_true rfl⟩ ⟨Nat.le_refl _, Nat.le_refl _⟩ rfl (Nat.le_of_ble_eq_true rfl) rfl (fun z15 σ16 hz15 => ?_)
    obtain ⟨r18, rfl, hr18, rfl, -⟩ := hz15
    refine j_st (st' := [vI r18]) rfl ?_
    exact j_iret (pc := 115) ⟨rfl, rfl⟩ dX11_count_115 rfl ⟨_, rfl, ⟨by omega, by omega⟩, rfl, trivial⟩
  · refine j_tsIn (pc := 1) (tgt := 116) 5 dX11_count_1 h1 (by decide) ⟨by decide, by decide⟩ rfl rfl ?_
    refine j_aload_n (pc := 116) dX11_count_116 rfl rfl ?_
    refine j_getR (pc := 117) (r := 23) fl_X11_26 dX11_count_117 (a_0 hX) rfl ?_
    refine j_callV (pc := 120) (As := []) (st := []) (c_X3_tries 23 (s_Hand_23 hX) σ hI) mv_X11_359 rfl rfl rfl (a_23 hX) dX11_count_120 ⟨Nat.le_of_ble_eq_true rfl, Nat.le_of_ble_eq_true rfl⟩ ⟨Nat.le_refl _, Nat.le_refl _⟩ rfl (Nat.le_of_ble_eq_true rfl) rfl (fun z19 σ20 hz19 => ?_)
    obtain ⟨r22, rfl, hr22, rfl, q21_0⟩ := hz19
    replace q21_0 : r22 = σ 29 0 + σ 29 1 := q21_0
    refine j_st (st' := [vI r22]) rfl ?_
    exact j_iret (pc := 123) ⟨rfl, rfl⟩ dX11_count_123 rfl ⟨_, rfl, ⟨by omega, by omega⟩, rfl, trivial⟩
  · refine j_tsIn (pc := 1) (tgt := 124) 6 dX11_count_1 h1 (by decide) ⟨by decide, by decide⟩ rfl rfl ?_
    refine j_aload_n (pc := 124) dX11_count_124 rfl rfl ?_
    refine j_getR (pc := 125) (r := 31) fl_X11_30 dX11_count_125 (a_0 hX) rfl ?_
    refine j_getI (pc := 128) fl_X11_124 dX11_count_128 (a_31 hX) rfl ?_
    have f23 : (0 : Int) ≤ σ 31 6 ∧ σ 31 6 ≤ 1 := hI 31 6
    refine j_ifR_eq (pc := 131) (tgt := 138) ⟨by omega, by omega⟩ dX11_count_131 rfl (fun h24 => ?_) (fun h24 => ?_)
    · refine j_iconst (pc := 138) dX11_count_138 ?_
      refine j_aload_n (pc := 139) dX11_count_139 rfl rfl ?_
      refine j_getR (pc := 140) (r := 39) fl_X11_33 dX11_count_140 (a_0 hX) rfl ?_
      refine j_getI (pc := 143) fl_X11_124 dX11_count_143 (a_39 hX) rfl ?_
      have f25 : (0 : Int) ≤ σ 39 6 ∧ σ 39 6 ≤ 1 := hI 39 6
      refine j_ifR_eq (pc := 146) (tgt := 153) ⟨by omega, by omega⟩ dX11_count_146 rfl (fun h26 => ?_) (fun h26 => ?_)
      · refine j_iconst (pc := 153) dX11_count_153 ?_
        refine j_iadd (pc := 154) dX11_count_154 ?_
        refine j_topV (show (0 + 0 : Int) = 0 from by decide) ?_
        exact j_iret (pc := 155) ⟨rfl, rfl⟩ dX11_count_155 rfl ⟨_, rfl, ⟨by omega, by omega⟩, rfl, trivial⟩
      · refine j_iconst (pc := 149) dX11_count_149 ?_
        refine j_goto (pc := 150) (tgt := 154) dX11_count_150 rfl ?_
        refine j_iadd (pc := 154) dX11_count_154 ?_
        refine j_topV (show (0 + 1 : Int) = 1 from by decide) ?_
        exact j_iret (pc := 155) ⟨rfl, rfl⟩ dX11_count_155 rfl ⟨_, rfl, ⟨by omega, by omega⟩, rfl, trivial⟩
    · refine j_iconst (pc := 134) dX11_count_134 ?_
      refine j_goto (pc := 135) (tgt := 139) dX11_count_135 rfl ?_
      refine j_aload_n (pc := 139) dX11_count_139 rfl rfl ?_
      refine j_getR (pc := 140) (r := 39) fl_X11_33 dX11_count_140 (a_0 hX) rfl ?_
      refine j_getI (pc := 143) fl_X11_124 dX11_count_143 (a_39 hX) rfl ?_
      have f27 : (0 : Int) ≤ σ 39 6 ∧ σ 39 6 ≤ 1 := hI 39 6
      refine j_ifR_eq (pc := 146) (tgt := 153) ⟨by omega, by omega⟩ dX11_count_146 rfl (fun h28 => ?_) (fun h28 => ?_)
      · refine j_iconst (pc := 153) dX11_count_153 ?_
        refine j_iadd (pc := 154) dX11_count_154 ?_
        refine j_topV (show (1 + 0 : Int) = 1 from by decide) ?_
        exact j_iret (pc := 155) ⟨rfl, rfl⟩ dX11_count_155 rfl ⟨_, rfl, ⟨by omega, by omega⟩, rfl, trivial⟩
      · refine j_iconst (pc := 149) dX11_count_149 ?_
        refine j_goto (pc := 150) (tgt := 154) dX11_count_150 rfl ?_
        refine j_iadd (pc := 154) dX11_count_154 ?_
        refine j_topV (show (1 + 1 : Int) = 2 from by decide) ?_
        exact j_iret (pc := 155) ⟨rfl, rfl⟩ dX11_count_155 rfl ⟨_, rfl, ⟨by omega, by omega⟩, rfl, trivial⟩
  · refine j_tsIn (pc := 1) (tgt := 156) 7 dX11_count_1 h1 (by decide) ⟨by decide, by decide⟩ rfl rfl ?_
    refine j_aload_n (pc := 156) dX11_count_156 rfl rfl ?_
    refine j_getR (pc := 157) (r := 10) fl_X11_19 dX11_count_157 (a_0 hX) rfl ?_
    refine j_getI (pc := 160) fl_X11_106 dX11_count_160 (a_10 hX) rfl ?_
    have f29 : (0 : Int) ≤ σ 10 10 ∧ σ 10 10 ≤ 400 := hI 10 10
    exact j_iret (pc := 163) ⟨rfl, rfl⟩ dX11_count_163 rfl ⟨_, rfl, ⟨by omega, by omega⟩, rfl, trivial⟩
  · refine j_tsIn (pc := 1) (tgt := 164) 8 dX11_count_1 h1 (by decide) ⟨by decide, by decide⟩ rfl rfl ?_
    refine j_aload_n (pc := 164) dX11_count_164 rfl rfl ?_
    refine j_getR (pc := 165) (r := 79) fl_X11_87 dX11_count_165 (a_0 hX) rfl ?_
    refine j_iconst (pc := 168) dX11_count_168 ?_
    refine j_aald (pc := 169) (r := 80) dX11_count_169 (a_79 hX) (by decide) (by decide) rfl (by decide) ?_
    refine j_getI (pc := 170) fl_X11_409 dX11_count_170 (a_80 hX) rfl ?_
    have f30 : (0 : Int) ≤ σ 80 1 ∧ σ 80 1 ≤ 1 := hI 80 1
    refine j_ifR_eq (pc := 173) (tgt := 188) ⟨by omega, by omega⟩ dX11_count_173 rfl (fun h31 => ?_) (fun h31 => ?_)
    · refine j_bipush (pc := 188) dX11_count_188 rfl ?_
      exact j_iret (pc := 190) ⟨rfl, rfl⟩ dX11_count_190 rfl ⟨_, rfl, ⟨by omega, by omega⟩, rfl, trivial⟩
    · refine j_aload_n (pc := 176) dX11_count_176 rfl rfl ?_
      refine j_getR (pc := 177) (r := 79) fl_X11_87 dX11_count_177 (a_0 hX) rfl ?_
      refine j_iconst (pc := 180) dX11_count_180 ?_
      refine j_aald (pc := 181) (r := 80) dX11_count_181 (a_79 hX) (by decide) (by decide) rfl (by decide) ?_
      refine j_getI (pc := 182) fl_X11_429 dX11_count_182 (a_80 hX) rfl ?_
      have f32 : (0 : Int) ≤ σ 80 3 ∧ σ 80 3 ≤ 40 := hI 80 3
      refine j_goto (pc := 185) (tgt := 190) dX11_count_185 rfl ?_
      exact j_iret (pc := 190) ⟨rfl, rfl⟩ dX11_count_190 rfl ⟨_, rfl, ⟨by omega, by omega⟩, rfl, trivial⟩
  · refine j_tsOut (pc := 1) (tgt := 191) dX11_count_1 ⟨by omega, by omega⟩ (Or.inr h1) rfl ?_
    refine j_iconst (pc := 191) dX11_count_191 ?_
    exact j_iret (pc := 192) ⟨rfl, rfl⟩ dX11_count_192 rfl ⟨_, rfl, ⟨by omega, by omega⟩, rfl, trivial⟩
