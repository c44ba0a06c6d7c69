/-! 19.tape -/
theorem dX9_append_0 : decode cX9_append 0 = .ok (.aload_n 0, 1) := by decide +kernel
theorem dX9_append_1 : decode cX9_append 1 = .ok (.getfield 29, 3) := by decide +kernel
theorem dX9_append_4 : decode cX9_append 4 = .ok (.sipush 392, 3) := by decide +kernel
theorem dX9_append_7 : decode cX9_append 7 = .ok (.if_icmp .le 5, 3) := by decide +kernel
theorem dX9_append_10 : decode cX9_append 10 = .ok (.iconst 0, 1) := by decide +kernel
theorem dX9_append_11 : decode cX9_append 11 = .ok (.ireturn, 1) := by decide +kernel
theorem dX9_append_12 : decode cX9_append 12 = .ok (.iconst 0, 1) := by decide +kernel
theorem dX9_append_13 : decode cX9_append 13 = .ok (.istore_n 3, 1) := by decide +kernel
theorem dX9_append_14 : decode cX9_append 14 = .ok (.iload_n 3, 1) := by decide +kernel
theorem dX9_append_15 : decode cX9_append 15 = .ok (.bipush 8, 2) := by decide +kernel
theorem dX9_append_17 : decode cX9_append 17 = .ok (.if_icmp .ge 31, 3) := by decide +kernel
theorem dX9_append_20 : decode cX9_append 20 = .ok (.aload_n 0, 1) := by decide +kernel
theorem dX9_append_21 : decode cX9_append 21 = .ok (.getfield 9, 3) := by decide +kernel
theorem dX9_append_24 : decode cX9_append 24 = .ok (.aload_n 0, 1) := by decide +kernel
theorem dX9_append_25 : decode cX9_append 25 = .ok (.getfield 29, 3) := by decide +kernel
theorem dX9_append_28 : decode cX9_append 28 = .ok (.iload_n 3, 1) := by decide +kernel
theorem dX9_append_29 : decode cX9_append 29 = .ok (.iadd, 1) := by decide +kernel
theorem dX9_append_30 : decode cX9_append 30 = .ok (.lload_n 1, 1) := by decide +kernel
theorem dX9_append_31 : decode cX9_append 31 = .ok (.bipush 56, 2) := by decide +kernel
theorem dX9_append_33 : decode cX9_append 33 = .ok (.bipush 8, 2) := by decide +kernel
theorem dX9_append_35 : decode cX9_append 35 = .ok (.iload_n 3, 1) := by decide +kernel
theorem dX9_append_36 : decode cX9_append 36 = .ok (.imul, 1) := by decide +kernel
theorem dX9_append_37 : decode cX9_append 37 = .ok (.isub, 1) := by decide +kernel
theorem dX9_append_38 : decode cX9_append 38 = .ok (.lushr, 1) := by decide +kernel
theorem dX9_append_39 : decode cX9_append 39 = .ok (.l2i, 1) := by decide +kernel
theorem dX9_append_40 : decode cX9_append 40 = .ok (.i2b, 1) := by decide +kernel
theorem dX9_append_41 : decode cX9_append 41 = .ok (.bastore, 1) := by decide +kernel
theorem dX9_append_42 : decode cX9_append 42 = .ok (.iinc 3 1, 3) := by decide +kernel
theorem dX9_append_45 : decode cX9_append 45 = .ok (.goto (-31), 3) := by decide +kernel
theorem dX9_append_48 : decode cX9_append 48 = .ok (.aload_n 0, 1) := by decide +kernel
theorem dX9_append_49 : decode cX9_append 49 = .ok (.dup, 1) := by decide +kernel
theorem dX9_append_50 : decode cX9_append 50 = .ok (.getfield 29, 3) := by decide +kernel
theorem dX9_append_53 : decode cX9_append 53 = .ok (.bipush 8, 2) := by decide +kernel
theorem dX9_append_55 : decode cX9_append 55 = .ok (.iadd, 1) := by decide +kernel
theorem dX9_append_56 : decode cX9_append 56 = .ok (.putfield 29, 3) := by decide +kernel
theorem dX9_append_59 : decode cX9_append 59 = .ok (.iconst 1, 1) := by decide +kernel
theorem dX9_append_60 : decode cX9_append 60 = .ok (.ireturn, 1) := by decide +kernel
theorem dX9_fail_0 : decode cX9_fail 0 = .ok (.aload_n 0, 1) := by decide +kernel
theorem dX9_fail_1 : decode cX9_fail 1 = .ok (.getfield 33, 3) := by decide +kernel
theorem dX9_fail_4 : decode cX9_fail 4 = .ok (.ifCond .eq 4, 3) := by decide +kernel
theorem dX9_fail_7 : decode cX9_fail 7 = .ok (.return_, 1) := by decide +kernel
theorem dX9_fail_8 : decode cX9_fail 8 = .ok (.aload_n 0, 1) := by decide +kernel
theorem dX9_fail_9 : decode cX9_fail 9 = .ok (.iload_n 1, 1) := by decide +kernel
theorem dX9_fail_10 : decode cX9_fail 10 = .ok (.putfield 33, 3) := by decide +kernel
theorem dX9_fail_13 : decode cX9_fail 13 = .ok (.aload_n 0, 1) := by decide +kernel
theorem dX9_fail_14 : decode cX9_fail 14 = .ok (.iload_n 2, 1) := by decide +kernel
theorem dX9_fail_15 : decode cX9_fail 15 = .ok (.putfield 36, 3) := by decide +kernel
theorem dX9_fail_18 : decode cX9_fail 18 = .ok (.return_, 1) := by decide +kernel
theorem dX9_begin_0 : decode cX9_begin 0 = .ok (.aload_n 0, 1) := by decide +kernel
theorem dX9_begin_1 : decode cX9_begin 1 = .ok (.getfield 25, 3) := by decide +kernel
theorem dX9_begin_4 : decode cX9_begin 4 = .ok (.invokevirtual 65, 3) := by decide +kernel
theorem dX9_begin_7 : decode cX9_begin 7 = .ok (.iconst 0, 1) := by decide +kernel
theorem dX9_begin_8 : decode cX9_begin 8 = .ok (.istore_n 1, 1) := by decide +kernel
theorem dX9_begin_9 : decode cX9_begin 9 = .ok (.iload_n 1, 1) := by decide +kernel
theorem dX9_begin_10 : decode cX9_begin 10 = .ok (.bipush 40, 2) := by decide +kernel
theorem dX9_begin_12 : decode cX9_begin 12 = .ok (.if_icmp .gt 16, 3) := by decide +kernel
theorem dX9_begin_15 : decode cX9_begin 15 = .ok (.aload_n 0, 1) := by decide +kernel
theorem dX9_begin_16 : decode cX9_begin 16 = .ok (.getfield 15, 3) := by decide +kernel
theorem dX9_begin_19 : decode cX9_begin 19 = .ok (.iload_n 1, 1) := by decide +kernel
theorem dX9_begin_20 : decode cX9_begin 20 = .ok (.iconst 0, 1) := by decide +kernel
theorem dX9_begin_21 : decode cX9_begin 21 = .ok (.bastore, 1) := by decide +kernel
theorem dX9_begin_22 : decode cX9_begin 22 = .ok (.iinc 1 1, 3) := by decide +kernel
theorem dX9_begin_25 : decode cX9_begin 25 = .ok (.goto (-16), 3) := by decide +kernel
theorem dX9_begin_28 : decode cX9_begin 28 = .ok (.iconst 0, 1) := by decide +kernel
theorem dX9_begin_29 : decode cX9_begin 29 = .ok (.istore_n 1, 1) := by decide +kernel
theorem dX9_begin_30 : decode cX9_begin 30 = .ok (.iload_n 1, 1) := by decide +kernel
theorem dX9_begin_31 : decode cX9_begin 31 = .ok (.bipush 10, 2) := by decide +kernel
theorem dX9_begin_33 : decode cX9_begin 33 = .ok (.if_icmp .gt 16, 3) := by decide +kernel
theorem dX9_begin_36 : decode cX9_begin 36 = .ok (.aload_n 0, 1) := by decide +kernel
theorem dX9_begin_37 : decode cX9_begin 37 = .ok (.getfield 19, 3) := by decide +kernel
theorem dX9_begin_40 : decode cX9_begin 40 = .ok (.iload_n 1, 1) := by decide +kernel
theorem dX9_begin_41 : decode cX9_begin 41 = .ok (.iconst 0, 1) := by decide +kernel
theorem dX9_begin_42 : decode cX9_begin 42 = .ok (.bastore, 1) := by decide +kernel
theorem dX9_begin_43 : decode cX9_begin 43 = .ok (.iinc 1 1, 3) := by decide +kernel
theorem dX9_begin_46 : decode cX9_begin 46 = .ok (.goto (-16), 3) := by decide +kernel
theorem dX9_begin_49 : decode cX9_begin 49 = .ok (.aload_n 0, 1) := by decide +kernel
theorem dX9_begin_50 : decode cX9_begin 50 = .ok (.iconst 0, 1) := by decide +kernel
theorem dX9_begin_51 : decode cX9_begin 51 = .ok (.putfield 66, 3) := by decide +kernel
theorem dX9_begin_54 : decode cX9_begin 54 = .ok (.aload_n 0, 1) := by decide +kernel
theorem dX9_begin_55 : decode cX9_begin 55 = .ok (.iconst 0, 1) := by decide +kernel
theorem dX9_begin_56 : decode cX9_begin 56 = .ok (.putfield 54, 3) := by decide +kernel
theorem dX9_begin_59 : decode cX9_begin 59 = .ok (.aload_n 0, 1) := by decide +kernel
theorem dX9_begin_60 : decode cX9_begin 60 = .ok (.iconst 0, 1) := by decide +kernel
theorem dX9_begin_61 : decode cX9_begin 61 = .ok (.putfield 69, 3) := by decide +kernel
theorem dX9_begin_64 : decode cX9_begin 64 = .ok (.aload_n 0, 1) := by decide +kernel
theorem dX9_begin_65 : decode cX9_begin 65 = .ok (.iconst 0, 1) := by decide +kernel
theorem dX9_begin_66 : decode cX9_begin 66 = .ok (.putfield 33, 3) := by decide +kernel
theorem dX9_begin_69 : decode cX9_begin 69 = .ok (.aload_n 0, 1) := by decide +kernel
theorem dX9_begin_70 : decode cX9_begin 70 = .ok (.iconst 0, 1) := by decide +kernel
theorem dX9_begin_71 : decode cX9_begin 71 = .ok (.putfield 36, 3) := by decide +kernel
theorem dX9_begin_74 : decode cX9_begin 74 = .ok (.aload_n 0, 1) := by decide +kernel
theorem dX9_begin_75 : decode cX9_begin 75 = .ok (.iconst 0, 1) := by decide +kernel
theorem dX9_begin_76 : decode cX9_begin 76 = .ok (.putfield 39, 3) := by decide +kernel
theorem dX9_begin_79 : decode cX9_begin 79 = .ok (.return_, 1) := by decide +kernel
theorem dX9_byteAt_0 : decode cX9_byteAt 0 = .ok (.iload_n 1, 1) := by decide +kernel
theorem dX9_byteAt_1 : decode cX9_byteAt 1 = .ok (.ifCond .lt 31, 3) := by decide +kernel
theorem dX9_byteAt_4 : decode cX9_byteAt 4 = .ok (.iload_n 1, 1) := by decide +kernel
theorem dX9_byteAt_5 : decode cX9_byteAt 5 = .ok (.aload_n 0, 1) := by decide +kernel
theorem dX9_byteAt_6 : decode cX9_byteAt 6 = .ok (.getfield 29, 3) := by decide +kernel
theorem dX9_byteAt_9 : decode cX9_byteAt 9 = .ok (.if_icmp .ge 23, 3) := by decide +kernel
theorem dX9_byteAt_12 : decode cX9_byteAt 12 = .ok (.iload_n 1, 1) := by decide +kernel
theorem dX9_byteAt_13 : decode cX9_byteAt 13 = .ok (.sipush 400, 3) := by decide +kernel
theorem dX9_byteAt_16 : decode cX9_byteAt 16 = .ok (.if_icmp .ge 16, 3) := by decide +kernel
theorem dX9_byteAt_19 : decode cX9_byteAt 19 = .ok (.aload_n 0, 1) := by decide +kernel
theorem dX9_byteAt_20 : decode cX9_byteAt 20 = .ok (.getfield 9, 3) := by decide +kernel
theorem dX9_byteAt_23 : decode cX9_byteAt 23 = .ok (.iload_n 1, 1) := by decide +kernel
theorem dX9_byteAt_24 : decode cX9_byteAt 24 = .ok (.baload, 1) := by decide +kernel
theorem dX9_byteAt_25 : decode cX9_byteAt 25 = .ok (.sipush 255, 3) := by decide +kernel
theorem dX9_byteAt_28 : decode cX9_byteAt 28 = .ok (.iand, 1) := by decide +kernel
theorem dX9_byteAt_29 : decode cX9_byteAt 29 = .ok (.goto 4, 3) := by decide +kernel
theorem dX9_byteAt_32 : decode cX9_byteAt 32 = .ok (.iconst (-1), 1) := by decide +kernel
theorem dX9_byteAt_33 : decode cX9_byteAt 33 = .ok (.ireturn, 1) := by decide +kernel
theorem dX9_isLetter_0 : decode cX9_isLetter 0 = .ok (.iload_n 0, 1) := by decide +kernel
theorem dX9_isLetter_1 : decode cX9_isLetter 1 = .ok (.bipush 97, 2) := by decide +kernel
theorem dX9_isLetter_3 : decode cX9_isLetter 3 = .ok (.if_icmp .lt 13, 3) := by decide +kernel
theorem dX9_isLetter_6 : decode cX9_isLetter 6 = .ok (.iload_n 0, 1) := by decide +kernel
theorem dX9_isLetter_7 : decode cX9_isLetter 7 = .ok (.bipush 122, 2) := by decide +kernel
theorem dX9_isLetter_9 : decode cX9_isLetter 9 = .ok (.if_icmp .gt 7, 3) := by decide +kernel
theorem dX9_isLetter_12 : decode cX9_isLetter 12 = .ok (.iconst 1, 1) := by decide +kernel
theorem dX9_isLetter_13 : decode cX9_isLetter 13 = .ok (.goto 4, 3) := by decide +kernel
theorem dX9_isLetter_16 : decode cX9_isLetter 16 = .ok (.iconst 0, 1) := by decide +kernel
theorem dX9_isLetter_17 : decode cX9_isLetter 17 = .ok (.ireturn, 1) := by decide +kernel
theorem dX9_isFigure_0 : decode cX9_isFigure 0 = .ok (.iload_n 0, 1) := by decide +kernel
theorem dX9_isFigure_1 : decode cX9_isFigure 1 = .ok (.bipush 48, 2) := by decide +kernel
theorem dX9_isFigure_3 : decode cX9_isFigure 3 = .ok (.if_icmp .lt 13, 3) := by decide +kernel
theorem dX9_isFigure_6 : decode cX9_isFigure 6 = .ok (.iload_n 0, 1) := by decide +kernel
theorem dX9_isFigure_7 : decode cX9_isFigure 7 = .ok (.bipush 57, 2) := by decide +kernel
theorem dX9_isFigure_9 : decode cX9_isFigure 9 = .ok (.if_icmp .gt 7, 3) := by decide +kernel
theorem dX9_isFigure_12 : decode cX9_isFigure 12 = .ok (.iconst 1, 1) := by decide +kernel
theorem dX9_isFigure_13 : decode cX9_isFigure 13 = .ok (.goto 4, 3) := by decide +kernel
theorem dX9_isFigure_16 : decode cX9_isFigure 16 = .ok (.iconst 0, 1) := by decide +kernel
theorem dX9_isFigure_17 : decode cX9_isFigure 17 = .ok (.ireturn, 1) := by decide +kernel
theorem dX9_readName_0 : decode cX9_readName 0 = .ok (.aload_n 0, 1) := by decide +kernel
theorem dX9_readName_1 : decode cX9_readName 1 = .ok (.iconst 1, 1) := by decide +kernel
theorem dX9_readName_2 : decode cX9_readName 2 = .ok (.putfield 48, 3) := by decide +kernel
theorem dX9_readName_5 : decode cX9_readName 5 = .ok (.iconst 0, 1) := by decide +kernel
theorem dX9_readName_6 : decode cX9_readName 6 = .ok (.istore_n 1, 1) := by decide +kernel
theorem dX9_readName_7 : decode cX9_readName 7 = .ok (.iload_n 1, 1) := by decide +kernel
theorem dX9_readName_8 : decode cX9_readName 8 = .ok (.sipush 400, 3) := by decide +kernel
theorem dX9_readName_11 : decode cX9_readName 11 = .ok (.if_icmp .ge 33, 3) := by decide +kernel
theorem dX9_readName_14 : decode cX9_readName 14 = .ok (.aload_n 0, 1) := by decide +kernel
theorem dX9_readName_15 : decode cX9_readName 15 = .ok (.aload_n 0, 1) := by decide +kernel
theorem dX9_readName_16 : decode cX9_readName 16 = .ok (.getfield 69, 3) := by decide +kernel
theorem dX9_readName_19 : decode cX9_readName 19 = .ok (.invokevirtual 72, 3) := by decide +kernel
theorem dX9_readName_22 : decode cX9_readName 22 = .ok (.invokestatic 79, 3) := by decide +kernel
theorem dX9_readName_25 : decode cX9_readName 25 = .ok (.ifCond .eq 19, 3) := by decide +kernel
theorem dX9_readName_28 : decode cX9_readName 28 = .ok (.aload_n 0, 1) := by decide +kernel
theorem dX9_readName_29 : decode cX9_readName 29 = .ok (.dup, 1) := by decide +kernel
theorem dX9_readName_30 : decode cX9_readName 30 = .ok (.getfield 69, 3) := by decide +kernel
theorem dX9_readName_33 : decode cX9_readName 33 = .ok (.iconst 1, 1) := by decide +kernel
theorem dX9_readName_34 : decode cX9_readName 34 = .ok (.iadd, 1) := by decide +kernel
theorem dX9_readName_35 : decode cX9_readName 35 = .ok (.putfield 69, 3) := by decide +kernel
theorem dX9_readName_38 : decode cX9_readName 38 = .ok (.iinc 1 1, 3) := by decide +kernel
theorem dX9_readName_41 : decode cX9_readName 41 = .ok (.goto (-34), 3) := by decide +kernel
theorem dX9_readName_44 : decode cX9_readName 44 = .ok (.return_, 1) := by decide +kernel
theorem dX9_readNumber_0 : decode cX9_readNumber 0 = .ok (.aload_n 0, 1) := by decide +kernel
theorem dX9_readNumber_1 : decode cX9_readNumber 1 = .ok (.iconst 2, 1) := by decide +kernel
theorem dX9_readNumber_2 : decode cX9_readNumber 2 = .ok (.putfield 48, 3) := by decide +kernel
theorem dX9_readNumber_5 : decode cX9_readNumber 5 = .ok (.aload_n 0, 1) := by decide +kernel
theorem dX9_readNumber_6 : decode cX9_readNumber 6 = .ok (.iconst 0, 1) := by decide +kernel
theorem dX9_readNumber_7 : decode cX9_readNumber 7 = .ok (.putfield 95, 3) := by decide +kernel
theorem dX9_readNumber_10 : decode cX9_readNumber 10 = .ok (.iconst 0, 1) := by decide +kernel
theorem dX9_readNumber_11 : decode cX9_readNumber 11 = .ok (.istore_n 1, 1) := by decide +kernel
theorem dX9_readNumber_12 : decode cX9_readNumber 12 = .ok (.iload_n 1, 1) := by decide +kernel
theorem dX9_readNumber_13 : decode cX9_readNumber 13 = .ok (.sipush 400, 3) := by decide +kernel
theorem dX9_readNumber_16 : decode cX9_readNumber 16 = .ok (.if_icmp .ge 61, 3) := by decide +kernel
theorem dX9_readNumber_19 : decode cX9_readNumber 19 = .ok (.aload_n 0, 1) := by decide +kernel
theorem dX9_readNumber_20 : decode cX9_readNumber 20 = .ok (.aload_n 0, 1) := by decide +kernel
theorem dX9_readNumber_21 : decode cX9_readNumber 21 = .ok (.getfield 69, 3) := by decide +kernel
theorem dX9_readNumber_24 : decode cX9_readNumber 24 = .ok (.invokevirtual 72, 3) := by decide +kernel
theorem dX9_readNumber_27 : decode cX9_readNumber 27 = .ok (.invokestatic 86, 3) := by decide +kernel
theorem dX9_readNumber_30 : decode cX9_readNumber 30 = .ok (.ifCond .eq 47, 3) := by decide +kernel
theorem dX9_readNumber_33 : decode cX9_readNumber 33 = .ok (.iload_n 1, 1) := by decide +kernel
theorem dX9_readNumber_34 : decode cX9_readNumber 34 = .ok (.iconst 3, 1) := by decide +kernel
theorem dX9_readNumber_35 : decode cX9_readNumber 35 = .ok (.if_icmp .ge 26, 3) := by decide +kernel
theorem dX9_readNumber_38 : decode cX9_readNumber 38 = .ok (.aload_n 0, 1) := by decide +kernel
theorem dX9_readNumber_39 : decode cX9_readNumber 39 = .ok (.bipush 10, 2) := by decide +kernel
theorem dX9_readNumber_41 : decode cX9_readNumber 41 = .ok (.aload_n 0, 1) := by decide +kernel
theorem dX9_readNumber_42 : decode cX9_readNumber 42 = .ok (.getfield 95, 3) := by decide +kernel
theorem dX9_readNumber_45 : decode cX9_readNumber 45 = .ok (.imul, 1) := by decide +kernel
theorem dX9_readNumber_46 : decode cX9_readNumber 46 = .ok (.aload_n 0, 1) := by decide +kernel
theorem dX9_readNumber_47 : decode cX9_readNumber 47 = .ok (.aload_n 0, 1) := by decide +kernel
theorem dX9_readNumber_48 : decode cX9_readNumber 48 = .ok (.getfield 69, 3) := by decide +kernel
theorem dX9_readNumber_51 : decode cX9_readNumber 51 = .ok (.invokevirtual 72, 3) := by decide +kernel
theorem dX9_readNumber_54 : decode cX9_readNumber 54 = .ok (.iadd, 1) := by decide +kernel
theorem dX9_readNumber_55 : decode cX9_readNumber 55 = .ok (.bipush 48, 2) := by decide +kernel
theorem dX9_readNumber_57 : decode cX9_readNumber 57 = .ok (.isub, 1) := by decide +kernel
theorem dX9_readNumber_58 : decode cX9_readNumber 58 = .ok (.putfield 95, 3) := by decide +kernel
theorem dX9_readNumber_61 : decode cX9_readNumber 61 = .ok (.aload_n 0, 1) := by decide +kernel
theorem dX9_readNumber_62 : decode cX9_readNumber 62 = .ok (.dup, 1) := by decide +kernel
theorem dX9_readNumber_63 : decode cX9_readNumber 63 = .ok (.getfield 69, 3) := by decide +kernel
theorem dX9_readNumber_66 : decode cX9_readNumber 66 = .ok (.iconst 1, 1) := by decide +kernel
theorem dX9_readNumber_67 : decode cX9_readNumber 67 = .ok (.iadd, 1) := by decide +kernel
theorem dX9_readNumber_68 : decode cX9_readNumber 68 = .ok (.putfield 69, 3) := by decide +kernel
theorem dX9_readNumber_71 : decode cX9_readNumber 71 = .ok (.iinc 1 1, 3) := by decide +kernel
theorem dX9_readNumber_74 : decode cX9_readNumber 74 = .ok (.goto (-62), 3) := by decide +kernel
theorem dX9_readNumber_77 : decode cX9_readNumber 77 = .ok (.aload_n 0, 1) := by decide +kernel
theorem dX9_readNumber_78 : decode cX9_readNumber 78 = .ok (.getfield 69, 3) := by decide +kernel
theorem dX9_readNumber_81 : decode cX9_readNumber 81 = .ok (.aload_n 0, 1) := by decide +kernel
theorem dX9_readNumber_82 : decode cX9_readNumber 82 = .ok (.getfield 76, 3) := by decide +kernel
theorem dX9_readNumber_85 : decode cX9_readNumber 85 = .ok (.isub, 1) := by decide +kernel
theorem dX9_readNumber_86 : decode cX9_readNumber 86 = .ok (.iconst 3, 1) := by decide +kernel
theorem dX9_readNumber_87 : decode cX9_readNumber 87 = .ok (.if_icmp .le 12, 3) := by decide +kernel
theorem dX9_readNumber_90 : decode cX9_readNumber 90 = .ok (.aload_n 0, 1) := by decide +kernel
theorem dX9_readNumber_91 : decode cX9_readNumber 91 = .ok (.iconst 1, 1) := by decide +kernel
theorem dX9_readNumber_92 : decode cX9_readNumber 92 = .ok (.aload_n 0, 1) := by decide +kernel
theorem dX9_readNumber_93 : decode cX9_readNumber 93 = .ok (.getfield 76, 3) := by decide +kernel
theorem dX9_readNumber_96 : decode cX9_readNumber 96 = .ok (.invokevirtual 61, 3) := by decide +kernel
theorem dX9_readNumber_99 : decode cX9_readNumber 99 = .ok (.return_, 1) := by decide +kernel
theorem dX9_readSign_0 : decode cX9_readSign 0 = .ok (.aload_n 0, 1) := by decide +kernel
theorem dX9_readSign_1 : decode cX9_readSign 1 = .ok (.iconst 3, 1) := by decide +kernel
theorem dX9_readSign_2 : decode cX9_readSign 2 = .ok (.putfield 48, 3) := by decide +kernel
theorem dX9_readSign_5 : decode cX9_readSign 5 = .ok (.aload_n 0, 1) := by decide +kernel
theorem dX9_readSign_6 : decode cX9_readSign 6 = .ok (.dup, 1) := by decide +kernel
theorem dX9_readSign_7 : decode cX9_readSign 7 = .ok (.getfield 69, 3) := by decide +kernel
theorem dX9_readSign_10 : decode cX9_readSign 10 = .ok (.iconst 1, 1) := by decide +kernel
theorem dX9_readSign_11 : decode cX9_readSign 11 = .ok (.iadd, 1) := by decide +kernel
theorem dX9_readSign_12 : decode cX9_readSign 12 = .ok (.putfield 69, 3) := by decide +kernel
theorem dX9_readSign_15 : decode cX9_readSign 15 = .ok (.return_, 1) := by decide +kernel
theorem dX9_advance_0 : decode cX9_advance 0 = .ok (.aload_n 0, 1) := by decide +kernel
theorem dX9_advance_1 : decode cX9_advance 1 = .ok (.getfield 33, 3) := by decide +kernel
theorem dX9_advance_4 : decode cX9_advance 4 = .ok (.ifCond .eq 4, 3) := by decide +kernel
theorem dX9_advance_7 : decode cX9_advance 7 = .ok (.return_, 1) := by decide +kernel
theorem dX9_advance_8 : decode cX9_advance 8 = .ok (.iconst 0, 1) := by decide +kernel
theorem dX9_advance_9 : decode cX9_advance 9 = .ok (.istore_n 1, 1) := by decide +kernel
theorem dX9_advance_10 : decode cX9_advance 10 = .ok (.iload_n 1, 1) := by decide +kernel
theorem dX9_advance_11 : decode cX9_advance 11 = .ok (.sipush 400, 3) := by decide +kernel
theorem dX9_advance_14 : decode cX9_advance 14 = .ok (.if_icmp .ge 32, 3) := by decide +kernel
theorem dX9_advance_17 : decode cX9_advance 17 = .ok (.aload_n 0, 1) := by decide +kernel
theorem dX9_advance_18 : decode cX9_advance 18 = .ok (.aload_n 0, 1) := by decide +kernel
theorem dX9_advance_19 : decode cX9_advance 19 = .ok (.getfield 69, 3) := by decide +kernel
theorem dX9_advance_22 : decode cX9_advance 22 = .ok (.invokevirtual 72, 3) := by decide +kernel
theorem dX9_advance_25 : decode cX9_advance 25 = .ok (.bipush 32, 2) := by decide +kernel
theorem dX9_advance_27 : decode cX9_advance 27 = .ok (.if_icmp .ne 19, 3) := by decide +kernel
theorem dX9_advance_30 : decode cX9_advance 30 = .ok (.aload_n 0, 1) := by decide +kernel
theorem dX9_advance_31 : decode cX9_advance 31 = .ok (.dup, 1) := by decide +kernel
theorem dX9_advance_32 : decode cX9_advance 32 = .ok (.getfield 69, 3) := by decide +kernel
theorem dX9_advance_35 : decode cX9_advance 35 = .ok (.iconst 1, 1) := by decide +kernel
theorem dX9_advance_36 : decode cX9_advance 36 = .ok (.iadd, 1) := by decide +kernel
theorem dX9_advance_37 : decode cX9_advance 37 = .ok (.putfield 69, 3) := by decide +kernel
theorem dX9_advance_40 : decode cX9_advance 40 = .ok (.iinc 1 1, 3) := by decide +kernel
theorem dX9_advance_43 : decode cX9_advance 43 = .ok (.goto (-33), 3) := by decide +kernel
theorem dX9_advance_46 : decode cX9_advance 46 = .ok (.aload_n 0, 1) := by decide +kernel
theorem dX9_advance_47 : decode cX9_advance 47 = .ok (.aload_n 0, 1) := by decide +kernel
theorem dX9_advance_48 : decode cX9_advance 48 = .ok (.getfield 69, 3) := by decide +kernel
theorem dX9_advance_51 : decode cX9_advance 51 = .ok (.putfield 76, 3) := by decide +kernel
theorem dX9_advance_54 : decode cX9_advance 54 = .ok (.aload_n 0, 1) := by decide +kernel
theorem dX9_advance_55 : decode cX9_advance 55 = .ok (.aload_n 0, 1) := by decide +kernel
theorem dX9_advance_56 : decode cX9_advance 56 = .ok (.getfield 69, 3) := by decide +kernel
theorem dX9_advance_59 : decode cX9_advance 59 = .ok (.invokevirtual 72, 3) := by decide +kernel
theorem dX9_advance_62 : decode cX9_advance 62 = .ok (.istore_n 1, 1) := by decide +kernel
theorem dX9_advance_63 : decode cX9_advance 63 = .ok (.iload_n 1, 1) := by decide +kernel
theorem dX9_advance_64 : decode cX9_advance 64 = .ok (.ifCond .ge 11, 3) := by decide +kernel
theorem dX9_advance_67 : decode cX9_advance 67 = .ok (.aload_n 0, 1) := by decide +kernel
theorem dX9_advance_68 : decode cX9_advance 68 = .ok (.iconst 0, 1) := by decide +kernel
theorem dX9_advance_69 : decode cX9_advance 69 = .ok (.putfield 48, 3) := by decide +kernel
theorem dX9_advance_72 : decode cX9_advance 72 = .ok (.goto 53, 3) := by decide +kernel
theorem dX9_advance_75 : decode cX9_advance 75 = .ok (.iload_n 1, 1) := by decide +kernel
theorem dX9_advance_76 : decode cX9_advance 76 = .ok (.invokestatic 79, 3) := by decide +kernel
theorem dX9_advance_79 : decode cX9_advance 79 = .ok (.ifCond .eq 10, 3) := by decide +kernel
theorem dX9_advance_82 : decode cX9_advance 82 = .ok (.aload_n 0, 1) := by decide +kernel
theorem dX9_advance_83 : decode cX9_advance 83 = .ok (.invokevirtual 83, 3) := by decide +kernel
theorem dX9_advance_86 : decode cX9_advance 86 = .ok (.goto 39, 3) := by decide +kernel
theorem dX9_advance_89 : decode cX9_advance 89 = .ok (.iload_n 1, 1) := by decide +kernel
theorem dX9_advance_90 : decode cX9_advance 90 = .ok (.invokestatic 86, 3) := by decide +kernel
theorem dX9_advance_93 : decode cX9_advance 93 = .ok (.ifCond .eq 10, 3) := by decide +kernel
theorem dX9_advance_96 : decode cX9_advance 96 = .ok (.aload_n 0, 1) := by decide +kernel
theorem dX9_advance_97 : decode cX9_advance 97 = .ok (.invokevirtual 89, 3) := by decide +kernel
theorem dX9_advance_100 : decode cX9_advance 100 = .ok (.goto 25, 3) := by decide +kernel
theorem dX9_advance_103 : decode cX9_advance 103 = .ok (.iload_n 1, 1) := by decide +kernel
theorem dX9_advance_104 : decode cX9_advance 104 = .ok (.bipush 59, 2) := by decide +kernel
theorem dX9_advance_106 : decode cX9_advance 106 = .ok (.if_icmp .ne 10, 3) := by decide +kernel
theorem dX9_advance_109 : decode cX9_advance 109 = .ok (.aload_n 0, 1) := by decide +kernel
theorem dX9_advance_110 : decode cX9_advance 110 = .ok (.invokevirtual 92, 3) := by decide +kernel
theorem dX9_advance_113 : decode cX9_advance 113 = .ok (.goto 12, 3) := by decide +kernel
theorem dX9_advance_116 : decode cX9_advance 116 = .ok (.aload_n 0, 1) := by decide +kernel
theorem dX9_advance_117 : decode cX9_advance 117 = .ok (.iconst 1, 1) := by decide +kernel
theorem dX9_advance_118 : decode cX9_advance 118 = .ok (.aload_n 0, 1) := by decide +kernel
theorem dX9_advance_119 : decode cX9_advance 119 = .ok (.getfield 76, 3) := by decide +kernel
theorem dX9_advance_122 : decode cX9_advance 122 = .ok (.invokevirtual 61, 3) := by decide +kernel
theorem dX9_advance_125 : decode cX9_advance 125 = .ok (.return_, 1) := by decide +kernel
theorem dX9_isName_0 : decode cX9_isName 0 = .ok (.aload_n 0, 1) := by decide +kernel
theorem dX9_isName_1 : decode cX9_isName 1 = .ok (.getfield 48, 3) := by decide +kernel
theorem dX9_isName_4 : decode cX9_isName 4 = .ok (.iconst 1, 1) := by decide +kernel
theorem dX9_isName_5 : decode cX9_isName 5 = .ok (.if_icmp .ne 19, 3) := by decide +kernel
theorem dX9_isName_8 : decode cX9_isName 8 = .ok (.aload_n 0, 1) := by decide +kernel
theorem dX9_isName_9 : decode cX9_isName 9 = .ok (.getfield 69, 3) := by decide +kernel
theorem dX9_isName_12 : decode cX9_isName 12 = .ok (.aload_n 0, 1) := by decide +kernel
theorem dX9_isName_13 : decode cX9_isName 13 = .ok (.getfield 76, 3) := by decide +kernel
theorem dX9_isName_16 : decode cX9_isName 16 = .ok (.isub, 1) := by decide +kernel
theorem dX9_isName_17 : decode cX9_isName 17 = .ok (.aload_n 1, 1) := by decide +kernel
theorem dX9_isName_18 : decode cX9_isName 18 = .ok (.invokevirtual 98, 3) := by decide +kernel
theorem dX9_isName_21 : decode cX9_isName 21 = .ok (.if_icmp .eq 5, 3) := by decide +kernel
theorem dX9_isName_24 : decode cX9_isName 24 = .ok (.iconst 0, 1) := by decide +kernel
theorem dX9_isName_25 : decode cX9_isName 25 = .ok (.ireturn, 1) := by decide +kernel
theorem dX9_isName_26 : decode cX9_isName 26 = .ok (.iconst 0, 1) := by decide +kernel
theorem dX9_isName_27 : decode cX9_isName 27 = .ok (.istore_n 2, 1) := by decide +kernel
theorem dX9_isName_28 : decode cX9_isName 28 = .ok (.iload_n 2, 1) := by decide +kernel
theorem dX9_isName_29 : decode cX9_isName 29 = .ok (.aload_n 1, 1) := by decide +kernel
theorem dX9_isName_30 : decode cX9_isName 30 = .ok (.invokevirtual 98, 3) := by decide +kernel
theorem dX9_isName_33 : decode cX9_isName 33 = .ok (.if_icmp .ge 29, 3) := by decide +kernel
theorem dX9_isName_36 : decode cX9_isName 36 = .ok (.aload_n 0, 1) := by decide +kernel
theorem dX9_isName_37 : decode cX9_isName 37 = .ok (.aload_n 0, 1) := by decide +kernel
theorem dX9_isName_38 : decode cX9_isName 38 = .ok (.getfield 76, 3) := by decide +kernel
theorem dX9_isName_41 : decode cX9_isName 41 = .ok (.iload_n 2, 1) := by decide +kernel
theorem dX9_isName_42 : decode cX9_isName 42 = .ok (.iadd, 1) := by decide +kernel
theorem dX9_isName_43 : decode cX9_isName 43 = .ok (.invokevirtual 72, 3) := by decide +kernel
theorem dX9_isName_46 : decode cX9_isName 46 = .ok (.aload_n 1, 1) := by decide +kernel
theorem dX9_isName_47 : decode cX9_isName 47 = .ok (.iload_n 2, 1) := by decide +kernel
theorem dX9_isName_48 : decode cX9_isName 48 = .ok (.invokevirtual 102, 3) := by decide +kernel
theorem dX9_isName_51 : decode cX9_isName 51 = .ok (.if_icmp .eq 5, 3) := by decide +kernel
theorem dX9_isName_54 : decode cX9_isName 54 = .ok (.iconst 0, 1) := by decide +kernel
theorem dX9_isName_55 : decode cX9_isName 55 = .ok (.ireturn, 1) := by decide +kernel
theorem dX9_isName_56 : decode cX9_isName 56 = .ok (.iinc 2 1, 3) := by decide +kernel
theorem dX9_isName_59 : decode cX9_isName 59 = .ok (.goto (-31), 3) := by decide +kernel
theorem dX9_isName_62 : decode cX9_isName 62 = .ok (.iconst 1, 1) := by decide +kernel
theorem dX9_isName_63 : decode cX9_isName 63 = .ok (.ireturn, 1) := by decide +kernel
theorem dX9_lineName_0 : decode cX9_lineName 0 = .ok (.aload_n 0, 1) := by decide +kernel
theorem dX9_lineName_1 : decode cX9_lineName 1 = .ok (.ldc 106, 2) := by decide +kernel
theorem dX9_lineName_3 : decode cX9_lineName 3 = .ok (.invokevirtual 108, 3) := by decide +kernel
theorem dX9_lineName_6 : decode cX9_lineName 6 = .ok (.ifCond .eq 6, 3) := by decide +kernel
theorem dX9_lineName_9 : decode cX9_lineName 9 = .ok (.bipush 9, 2) := by decide +kernel
theorem dX9_lineName_11 : decode cX9_lineName 11 = .ok (.ireturn, 1) := by decide +kernel
theorem dX9_lineName_12 : decode cX9_lineName 12 = .ok (.aload_n 0, 1) := by decide +kernel
theorem dX9_lineName_13 : decode cX9_lineName 13 = .ok (.ldc 112, 2) := by decide +kernel
theorem dX9_lineName_15 : decode cX9_lineName 15 = .ok (.invokevirtual 108, 3) := by decide +kernel
theorem dX9_lineName_18 : decode cX9_lineName 18 = .ok (.ifCond .eq 6, 3) := by decide +kernel
theorem dX9_lineName_21 : decode cX9_lineName 21 = .ok (.bipush 10, 2) := by decide +kernel
theorem dX9_lineName_23 : decode cX9_lineName 23 = .ok (.ireturn, 1) := by decide +kernel
theorem dX9_lineName_24 : decode cX9_lineName 24 = .ok (.aload_n 0, 1) := by decide +kernel
theorem dX9_lineName_25 : decode cX9_lineName 25 = .ok (.ldc 114, 2) := by decide +kernel
theorem dX9_lineName_27 : decode cX9_lineName 27 = .ok (.invokevirtual 108, 3) := by decide +kernel
theorem dX9_lineName_30 : decode cX9_lineName 30 = .ok (.ifCond .eq 5, 3) := by decide +kernel
theorem dX9_lineName_33 : decode cX9_lineName 33 = .ok (.iconst 0, 1) := by decide +kernel
theorem dX9_lineName_34 : decode cX9_lineName 34 = .ok (.ireturn, 1) := by decide +kernel
theorem dX9_lineName_35 : decode cX9_lineName 35 = .ok (.aload_n 0, 1) := by decide +kernel
theorem dX9_lineName_36 : decode cX9_lineName 36 = .ok (.ldc 115, 2) := by decide +kernel
theorem dX9_lineName_38 : decode cX9_lineName 38 = .ok (.invokevirtual 108, 3) := by decide +kernel
theorem dX9_lineName_41 : decode cX9_lineName 41 = .ok (.ifCond .eq 5, 3) := by decide +kernel
theorem dX9_lineName_44 : decode cX9_lineName 44 = .ok (.iconst 1, 1) := by decide +kernel
theorem dX9_lineName_45 : decode cX9_lineName 45 = .ok (.ireturn, 1) := by decide +kernel
theorem dX9_lineName_46 : decode cX9_lineName 46 = .ok (.aload_n 0, 1) := by decide +kernel
theorem dX9_lineName_47 : decode cX9_lineName 47 = .ok (.ldc 117, 2) := by decide +kernel
theorem dX9_lineName_49 : decode cX9_lineName 49 = .ok (.invokevirtual 108, 3) := by decide +kernel
theorem dX9_lineName_52 : decode cX9_lineName 52 = .ok (.ifCond .eq 5, 3) := by decide +kernel
theorem dX9_lineName_55 : decode cX9_lineName 55 = .ok (.iconst 2, 1) := by decide +kernel
theorem dX9_lineName_56 : decode cX9_lineName 56 = .ok (.ireturn, 1) := by decide +kernel
theorem dX9_lineName_57 : decode cX9_lineName 57 = .ok (.aload_n 0, 1) := by decide +kernel
theorem dX9_lineName_58 : decode cX9_lineName 58 = .ok (.ldc 118, 2) := by decide +kernel
theorem dX9_lineName_60 : decode cX9_lineName 60 = .ok (.invokevirtual 108, 3) := by decide +kernel
theorem dX9_lineName_63 : decode cX9_lineName 63 = .ok (.ifCond .eq 5, 3) := by decide +kernel
theorem dX9_lineName_66 : decode cX9_lineName 66 = .ok (.iconst 3, 1) := by decide +kernel
theorem dX9_lineName_67 : decode cX9_lineName 67 = .ok (.ireturn, 1) := by decide +kernel
theorem dX9_lineName_68 : decode cX9_lineName 68 = .ok (.aload_n 0, 1) := by decide +kernel
theorem dX9_lineName_69 : decode cX9_lineName 69 = .ok (.ldc 120, 2) := by decide +kernel
theorem dX9_lineName_71 : decode cX9_lineName 71 = .ok (.invokevirtual 108, 3) := by decide +kernel
theorem dX9_lineName_74 : decode cX9_lineName 74 = .ok (.ifCond .eq 5, 3) := by decide +kernel
theorem dX9_lineName_77 : decode cX9_lineName 77 = .ok (.iconst 4, 1) := by decide +kernel
theorem dX9_lineName_78 : decode cX9_lineName 78 = .ok (.ireturn, 1) := by decide +kernel
theorem dX9_lineName_79 : decode cX9_lineName 79 = .ok (.aload_n 0, 1) := by decide +kernel
theorem dX9_lineName_80 : decode cX9_lineName 80 = .ok (.ldc 122, 2) := by decide +kernel
theorem dX9_lineName_82 : decode cX9_lineName 82 = .ok (.invokevirtual 108, 3) := by decide +kernel
theorem dX9_lineName_85 : decode cX9_lineName 85 = .ok (.ifCond .eq 5, 3) := by decide +kernel
theorem dX9_lineName_88 : decode cX9_lineName 88 = .ok (.iconst 5, 1) := by decide +kernel
theorem dX9_lineName_89 : decode cX9_lineName 89 = .ok (.ireturn, 1) := by decide +kernel
theorem dX9_lineName_90 : decode cX9_lineName 90 = .ok (.aload_n 0, 1) := by decide +kernel
theorem dX9_lineName_91 : decode cX9_lineName 91 = .ok (.ldc 124, 2) := by decide +kernel
theorem dX9_lineName_93 : decode cX9_lineName 93 = .ok (.invokevirtual 108, 3) := by decide +kernel
theorem dX9_lineName_96 : decode cX9_lineName 96 = .ok (.ifCond .eq 6, 3) := by decide +kernel
theorem dX9_lineName_99 : decode cX9_lineName 99 = .ok (.bipush 7, 2) := by decide +kernel
theorem dX9_lineName_101 : decode cX9_lineName 101 = .ok (.ireturn, 1) := by decide +kernel
theorem dX9_lineName_102 : decode cX9_lineName 102 = .ok (.aload_n 0, 1) := by decide +kernel
theorem dX9_lineName_103 : decode cX9_lineName 103 = .ok (.ldc 126, 2) := by decide +kernel
theorem dX9_lineName_105 : decode cX9_lineName 105 = .ok (.invokevirtual 108, 3) := by decide +kernel
theorem dX9_lineName_108 : decode cX9_lineName 108 = .ok (.ifCond .eq 8, 3) := by decide +kernel
theorem dX9_lineName_111 : decode cX9_lineName 111 = .ok (.bipush 8, 2) := by decide +kernel
theorem dX9_lineName_113 : decode cX9_lineName 113 = .ok (.goto 4, 3) := by decide +kernel
theorem dX9_lineName_116 : decode cX9_lineName 116 = .ok (.iconst (-1), 1) := by decide +kernel
theorem dX9_lineName_117 : decode cX9_lineName 117 = .ok (.ireturn, 1) := by decide +kernel
theorem dX9_withName_0 : decode cX9_withName 0 = .ok (.aload_n 0, 1) := by decide +kernel
theorem dX9_withName_1 : decode cX9_withName 1 = .ok (.ldc 128, 2) := by decide +kernel
theorem dX9_withName_3 : decode cX9_withName 3 = .ok (.invokevirtual 108, 3) := by decide +kernel
theorem dX9_withName_6 : decode cX9_withName 6 = .ok (.ifCond .eq 5, 3) := by decide +kernel
theorem dX9_withName_9 : decode cX9_withName 9 = .ok (.iconst 0, 1) := by decide +kernel
theorem dX9_withName_10 : decode cX9_withName 10 = .ok (.ireturn, 1) := by decide +kernel
theorem dX9_withName_11 : decode cX9_withName 11 = .ok (.aload_n 0, 1) := by decide +kernel
theorem dX9_withName_12 : decode cX9_withName 12 = .ok (.ldc 130, 2) := by decide +kernel
theorem dX9_withName_14 : decode cX9_withName 14 = .ok (.invokevirtual 108, 3) := by decide +kernel
theorem dX9_withName_17 : decode cX9_withName 17 = .ok (.ifCond .eq 5, 3) := by decide +kernel
theorem dX9_withName_20 : decode cX9_withName 20 = .ok (.iconst 1, 1) := by decide +kernel
theorem dX9_withName_21 : decode cX9_withName 21 = .ok (.ireturn, 1) := by decide +kernel
theorem dX9_withName_22 : decode cX9_withName 22 = .ok (.aload_n 0, 1) := by decide +kernel
theorem dX9_withName_23 : decode cX9_withName 23 = .ok (.ldc 132, 2) := by decide +kernel
theorem dX9_withName_25 : decode cX9_withName 25 = .ok (.invokevirtual 108, 3) := by decide +kernel
theorem dX9_withName_28 : decode cX9_withName 28 = .ok (.ifCond .eq 5, 3) := by decide +kernel
theorem dX9_withName_31 : decode cX9_withName 31 = .ok (.iconst 2, 1) := by decide +kernel
theorem dX9_withName_32 : decode cX9_withName 32 = .ok (.ireturn, 1) := by decide +kernel
theorem dX9_withName_33 : decode cX9_withName 33 = .ok (.aload_n 0, 1) := by decide +kernel
theorem dX9_withName_34 : decode cX9_withName 34 = .ok (.ldc 134, 2) := by decide +kernel
theorem dX9_withName_36 : decode cX9_withName 36 = .ok (.invokevirtual 108, 3) := by decide +kernel
theorem dX9_withName_39 : decode cX9_withName 39 = .ok (.ifCond .eq 7, 3) := by decide +kernel
theorem dX9_withName_42 : decode cX9_withName 42 = .ok (.iconst 3, 1) := by decide +kernel
theorem dX9_withName_43 : decode cX9_withName 43 = .ok (.goto 4, 3) := by decide +kernel
theorem dX9_withName_46 : decode cX9_withName 46 = .ok (.iconst (-1), 1) := by decide +kernel
theorem dX9_withName_47 : decode cX9_withName 47 = .ok (.ireturn, 1) := by decide +kernel
theorem dX9_lineEnd_0 : decode cX9_lineEnd 0 = .ok (.aload_n 0, 1) := by decide +kernel
theorem dX9_lineEnd_1 : decode cX9_lineEnd 1 = .ok (.getfield 48, 3) := by decide +kernel
theorem dX9_lineEnd_4 : decode cX9_lineEnd 4 = .ok (.iconst 3, 1) := by decide +kernel
theorem dX9_lineEnd_5 : decode cX9_lineEnd 5 = .ok (.if_icmp .eq 12, 3) := by decide +kernel
theorem dX9_lineEnd_8 : decode cX9_lineEnd 8 = .ok (.aload_n 0, 1) := by decide +kernel
theorem dX9_lineEnd_9 : decode cX9_lineEnd 9 = .ok (.iconst 2, 1) := by decide +kernel
theorem dX9_lineEnd_10 : decode cX9_lineEnd 10 = .ok (.aload_n 0, 1) := by decide +kernel
theorem dX9_lineEnd_11 : decode cX9_lineEnd 11 = .ok (.getfield 76, 3) := by decide +kernel
theorem dX9_lineEnd_14 : decode cX9_lineEnd 14 = .ok (.invokevirtual 61, 3) := by decide +kernel
theorem dX9_lineEnd_17 : decode cX9_lineEnd 17 = .ok (.aload_n 0, 1) := by decide +kernel
theorem dX9_lineEnd_18 : decode cX9_lineEnd 18 = .ok (.invokevirtual 45, 3) := by decide +kernel
theorem dX9_lineEnd_21 : decode cX9_lineEnd 21 = .ok (.return_, 1) := by decide +kernel
theorem dX9_number_0 : decode cX9_number 0 = .ok (.aload_n 0, 1) := by decide +kernel
theorem dX9_number_1 : decode cX9_number 1 = .ok (.getfield 33, 3) := by decide +kernel
theorem dX9_number_4 : decode cX9_number 4 = .ok (.ifCond .eq 5, 3) := by decide +kernel
theorem dX9_number_7 : decode cX9_number 7 = .ok (.iload_n 1, 1) := by decide +kernel
theorem dX9_number_8 : decode cX9_number 8 = .ok (.ireturn, 1) := by decide +kernel
theorem dX9_number_9 : decode cX9_number 9 = .ok (.aload_n 0, 1) := by decide +kernel
theorem dX9_number_10 : decode cX9_number 10 = .ok (.getfield 48, 3) := by decide +kernel
theorem dX9_number_13 : decode cX9_number 13 = .ok (.iconst 2, 1) := by decide +kernel
theorem dX9_number_14 : decode cX9_number 14 = .ok (.if_icmp .eq 15, 3) := by decide +kernel
theorem dX9_number_17 : decode cX9_number 17 = .ok (.aload_n 0, 1) := by decide +kernel
theorem dX9_number_18 : decode cX9_number 18 = .ok (.iconst 2, 1) := by decide +kernel
theorem dX9_number_19 : decode cX9_number 19 = .ok (.aload_n 0, 1) := by decide +kernel
theorem dX9_number_20 : decode cX9_number 20 = .ok (.getfield 76, 3) := by decide +kernel
theorem dX9_number_23 : decode cX9_number 23 = .ok (.invokevirtual 61, 3) := by decide +kernel
theorem dX9_number_26 : decode cX9_number 26 = .ok (.goto 28, 3) := by decide +kernel
theorem dX9_number_29 : decode cX9_number 29 = .ok (.aload_n 0, 1) := by decide +kernel
theorem dX9_number_30 : decode cX9_number 30 = .ok (.getfield 95, 3) := by decide +kernel
theorem dX9_number_33 : decode cX9_number 33 = .ok (.iload_n 1, 1) := by decide +kernel
theorem dX9_number_34 : decode cX9_number 34 = .ok (.if_icmp .lt 11, 3) := by decide +kernel
theorem dX9_number_37 : decode cX9_number 37 = .ok (.aload_n 0, 1) := by decide +kernel
theorem dX9_number_38 : decode cX9_number 38 = .ok (.getfield 95, 3) := by decide +kernel
theorem dX9_number_41 : decode cX9_number 41 = .ok (.iload_n 2, 1) := by decide +kernel
theorem dX9_number_42 : decode cX9_number 42 = .ok (.if_icmp .le 12, 3) := by decide +kernel
theorem dX9_number_45 : decode cX9_number 45 = .ok (.aload_n 0, 1) := by decide +kernel
theorem dX9_number_46 : decode cX9_number 46 = .ok (.iconst 3, 1) := by decide +kernel
theorem dX9_number_47 : decode cX9_number 47 = .ok (.aload_n 0, 1) := by decide +kernel
theorem dX9_number_48 : decode cX9_number 48 = .ok (.getfield 76, 3) := by decide +kernel
theorem dX9_number_51 : decode cX9_number 51 = .ok (.invokevirtual 61, 3) := by decide +kernel
theorem dX9_number_54 : decode cX9_number 54 = .ok (.aload_n 0, 1) := by decide +kernel
theorem dX9_number_55 : decode cX9_number 55 = .ok (.getfield 33, 3) := by decide +kernel
theorem dX9_number_58 : decode cX9_number 58 = .ok (.ifCond .ne 10, 3) := by decide +kernel
theorem dX9_number_61 : decode cX9_number 61 = .ok (.aload_n 0, 1) := by decide +kernel
theorem dX9_number_62 : decode cX9_number 62 = .ok (.getfield 95, 3) := by decide +kernel
theorem dX9_number_65 : decode cX9_number 65 = .ok (.goto 4, 3) := by decide +kernel
theorem dX9_number_68 : decode cX9_number 68 = .ok (.iload_n 1, 1) := by decide +kernel
theorem dX9_number_69 : decode cX9_number 69 = .ok (.ireturn, 1) := by decide +kernel
theorem dX9_readWith_0 : decode cX9_readWith 0 = .ok (.aload_n 0, 1) := by decide +kernel
theorem dX9_readWith_1 : decode cX9_readWith 1 = .ok (.invokevirtual 45, 3) := by decide +kernel
theorem dX9_readWith_4 : decode cX9_readWith 4 = .ok (.iload_n 2, 1) := by decide +kernel
theorem dX9_readWith_5 : decode cX9_readWith 5 = .ok (.iconst 1, 1) := by decide +kernel
theorem dX9_readWith_6 : decode cX9_readWith 6 = .ok (.if_icmp .ne 16, 3) := by decide +kernel
theorem dX9_readWith_9 : decode cX9_readWith 9 = .ok (.aload_n 0, 1) := by decide +kernel
theorem dX9_readWith_10 : decode cX9_readWith 10 = .ok (.getfield 25, 3) := by decide +kernel
theorem dX9_readWith_13 : decode cX9_readWith 13 = .ok (.getfield 171, 3) := by decide +kernel
theorem dX9_readWith_16 : decode cX9_readWith 16 = .ok (.iload_n 1, 1) := by decide +kernel
theorem dX9_readWith_17 : decode cX9_readWith 17 = .ok (.iconst 1, 1) := by decide +kernel
theorem dX9_readWith_18 : decode cX9_readWith 18 = .ok (.iastore, 1) := by decide +kernel
theorem dX9_readWith_19 : decode cX9_readWith 19 = .ok (.goto 68, 3) := by decide +kernel
theorem dX9_readWith_22 : decode cX9_readWith 22 = .ok (.iload_n 2, 1) := by decide +kernel
theorem dX9_readWith_23 : decode cX9_readWith 23 = .ok (.iconst 2, 1) := by decide +kernel
theorem dX9_readWith_24 : decode cX9_readWith 24 = .ok (.if_icmp .ne 16, 3) := by decide +kernel
theorem dX9_readWith_27 : decode cX9_readWith 27 = .ok (.aload_n 0, 1) := by decide +kernel
theorem dX9_readWith_28 : decode cX9_readWith 28 = .ok (.getfield 25, 3) := by decide +kernel
theorem dX9_readWith_31 : decode cX9_readWith 31 = .ok (.getfield 173, 3) := by decide +kernel
theorem dX9_readWith_34 : decode cX9_readWith 34 = .ok (.iload_n 1, 1) := by decide +kernel
theorem dX9_readWith_35 : decode cX9_readWith 35 = .ok (.iconst 1, 1) := by decide +kernel
theorem dX9_readWith_36 : decode cX9_readWith 36 = .ok (.iastore, 1) := by decide +kernel
theorem dX9_readWith_37 : decode cX9_readWith 37 = .ok (.goto 50, 3) := by decide +kernel
theorem dX9_readWith_40 : decode cX9_readWith 40 = .ok (.iload_n 2, 1) := by decide +kernel
theorem dX9_readWith_41 : decode cX9_readWith 41 = .ok (.ifCond .ne 26, 3) := by decide +kernel
theorem dX9_readWith_44 : decode cX9_readWith 44 = .ok (.aload_n 0, 1) := by decide +kernel
theorem dX9_readWith_45 : decode cX9_readWith 45 = .ok (.getfield 25, 3) := by decide +kernel
theorem dX9_readWith_48 : decode cX9_readWith 48 = .ok (.getfield 175, 3) := by decide +kernel
theorem dX9_readWith_51 : decode cX9_readWith 51 = .ok (.iload_n 1, 1) := by decide +kernel
theorem dX9_readWith_52 : decode cX9_readWith 52 = .ok (.aload_n 0, 1) := by decide +kernel
theorem dX9_readWith_53 : decode cX9_readWith 53 = .ok (.iconst 1, 1) := by decide +kernel
theorem dX9_readWith_54 : decode cX9_readWith 54 = .ok (.bipush 10, 2) := by decide +kernel
theorem dX9_readWith_56 : decode cX9_readWith 56 = .ok (.invokevirtual 152, 3) := by decide +kernel
theorem dX9_readWith_59 : decode cX9_readWith 59 = .ok (.iastore, 1) := by decide +kernel
theorem dX9_readWith_60 : decode cX9_readWith 60 = .ok (.aload_n 0, 1) := by decide +kernel
theorem dX9_readWith_61 : decode cX9_readWith 61 = .ok (.invokevirtual 45, 3) := by decide +kernel
theorem dX9_readWith_64 : decode cX9_readWith 64 = .ok (.goto 23, 3) := by decide +kernel
theorem dX9_readWith_67 : decode cX9_readWith 67 = .ok (.aload_n 0, 1) := by decide +kernel
theorem dX9_readWith_68 : decode cX9_readWith 68 = .ok (.getfield 25, 3) := by decide +kernel
theorem dX9_readWith_71 : decode cX9_readWith 71 = .ok (.getfield 177, 3) := by decide +kernel
theorem dX9_readWith_74 : decode cX9_readWith 74 = .ok (.iload_n 1, 1) := by decide +kernel
theorem dX9_readWith_75 : decode cX9_readWith 75 = .ok (.aload_n 0, 1) := by decide +kernel
theorem dX9_readWith_76 : decode cX9_readWith 76 = .ok (.iconst 0, 1) := by decide +kernel
theorem dX9_readWith_77 : decode cX9_readWith 77 = .ok (.bipush 9, 2) := by decide +kernel
theorem dX9_readWith_79 : decode cX9_readWith 79 = .ok (.invokevirtual 152, 3) := by decide +kernel
theorem dX9_readWith_82 : decode cX9_readWith 82 = .ok (.iastore, 1) := by decide +kernel
theorem dX9_readWith_83 : decode cX9_readWith 83 = .ok (.aload_n 0, 1) := by decide +kernel
theorem dX9_readWith_84 : decode cX9_readWith 84 = .ok (.invokevirtual 45, 3) := by decide +kernel
theorem dX9_readWith_87 : decode cX9_readWith 87 = .ok (.return_, 1) := by decide +kernel
theorem dX9_footLine_0 : decode cX9_footLine 0 = .ok (.aload_n 0, 1) := by decide +kernel
theorem dX9_footLine_1 : decode cX9_footLine 1 = .ok (.iconst 1, 1) := by decide +kernel
theorem dX9_footLine_2 : decode cX9_footLine 2 = .ok (.bipush 40, 2) := by decide +kernel
theorem dX9_footLine_4 : decode cX9_footLine 4 = .ok (.invokevirtual 152, 3) := by decide +kernel
theorem dX9_footLine_7 : decode cX9_footLine 7 = .ok (.istore_n 1, 1) := by decide +kernel
theorem dX9_footLine_8 : decode cX9_footLine 8 = .ok (.aload_n 0, 1) := by decide +kernel
theorem dX9_footLine_9 : decode cX9_footLine 9 = .ok (.getfield 15, 3) := by decide +kernel
theorem dX9_footLine_12 : decode cX9_footLine 12 = .ok (.iload_n 1, 1) := by decide +kernel
theorem dX9_footLine_13 : decode cX9_footLine 13 = .ok (.baload, 1) := by decide +kernel
theorem dX9_footLine_14 : decode cX9_footLine 14 = .ok (.ifCond .eq 12, 3) := by decide +kernel
theorem dX9_footLine_17 : decode cX9_footLine 17 = .ok (.aload_n 0, 1) := by decide +kernel
theorem dX9_footLine_18 : decode cX9_footLine 18 = .ok (.iconst 4, 1) := by decide +kernel
theorem dX9_footLine_19 : decode cX9_footLine 19 = .ok (.aload_n 0, 1) := by decide +kernel
theorem dX9_footLine_20 : decode cX9_footLine 20 = .ok (.getfield 76, 3) := by decide +kernel
theorem dX9_footLine_23 : decode cX9_footLine 23 = .ok (.invokevirtual 61, 3) := by decide +kernel
theorem dX9_footLine_26 : decode cX9_footLine 26 = .ok (.aload_n 0, 1) := by decide +kernel
theorem dX9_footLine_27 : decode cX9_footLine 27 = .ok (.getfield 33, 3) := by decide +kernel
theorem dX9_footLine_30 : decode cX9_footLine 30 = .ok (.ifCond .eq 4, 3) := by decide +kernel
theorem dX9_footLine_33 : decode cX9_footLine 33 = .ok (.return_, 1) := by decide +kernel
theorem dX9_footLine_34 : decode cX9_footLine 34 = .ok (.aload_n 0, 1) := by decide +kernel
theorem dX9_footLine_35 : decode cX9_footLine 35 = .ok (.getfield 15, 3) := by decide +kernel
theorem dX9_footLine_38 : decode cX9_footLine 38 = .ok (.iload_n 1, 1) := by decide +kernel
theorem dX9_footLine_39 : decode cX9_footLine 39 = .ok (.iconst 1, 1) := by decide +kernel
theorem dX9_footLine_40 : decode cX9_footLine 40 = .ok (.bastore, 1) := by decide +kernel
theorem dX9_footLine_41 : decode cX9_footLine 41 = .ok (.aload_n 0, 1) := by decide +kernel
theorem dX9_footLine_42 : decode cX9_footLine 42 = .ok (.aload_n 0, 1) := by decide +kernel
theorem dX9_footLine_43 : decode cX9_footLine 43 = .ok (.getfield 54, 3) := by decide +kernel
theorem dX9_footLine_46 : decode cX9_footLine 46 = .ok (.iload_n 1, 1) := by decide +kernel
theorem dX9_footLine_47 : decode cX9_footLine 47 = .ok (.invokestatic 156, 3) := by decide +kernel
theorem dX9_footLine_50 : decode cX9_footLine 50 = .ok (.putfield 54, 3) := by decide +kernel
theorem dX9_footLine_53 : decode cX9_footLine 53 = .ok (.aload_n 0, 1) := by decide +kernel
theorem dX9_footLine_54 : decode cX9_footLine 54 = .ok (.invokevirtual 45, 3) := by decide +kernel
theorem dX9_footLine_57 : decode cX9_footLine 57 = .ok (.aload_n 0, 1) := by decide +kernel
theorem dX9_footLine_58 : decode cX9_footLine 58 = .ok (.getfield 25, 3) := by decide +kernel
theorem dX9_footLine_61 : decode cX9_footLine 61 = .ok (.getfield 161, 3) := by decide +kernel
theorem dX9_footLine_64 : decode cX9_footLine 64 = .ok (.iload_n 1, 1) := by decide +kernel
theorem dX9_footLine_65 : decode cX9_footLine 65 = .ok (.aload_n 0, 1) := by decide +kernel
theorem dX9_footLine_66 : decode cX9_footLine 66 = .ok (.iconst 0, 1) := by decide +kernel
theorem dX9_footLine_67 : decode cX9_footLine 67 = .ok (.bipush 9, 2) := by decide +kernel
theorem dX9_footLine_69 : decode cX9_footLine 69 = .ok (.invokevirtual 152, 3) := by decide +kernel
theorem dX9_footLine_72 : decode cX9_footLine 72 = .ok (.iastore, 1) := by decide +kernel
theorem dX9_footLine_73 : decode cX9_footLine 73 = .ok (.aload_n 0, 1) := by decide +kernel
theorem dX9_footLine_74 : decode cX9_footLine 74 = .ok (.invokevirtual 45, 3) := by decide +kernel
theorem dX9_footLine_77 : decode cX9_footLine 77 = .ok (.iconst 0, 1) := by decide +kernel
theorem dX9_footLine_78 : decode cX9_footLine 78 = .ok (.istore_n 2, 1) := by decide +kernel
theorem dX9_footLine_79 : decode cX9_footLine 79 = .ok (.iconst 0, 1) := by decide +kernel
theorem dX9_footLine_80 : decode cX9_footLine 80 = .ok (.istore_n 3, 1) := by decide +kernel
theorem dX9_footLine_81 : decode cX9_footLine 81 = .ok (.iload_n 3, 1) := by decide +kernel
theorem dX9_footLine_82 : decode cX9_footLine 82 = .ok (.sipush 400, 3) := by decide +kernel
theorem dX9_footLine_85 : decode cX9_footLine 85 = .ok (.if_icmp .ge 87, 3) := by decide +kernel
theorem dX9_footLine_88 : decode cX9_footLine 88 = .ok (.aload_n 0, 1) := by decide +kernel
theorem dX9_footLine_89 : decode cX9_footLine 89 = .ok (.getfield 33, 3) := by decide +kernel
theorem dX9_footLine_92 : decode cX9_footLine 92 = .ok (.ifCond .ne 80, 3) := by decide +kernel
theorem dX9_footLine_95 : decode cX9_footLine 95 = .ok (.aload_n 0, 1) := by decide +kernel
theorem dX9_footLine_96 : decode cX9_footLine 96 = .ok (.getfield 48, 3) := by decide +kernel
theorem dX9_footLine_99 : decode cX9_footLine 99 = .ok (.iconst 3, 1) := by decide +kernel
theorem dX9_footLine_100 : decode cX9_footLine 100 = .ok (.if_icmp .eq 72, 3) := by decide +kernel
theorem dX9_footLine_103 : decode cX9_footLine 103 = .ok (.aload_n 0, 1) := by decide +kernel
theorem dX9_footLine_104 : decode cX9_footLine 104 = .ok (.invokevirtual 165, 3) := by decide +kernel
theorem dX9_footLine_107 : decode cX9_footLine 107 = .ok (.istore 4, 2) := by decide +kernel
theorem dX9_footLine_109 : decode cX9_footLine 109 = .ok (.iload 4, 2) := by decide +kernel
theorem dX9_footLine_111 : decode cX9_footLine 111 = .ok (.ifCond .ge 15, 3) := by decide +kernel
theorem dX9_footLine_114 : decode cX9_footLine 114 = .ok (.aload_n 0, 1) := by decide +kernel
theorem dX9_footLine_115 : decode cX9_footLine 115 = .ok (.iconst 2, 1) := by decide +kernel
theorem dX9_footLine_116 : decode cX9_footLine 116 = .ok (.aload_n 0, 1) := by decide +kernel
theorem dX9_footLine_117 : decode cX9_footLine 117 = .ok (.getfield 76, 3) := by decide +kernel
theorem dX9_footLine_120 : decode cX9_footLine 120 = .ok (.invokevirtual 61, 3) := by decide +kernel
theorem dX9_footLine_123 : decode cX9_footLine 123 = .ok (.goto 31, 3) := by decide +kernel
theorem dX9_footLine_126 : decode cX9_footLine 126 = .ok (.iload_n 2, 1) := by decide +kernel
theorem dX9_footLine_127 : decode cX9_footLine 127 = .ok (.iload 4, 2) := by decide +kernel
theorem dX9_footLine_129 : decode cX9_footLine 129 = .ok (.ishr, 1) := by decide +kernel
theorem dX9_footLine_130 : decode cX9_footLine 130 = .ok (.iconst 1, 1) := by decide +kernel
theorem dX9_footLine_131 : decode cX9_footLine 131 = .ok (.iand, 1) := by decide +kernel
theorem dX9_footLine_132 : decode cX9_footLine 132 = .ok (.ifCond .eq 15, 3) := by decide +kernel
theorem dX9_footLine_135 : decode cX9_footLine 135 = .ok (.aload_n 0, 1) := by decide +kernel
theorem dX9_footLine_136 : decode cX9_footLine 136 = .ok (.iconst 4, 1) := by decide +kernel
theorem dX9_footLine_137 : decode cX9_footLine 137 = .ok (.aload_n 0, 1) := by decide +kernel
theorem dX9_footLine_138 : decode cX9_footLine 138 = .ok (.getfield 76, 3) := by decide +kernel
theorem dX9_footLine_141 : decode cX9_footLine 141 = .ok (.invokevirtual 61, 3) := by decide +kernel
theorem dX9_footLine_144 : decode cX9_footLine 144 = .ok (.goto 10, 3) := by decide +kernel
theorem dX9_footLine_147 : decode cX9_footLine 147 = .ok (.aload_n 0, 1) := by decide +kernel
theorem dX9_footLine_148 : decode cX9_footLine 148 = .ok (.iload_n 1, 1) := by decide +kernel
theorem dX9_footLine_149 : decode cX9_footLine 149 = .ok (.iload 4, 2) := by decide +kernel
theorem dX9_footLine_151 : decode cX9_footLine 151 = .ok (.invokevirtual 168, 3) := by decide +kernel
theorem dX9_footLine_154 : decode cX9_footLine 154 = .ok (.iload 4, 2) := by decide +kernel
theorem dX9_footLine_156 : decode cX9_footLine 156 = .ok (.ifCond .lt 10, 3) := by decide +kernel
theorem dX9_footLine_159 : decode cX9_footLine 159 = .ok (.iload_n 2, 1) := by decide +kernel
theorem dX9_footLine_160 : decode cX9_footLine 160 = .ok (.iconst 1, 1) := by decide +kernel
theorem dX9_footLine_161 : decode cX9_footLine 161 = .ok (.iload 4, 2) := by decide +kernel
theorem dX9_footLine_163 : decode cX9_footLine 163 = .ok (.ishl, 1) := by decide +kernel
theorem dX9_footLine_164 : decode cX9_footLine 164 = .ok (.ior, 1) := by decide +kernel
theorem dX9_footLine_165 : decode cX9_footLine 165 = .ok (.istore_n 2, 1) := by decide +kernel
theorem dX9_footLine_166 : decode cX9_footLine 166 = .ok (.iinc 3 1, 3) := by decide +kernel
theorem dX9_footLine_169 : decode cX9_footLine 169 = .ok (.goto (-88), 3) := by decide +kernel
theorem dX9_footLine_172 : decode cX9_footLine 172 = .ok (.return_, 1) := by decide +kernel
theorem dX9_rackLine_0 : decode cX9_rackLine 0 = .ok (.aload_n 0, 1) := by decide +kernel
theorem dX9_rackLine_1 : decode cX9_rackLine 1 = .ok (.iconst 1, 1) := by decide +kernel
theorem dX9_rackLine_2 : decode cX9_rackLine 2 = .ok (.bipush 10, 2) := by decide +kernel
theorem dX9_rackLine_4 : decode cX9_rackLine 4 = .ok (.invokevirtual 152, 3) := by decide +kernel
theorem dX9_rackLine_7 : decode cX9_rackLine 7 = .ok (.istore_n 1, 1) := by decide +kernel
theorem dX9_rackLine_8 : decode cX9_rackLine 8 = .ok (.aload_n 0, 1) := by decide +kernel
theorem dX9_rackLine_9 : decode cX9_rackLine 9 = .ok (.getfield 19, 3) := by decide +kernel
theorem dX9_rackLine_12 : decode cX9_rackLine 12 = .ok (.iload_n 1, 1) := by decide +kernel
theorem dX9_rackLine_13 : decode cX9_rackLine 13 = .ok (.baload, 1) := by decide +kernel
theorem dX9_rackLine_14 : decode cX9_rackLine 14 = .ok (.ifCond .eq 12, 3) := by decide +kernel
theorem dX9_rackLine_17 : decode cX9_rackLine 17 = .ok (.aload_n 0, 1) := by decide +kernel
theorem dX9_rackLine_18 : decode cX9_rackLine 18 = .ok (.iconst 4, 1) := by decide +kernel
theorem dX9_rackLine_19 : decode cX9_rackLine 19 = .ok (.aload_n 0, 1) := by decide +kernel
theorem dX9_rackLine_20 : decode cX9_rackLine 20 = .ok (.getfield 76, 3) := by decide +kernel
theorem dX9_rackLine_23 : decode cX9_rackLine 23 = .ok (.invokevirtual 61, 3) := by decide +kernel
theorem dX9_rackLine_26 : decode cX9_rackLine 26 = .ok (.aload_n 0, 1) := by decide +kernel
theorem dX9_rackLine_27 : decode cX9_rackLine 27 = .ok (.getfield 33, 3) := by decide +kernel
theorem dX9_rackLine_30 : decode cX9_rackLine 30 = .ok (.ifCond .eq 4, 3) := by decide +kernel
theorem dX9_rackLine_33 : decode cX9_rackLine 33 = .ok (.return_, 1) := by decide +kernel
theorem dX9_rackLine_34 : decode cX9_rackLine 34 = .ok (.aload_n 0, 1) := by decide +kernel
theorem dX9_rackLine_35 : decode cX9_rackLine 35 = .ok (.getfield 19, 3) := by decide +kernel
theorem dX9_rackLine_38 : decode cX9_rackLine 38 = .ok (.iload_n 1, 1) := by decide +kernel
theorem dX9_rackLine_39 : decode cX9_rackLine 39 = .ok (.iconst 1, 1) := by decide +kernel
theorem dX9_rackLine_40 : decode cX9_rackLine 40 = .ok (.bastore, 1) := by decide +kernel
theorem dX9_rackLine_41 : decode cX9_rackLine 41 = .ok (.aload_n 0, 1) := by decide +kernel
theorem dX9_rackLine_42 : decode cX9_rackLine 42 = .ok (.invokevirtual 45, 3) := by decide +kernel
theorem dX9_rackLine_45 : decode cX9_rackLine 45 = .ok (.aload_n 0, 1) := by decide +kernel
theorem dX9_rackLine_46 : decode cX9_rackLine 46 = .ok (.getfield 25, 3) := by decide +kernel
theorem dX9_rackLine_49 : decode cX9_rackLine 49 = .ok (.getfield 179, 3) := by decide +kernel
theorem dX9_rackLine_52 : decode cX9_rackLine 52 = .ok (.iload_n 1, 1) := by decide +kernel
theorem dX9_rackLine_53 : decode cX9_rackLine 53 = .ok (.aload_n 0, 1) := by decide +kernel
theorem dX9_rackLine_54 : decode cX9_rackLine 54 = .ok (.iconst 0, 1) := by decide +kernel
theorem dX9_rackLine_55 : decode cX9_rackLine 55 = .ok (.iconst 5, 1) := by decide +kernel
theorem dX9_rackLine_56 : decode cX9_rackLine 56 = .ok (.invokevirtual 152, 3) := by decide +kernel
theorem dX9_rackLine_59 : decode cX9_rackLine 59 = .ok (.iastore, 1) := by decide +kernel
theorem dX9_rackLine_60 : decode cX9_rackLine 60 = .ok (.aload_n 0, 1) := by decide +kernel
theorem dX9_rackLine_61 : decode cX9_rackLine 61 = .ok (.invokevirtual 45, 3) := by decide +kernel
theorem dX9_rackLine_64 : decode cX9_rackLine 64 = .ok (.return_, 1) := by decide +kernel
theorem dX9_ruleLine_0 : decode cX9_ruleLine 0 = .ok (.aload_n 0, 1) := by decide +kernel
theorem dX9_ruleLine_1 : decode cX9_ruleLine 1 = .ok (.getfield 66, 3) := by decide +kernel
theorem dX9_ruleLine_4 : decode cX9_ruleLine 4 = .ok (.iload_n 1, 1) := by decide +kernel
theorem dX9_ruleLine_5 : decode cX9_ruleLine 5 = .ok (.ishr, 1) := by decide +kernel
theorem dX9_ruleLine_6 : decode cX9_ruleLine 6 = .ok (.iconst 1, 1) := by decide +kernel
theorem dX9_ruleLine_7 : decode cX9_ruleLine 7 = .ok (.iand, 1) := by decide +kernel
theorem dX9_ruleLine_8 : decode cX9_ruleLine 8 = .ok (.ifCond .eq 12, 3) := by decide +kernel
theorem dX9_ruleLine_11 : decode cX9_ruleLine 11 = .ok (.aload_n 0, 1) := by decide +kernel
theorem dX9_ruleLine_12 : decode cX9_ruleLine 12 = .ok (.iconst 4, 1) := by decide +kernel
theorem dX9_ruleLine_13 : decode cX9_ruleLine 13 = .ok (.aload_n 0, 1) := by decide +kernel
theorem dX9_ruleLine_14 : decode cX9_ruleLine 14 = .ok (.getfield 76, 3) := by decide +kernel
theorem dX9_ruleLine_17 : decode cX9_ruleLine 17 = .ok (.invokevirtual 61, 3) := by decide +kernel
theorem dX9_ruleLine_20 : decode cX9_ruleLine 20 = .ok (.aload_n 0, 1) := by decide +kernel
theorem dX9_ruleLine_21 : decode cX9_ruleLine 21 = .ok (.dup, 1) := by decide +kernel
theorem dX9_ruleLine_22 : decode cX9_ruleLine 22 = .ok (.getfield 66, 3) := by decide +kernel
theorem dX9_ruleLine_25 : decode cX9_ruleLine 25 = .ok (.iconst 1, 1) := by decide +kernel
theorem dX9_ruleLine_26 : decode cX9_ruleLine 26 = .ok (.iload_n 1, 1) := by decide +kernel
theorem dX9_ruleLine_27 : decode cX9_ruleLine 27 = .ok (.ishl, 1) := by decide +kernel
theorem dX9_ruleLine_28 : decode cX9_ruleLine 28 = .ok (.ior, 1) := by decide +kernel
theorem dX9_ruleLine_29 : decode cX9_ruleLine 29 = .ok (.putfield 66, 3) := by decide +kernel
theorem dX9_ruleLine_32 : decode cX9_ruleLine 32 = .ok (.aload_n 0, 1) := by decide +kernel
theorem dX9_ruleLine_33 : decode cX9_ruleLine 33 = .ok (.invokevirtual 45, 3) := by decide +kernel
theorem dX9_ruleLine_36 : decode cX9_ruleLine 36 = .ok (.aload_n 0, 1) := by decide +kernel
theorem dX9_ruleLine_37 : decode cX9_ruleLine 37 = .ok (.getfield 25, 3) := by decide +kernel
theorem dX9_ruleLine_40 : decode cX9_ruleLine 40 = .ok (.getfield 181, 3) := by decide +kernel
theorem dX9_ruleLine_43 : decode cX9_ruleLine 43 = .ok (.iload_n 1, 1) := by decide +kernel
theorem dX9_ruleLine_44 : decode cX9_ruleLine 44 = .ok (.aload_n 0, 1) := by decide +kernel
theorem dX9_ruleLine_45 : decode cX9_ruleLine 45 = .ok (.getstatic 184, 3) := by decide +kernel
theorem dX9_ruleLine_48 : decode cX9_ruleLine 48 = .ok (.iload_n 1, 1) := by decide +kernel
theorem dX9_ruleLine_49 : decode cX9_ruleLine 49 = .ok (.iaload, 1) := by decide +kernel
theorem dX9_ruleLine_50 : decode cX9_ruleLine 50 = .ok (.getstatic 187, 3) := by decide +kernel
theorem dX9_ruleLine_53 : decode cX9_ruleLine 53 = .ok (.iload_n 1, 1) := by decide +kernel
theorem dX9_ruleLine_54 : decode cX9_ruleLine 54 = .ok (.iaload, 1) := by decide +kernel
theorem dX9_ruleLine_55 : decode cX9_ruleLine 55 = .ok (.invokevirtual 152, 3) := by decide +kernel
theorem dX9_ruleLine_58 : decode cX9_ruleLine 58 = .ok (.iastore, 1) := by decide +kernel
theorem dX9_ruleLine_59 : decode cX9_ruleLine 59 = .ok (.aload_n 0, 1) := by decide +kernel
theorem dX9_ruleLine_60 : decode cX9_ruleLine 60 = .ok (.invokevirtual 45, 3) := by decide +kernel
theorem dX9_ruleLine_63 : decode cX9_ruleLine 63 = .ok (.iload_n 1, 1) := by decide +kernel
theorem dX9_ruleLine_64 : decode cX9_ruleLine 64 = .ok (.iconst 5, 1) := by decide +kernel
theorem dX9_ruleLine_65 : decode cX9_ruleLine 65 = .ok (.if_icmp .eq 4, 3) := by decide +kernel
theorem dX9_ruleLine_68 : decode cX9_ruleLine 68 = .ok (.return_, 1) := by decide +kernel
theorem dX9_ruleLine_69 : decode cX9_ruleLine 69 = .ok (.aload_n 0, 1) := by decide +kernel
theorem dX9_ruleLine_70 : decode cX9_ruleLine 70 = .ok (.getfield 25, 3) := by decide +kernel
theorem dX9_ruleLine_73 : decode cX9_ruleLine 73 = .ok (.getfield 181, 3) := by decide +kernel
theorem dX9_ruleLine_76 : decode cX9_ruleLine 76 = .ok (.bipush 6, 2) := by decide +kernel
theorem dX9_ruleLine_78 : decode cX9_ruleLine 78 = .ok (.aload_n 0, 1) := by decide +kernel
theorem dX9_ruleLine_79 : decode cX9_ruleLine 79 = .ok (.getstatic 184, 3) := by decide +kernel
theorem dX9_ruleLine_82 : decode cX9_ruleLine 82 = .ok (.bipush 6, 2) := by decide +kernel
theorem dX9_ruleLine_84 : decode cX9_ruleLine 84 = .ok (.iaload, 1) := by decide +kernel
theorem dX9_ruleLine_85 : decode cX9_ruleLine 85 = .ok (.getstatic 187, 3) := by decide +kernel
theorem dX9_ruleLine_88 : decode cX9_ruleLine 88 = .ok (.bipush 6, 2) := by decide +kernel
theorem dX9_ruleLine_90 : decode cX9_ruleLine 90 = .ok (.iaload, 1) := by decide +kernel
theorem dX9_ruleLine_91 : decode cX9_ruleLine 91 = .ok (.invokevirtual 152, 3) := by decide +kernel
theorem dX9_ruleLine_94 : decode cX9_ruleLine 94 = .ok (.iastore, 1) := by decide +kernel
theorem dX9_ruleLine_95 : decode cX9_ruleLine 95 = .ok (.aload_n 0, 1) := by decide +kernel
theorem dX9_ruleLine_96 : decode cX9_ruleLine 96 = .ok (.invokevirtual 45, 3) := by decide +kernel
theorem dX9_ruleLine_99 : decode cX9_ruleLine 99 = .ok (.return_, 1) := by decide +kernel
theorem dX9_line_0 : decode cX9_line 0 = .ok (.aload_n 0, 1) := by decide +kernel
theorem dX9_line_1 : decode cX9_line 1 = .ok (.invokevirtual 136, 3) := by decide +kernel
theorem dX9_line_4 : decode cX9_line 4 = .ok (.istore_n 1, 1) := by decide +kernel
theorem dX9_line_5 : decode cX9_line 5 = .ok (.iload_n 1, 1) := by decide +kernel
theorem dX9_line_6 : decode cX9_line 6 = .ok (.ifCond .ge 15, 3) := by decide +kernel
theorem dX9_line_9 : decode cX9_line 9 = .ok (.aload_n 0, 1) := by decide +kernel
theorem dX9_line_10 : decode cX9_line 10 = .ok (.iconst 2, 1) := by decide +kernel
theorem dX9_line_11 : decode cX9_line 11 = .ok (.aload_n 0, 1) := by decide +kernel
theorem dX9_line_12 : decode cX9_line 12 = .ok (.getfield 76, 3) := by decide +kernel
theorem dX9_line_15 : decode cX9_line 15 = .ok (.invokevirtual 61, 3) := by decide +kernel
theorem dX9_line_18 : decode cX9_line 18 = .ok (.goto 42, 3) := by decide +kernel
theorem dX9_line_21 : decode cX9_line 21 = .ok (.iload_n 1, 1) := by decide +kernel
theorem dX9_line_22 : decode cX9_line 22 = .ok (.bipush 9, 2) := by decide +kernel
theorem dX9_line_24 : decode cX9_line 24 = .ok (.if_icmp .ne 14, 3) := by decide +kernel
theorem dX9_line_27 : decode cX9_line 27 = .ok (.aload_n 0, 1) := by decide +kernel
theorem dX9_line_28 : decode cX9_line 28 = .ok (.invokevirtual 45, 3) := by decide +kernel
theorem dX9_line_31 : decode cX9_line 31 = .ok (.aload_n 0, 1) := by decide +kernel
theorem dX9_line_32 : decode cX9_line 32 = .ok (.invokevirtual 139, 3) := by decide +kernel
theorem dX9_line_35 : decode cX9_line 35 = .ok (.goto 25, 3) := by decide +kernel
theorem dX9_line_38 : decode cX9_line 38 = .ok (.iload_n 1, 1) := by decide +kernel
theorem dX9_line_39 : decode cX9_line 39 = .ok (.bipush 10, 2) := by decide +kernel
theorem dX9_line_41 : decode cX9_line 41 = .ok (.if_icmp .ne 14, 3) := by decide +kernel
theorem dX9_line_44 : decode cX9_line 44 = .ok (.aload_n 0, 1) := by decide +kernel
theorem dX9_line_45 : decode cX9_line 45 = .ok (.invokevirtual 45, 3) := by decide +kernel
theorem dX9_line_48 : decode cX9_line 48 = .ok (.aload_n 0, 1) := by decide +kernel
theorem dX9_line_49 : decode cX9_line 49 = .ok (.invokevirtual 142, 3) := by decide +kernel
theorem dX9_line_52 : decode cX9_line 52 = .ok (.goto 8, 3) := by decide +kernel
theorem dX9_line_55 : decode cX9_line 55 = .ok (.aload_n 0, 1) := by decide +kernel
theorem dX9_line_56 : decode cX9_line 56 = .ok (.iload_n 1, 1) := by decide +kernel
theorem dX9_line_57 : decode cX9_line 57 = .ok (.invokevirtual 145, 3) := by decide +kernel
theorem dX9_line_60 : decode cX9_line 60 = .ok (.aload_n 0, 1) := by decide +kernel
theorem dX9_line_61 : decode cX9_line 61 = .ok (.invokevirtual 149, 3) := by decide +kernel
theorem dX9_line_64 : decode cX9_line 64 = .ok (.return_, 1) := by decide +kernel
theorem dX9_readAll_0 : decode cX9_readAll 0 = .ok (.aload_n 0, 1) := by decide +kernel
theorem dX9_readAll_1 : decode cX9_readAll 1 = .ok (.invokevirtual 42, 3) := by decide +kernel
theorem dX9_readAll_4 : decode cX9_readAll 4 = .ok (.aload_n 0, 1) := by decide +kernel
theorem dX9_readAll_5 : decode cX9_readAll 5 = .ok (.invokevirtual 45, 3) := by decide +kernel
theorem dX9_readAll_8 : decode cX9_readAll 8 = .ok (.iconst 0, 1) := by decide +kernel
theorem dX9_readAll_9 : decode cX9_readAll 9 = .ok (.istore_n 1, 1) := by decide +kernel
theorem dX9_readAll_10 : decode cX9_readAll 10 = .ok (.iload_n 1, 1) := by decide +kernel
theorem dX9_readAll_11 : decode cX9_readAll 11 = .ok (.sipush 400, 3) := by decide +kernel
theorem dX9_readAll_14 : decode cX9_readAll 14 = .ok (.if_icmp .ge 37, 3) := by decide +kernel
theorem dX9_readAll_17 : decode cX9_readAll 17 = .ok (.aload_n 0, 1) := by decide +kernel
theorem dX9_readAll_18 : decode cX9_readAll 18 = .ok (.getfield 33, 3) := by decide +kernel
theorem dX9_readAll_21 : decode cX9_readAll 21 = .ok (.ifCond .ne 30, 3) := by decide +kernel
theorem dX9_readAll_24 : decode cX9_readAll 24 = .ok (.aload_n 0, 1) := by decide +kernel
theorem dX9_readAll_25 : decode cX9_readAll 25 = .ok (.getfield 48, 3) := by decide +kernel
theorem dX9_readAll_28 : decode cX9_readAll 28 = .ok (.ifCond .eq 23, 3) := by decide +kernel
theorem dX9_readAll_31 : decode cX9_readAll 31 = .ok (.aload_n 0, 1) := by decide +kernel
theorem dX9_readAll_32 : decode cX9_readAll 32 = .ok (.invokevirtual 51, 3) := by decide +kernel
theorem dX9_readAll_35 : decode cX9_readAll 35 = .ok (.aload_n 0, 1) := by decide +kernel
theorem dX9_readAll_36 : decode cX9_readAll 36 = .ok (.dup, 1) := by decide +kernel
theorem dX9_readAll_37 : decode cX9_readAll 37 = .ok (.getfield 39, 3) := by decide +kernel
theorem dX9_readAll_40 : decode cX9_readAll 40 = .ok (.iconst 1, 1) := by decide +kernel
theorem dX9_readAll_41 : decode cX9_readAll 41 = .ok (.iadd, 1) := by decide +kernel
theorem dX9_readAll_42 : decode cX9_readAll 42 = .ok (.putfield 39, 3) := by decide +kernel
theorem dX9_readAll_45 : decode cX9_readAll 45 = .ok (.iinc 1 1, 3) := by decide +kernel
theorem dX9_readAll_48 : decode cX9_readAll 48 = .ok (.goto (-38), 3) := by decide +kernel
theorem dX9_readAll_51 : decode cX9_readAll 51 = .ok (.aload_n 0, 1) := by decide +kernel
theorem dX9_readAll_52 : decode cX9_readAll 52 = .ok (.getfield 33, 3) := by decide +kernel
theorem dX9_readAll_55 : decode cX9_readAll 55 = .ok (.ifCond .ne 26, 3) := by decide +kernel
theorem dX9_readAll_58 : decode cX9_readAll 58 = .ok (.aload_n 0, 1) := by decide +kernel
theorem dX9_readAll_59 : decode cX9_readAll 59 = .ok (.getfield 54, 3) := by decide +kernel
theorem dX9_readAll_62 : decode cX9_readAll 62 = .ok (.aload_n 0, 1) := by decide +kernel
theorem dX9_readAll_63 : decode cX9_readAll 63 = .ok (.getfield 25, 3) := by decide +kernel
theorem dX9_readAll_66 : decode cX9_readAll 66 = .ok (.invokevirtual 57, 3) := by decide +kernel
theorem dX9_readAll_69 : decode cX9_readAll 69 = .ok (.if_icmp .le 12, 3) := by decide +kernel
theorem dX9_readAll_72 : decode cX9_readAll 72 = .ok (.aload_n 0, 1) := by decide +kernel
theorem dX9_readAll_73 : decode cX9_readAll 73 = .ok (.iconst 5, 1) := by decide +kernel
theorem dX9_readAll_74 : decode cX9_readAll 74 = .ok (.aload_n 0, 1) := by decide +kernel
theorem dX9_readAll_75 : decode cX9_readAll 75 = .ok (.getfield 29, 3) := by decide +kernel
theorem dX9_readAll_78 : decode cX9_readAll 78 = .ok (.invokevirtual 61, 3) := by decide +kernel
theorem dX9_readAll_81 : decode cX9_readAll 81 = .ok (.return_, 1) := by decide +kernel
abbrev q_X9_append (v : Int) (σ : tw_M) : Option tw_V → tw_M → Prop := fun z τ => ∃ r : Int, z = some (vI r) ∧ (0 ≤ r ∧ r ≤ 1) ∧ tw_I τ ∧ tw_F (fun c j => (c = 10 ∧ (j = 10)) ∨ c = 11) σ τ ∧ ((r = 0 ∧ 392 < σ 10 10 ∧ τ 10 10 = σ 10 10) ∨ (r = 1 ∧ σ 10 10 ≤ 392 ∧ τ 10 10 = σ 10 10 + 8)) ∧ (∀ j : Nat, (j : Int) < σ 10 10 → τ 11 j = σ 11 j) ∧ (r = 0 ∨ ∀ k : Nat, (k : Int) < 8 → tw_and (τ 11 ((σ 10 10).toNat + k)) 255 = byt v k)
set_option maxHeartbeats 4000000 in
set_option maxRecDepth 100000 in
theorem l_X9_append {G : tw_G} (hX : tw_isX G) (v : Int) (hv : -9223372036854775808 ≤ v ∧ v ≤ 9223372036854775807) (σ : tw_M) (hI : tw_I σ) : ∀ N_ : Nat, (∀ (i : Int) (hi : 0 ≤ i ∧ i ≤ 8) (τ : tw_M) (hIτ : tw_I τ) (hFτ : tw_F (fun c j => (c = 10 ∧ (j = 10)) ∨ c = 11) σ τ) (i0 : τ 10 10 = σ 10 10) (i1 : τ 10 10 ≤ 392) (i2 : ∀ j : Nat, (j : Int) < σ 10 10 → τ 11 j = σ 11 j) (i3 : ∀ k : Nat, (k : Int) < i → tw_and (τ 11 ((σ 10 10).toNat + k)) 255 = byt v k) (hm : (8 - i).toNat < N_), tw_J G (tw_mt RX9 cX9_append 4 (some .boolean) 0) (tw_E G (q_X9_append v σ)) 14 [(0, vR 10), (1, vL v), (3, vI i)] [] τ) := by
  intro N_
  induction N_ with
  | zero => exact fun i hi τ hIτ hFτ i0 i1 i2 i3 hm => absurd hm (Nat.not_lt_zero _)
  | succ N_ ih =>
    intro i hi τ hIτ hFτ i0 i1 i2 i3 hm
    refine j_iload_n (pc := 14) dX9_append_14 rfl rfl ?_
    refine j_bipush (pc := 15) dX9_append_15 rfl ?_
    refine j_icmpR_ge (pc := 17) (tgt := 48) ⟨by omega, by omega⟩ ⟨by omega, by omega⟩ dX9_append_17 rfl (fun h1 => ?_) (fun h1 => ?_)
    · refine j_aload_n (pc := 48) dX9_append_48 rfl rfl ?_
      refine j_dup (pc := 49) dX9_append_49 rfl ?_
      refine j_getI (pc := 50) fl_X9_29 dX9_append_50 (a_10 hX) rfl ?_
      have f2 : (0 : Int) ≤ τ 10 10 ∧ τ 10 10 ≤ 400 := hIτ 10 10
      refine j_bipush (pc := 53) dX9_append_53 rfl ?_
      refine j_iadd (pc := 55) dX9_append_55 ?_
      refine j_putI (pc := 56) fl_X9_29 fp_X9_10 dX9_append_56 (a_10 hX) rfl (j_nm (fun σ3 (eσ3 : σ3 = tw_up τ 10 10 ((τ 10 10) + 8)) => ?_))
      have hIσ3 : tw_I σ3 := tw_I_up hIτ eσ3 (show (0 : Int) ≤ (τ 10 10) + 8 ∧ (τ 10 10) + 8 ≤ 400 from ⟨by omega, by omega⟩)
      have hFσ3 : tw_F (fun c j => (c = 10 ∧ (j = 10)) ∨ c = 11) σ σ3 := tw_F_up hFτ eσ3 (show (10 = 10 ∧ (10 = 10)) ∨ 10 = 11 from by omega)
      refine j_iconst (pc := 59) dX9_append_59 ?_
      have y4 : σ3 10 10 = (τ 10 10) + 8 := (tw_eq1 eσ3)
      exact j_zret (pc := 60) ⟨rfl, rfl⟩ dX9_append_60 rfl (nar_bool (by omega) (by omega)) ⟨_, rfl, ⟨by omega, by omega⟩, hIσ3, hFσ3, by omega, (fun j hj => by first | rfl | (rw [show σ3 11 j = τ 11 j from (tw_ne1 eσ3 (by omega))]; exact i2 j hj)), (by first | exact Or.inl rfl | exact Or.inr (fun k hk => by rw [show σ3 11 ((σ 10 10).toNat + k) = τ 11 ((σ 10 10).toNat + k) from (tw_ne1 eσ3 (by omega))]; exact i3 k (by omega)))⟩
    · refine j_aload_n (pc := 20) dX9_append_20 rfl rfl ?_
      refine j_getR (pc := 21) (r := 11) fl_X9_9 dX9_append_21 (a_10 hX) rfl ?_
      refine j_aload_n (pc := 24) dX9_append_24 rfl rfl ?_
      refine j_getI (pc := 25) fl_X9_29 dX9_append_25 (a_10 hX) rfl ?_
      have f5 : (0 : Int) ≤ τ 10 10 ∧ τ 10 10 ≤ 400 := hIτ 10 10
      refine j_iload_n (pc := 28) dX9_append_28 rfl rfl ?_
      refine j_iadd (pc := 29) dX9_append_29 ?_
      refine j_lload_n (pc := 30) dX9_append_30 rfl rfl ?_
      refine j_bipush (pc := 31) dX9_append_31 rfl ?_
      refine j_bipush (pc := 33) dX9_append_33 rfl ?_
      refine j_iload_n (pc := 35) dX9_append_35 rfl rfl ?_
      refine j_imul (pc := 36) dX9_append_36 ?_
      refine j_isub (pc := 37) dX9_append_37 ?_
      refine j_lushr (pc := 38) dX9_append_38 (fun z6 ez6 => ?_)
      have hz6 : (-9223372036854775808 : Int) ≤ z6 ∧ z6 ≤ 9223372036854775807 := by rw [ez6]; exact lushrL_in _ _
      have x1 := ez6
      refine j_l2i (pc := 39) dX9_append_39 (fun z7 ez7 => ?_)
      have hz7 : (-2147483648 : Int) ≤ z7 ∧ z7 ≤ 2147483647 := by rw [ez7]; exact l2i_in _
      have x2 := ez7; rw [x1] at x2
      refine j_i2b (pc := 40) dX9_append_40 (fun z8 ez8 => ?_)
      have hz8 : (-128 : Int) ≤ z8 ∧ z8 ≤ 127 := by rw [ez8]; exact i2b_in _
      have x3 := ez8; rw [x2] at x3
      have f9 := i2b_in z8
      refine j_bast (pc := 41) dX9_append_41 (a_11 hX) (by omega) (by omega) (by decide) (j_nm (fun σ10 (eσ10 : σ10 = tw_up τ 11 (((τ 10 10) + i).toNat) (tw_i2b z8)) => ?_))
      have hIσ10 : tw_I σ10 := tw_I_up hIτ eσ10 (show (-128 : Int) ≤ tw_i2b z8 ∧ tw_i2b z8 ≤ 127 from ⟨by omega, by omega⟩)
      have hFσ10 : tw_F (fun c j => (c = 10 ∧ (j = 10)) ∨ c = 11) σ σ10 := tw_F_up hFτ eσ10 (show (11 = 10 ∧ (((τ 10 10) + i).toNat = 10)) ∨ 11 = 11 from by omega)
      refine j_iinc (pc := 42) (i := 3) (n := 1) (ls' := [(0, vR 10), (1, vL v), (3, vI (i + 1))]) [1, 2, 0] dX9_append_42 rfl (Nat.le_of_ble_eq_true rfl) rfl rfl ?_
      refine j_goto (pc := 45) (tgt := 14) dX9_append_45 rfl ?_
      refine j_ls (ls' := [(0, vR 10), (1, vL v), (3, vI (i + 1))]) [0, 1, 2] rfl ?_
      have y11 : σ10 10 10 = τ 10 10 := (tw_ne1 eσ10 (by omega))
      have y12 : σ10 10 10 = τ 10 10 := (tw_ne1 eσ10 (by omega))
      exact ih (i + 1) ⟨by omega, by omega⟩ σ10 hIσ10 hFσ10 (show σ10 10 10 = σ 10 10 from by omega) (show σ10 10 10 ≤ 392 from by omega) (show ∀ j : Nat, (j : Int) < σ 10 10 → σ10 11 j = σ 11 j from (fun j hj => by first | rfl | (rw [tw_ne1 eσ10 (by omega)]; exact i2 j hj))) (show ∀ k : Nat, (k : Int) < (i + 1) → tw_and (σ10 11 ((σ 10 10).toNat + k)) 255 = byt v k from (fun k hk => by first | (exfalso; omega) | (rcases (show (k : Int) < i ∨ (k : Int) = i by omega) with q | q; (rw [tw_ne1 eσ10 (by omega)]; exact i3 k q); (rw [tw_eq2 eσ10 (by omega), x3, show i = (k : Int) from q.symm]; exact byt_eq (by omega))))) (show (8 - (i + 1)).toNat < N_ from by omega)
set_option maxHeartbeats 4000000 in
set_option maxRecDepth 100000 in
theorem c_X9_append {G : tw_G} (hX : tw_isX G) (v : Int) (hv : -9223372036854775808 ≤ v ∧ v ≤ 9223372036854775807) (σ : tw_M) (hI : tw_I σ) : tw_C G yX9_append cX9_append 4 (some .boolean) 0 [vR 10, vL v] σ (q_X9_append v σ) := by
  refine tw_met [(0, vR 10), (1, vL v)] (by decide +kernel) rfl (Nat.le_of_ble_eq_true rfl) ?_
  refine j_aload_n (pc := 0) dX9_append_0 rfl rfl ?_
  refine j_getI (pc := 1) fl_X9_29 dX9_append_1 (a_10 hX) rfl ?_
  have f13 : (0 : Int) ≤ σ 10 10 ∧ σ 10 10 ≤ 400 := hI 10 10
  refine j_sipush (pc := 4) dX9_append_4 rfl ?_
  refine j_icmpR_le (pc := 7) (tgt := 12) ⟨by omega, by omega⟩ ⟨by omega, by omega⟩ dX9_append_7 rfl (fun h14 => ?_) (fun h14 => ?_)
  · refine j_iconst (pc := 12) dX9_append_12 ?_
    refine j_istore_n (pc := 13) (i := 3) (ls' := [(0, vR 10), (1, vL v), (3, vI 0)]) [1, 2, 0] dX9_append_13 rfl (Nat.le_of_ble_eq_true rfl) rfl rfl ?_
    refine j_ls (ls' := [(0, vR 10), (1, vL v), (3, vI 0)]) [0, 1, 2] rfl ?_
    exact (l_X9_append hX v hv σ hI (((8 - (0 : Int)).toNat) + 1)) 0 ⟨by omega, by omega⟩ σ hI (tw_F_rf) (show σ 10 10 = σ 10 10 from by omega) (show σ 10 10 ≤ 392 from by omega) (show ∀ j : Nat, (j : Int) < σ 10 10 → σ 11 j = σ 11 j from (fun j hj => by first | rfl | (rw [tw_ne1 _ (by omega)]; exact i2 j hj))) (show ∀ k : Nat, (k : Int) < (0 : Int) → tw_and (σ 11 ((σ 10 10).toNat + k)) 255 = byt v k from (fun k hk => by first | (exfalso; omega) | (rcases (show (k : Int) < i ∨ (k : Int) = i by omega) with q | q; (rw [tw_ne1 _ (by omega)]; exact i3 k q); (rw [tw_eq2 _ (by omega), x3, show i = (k : Int) from q.symm]; exact byt_eq (by omega))))) (Nat.lt_succ_self _)
  · refine j_iconst (pc := 10) dX9_append_10 ?_
    exact j_zret (pc := 11) ⟨rfl, rfl⟩ dX9_append_11 rfl (nar_bool (by omega) (by omega)) ⟨_, rfl, ⟨by omega, by omega⟩, hI, (tw_F_rf), by omega, (fun j hj => by first | rfl | (rw [show σ 11 j = τ 11 j from rfl]; exact i2 j hj)), (by first | exact Or.inl rfl | exact Or.inr (fun k hk => by rw [show σ 11 ((σ 10 10).toNat + k) = τ 11 ((σ 10 10).toNat + k) from rfl]; exact i3 k (by omega)))⟩
abbrev q_X9_fail (a : Int) (b : Int) (σ : tw_M) : Option tw_V → tw_M → Prop := fun z τ => z = none ∧ tw_I τ ∧ tw_F (fun c j => (c = 10 ∧ (j = 11 ∨ j = 12))) σ τ ∧ ((σ 10 11 = 0 ∧ τ 10 11 = a ∧ τ 10 12 = b) ∨ (¬ σ 10 11 = 0 ∧ τ 10 11 = σ 10 11 ∧ τ 10 12 = σ 10 12))
set_option maxHeartbeats 4000000 in
set_option maxRecDepth 100000 in
theorem c_X9_fail {G : tw_G} (hX : tw_isX G) (a : Int) (ha : 1 ≤ a ∧ a ≤ 5) (b : Int) (hb : 0 ≤ b ∧ b ≤ 400) (σ : tw_M) (hI : tw_I σ) : tw_C G yX9_fail cX9_fail 3 none 0 [vR 10, vI a, vI b] σ (q_X9_fail a b σ) := by
  refine tw_met [(0, vR 10), (1, vI a), (2, vI b)] (by decide +kernel) rfl (Nat.le_of_ble_eq_true rfl) ?_
  refine j_aload_n (pc := 0) dX9_fail_0 rfl rfl ?_
  refine j_getI (pc := 1) fl_X9_33 dX9_fail_1 (a_10 hX) rfl ?_
  have f1 : (0 : Int) ≤ σ 10 11 ∧ σ 10 11 ≤ 5 := hI 10 11
  refine j_ifR_eq (pc := 4) (tgt := 8) ⟨by omega, by omega⟩ dX9_fail_4 rfl (fun h2 => ?_) (fun h2 => ?_)
  · refine j_aload_n (pc := 8) dX9_fail_8 rfl rfl ?_
    refine j_iload_n (pc := 9) dX9_fail_9 rfl rfl ?_
    refine j_putI (pc := 10) fl_X9_33 fp_X9_11 dX9_fail_10 (a_10 hX) rfl (j_nm (fun σ3 (eσ3 : σ3 = tw_up σ 10 11 a) => ?_))
    have hIσ3 : tw_I σ3 := tw_I_up hI eσ3 (show (0 : Int) ≤ a ∧ a ≤ 5 from ⟨by omega, by omega⟩)
    have hFσ3 : tw_F (fun c j => (c = 10 ∧ (j = 11 ∨ j = 12))) σ σ3 := tw_F_up (tw_F_rf) eσ3 (show (10 = 10 ∧ (11 = 11 ∨ 11 = 12)) from by omega)
    refine j_aload_n (pc := 13) dX9_fail_13 rfl rfl ?_
    refine j_iload_n (pc := 14) dX9_fail_14 rfl rfl ?_
    refine j_putI (pc := 15) fl_X9_36 fp_X9_12 dX9_fail_15 (a_10 hX) rfl (j_nm (fun σ4 (eσ4 : σ4 = tw_up σ3 10 12 b) => ?_))
    have hIσ4 : tw_I σ4 := tw_I_up hIσ3 eσ4 (show (0 : Int) ≤ b ∧ b ≤ 400 from ⟨by omega, by omega⟩)
    have hFσ4 : tw_F (fun c j => (c = 10 ∧ (j = 11 ∨ j = 12))) σ σ4 := tw_F_up hFσ3 eσ4 (show (10 = 10 ∧ (12 = 11 ∨ 12 = 12)) from by omega)
    have y5 : σ4 10 11 = a := ((tw_ne1 eσ4 (by omega))).trans (tw_eq1 eσ3)
    have y6 : σ4 10 12 = b := (tw_eq1 eσ4)
    exact j_vret (pc := 18) ⟨rfl, rfl⟩ dX9_fail_18 rfl ⟨rfl, hIσ4, hFσ4, by omega⟩
  · exact j_vret (pc := 7) ⟨rfl, rfl⟩ dX9_fail_7 rfl ⟨rfl, hI, (tw_F_rf), by omega⟩
abbrev q_X9_begin  (σ : tw_M) : Option tw_V → tw_M → Prop := fun z τ => z = none ∧ tw_I τ ∧ tw_F (fun c j => (c = 10 ∧ (j = 3 ∨ j = 4 ∨ j = 5 ∨ j = 11 ∨ j = 12 ∨ j = 13)) ∨ (12 ≤ c ∧ c < 14) ∨ (14 ≤ c ∧ c < 23)) σ τ ∧ (τ 10 3 = 0) ∧ (τ 10 4 = 0) ∧ (τ 10 5 = 0) ∧ (τ 10 11 = 0) ∧ (τ 10 12 = 0) ∧ (τ 10 13 = 0) ∧ (drX τ = D0)
set_option maxHeartbeats 4000000 in
set_option maxRecDepth 100000 in
theorem l_X9_begin {G : tw_G} (hX : tw_isX G) (σ : tw_M) (hI : tw_I σ) : ∀ N_ : Nat, (∀ (i : Int) (hi : 0 ≤ i ∧ i ≤ 41) (τ : tw_M) (hIτ : tw_I τ) (hFτ : tw_F (fun c j => (c = 10 ∧ (j = 3 ∨ j = 4 ∨ j = 5 ∨ j = 11 ∨ j = 12 ∨ j = 13)) ∨ (12 ≤ c ∧ c < 14) ∨ (14 ≤ c ∧ c < 23)) σ τ) (i0 : Cn 15 (fun j => (tw_first.getD j 0).toInt) τ 9) (i1 : Cn 16 (fun _ => 0) τ 11) (i2 : Cn 17 (fun _ => 1) τ 41) (i3 : Cn 18 (fun _ => 0) τ 41) (i4 : Cn 19 (fun _ => 0) τ 41) (i5 : Cn 20 (fun _ => 0) τ 41) (i6 : Cn 21 (fun _ => 5) τ 41) (i7 : Cn 12 (fun _ => 0) τ i) (hm : (500 - i).toNat < N_), tw_J G (tw_mt RX9 cX9_begin 2 none 1) (tw_E G (q_X9_begin σ)) 9 [(0, vR 10), (1, vI i)] [] τ) ∧ (∀ (i : Int) (hi : 0 ≤ i ∧ i ≤ 11) (τ : tw_M) (hIτ : tw_I τ) (hFτ : tw_F (fun c j => (c = 10 ∧ (j = 3 ∨ j = 4 ∨ j = 5 ∨ j = 11 ∨ j = 12 ∨ j = 13)) ∨ (12 ≤ c ∧ c < 14) ∨ (14 ≤ c ∧ c < 23)) σ τ) (i0 : Cn 15 (fun j => (tw_first.getD j 0).toInt) τ 9) (i1 : Cn 16 (fun _ => 0) τ 11) (i2 : Cn 17 (fun _ => 1) τ 41) (i3 : Cn 18 (fun _ => 0) τ 41) (i4 : Cn 19 (fun _ => 0) τ 41) (i5 : Cn 20 (fun _ => 0) τ 41) (i6 : Cn 21 (fun _ => 5) τ 41) (i7 : Cn 12 (fun _ => 0) τ 41) (i8 : Cn 13 (fun _ => 0) τ i) (hm : (100 - i).toNat < N_), tw_J G (tw_mt RX9 cX9_begin 2 none 1) (tw_E G (q_X9_begin σ)) 30 [(0, vR 10), (1, vI i)] [] τ) := by
  intro N_
  induction N_ with
  | zero => exact ⟨fun i hi τ hIτ hFτ i0 i1 i2 i3 i4 i5 i6 i7 hm => absurd hm (Nat.not_lt_zero _), fun i hi τ hIτ hFτ i0 i1 i2 i3 i4 i5 i6 i7 i8 hm => absurd hm (Nat.not_lt_zero _)⟩
  | succ N_ ih =>
    refine ⟨?_, ?_⟩
    · intro i hi τ hIτ hFτ i0 i1 i2 i3 i4 i5 i6 i7 hm
      refine j_iload_n (pc := 9) dX9_begin_9 rfl rfl ?_
      refine j_bipush (pc := 10) dX9_begin_10 rfl ?_
      refine j_icmpR_gt (pc := 12) (tgt := 28) ⟨by omega, by omega⟩ ⟨by omega, by omega⟩ dX9_begin_12 rfl (fun h1 => ?_) (fun h1 => ?_)
      · refine j_iconst (pc := 28) dX9_begin_28 ?_
        refine j_istore_n (pc := 29) (i := 1) (ls' := [(0, vR 10), (1, vI 0)]) [1, 0] dX9_begin_29 rfl (Nat.le_of_ble_eq_true rfl) rfl rfl ?_
        refine j_ls (ls' := [(0, vR 10), (1, vI 0)]) [0, 1] rfl ?_
        exact ih.2 0 ⟨by omega, by omega⟩ τ hIτ hFτ (show Cn 15 (fun j => (tw_first.getD j 0).toInt) τ 9 from (by first | exact Cn_F (fun j => rfl) i0 | exact __0)) (show Cn 16 (fun _ => 0) τ 11 from (by first | exact Cn_F (fun j => rfl) i1 | exact __1)) (show Cn 17 (fun _ => 1) τ 41 from (by first | exact Cn_F (fun j => rfl) i2 | exact __2)) (show Cn 18 (fun _ => 0) τ 41 from (by first | exact Cn_F (fun j => rfl) i3 | exact __3)) (show Cn 19 (fun _ => 0) τ 41 from (by first | exact Cn_F (fun j => rfl) i4 | exact __4)) (show Cn 20 (fun _ => 0) τ 41 from (by first | exact Cn_F (fun j => rfl) i5 | exact __5)) (show Cn 21 (fun _ => 5) τ 41 from (by first | exact Cn_F (fun j => rfl) i6 | exact __6)) (show Cn 12 (fun _ => 0) τ 41 from (by first | exact Cn_F (fun j => rfl) i7 | (rw [show (41 : Int) = i from by omega]; exact i7))) (show Cn 13 (fun _ => 0) τ (0 : Int) from (by first | exact Cn_up _ (by omega) i8 rfl (by omega) | exact Cn_0)) (show (100 - (0 : Int)).toNat < N_ from by omega)
      · refine j_aload_n (pc := 15) dX9_begin_15 rfl rfl ?_
        refine j_getR (pc := 16) (r := 12) fl_X9_15 dX9_begin_16 (a_10 hX) rfl ?_
        refine j_iload_n (pc := 19) dX9_begin_19 rfl rfl ?_
        refine j_iconst (pc := 20) dX9_begin_20 ?_
        refine j_zast (pc := 21) (by omega) dX9_begin_21 (a_12 hX) (by omega) (by omega) (by decide) (j_nm (fun σ2 (eσ2 : σ2 = tw_up τ 12 (i.toNat) 0) => ?_))
        have hIσ2 : tw_I σ2 := tw_I_up hIτ eσ2 (show (0 : Int) ≤ 0 ∧ 0 ≤ 1 from ⟨by omega, by omega⟩)
        have hFσ2 : tw_F (fun c j => (c = 10 ∧ (j = 3 ∨ j = 4 ∨ j = 5 ∨ j = 11 ∨ j = 12 ∨ j = 13)) ∨ (12 ≤ c ∧ c < 14) ∨ (14 ≤ c ∧ c < 23)) σ σ2 := tw_F_up hFτ eσ2 (show (12 = 10 ∧ (i.toNat = 3 ∨ i.toNat = 4 ∨ i.toNat = 5 ∨ i.toNat = 11 ∨ i.toNat = 12 ∨ i.toNat = 13)) ∨ (12 ≤ 12 ∧ 12 < 14) ∨ (14 ≤ 12 ∧ 12 < 23) from by omega)
        refine j_iinc (pc := 22) (i := 1) (n := 1) (ls' := [(0, vR 10), (1, vI (i + 1))]) [1, 0] dX9_begin_22 rfl (Nat.le_of_ble_eq_true rfl) rfl rfl ?_
        refine j_goto (pc := 25) (tgt := 9) dX9_begin_25 rfl ?_
        refine j_ls (ls' := [(0, vR 10), (1, vI (i + 1))]) [0, 1] rfl ?_
        exact ih.1 (i + 1) ⟨by omega, by omega⟩ σ2 hIσ2 hFσ2 (show Cn 15 (fun j => (tw_first.getD j 0).toInt) σ2 9 from (by first | exact Cn_F (fun j => (tw_ne1 eσ2 (by omega))) i0 | exact __0)) (show Cn 16 (fun _ => 0) σ2 11 from (by first | exact Cn_F (fun j => (tw_ne1 eσ2 (by omega))) i1 | exact __1)) (show Cn 17 (fun _ => 1) σ2 41 from (by first | exact Cn_F (fun j => (tw_ne1 eσ2 (by omega))) i2 | exact __2)) (show Cn 18 (fun _ => 0) σ2 41 from (by first | exact Cn_F (fun j => (tw_ne1 eσ2 (by omega))) i3 | exact __3)) (show Cn 19 (fun _ => 0) σ2 41 from (by first | exact Cn_F (fun j => (tw_ne1 eσ2 (by omega))) i4 | exact __4)) (show Cn 20 (fun _ => 0) σ2 41 from (by first | exact Cn_F (fun j => (tw_ne1 eσ2 (by omega))) i5 | exact __5)) (show Cn 21 (fun _ => 5) σ2 41 from (by first | exact Cn_F (fun j => (tw_ne1 eσ2 (by omega))) i6 | exact __6)) (show Cn 12 (fun _ => 0) σ2 (i + 1) from (by first | exact Cn_up eσ2 (by omega) i7 rfl (by omega) | exact Cn_0)) (show (500 - (i + 1)).toNat < N_ from by omega)
    · intro i hi τ hIτ hFτ i0 i1 i2 i3 i4 i5 i6 i7 i8 hm
      refine j_iload_n (pc := 30) dX9_begin_30 rfl rfl ?_
      refine j_bipush (pc := 31) dX9_begin_31 rfl ?_
      refine j_icmpR_gt (pc := 33) (tgt := 49) ⟨by omega, by omega⟩ ⟨by omega, by omega⟩ dX9_begin_33 rfl (fun h3 => ?_) (fun h3 => ?_)
      · refine j_aload_n (pc := 49) dX9_begin_49 rfl rfl ?_
        refine j_iconst (pc := 50) dX9_begin_50 ?_
        refine j_putI (pc := 51) fl_X9_66 fp_X9_3 dX9_begin_51 (a_10 hX) rfl (j_nm (fun σ4 (eσ4 : σ4 = tw_up τ 10 3 0) => ?_))
        have hIσ4 : tw_I σ4 := tw_I_up hIτ eσ4 (show (-2147483648 : Int) ≤ 0 ∧ 0 ≤ 2147483647 from ⟨by omega, by omega⟩)
        have hFσ4 : tw_F (fun c j => (c = 10 ∧ (j = 3 ∨ j = 4 ∨ j = 5 ∨ j = 11 ∨ j = 12 ∨ j = 13)) ∨ (12 ≤ c ∧ c < 14) ∨ (14 ≤ c ∧ c < 23)) σ σ4 := tw_F_up hFτ eσ4 (show (10 = 10 ∧ (3 = 3 ∨ 3 = 4 ∨ 3 = 5 ∨ 3 = 11 ∨ 3 = 12 ∨ 3 = 13)) ∨ (12 ≤ 10 ∧ 10 < 14) ∨ (14 ≤ 10 ∧ 10 < 23) from by omega)
        refine j_aload_n (pc := 54) dX9_begin_54 rfl rfl ?_
        refine j_iconst (pc := 55) dX9_begin_55 ?_
        refine j_putI (pc := 56) fl_X9_54 fp_X9_4 dX9_begin_56 (a_10 hX) rfl (j_nm (fun σ5 (eσ5 : σ5 = tw_up σ4 10 4 0) => ?_))
        have hIσ5 : tw_I σ5 := tw_I_up hIσ4 eσ5 (show (0 : Int) ≤ 0 ∧ 0 ≤ 40 from ⟨by omega, by omega⟩)
        have hFσ5 : tw_F (fun c j => (c = 10 ∧ (j = 3 ∨ j = 4 ∨ j = 5 ∨ j = 11 ∨ j = 12 ∨ j = 13)) ∨ (12 ≤ c ∧ c < 14) ∨ (14 ≤ c ∧ c < 23)) σ σ5 := tw_F_up hFσ4 eσ5 (show (10 = 10 ∧ (4 = 3 ∨ 4 = 4 ∨ 4 = 5 ∨ 4 = 11 ∨ 4 = 12 ∨ 4 = 13)) ∨ (12 ≤ 10 ∧ 10 < 14) ∨ (14 ≤ 10 ∧ 10 < 23) from by omega)
        refine j_aload_n (pc := 59) dX9_begin_59 rfl rfl ?_
        refine j_iconst (pc := 60) dX9_begin_60 ?_
        refine j_putI (pc := 61) fl_X9_69 fp_X9_5 dX9_begin_61 (a_10 hX) rfl (j_nm (fun σ6 (eσ6 : σ6 = tw_up σ5 10 5 0) => ?_))
        have hIσ6 : tw_I σ6 := tw_I_up hIσ5 eσ6 (show (0 : Int) ≤ 0 ∧ 0 ≤ 400 from ⟨by omega, by omega⟩)
        have hFσ6 : tw_F (fun c j => (c = 10 ∧ (j = 3 ∨ j = 4 ∨ j = 5 ∨ j = 11 ∨ j = 12 ∨ j = 13)) ∨ (12 ≤ c ∧ c < 14) ∨ (14 ≤ c ∧ c < 23)) σ σ6 := tw_F_up hFσ5 eσ6 (show (10 = 10 ∧ (5 = 3 ∨ 5 = 4 ∨ 5 = 5 ∨ 5 = 11 ∨ 5 = 12 ∨ 5 = 13)) ∨ (12 ≤ 10 ∧ 10 < 14) ∨ (14 ≤ 10 ∧ 10 < 23) from by omega)
        refine j_aload_n (pc := 64) dX9_begin_64 rfl rfl ?_
        refine j_iconst (pc := 65) dX9_begin_65 ?_
        refine j_putI (pc := 66) fl_X9_33 fp_X9_11 dX9_begin_66 (a_10 hX) rfl (j_nm (fun σ7 (eσ7 : σ7 = tw_up σ6 10 11 0) => ?_))
        have hIσ7 : tw_I σ7 := tw_I_up hIσ6 eσ7 (show (0 : Int) ≤ 0 ∧ 0 ≤ 5 from ⟨by omega, by omega⟩)
        have hFσ7 : tw_F (fun c j => (c = 10 ∧ (j = 3 ∨ j = 4 ∨ j = 5 ∨ j = 11 ∨ j = 12 ∨ j = 13)) ∨ (12 ≤ c ∧ c < 14) ∨ (14 ≤ c ∧ c < 23)) σ σ7 := tw_F_up hFσ6 eσ7 (show (10 = 10 ∧ (11 = 3 ∨ 11 = 4 ∨ 11 = 5 ∨ 11 = 11 ∨ 11 = 12 ∨ 11 = 13)) ∨ (12 ≤ 10 ∧ 10 < 14) ∨ (14 ≤ 10 ∧ 10 < 23) from by omega)
        refine j_aload_n (pc := 69) dX9_begin_69 rfl rfl ?_
        refine j_iconst (pc := 70) dX9_begin_70 ?_
        refine j_putI (pc := 71) fl_X9_36 fp_X9_12 dX9_begin_71 (a_10 hX) rfl (j_nm (fun σ8 (eσ8 : σ8 = tw_up σ7 10 12 0) => ?_))
        have hIσ8 : tw_I σ8 := tw_I_up hIσ7 eσ8 (show (0 : Int) ≤ 0 ∧ 0 ≤ 400 from ⟨by omega, by omega⟩)
        have hFσ8 : tw_F (fun c j => (c = 10 ∧ (j = 3 ∨ j = 4 ∨ j = 5 ∨ j = 11 ∨ j = 12 ∨ j = 13)) ∨ (12 ≤ c ∧ c < 14) ∨ (14 ≤ c ∧ c < 23)) σ σ8 := tw_F_up hFσ7 eσ8 (show (10 = 10 ∧ (12 = 3 ∨ 12 = 4 ∨ 12 = 5 ∨ 12 = 11 ∨ 12 = 12 ∨ 12 = 13)) ∨ (12 ≤ 10 ∧ 10 < 14) ∨ (14 ≤ 10 ∧ 10 < 23) from by omega)
        refine j_aload_n (pc := 74) dX9_begin_74 rfl rfl ?_
        refine j_iconst (pc := 75) dX9_begin_75 ?_
        refine j_putI (pc := 76) fl_X9_39 fp_X9_13 dX9_begin_76 (a_10 hX) rfl (j_nm (fun σ9 (eσ9 : σ9 = tw_up σ8 10 13 0) => ?_))
        have hIσ9 : tw_I σ9 := tw_I_up hIσ8 eσ9 (show (0 : Int) ≤ 0 ∧ 0 ≤ 400 from ⟨by omega, by omega⟩)
        have hFσ9 : tw_F (fun c j => (c = 10 ∧ (j = 3 ∨ j = 4 ∨ j = 5 ∨ j = 11 ∨ j = 12 ∨ j = 13)) ∨ (12 ≤ c ∧ c < 14) ∨ (14 ≤ c ∧ c < 23)) σ σ9 := tw_F_up hFσ8 eσ9 (show (10 = 10 ∧ (13 = 3 ∨ 13 = 4 ∨ 13 = 5 ∨ 13 = 11 ∨ 13 = 12 ∨ 13 = 13)) ∨ (12 ≤ 10 ∧ 10 < 14) ∨ (14 ≤ 10 ∧ 10 < 23) from by omega)
        have y10 : σ9 10 3 = 0 := ((((((tw_ne1 eσ9 (by omega))).trans (tw_ne1 eσ8 (by omega))).trans (tw_ne1 eσ7 (by omega))).trans (tw_ne1 eσ6 (by omega))).trans (tw_ne1 eσ5 (by omega))).trans (tw_eq1 eσ4)
        have y11 : σ9 10 4 = 0 := (((((tw_ne1 eσ9 (by omega))).trans (tw_ne1 eσ8 (by omega))).trans (tw_ne1 eσ7 (by omega))).trans (tw_ne1 eσ6 (by omega))).trans (tw_eq1 eσ5)
        have y12 : σ9 10 5 = 0 := ((((tw_ne1 eσ9 (by omega))).trans (tw_ne1 eσ8 (by omega))).trans (tw_ne1 eσ7 (by omega))).trans (tw_eq1 eσ6)
        have y13 : σ9 10 11 = 0 := (((tw_ne1 eσ9 (by omega))).trans (tw_ne1 eσ8 (by omega))).trans (tw_eq1 eσ7)
        have y14 : σ9 10 12 = 0 := ((tw_ne1 eσ9 (by omega))).trans (tw_eq1 eσ8)
        have y15 : σ9 10 13 = 0 := (tw_eq1 eσ9)
        exact j_vret (pc := 79) ⟨rfl, rfl⟩ dX9_begin_79 rfl ⟨rfl, hIσ9, hFσ9, by omega, by omega, by omega, by omega, by omega, by omega, (drX_D0 (by omega) (by omega) (Cn_F (fun j => ((((((tw_ne1 eσ9 (by omega))).trans (tw_ne1 eσ8 (by omega))).trans (tw_ne1 eσ7 (by omega))).trans (tw_ne1 eσ6 (by omega))).trans (tw_ne1 eσ5 (by omega))).trans (tw_ne1 eσ4 (by omega))) i0) (Cn_F (fun j => ((((((tw_ne1 eσ9 (by omega))).trans (tw_ne1 eσ8 (by omega))).trans (tw_ne1 eσ7 (by omega))).trans (tw_ne1 eσ6 (by omega))).trans (tw_ne1 eσ5 (by omega))).trans (tw_ne1 eσ4 (by omega))) i1) (Cn_F (fun j => ((((((tw_ne1 eσ9 (by omega))).trans (tw_ne1 eσ8 (by omega))).trans (tw_ne1 eσ7 (by omega))).trans (tw_ne1 eσ6 (by omega))).trans (tw_ne1 eσ5 (by omega))).trans (tw_ne1 eσ4 (by omega))) i2) (Cn_F (fun j => ((((((tw_ne1 eσ9 (by omega))).trans (tw_ne1 eσ8 (by omega))).trans (tw_ne1 eσ7 (by omega))).trans (tw_ne1 eσ6 (by omega))).trans (tw_ne1 eσ5 (by omega))).trans (tw_ne1 eσ4 (by omega))) i3) (Cn_F (fun j => ((((((tw_ne1 eσ9 (by omega))).trans (tw_ne1 eσ8 (by omega))).trans (tw_ne1 eσ7 (by omega))).trans (tw_ne1 eσ6 (by omega))).trans (tw_ne1 eσ5 (by omega))).trans (tw_ne1 eσ4 (by omega))) i4) (Cn_F (fun j => ((((((tw_ne1 eσ9 (by omega))).trans (tw_ne1 eσ8 (by omega))).trans (tw_ne1 eσ7 (by omega))).trans (tw_ne1 eσ6 (by omega))).trans (tw_ne1 eσ5 (by omega))).trans (tw_ne1 eσ4 (by omega))) i5) (Cn_F (fun j => ((((((tw_ne1 eσ9 (by omega))).trans (tw_ne1 eσ8 (by omega))).trans (tw_ne1 eσ7 (by omega))).trans (tw_ne1 eσ6 (by omega))).trans (tw_ne1 eσ5 (by omega))).trans (tw_ne1 eσ4 (by omega))) i6) (Cn_F (fun j => ((((((tw_ne1 eσ9 (by omega))).trans (tw_ne1 eσ8 (by omega))).trans (tw_ne1 eσ7 (by omega))).trans (tw_ne1 eσ6 (by omega))).trans (tw_ne1 eσ5 (by omega))).trans (tw_ne1 eσ4 (by omega))) i7) (by rw [show (11 : Int) = i from by omega]; exact Cn_F (fun j => ((((((tw_ne1 eσ9 (by omega))).trans (tw_ne1 eσ8 (by omega))).trans (tw_ne1 eσ7 (by omega))).trans (tw_ne1 eσ6 (by omega))).trans (tw_ne1 eσ5 (by omega))).trans (tw_ne1 eσ4 (by omega))) i8))⟩
      · refine j_aload_n (pc := 36) dX9_begin_36 rfl rfl ?_
        refine j_getR (pc := 37) (r := 13) fl_X9_19 dX9_begin_37 (a_10 hX) rfl ?_
        refine j_iload_n (pc := 40) dX9_begin_40 rfl rfl ?_
        refine j_iconst (pc := 41) dX9_begin_41 ?_
        refine j_zast (pc := 42) (by omega) dX9_begin_42 (a_13 hX) (by omega) (by omega) (by decide) (j_nm (fun σ16 (eσ16 : σ16 = tw_up τ 13 (i.toNat) 0) => ?_))
        have hIσ16 : tw_I σ16 := tw_I_up hIτ eσ16 (show (0 : Int) ≤ 0 ∧ 0 ≤ 1 from ⟨by omega, by omega⟩)
        have hFσ16 : tw_F (fun c j => (c = 10 ∧ (j = 3 ∨ j = 4 ∨ j = 5 ∨ j = 11 ∨ j = 12 ∨ j = 13)) ∨ (12 ≤ c ∧ c < 14) ∨ (14 ≤ c ∧ c < 23)) σ σ16 := tw_F_up hFτ eσ16 (show (13 = 10 ∧ (i.toNat = 3 ∨ i.toNat = 4 ∨ i.toNat = 5 ∨ i.toNat = 11 ∨ i.toNat = 12 ∨ i.toNat = 13)) ∨ (12 ≤ 13 ∧ 13 < 14) ∨ (14 ≤ 13 ∧ 13 < 23) from by omega)
        refine j_iinc (pc := 43) (i := 1) (n := 1) (ls' := [(0, vR 10), (1, vI (i + 1))]) [1, 0] dX9_begin_43 rfl (Nat.le_of_ble_eq_true rfl) rfl rfl ?_
        refine j_goto (pc := 46) (tgt := 30) dX9_begin_46 rfl ?_
        refine j_ls (ls' := [(0, vR 10), (1, vI (i + 1))]) [0, 1] rfl ?_
        exact ih.2 (i + 1) ⟨by omega, by omega⟩ σ16 hIσ16 hFσ16 (show Cn 15 (fun j => (tw_first.getD j 0).toInt) σ16 9 from (by first | exact Cn_F (fun j => (tw_ne1 eσ16 (by omega))) i0 | exact __0)) (show Cn 16 (fun _ => 0) σ16 11 from (by first | exact Cn_F (fun j => (tw_ne1 eσ16 (by omega))) i1 | exact __1)) (show Cn 17 (fun _ => 1) σ16 41 from (by first | exact Cn_F (fun j => (tw_ne1 eσ16 (by omega))) i2 | exact __2)) (show Cn 18 (fun _ => 0) σ16 41 from (by first | exact Cn_F (fun j => (tw_ne1 eσ16 (by omega))) i3 | exact __3)) (show Cn 19 (fun _ => 0) σ16 41 from (by first | exact Cn_F (fun j => (tw_ne1 eσ16 (by omega))) i4 | exact __4)) (show Cn 20 (fun _ => 0) σ16 41 from (by first | exact Cn_F (fun j => (tw_ne1 eσ16 (by omega))) i5 | exact __5)) (show Cn 21 (fun _ => 5) σ16 41 from (by first | exact Cn_F (fun j => (tw_ne1 eσ16 (by omega))) i6 | exact __6)) (show Cn 12 (fun _ => 0) σ16 41 from (by first | exact Cn_F (fun j => (tw_ne1 eσ16 (by omega))) i7 | (rw [show (41 : Int) = i from by omega]; exact i7))) (show Cn 13 (fun _ => 0) σ16 (i + 1) from (by first | exact Cn_up eσ16 (by omega) i8 rfl (by omega) | exact Cn_0)) (show (100 - (i + 1)).toNat < N_ from by omega)
set_option maxHeartbeats 4000000 in
set_option maxRecDepth 100000 in
theorem c_X9_begin {G : tw_G} (hX : tw_isX G) (σ : tw_M) (hI : tw_I σ) : tw_C G yX9_begin cX9_begin 2 none 1 [vR 10] σ (q_X9_begin σ) := by
  refine tw_met [(0, vR 10)] (by decide +kernel) rfl (Nat.le_of_ble_eq_true rfl) ?_
  refine j_aload_n (pc := 0) dX9_begin_0 rfl rfl ?_
  refine j_getR (pc := 1) (r := 14) fl_X9_25 dX9_begin_1 (a_10 hX) rfl ?_
  refine j_callV (pc := 4) (As := []) (st := []) (c_X10_begin 14 (s_Wall_14 hX) σ hI) mv_X9_65 rfl rfl rfl (a_14 hX) dX9_begin_4 ⟨Nat.le_of_ble_eq_true rfl, Nat.le_of_ble_eq_true rfl⟩ ⟨Nat.le_refl _, Nat.le_refl _⟩ rfl (Nat.le_of_ble_eq_true rfl) rfl (fun z17 σ18 hz17 => ?_)
  obtain ⟨rfl, hIσ18, hGσ18, q19_0, q19_1, q19_2, q19_3, q19_4, q19_5, q19_6⟩ := hz17
  replace q19_0 : Cn 15 (fun j => (tw_first.getD j 0).toInt) σ18 9 := q19_0
  replace q19_1 : Cn 16 (fun _ => 0) σ18 11 := q19_1
  replace q19_2 : Cn 17 (fun _ => 1) σ18 41 := q19_2
  replace q19_3 : Cn 18 (fun _ => 0) σ18 41 := q19_3
  replace q19_4 : Cn 19 (fun _ => 0) σ18 41 := q19_4
  replace q19_5 : Cn 20 (fun _ => 0) σ18 41 := q19_5
  replace q19_6 : Cn 21 (fun _ => 5) σ18 41 := q19_6
  have hFσ18 : tw_F (fun c j => (c = 10 ∧ (j = 3 ∨ j = 4 ∨ j = 5 ∨ j = 11 ∨ j = 12 ∨ j = 13)) ∨ (12 ≤ c ∧ c < 14) ∨ (14 ≤ c ∧ c < 23)) σ σ18 := tw_F_tr (tw_F_rf) hGσ18 (fun c j q => (show (c = 10 ∧ (j = 3 ∨ j = 4 ∨ j = 5 ∨ j = 11 ∨ j = 12 ∨ j = 13)) ∨ (12 ≤ c ∧ c < 14) ∨ (14 ≤ c ∧ c < 23) from by replace q : (15 ≤ c ∧ c < 23) := q; omega))
  refine j_st (st' := []) rfl ?_
  refine j_iconst (pc := 7) dX9_begin_7 ?_
  refine j_istore_n (pc := 8) (i := 1) (ls' := [(0, vR 10), (1, vI 0)]) [1, 0] dX9_begin_8 rfl (Nat.le_of_ble_eq_true rfl) rfl rfl ?_
  refine j_ls (ls' := [(0, vR 10), (1, vI 0)]) [0, 1] rfl ?_
  exact (l_X9_begin hX σ hI (((500 - (0 : Int)).toNat) + 1)).1 0 ⟨by omega, by omega⟩ σ18 hIσ18 hFσ18 (show Cn 15 (fun j => (tw_first.getD j 0).toInt) σ18 9 from (by first | exact Cn_F (fun j => rfl) i0 | exact q19_0)) (show Cn 16 (fun _ => 0) σ18 11 from (by first | exact Cn_F (fun j => rfl) i1 | exact q19_1)) (show Cn 17 (fun _ => 1) σ18 41 from (by first | exact Cn_F (fun j => rfl) i2 | exact q19_2)) (show Cn 18 (fun _ => 0) σ18 41 from (by first | exact Cn_F (fun j => rfl) i3 | exact q19_3)) (show Cn 19 (fun _ => 0) σ18 41 from (by first | exact Cn_F (fun j => rfl) i4 | exact q19_4)) (show Cn 20 (fun _ => 0) σ18 41 from (by first | exact Cn_F (fun j => rfl) i5 | exact q19_5)) (show Cn 21 (fun _ => 5) σ18 41 from (by first | exact Cn_F (fun j => rfl) i6 | exact q19_6)) (show Cn 12 (fun _ => 0) σ18 (0 : Int) from (by first | exact Cn_up _ (by omega) i7 rfl (by omega) | exact Cn_0)) (Nat.lt_succ_self _)
abbrev q_X9_byteAt (i : Int) (σ : tw_M) : Option tw_V → tw_M → Prop := fun z τ => ∃ r : Int, z = some (vI r) ∧ (-1 ≤ r ∧ r ≤ 255) ∧ σ = τ ∧ ((¬ (0 ≤ i ∧ i < σ 10 10 ∧ i < 400) ∧ r = -1) ∨ (0 ≤ i ∧ i < σ 10 10 ∧ i < 400 ∧ 0 ≤ r ∧ r = tw_and (σ 11 i.toNat) 255)) ∧ (r = fX σ i)
set_option maxHeartbeats 4000000 in
set_option maxRecDepth 100000 in
theorem c_X9_byteAt {G : tw_G} (hX : tw_isX G) (i : Int) (hi : -2147483648 ≤ i ∧ i ≤ 2147483647) (σ : tw_M) (hI : tw_I σ) : tw_C G yX9_byteAt cX9_byteAt 2 (some .int) 0 [vR 10, vI i] σ (q_X9_byteAt i σ) := by
  refine tw_met [(0, vR 10), (1, vI i)] (by decide +kernel) rfl (Nat.le_of_ble_eq_true rfl) ?_
  refine j_iload_n (pc := 0) dX9_byteAt_0 rfl rfl ?_
  refine j_ifR_lt (pc := 1) (tgt := 32) ⟨by omega, by omega⟩ dX9_byteAt_1 rfl (fun h1 => ?_) (fun h1 => ?_)
  · refine j_iconst (pc := 32) dX9_byteAt_32 ?_
    exact j_iret (pc := 33) ⟨rfl, rfl⟩ dX9_byteAt_33 rfl ⟨_, rfl, ⟨by omega, by omega⟩, rfl, by omega, (by have f10 : (0 : Int) ≤ σ 10 10 ∧ σ 10 10 ≤ 400 := hI 10 10; first | exact (fX_no (by omega)).symm | exact Eq.trans (by omega) (fX_at ⟨by omega, by omega⟩).symm)⟩
  · refine j_iload_n (pc := 4) dX9_byteAt_4 rfl rfl ?_
    refine j_aload_n (pc := 5) dX9_byteAt_5 rfl rfl ?_
    refine j_getI (pc := 6) fl_X9_29 dX9_byteAt_6 (a_10 hX) rfl ?_
    have f2 : (0 : Int) ≤ σ 10 10 ∧ σ 10 10 ≤ 400 := hI 10 10
    refine j_icmpR_ge (pc := 9) (tgt := 32) ⟨by omega, by omega⟩ ⟨by omega, by omega⟩ dX9_byteAt_9 rfl (fun h3 => ?_) (fun h3 => ?_)
    · refine j_iconst (pc := 32) dX9_byteAt_32 ?_
      exact j_iret (pc := 33) ⟨rfl, rfl⟩ dX9_byteAt_33 rfl ⟨_, rfl, ⟨by omega, by omega⟩, rfl, by omega, (by have f10 : (0 : Int) ≤ σ 10 10 ∧ σ 10 10 ≤ 400 := hI 10 10; first | exact (fX_no (by omega)).symm | exact Eq.trans (by omega) (fX_at ⟨by omega, by omega⟩).symm)⟩
    · refine j_iload_n (pc := 12) dX9_byteAt_12 rfl rfl ?_
      refine j_sipush (pc := 13) dX9_byteAt_13 rfl ?_
      refine j_icmpR_ge (pc := 16) (tgt := 32) ⟨by omega, by omega⟩ ⟨by omega, by omega⟩ dX9_byteAt_16 rfl (fun h4 => by exfalso; omega) (fun h4 => ?_)
      refine j_aload_n (pc := 19) dX9_byteAt_19 rfl rfl ?_
      refine j_getR (pc := 20) (r := 11) fl_X9_9 dX9_byteAt_20 (a_10 hX) rfl ?_
      refine j_iload_n (pc := 23) dX9_byteAt_23 rfl rfl ?_
      refine j_bald (pc := 24) dX9_byteAt_24 (a_11 hX) (by omega) (by omega) (by decide) ?_
      have f5 : (-128 : Int) ≤ σ 11 (i.toNat) ∧ σ 11 (i.toNat) ≤ 127 := hI 11 (i.toNat)
      refine j_sipush (pc := 25) dX9_byteAt_25 rfl ?_
      refine j_iand (pc := 28) dX9_byteAt_28 (fun z6 ez6 => ?_)
      have hz6 : (-2147483648 : Int) ≤ z6 ∧ z6 ≤ 2147483647 := by rw [ez6]; exact and_in _ _
      have gz6 : (0 : Int) ≤ z6 ∧ z6 ≤ 255 := by rw [ez6]; exact and255
      refine j_goto (pc := 29) (tgt := 33) dX9_byteAt_29 rfl ?_
      exact j_iret (pc := 33) ⟨rfl, rfl⟩ dX9_byteAt_33 rfl ⟨_, rfl, ⟨by omega, by omega⟩, rfl, by omega, (by have f10 : (0 : Int) ≤ σ 10 10 ∧ σ 10 10 ≤ 400 := hI 10 10; first | exact (fX_no (by omega)).symm | exact Eq.trans (by omega) (fX_at ⟨by omega, by omega⟩).symm)⟩
abbrev q_X9_isLetter (s : Int) (σ : tw_M) : Option tw_V → tw_M → Prop := fun z τ => ∃ r : Int, z = some (vI r) ∧ (0 ≤ r ∧ r ≤ 1) ∧ σ = τ ∧ ((r = 1 ∧ 97 ≤ s ∧ s ≤ 122) ∨ (r = 0 ∧ ¬ (97 ≤ s ∧ s ≤ 122)))
set_option maxHeartbeats 4000000 in
set_option maxRecDepth 100000 in
theorem c_X9_isLetter {G : tw_G} (s : Int) (hs : -2147483648 ≤ s ∧ s ≤ 2147483647) (σ : tw_M) (hI : tw_I σ) : tw_C G yX9_isLetter cX9_isLetter 1 (some .boolean) 0 [vI s] σ (q_X9_isLetter s σ) := by
  refine tw_met [(0, vI s)] (by decide +kernel) rfl (Nat.le_of_ble_eq_true rfl) ?_
  refine j_iload_n (pc := 0) dX9_isLetter_0 rfl rfl ?_
  refine j_bipush (pc := 1) dX9_isLetter_1 rfl ?_
  refine j_icmpR_lt (pc := 3) (tgt := 16) ⟨by omega, by omega⟩ ⟨by omega, by omega⟩ dX9_isLetter_3 rfl (fun h1 => ?_) (fun h1 => ?_)
  · refine j_iconst (pc := 16) dX9_isLetter_16 ?_
    exact j_zret (pc := 17) ⟨rfl, rfl⟩ dX9_isLetter_17 rfl (nar_bool (by omega) (by omega)) ⟨_, rfl, ⟨by omega, by omega⟩, rfl, by omega⟩
  · refine j_iload_n (pc := 6) dX9_isLetter_6 rfl rfl ?_
    refine j_bipush (pc := 7) dX9_isLetter_7 rfl ?_
    refine j_icmpR_gt (pc := 9) (tgt := 16) ⟨by omega, by omega⟩ ⟨by omega, by omega⟩ dX9_isLetter_9 rfl (fun h2 => ?_) (fun h2 => ?_)
    · refine j_iconst (pc := 16) dX9_isLetter_16 ?_
      exact j_zret (pc := 17) ⟨rfl, rfl⟩ dX9_isLetter_17 rfl (nar_bool (by omega) (by omega)) ⟨_, rfl, ⟨by omega, by omega⟩, rfl, by omega⟩
    · refine j_iconst (pc := 12) dX9_isLetter_12 ?_
      refine j_goto (pc := 13) (tgt := 17) dX9_isLetter_13 rfl ?_
      exact j_zret (pc := 17) ⟨rfl, rfl⟩ dX9_isLetter_17 rfl (nar_bool (by omega) (by omega)) ⟨_, rfl, ⟨by omega, by omega⟩, rfl, by omega⟩
abbrev q_X9_isFigure (s : Int) (σ : tw_M) : Option tw_V → tw_M → Prop := fun z τ => ∃ r : Int, z = some (vI r) ∧ (0 ≤ r ∧ r ≤ 1) ∧ σ = τ ∧ ((r = 1 ∧ 48 ≤ s ∧ s ≤ 57) ∨ (r = 0 ∧ ¬ (48 ≤ s ∧ s ≤ 57)))
set_option maxHeartbeats 4000000 in
set_option maxRecDepth 100000 in
theorem c_X9_isFigure {G : tw_G} (s : Int) (hs : -2147483648 ≤ s ∧ s ≤ 2147483647) (σ : tw_M) (hI : tw_I σ) : tw_C G yX9_isFigure cX9_isFigure 1 (some .boolean) 0 [vI s] σ (q_X9_isFigure s σ) := by
  refine tw_met [(0, vI s)] (by decide +kernel) rfl (Nat.le_of_ble_eq_true rfl) ?_
  refine j_iload_n (pc := 0) dX9_isFigure_0 rfl rfl ?_
  refine j_bipush (pc := 1) dX9_isFigure_1 rfl ?_
  refine j_icmpR_lt (pc := 3) (tgt := 16) ⟨by omega, by omega⟩ ⟨by omega, by omega⟩ dX9_isFigure_3 rfl (fun h1 => ?_) (fun h1 => ?_)
  · refine j_iconst (pc := 16) dX9_isFigure_16 ?_
    exact j_zret (pc := 17) ⟨rfl, rfl⟩ dX9_isFigure_17 rfl (nar_bool (by omega) (by omega)) ⟨_, rfl, ⟨by omega, by omega⟩, rfl, by omega⟩
  · refine j_iload_n (pc := 6) dX9_isFigure_6 rfl rfl ?_
    refine j_bipush (pc := 7) dX9_isFigure_7 rfl ?_
    refine j_icmpR_gt (pc := 9) (tgt := 16) ⟨by omega, by omega⟩ ⟨by omega, by omega⟩ dX9_isFigure_9 rfl (fun h2 => ?_) (fun h2 => ?_)
    · refine j_iconst (pc := 16) dX9_isFigure_16 ?_
      exact j_zret (pc := 17) ⟨rfl, rfl⟩ dX9_isFigure_17 rfl (nar_bool (by omega) (by omega)) ⟨_, rfl, ⟨by omega, by omega⟩, rfl, by omega⟩
    · refine j_iconst (pc := 12) dX9_isFigure_12 ?_
      refine j_goto (pc := 13) (tgt := 17) dX9_isFigure_13 rfl ?_
      exact j_zret (pc := 17) ⟨rfl, rfl⟩ dX9_isFigure_17 rfl (nar_bool (by omega) (by omega)) ⟨_, rfl, ⟨by omega, by omega⟩, rfl, by omega⟩
abbrev q_X9_readName  (σ : tw_M) : Option tw_V → tw_M → Prop := fun z τ => z = none ∧ tw_I τ ∧ tw_F (fun c j => (c = 10 ∧ (j = 5 ∨ j = 6))) σ τ ∧ (τ 10 6 = 1) ∧ (τ 10 5 = run isL (fX σ) (σ 10 5)) ∧ (¬ σ 10 5 ≤ σ 10 10 ∨ τ 10 5 ≤ σ 10 10)
set_option maxHeartbeats 4000000 in
set_option maxRecDepth 100000 in
theorem l_X9_readName {G : tw_G} (hX : tw_isX G) (σ : tw_M) (hI : tw_I σ) : ∀ N_ : Nat, (∀ (i : Int) (hi : 0 ≤ i ∧ i ≤ 400) (τ : tw_M) (hIτ : tw_I τ) (hFτ : tw_F (fun c j => (c = 10 ∧ (j = 5 ∨ j = 6))) σ τ) (i0 : τ 10 6 = 1) (i1 : τ 10 5 = σ 10 5 + i) (i2 : run isL (fX σ) (τ 10 5) = run isL (fX σ) (σ 10 5)) (i3 : ¬ σ 10 5 ≤ σ 10 10 ∨ τ 10 5 ≤ σ 10 10) (hm : (400 - i).toNat < N_), tw_J G (tw_mt RX9 cX9_readName 2 none 1) (tw_E G (q_X9_readName σ)) 7 [(0, vR 10), (1, vI i)] [] τ) := by
  intro N_
  induction N_ with
  | zero => exact fun i hi τ hIτ hFτ i0 i1 i2 i3 hm => absurd hm (Nat.not_lt_zero _)
  | succ N_ ih =>
    intro i hi τ hIτ hFτ i0 i1 i2 i3 hm
    have fx : fX τ = fX σ := fX_F (hFτ 10 10 (show ¬ ((10 = 10 ∧ (10 = 5 ∨ 10 = 6))) from by omega)) (fun j => hFτ 11 j (show ¬ ((11 = 10 ∧ (j = 5 ∨ j = 6))) from by omega))
    have f10 : (0 : Int) ≤ σ 10 10 ∧ σ 10 10 ≤ 400 := hI 10 10
    have e10 : τ 10 10 = σ 10 10 := hFτ 10 10 (show ¬ ((10 = 10 ∧ (10 = 5 ∨ 10 = 6))) from by omega); have f05 : (0 : Int) ≤ σ 10 5 ∧ σ 10 5 ≤ 400 := hI 10 5; have f15 : (0 : Int) ≤ τ 10 5 ∧ τ 10 5 ≤ 400 := hIτ 10 5
    refine j_iload_n (pc := 7) dX9_readName_7 rfl rfl ?_
    refine j_sipush (pc := 8) dX9_readName_8 rfl ?_
    refine j_icmpR_ge (pc := 11) (tgt := 44) ⟨by omega, by omega⟩ ⟨by omega, by omega⟩ dX9_readName_11 rfl (fun h1 => ?_) (fun h1 => ?_)
    · exact j_vret (pc := 44) ⟨rfl, rfl⟩ dX9_readName_44 rfl ⟨rfl, hIτ, hFτ, by omega, (by rw [show τ 10 5 = τ 10 5 from rfl, ← i2]; exact (run_n (show isL (fX σ (τ 10 5)) = false from decide_eq_false (by first | omega | (rw [fX_no (by omega)]; decide)))).symm), by omega⟩
    · refine j_aload_n (pc := 14) dX9_readName_14 rfl rfl ?_
      refine j_aload_n (pc := 15) dX9_readName_15 rfl rfl ?_
      refine j_getI (pc := 16) fl_X9_69 dX9_readName_16 (a_10 hX) rfl ?_
      have f2 : (0 : Int) ≤ τ 10 5 ∧ τ 10 5 ≤ 400 := hIτ 10 5
      refine j_callV (pc := 19) (As := [vI (τ 10 5)]) (st := []) (c_X9_byteAt hX (τ 10 5) ⟨by omega, by omega⟩ τ hIτ) mv_X9_72 rfl rfl rfl (a_10 hX) dX9_readName_19 ⟨Nat.le_of_ble_eq_true rfl, Nat.le_of_ble_eq_true rfl⟩ ⟨Nat.le_refl _, Nat.le_refl _⟩ rfl (Nat.le_of_ble_eq_true rfl) rfl (fun z3 σ4 hz3 => ?_)
      obtain ⟨r6, rfl, hr6, rfl, q5_0, q5_1⟩ := hz3
      replace q5_0 : (¬ (0 ≤ (τ 10 5) ∧ (τ 10 5) < τ 10 10 ∧ (τ 10 5) < 400) ∧ r6 = -1) ∨ (0 ≤ (τ 10 5) ∧ (τ 10 5) < τ 10 10 ∧ (τ 10 5) < 400 ∧ 0 ≤ r6 ∧ r6 = tw_and (τ 11 (τ 10 5).toNat) 255) := q5_0
      replace q5_1 : r6 = fX τ (τ 10 5) := q5_1
      refine j_st (st' := [vI r6]) rfl ?_
      refine j_callS (pc := 22) (As := [vI r6]) (st := []) (c_X9_isLetter r6 ⟨by omega, by omega⟩ τ hIτ) ms_X9_79 rfl dX9_readName_22 ⟨Nat.le_of_ble_eq_true rfl, Nat.le_of_ble_eq_true rfl⟩ ⟨Nat.le_refl _, Nat.le_refl _⟩ rfl (Nat.le_of_ble_eq_true rfl) rfl (fun z7 σ8 hz7 => ?_)
      obtain ⟨r10, rfl, hr10, rfl, q9_0⟩ := hz7
      replace q9_0 : (r10 = 1 ∧ 97 ≤ r6 ∧ r6 ≤ 122) ∨ (r10 = 0 ∧ ¬ (97 ≤ r6 ∧ r6 ≤ 122)) := q9_0
      refine j_st (st' := [vI r10]) rfl ?_
      have b9 := q5_1; rw [fx] at b9
      refine j_ifR_eq (pc := 25) (tgt := 44) ⟨by omega, by omega⟩ dX9_readName_25 rfl (fun h11 => ?_) (fun h11 => ?_)
      · exact j_vret (pc := 44) ⟨rfl, rfl⟩ dX9_readName_44 rfl ⟨rfl, hIτ, hFτ, by omega, (by rw [show τ 10 5 = τ 10 5 from rfl, ← i2]; exact (run_n (show isL (fX σ (τ 10 5)) = false from decide_eq_false (by first | omega | (rw [fX_no (by omega)]; decide)))).symm), by omega⟩
      · refine j_aload_n (pc := 28) dX9_readName_28 rfl rfl ?_
        refine j_dup (pc := 29) dX9_readName_29 rfl ?_
        refine j_getI (pc := 30) fl_X9_69 dX9_readName_30 (a_10 hX) rfl ?_
        refine j_iconst (pc := 33) dX9_readName_33 ?_
        refine j_iadd (pc := 34) dX9_readName_34 ?_
        refine j_putI (pc := 35) fl_X9_69 fp_X9_5 dX9_readName_35 (a_10 hX) rfl (j_nm (fun σ12 (eσ12 : σ12 = tw_up τ 10 5 ((τ 10 5) + 1)) => ?_))
        have hIσ12 : tw_I σ12 := tw_I_up hIτ eσ12 (show (0 : Int) ≤ (τ 10 5) + 1 ∧ (τ 10 5) + 1 ≤ 400 from ⟨by omega, by omega⟩)
        have hFσ12 : tw_F (fun c j => (c = 10 ∧ (j = 5 ∨ j = 6))) σ σ12 := tw_F_up hFτ eσ12 (show (10 = 10 ∧ (5 = 5 ∨ 5 = 6)) from by omega)
        refine j_iinc (pc := 38) (i := 1) (n := 1) (ls' := [(0, vR 10), (1, vI (i + 1))]) [1, 0] dX9_readName_38 rfl (Nat.le_of_ble_eq_true rfl) rfl rfl ?_
        refine j_goto (pc := 41) (tgt := 7) dX9_readName_41 rfl ?_
        refine j_ls (ls' := [(0, vR 10), (1, vI (i + 1))]) [0, 1] rfl ?_
        have y13 : σ12 10 6 = τ 10 6 := (tw_ne1 eσ12 (by omega))
        have f14 : (0 : Int) ≤ τ 10 6 ∧ τ 10 6 ≤ 3 := hIτ 10 6
        have y15 : σ12 10 5 = (τ 10 5) + 1 := (tw_eq1 eσ12)
        have y16 : σ12 10 5 = (τ 10 5) + 1 := (tw_eq1 eσ12)
        have y17 : σ12 10 5 = (τ 10 5) + 1 := (tw_eq1 eσ12)
        exact ih (i + 1) ⟨by omega, by omega⟩ σ12 hIσ12 hFσ12 (show σ12 10 6 = 1 from by omega) (show σ12 10 5 = σ 10 5 + (i + 1) from by omega) (show run isL (fX σ) (σ12 10 5) = run isL (fX σ) (σ 10 5) from (by rw [(tw_eq1 eσ12)]; first | exact (run_s (show isL (fX σ (τ 10 5)) = true from decide_eq_true (by omega)) (by omega)).symm.trans i2 | rfl)) (show ¬ σ 10 5 ≤ σ 10 10 ∨ σ12 10 5 ≤ σ 10 10 from by omega) (show (400 - (i + 1)).toNat < N_ from by omega)
set_option maxHeartbeats 4000000 in
set_option maxRecDepth 100000 in
theorem c_X9_readName {G : tw_G} (hX : tw_isX G) (σ : tw_M) (hI : tw_I σ) : tw_C G yX9_readName cX9_readName 2 none 1 [vR 10] σ (q_X9_readName σ) := by
  refine tw_met [(0, vR 10)] (by decide +kernel) rfl (Nat.le_of_ble_eq_true rfl) ?_
  refine j_aload_n (pc := 0) dX9_readName_0 rfl rfl ?_
  refine j_iconst (pc := 1) dX9_readName_1 ?_
  refine j_putI (pc := 2) fl_X9_48 fp_X9_6 dX9_readName_2 (a_10 hX) rfl (j_nm (fun σ18 (eσ18 : σ18 = tw_up σ 10 6 1) => ?_))
  have hIσ18 : tw_I σ18 := tw_I_up hI eσ18 (show (0 : Int) ≤ 1 ∧ 1 ≤ 3 from ⟨by omega, by omega⟩)
  have hFσ18 : tw_F (fun c j => (c = 10 ∧ (j = 5 ∨ j = 6))) σ σ18 := tw_F_up (tw_F_rf) eσ18 (show (10 = 10 ∧ (6 = 5 ∨ 6 = 6)) from by omega)
  refine j_iconst (pc := 5) dX9_readName_5 ?_
  refine j_istore_n (pc := 6) (i := 1) (ls' := [(0, vR 10), (1, vI 0)]) [1, 0] dX9_readName_6 rfl (Nat.le_of_ble_eq_true rfl) rfl rfl ?_
  refine j_ls (ls' := [(0, vR 10), (1, vI 0)]) [0, 1] rfl ?_
  have y19 : σ18 10 6 = 1 := (tw_eq1 eσ18)
  have y20 : σ18 10 5 = σ 10 5 := (tw_ne1 eσ18 (by omega))
  have f21 : (0 : Int) ≤ σ 10 5 ∧ σ 10 5 ≤ 400 := hI 10 5
  have y22 : σ18 10 5 = σ 10 5 := (tw_ne1 eσ18 (by omega))
  have y23 : σ18 10 5 = σ 10 5 := (tw_ne1 eσ18 (by omega))
  exact (l_X9_readName hX σ hI (((400 - (0 : Int)).toNat) + 1)) 0 ⟨by omega, by omega⟩ σ18 hIσ18 hFσ18 (show σ18 10 6 = 1 from by omega) (show σ18 10 5 = σ 10 5 + (0 : Int) from by omega) (show run isL (fX σ) (σ18 10 5) = run isL (fX σ) (σ 10 5) from (by rw [(tw_ne1 eσ18 (by omega))]; first | exact (run_s (show isL (fX σ (τ 10 5)) = true from decide_eq_true (by omega)) (by omega)).symm.trans i2 | rfl)) (show ¬ σ 10 5 ≤ σ 10 10 ∨ σ18 10 5 ≤ σ 10 10 from by omega) (Nat.lt_succ_self _)
abbrev q_X9_readNumber  (σ : tw_M) : Option tw_V → tw_M → Prop := fun z τ => z = none ∧ tw_I τ ∧ tw_F (fun c j => (c = 10 ∧ (j = 5 ∨ j = 6 ∨ j = 8 ∨ j = 11 ∨ j = 12))) σ τ ∧ (τ 10 6 = 2) ∧ (τ 10 5 = run isG (fX σ) (σ 10 5)) ∧ (τ 10 8 = nv (fX σ) (σ 10 5) (τ 10 5 - σ 10 5).toNat) ∧ ((τ 10 5 - σ 10 7 ≤ 3 ∧ τ 10 11 = σ 10 11 ∧ τ 10 12 = σ 10 12) ∨ (3 < τ 10 5 - σ 10 7 ∧ σ 10 11 = 0 ∧ τ 10 11 = 1 ∧ τ 10 12 = σ 10 7) ∨ (3 < τ 10 5 - σ 10 7 ∧ ¬ σ 10 11 = 0 ∧ τ 10 11 = σ 10 11 ∧ τ 10 12 = σ 10 12)) ∧ (¬ σ 10 5 ≤ σ 10 10 ∨ τ 10 5 ≤ σ 10 10)
set_option maxHeartbeats 4000000 in
set_option maxRecDepth 100000 in
theorem l_X9_readNumber {G : tw_G} (hX : tw_isX G) (σ : tw_M) (hI : tw_I σ) : ∀ N_ : Nat, (∀ (i : Int) (hi : 0 ≤ i ∧ i ≤ 400) (τ : tw_M) (hIτ : tw_I τ) (hFτ : tw_F (fun c j => (c = 10 ∧ (j = 5 ∨ j = 6 ∨ j = 8 ∨ j = 11 ∨ j = 12))) σ τ) (i0 : (i = 0 ∧ τ 10 8 = 0) ∨ (i = 1 ∧ τ 10 8 ≤ 9) ∨ (i = 2 ∧ τ 10 8 ≤ 99) ∨ (3 ≤ i ∧ τ 10 8 ≤ 999)) (i1 : τ 10 6 = 2) (i2 : τ 10 5 = σ 10 5 + i) (i3 : run isG (fX σ) (τ 10 5) = run isG (fX σ) (σ 10 5)) (i4 : ¬ σ 10 5 ≤ σ 10 10 ∨ τ 10 5 ≤ σ 10 10) (i5 : τ 10 8 = nv (fX σ) (σ 10 5) i.toNat) (i6 : τ 10 11 = σ 10 11) (i7 : τ 10 12 = σ 10 12) (i8 : τ 10 7 = σ 10 7) (hm : (400 - i).toNat < N_), tw_J G (tw_mt RX9 cX9_readNumber 2 none 1) (tw_E G (q_X9_readNumber σ)) 12 [(0, vR 10), (1, vI i)] [] τ) := by
  intro N_
  induction N_ with
  | zero => exact fun i hi τ hIτ hFτ i0 i1 i2 i3 i4 i5 i6 i7 i8 hm => absurd hm (Nat.not_lt_zero _)
  | succ N_ ih =>
    intro i hi τ hIτ hFτ i0 i1 i2 i3 i4 i5 i6 i7 i8 hm
    have fx : fX τ = fX σ := fX_F (hFτ 10 10 (show ¬ ((10 = 10 ∧ (10 = 5 ∨ 10 = 6 ∨ 10 = 8 ∨ 10 = 11 ∨ 10 = 12))) from by omega)) (fun j => hFτ 11 j (show ¬ ((11 = 10 ∧ (j = 5 ∨ j = 6 ∨ j = 8 ∨ j = 11 ∨ j = 12))) from by omega))
    have f10 : (0 : Int) ≤ σ 10 10 ∧ σ 10 10 ≤ 400 := hI 10 10
    have e10 : τ 10 10 = σ 10 10 := hFτ 10 10 (show ¬ ((10 = 10 ∧ (10 = 5 ∨ 10 = 6 ∨ 10 = 8 ∨ 10 = 11 ∨ 10 = 12))) from by omega); have f05 : (0 : Int) ≤ σ 10 5 ∧ σ 10 5 ≤ 400 := hI 10 5; have f15 : (0 : Int) ≤ τ 10 5 ∧ τ 10 5 ≤ 400 := hIτ 10 5
    refine j_iload_n (pc := 12) dX9_readNumber_12 rfl rfl ?_
    refine j_sipush (pc := 13) dX9_readNumber_13 rfl ?_
    refine j_icmpR_ge (pc := 16) (tgt := 77) ⟨by omega, by omega⟩ ⟨by omega, by omega⟩ dX9_readNumber_16 rfl (fun h1 => ?_) (fun h1 => ?_)
    · refine j_aload_n (pc := 77) dX9_readNumber_77 rfl rfl ?_
      refine j_getI (pc := 78) fl_X9_69 dX9_readNumber_78 (a_10 hX) rfl ?_
      have f2 : (0 : Int) ≤ τ 10 5 ∧ τ 10 5 ≤ 400 := hIτ 10 5
      refine j_aload_n (pc := 81) dX9_readNumber_81 rfl rfl ?_
      refine j_getI (pc := 82) fl_X9_76 dX9_readNumber_82 (a_10 hX) rfl ?_
      have f3 : (0 : Int) ≤ τ 10 7 ∧ τ 10 7 ≤ 400 := hIτ 10 7
      refine j_isub (pc := 85) dX9_readNumber_85 ?_
      refine j_iconst (pc := 86) dX9_readNumber_86 ?_
      refine j_icmpR_le (pc := 87) (tgt := 99) ⟨by omega, by omega⟩ ⟨by omega, by omega⟩ dX9_readNumber_87 rfl (fun h4 => ?_) (fun h4 => ?_)
      · exact j_vret (pc := 99) ⟨rfl, rfl⟩ dX9_readNumber_99 rfl ⟨rfl, hIτ, hFτ, by omega, (by rw [show τ 10 5 = τ 10 5 from rfl, ← i3]; exact (run_n (show isG (fX σ (τ 10 5)) = false from decide_eq_false (by first | omega | (rw [fX_no (by omega)]; decide)))).symm), (by rw [show τ 10 8 = τ 10 8 from rfl, show τ 10 5 = τ 10 5 from rfl, i5, show (τ 10 5 - σ 10 5).toNat = i.toNat from by omega]), by omega, by omega⟩
      · refine j_aload_n (pc := 90) dX9_readNumber_90 rfl rfl ?_
        refine j_iconst (pc := 91) dX9_readNumber_91 ?_
        refine j_aload_n (pc := 92) dX9_readNumber_92 rfl rfl ?_
        refine j_getI (pc := 93) fl_X9_76 dX9_readNumber_93 (a_10 hX) rfl ?_
        refine j_callV (pc := 96) (As := [vI 1, vI (τ 10 7)]) (st := []) (c_X9_fail hX 1 ⟨by omega, by omega⟩ (τ 10 7) ⟨by omega, by omega⟩ τ hIτ) mv_X9_61 rfl rfl rfl (a_10 hX) dX9_readNumber_96 ⟨Nat.le_of_ble_eq_true rfl, Nat.le_of_ble_eq_true rfl⟩ ⟨Nat.le_refl _, Nat.le_refl _⟩ rfl (Nat.le_of_ble_eq_true rfl) rfl (fun z5 σ6 hz5 => ?_)
        obtain ⟨rfl, hIσ6, hGσ6, q7_0⟩ := hz5
        replace q7_0 : (τ 10 11 = 0 ∧ σ6 10 11 = (1 : Int) ∧ σ6 10 12 = (τ 10 7)) ∨ (¬ τ 10 11 = 0 ∧ σ6 10 11 = τ 10 11 ∧ σ6 10 12 = τ 10 12) := q7_0
        have hFσ6 : tw_F (fun c j => (c = 10 ∧ (j = 5 ∨ j = 6 ∨ j = 8 ∨ j = 11 ∨ j = 12))) σ σ6 := tw_F_tr hFτ hGσ6 (fun c j q => (show (c = 10 ∧ (j = 5 ∨ j = 6 ∨ j = 8 ∨ j = 11 ∨ j = 12)) from by replace q : (c = 10 ∧ (j = 11 ∨ j = 12)) := q; omega))
        refine j_st (st' := []) rfl ?_
        have y9 : σ6 10 6 = τ 10 6 := (hGσ6 10 6 (show ¬ ((10 = 10 ∧ (6 = 11 ∨ 6 = 12))) from by omega))
        have f10 : (0 : Int) ≤ τ 10 6 ∧ τ 10 6 ≤ 3 := hIτ 10 6
        have y11 : σ6 10 5 = τ 10 5 := (hGσ6 10 5 (show ¬ ((10 = 10 ∧ (5 = 11 ∨ 5 = 12))) from by omega))
        have y12 : σ6 10 8 = τ 10 8 := (hGσ6 10 8 (show ¬ ((10 = 10 ∧ (8 = 11 ∨ 8 = 12))) from by omega))
        have f13 : (0 : Int) ≤ τ 10 8 ∧ τ 10 8 ≤ 999 := hIτ 10 8
        have y14 : σ6 10 5 = τ 10 5 := (hGσ6 10 5 (show ¬ ((10 = 10 ∧ (5 = 11 ∨ 5 = 12))) from by omega))
        have y15 : σ6 10 5 = τ 10 5 := (hGσ6 10 5 (show ¬ ((10 = 10 ∧ (5 = 11 ∨ 5 = 12))) from by omega))
        have y16 : σ6 10 5 = τ 10 5 := (hGσ6 10 5 (show ¬ ((10 = 10 ∧ (5 = 11 ∨ 5 = 12))) from by omega))
        exact j_vret (pc := 99) ⟨rfl, rfl⟩ dX9_readNumber_99 rfl ⟨rfl, hIσ6, hFσ6, by omega, (by rw [show σ6 10 5 = τ 10 5 from (hGσ6 10 5 (show ¬ ((10 = 10 ∧ (5 = 11 ∨ 5 = 12))) from by omega)), ← i3]; exact (run_n (show isG (fX σ (τ 10 5)) = false from decide_eq_false (by first | omega | (rw [fX_no (by omega)]; decide)))).symm), (by rw [show σ6 10 8 = τ 10 8 from (hGσ6 10 8 (show ¬ ((10 = 10 ∧ (8 = 11 ∨ 8 = 12))) from by omega)), show σ6 10 5 = τ 10 5 from (hGσ6 10 5 (show ¬ ((10 = 10 ∧ (5 = 11 ∨ 5 = 12))) from by omega)), i5, show (τ 10 5 - σ 10 5).toNat = i.toNat from by omega]), by omega, by omega⟩
    · refine j_aload_n (pc := 19) dX9_readNumber_19 rfl rfl ?_
      refine j_aload_n (pc := 20) dX9_readNumber_20 rfl rfl ?_
      refine j_getI (pc := 21) fl_X9_69 dX9_readNumber_21 (a_10 hX) rfl ?_
      have f17 : (0 : Int) ≤ τ 10 5 ∧ τ 10 5 ≤ 400 := hIτ 10 5
      refine j_callV (pc := 24) (As := [vI (τ 10 5)]) (st := []) (c_X9_byteAt hX (τ 10 5) ⟨by omega, by omega⟩ τ hIτ) mv_X9_72 rfl rfl rfl (a_10 hX) dX9_readNumber_24 ⟨Nat.le_of_ble_eq_true rfl, Nat.le_of_ble_eq_true rfl⟩ ⟨Nat.le_refl _, Nat.le_refl _⟩ rfl (Nat.le_of_ble_eq_true rfl) rfl (fun z18 σ19 hz18 => ?_)
      obtain ⟨r21, rfl, hr21, rfl, q20_0, q20_1⟩ := hz18
      replace q20_0 : (¬ (0 ≤ (τ 10 5) ∧ (τ 10 5) < τ 10 10 ∧ (τ 10 5) < 400) ∧ r21 = -1) ∨ (0 ≤ (τ 10 5) ∧ (τ 10 5) < τ 10 10 ∧ (τ 10 5) < 400 ∧ 0 ≤ r21 ∧ r21 = tw_and (τ 11 (τ 10 5).toNat) 255) := q20_0
      replace q20_1 : r21 = fX τ (τ 10 5) := q20_1
      refine j_st (st' := [vI r21]) rfl ?_
      refine j_callS (pc := 27) (As := [vI r21]) (st := []) (c_X9_isFigure r21 ⟨by omega, by omega⟩ τ hIτ) ms_X9_86 rfl dX9_readNumber_27 ⟨Nat.le_of_ble_eq_true rfl, Nat.le_of_ble_eq_true rfl⟩ ⟨Nat.le_refl _, Nat.le_refl _⟩ rfl (Nat.le_of_ble_eq_true rfl) rfl (fun z22 σ23 hz22 => ?_)
      obtain ⟨r25, rfl, hr25, rfl, q24_0⟩ := hz22
      replace q24_0 : (r25 = 1 ∧ 48 ≤ r21 ∧ r21 ≤ 57) ∨ (r25 = 0 ∧ ¬ (48 ≤ r21 ∧ r21 ≤ 57)) := q24_0
      refine j_st (st' := [vI r25]) rfl ?_
      have b9 := q20_1; rw [fx] at b9
      refine j_ifR_eq (pc := 30) (tgt := 77) ⟨by omega, by omega⟩ dX9_readNumber_30 rfl (fun h26 => ?_) (fun h26 => ?_)
      · refine j_aload_n (pc := 77) dX9_readNumber_77 rfl rfl ?_
        refine j_getI (pc := 78) fl_X9_69 dX9_readNumber_78 (a_10 hX) rfl ?_
        refine j_aload_n (pc := 81) dX9_readNumber_81 rfl rfl ?_
        refine j_getI (pc := 82) fl_X9_76 dX9_readNumber_82 (a_10 hX) rfl ?_
        have f27 : (0 : Int) ≤ τ 10 7 ∧ τ 10 7 ≤ 400 := hIτ 10 7
        refine j_isub (pc := 85) dX9_readNumber_85 ?_
        refine j_iconst (pc := 86) dX9_readNumber_86 ?_
        refine j_icmpR_le (pc := 87) (tgt := 99) ⟨by omega, by omega⟩ ⟨by omega, by omega⟩ dX9_readNumber_87 rfl (fun h28 => ?_) (fun h28 => ?_)
        · exact j_vret (pc := 99) ⟨rfl, rfl⟩ dX9_readNumber_99 rfl ⟨rfl, hIτ, hFτ, by omega, (by rw [show τ 10 5 = τ 10 5 from rfl, ← i3]; exact (run_n (show isG (fX σ (τ 10 5)) = false from decide_eq_false (by first | omega | (rw [fX_no (by omega)]; decide)))).symm), (by rw [show τ 10 8 = τ 10 8 from rfl, show τ 10 5 = τ 10 5 from rfl, i5, show (τ 10 5 - σ 10 5).toNat = i.toNat from by omega]), by omega, by omega⟩
        · refine j_aload_n (pc := 90) dX9_readNumber_90 rfl rfl ?_
          refine j_iconst (pc := 91) dX9_readNumber_91 ?_
          refine j_aload_n (pc := 92) dX9_readNumber_92 rfl rfl ?_
          refine j_getI (pc := 93) fl_X9_76 dX9_readNumber_93 (a_10 hX) rfl ?_
          refine j_callV (pc := 96) (As := [vI 1, vI (τ 10 7)]) (st := []) (c_X9_fail hX 1 ⟨by omega, by omega⟩ (τ 10 7) ⟨by omega, by omega⟩ τ hIτ) mv_X9_61 rfl rfl rfl (a_10 hX) dX9_readNumber_96 ⟨Nat.le_of_ble_eq_true rfl, Nat.le_of_ble_eq_true rfl⟩ ⟨Nat.le_refl _, Nat.le_refl _⟩ rfl (Nat.le_of_ble_eq_true rfl) rfl (fun z29 σ30 hz29 => ?_)
          obtain ⟨rfl, hIσ30, hGσ30, q31_0⟩ := hz29
          replace q31_0 : (τ 10 11 = 0 ∧ σ30 10 11 = (1 : Int) ∧ σ30 10 12 = (τ 10 7)) ∨ (¬ τ 10 11 = 0 ∧ σ30 10 11 = τ 10 11 ∧ σ30 10 12 = τ 10 12) := q31_0
          have hFσ30 : tw_F (fun c j => (c = 10 ∧ (j = 5 ∨ j = 6 ∨ j = 8 ∨ j = 11 ∨ j = 12))) σ σ30 := tw_F_tr hFτ hGσ30 (fun c j q => (show (c = 10 ∧ (j = 5 ∨ j = 6 ∨ j = 8 ∨ j = 11 ∨ j = 12)) from by replace q : (c = 10 ∧ (j = 11 ∨ j = 12)) := q; omega))
          refine j_st (st' := []) rfl ?_
          have y33 : σ30 10 6 = τ 10 6 := (hGσ30 10 6 (show ¬ ((10 = 10 ∧ (6 = 11 ∨ 6 = 12))) from by omega))
          have f34 : (0 : Int) ≤ τ 10 6 ∧ τ 10 6 ≤ 3 := hIτ 10 6
          have y35 : σ30 10 5 = τ 10 5 := (hGσ30 10 5 (show ¬ ((10 = 10 ∧ (5 = 11 ∨ 5 = 12))) from by omega))
          have y36 : σ30 10 8 = τ 10 8 := (hGσ30 10 8 (show ¬ ((10 = 10 ∧ (8 = 11 ∨ 8 = 12))) from by omega))
          have f37 : (0 : Int) ≤ τ 10 8 ∧ τ 10 8 ≤ 999 := hIτ 10 8
          have y38 : σ30 10 5 = τ 10 5 := (hGσ30 10 5 (show ¬ ((10 = 10 ∧ (5 = 11 ∨ 5 = 12))) from by omega))
          have y39 : σ30 10 5 = τ 10 5 := (hGσ30 10 5 (show ¬ ((10 = 10 ∧ (5 = 11 ∨ 5 = 12))) from by omega))
          have y40 : σ30 10 5 = τ 10 5 := (hGσ30 10 5 (show ¬ ((10 = 10 ∧ (5 = 11 ∨ 5 = 12))) from by omega))
          exact j_vret (pc := 99) ⟨rfl, rfl⟩ dX9_readNumber_99 rfl ⟨rfl, hIσ30, hFσ30, by omega, (by rw [show σ30 10 5 = τ 10 5 from (hGσ30 10 5 (show ¬ ((10 = 10 ∧ (5 = 11 ∨ 5 = 12))) from by omega)), ← i3]; exact (run_n (show isG (fX σ (τ 10 5)) = false from decide_eq_false (by first | omega | (rw [fX_no (by omega)]; decide)))).symm), (by rw [show σ30 10 8 = τ 10 8 from (hGσ30 10 8 (show ¬ ((10 = 10 ∧ (8 = 11 ∨ 8 = 12))) from by omega)), show σ30 10 5 = τ 10 5 from (hGσ30 10 5 (show ¬ ((10 = 10 ∧ (5 = 11 ∨ 5 = 12))) from by omega)), i5, show (τ 10 5 - σ 10 5).toNat = i.toNat from by omega]), by omega, by omega⟩
      · refine j_iload_n (pc := 33) dX9_readNumber_33 rfl rfl ?_
        refine j_iconst (pc := 34) dX9_readNumber_34 ?_
        refine j_icmpR_ge (pc := 35) (tgt := 61) ⟨by omega, by omega⟩ ⟨by omega, by omega⟩ dX9_readNumber_35 rfl (fun h41 => ?_) (fun h41 => ?_)
        · refine j_aload_n (pc := 61) dX9_readNumber_61 rfl rfl ?_
          refine j_dup (pc := 62) dX9_readNumber_62 rfl ?_
          refine j_getI (pc := 63) fl_X9_69 dX9_readNumber_63 (a_10 hX) rfl ?_
          refine j_iconst (pc := 66) dX9_readNumber_66 ?_
          refine j_iadd (pc := 67) dX9_readNumber_67 ?_
          refine j_putI (pc := 68) fl_X9_69 fp_X9_5 dX9_readNumber_68 (a_10 hX) rfl (j_nm (fun σ42 (eσ42 : σ42 = tw_up τ 10 5 ((τ 10 5) + 1)) => ?_))
          have hIσ42 : tw_I σ42 := tw_I_up hIτ eσ42 (show (0 : Int) ≤ (τ 10 5) + 1 ∧ (τ 10 5) + 1 ≤ 400 from ⟨by omega, by omega⟩)
          have hFσ42 : tw_F (fun c j => (c = 10 ∧ (j = 5 ∨ j = 6 ∨ j = 8 ∨ j = 11 ∨ j = 12))) σ σ42 := tw_F_up hFτ eσ42 (show (10 = 10 ∧ (5 = 5 ∨ 5 = 6 ∨ 5 = 8 ∨ 5 = 11 ∨ 5 = 12)) from by omega)
          refine j_iinc (pc := 71) (i := 1) (n := 1) (ls' := [(0, vR 10), (1, vI (i + 1))]) [1, 0] dX9_readNumber_71 rfl (Nat.le_of_ble_eq_true rfl) rfl rfl ?_
          refine j_goto (pc := 74) (tgt := 12) dX9_readNumber_74 rfl ?_
          refine j_ls (ls' := [(0, vR 10), (1, vI (i + 1))]) [0, 1] rfl ?_
          have y43 : σ42 10 8 = τ 10 8 := (tw_ne1 eσ42 (by omega))
          have f44 : (0 : Int) ≤ τ 10 8 ∧ τ 10 8 ≤ 999 := hIτ 10 8
          have y45 : σ42 10 6 = τ 10 6 := (tw_ne1 eσ42 (by omega))
          have f46 : (0 : Int) ≤ τ 10 6 ∧ τ 10 6 ≤ 3 := hIτ 10 6
          have y47 : σ42 10 5 = (τ 10 5) + 1 := (tw_eq1 eσ42)
          have y48 : σ42 10 5 = (τ 10 5) + 1 := (tw_eq1 eσ42)
          have y49 : σ42 10 5 = (τ 10 5) + 1 := (tw_eq1 eσ42)
          have y50 : σ42 10 8 = τ 10 8 := (tw_ne1 eσ42 (by omega))
          have y51 : σ42 10 11 = τ 10 11 := (tw_ne1 eσ42 (by omega))
          have f52 : (0 : Int) ≤ τ 10 11 ∧ τ 10 11 ≤ 5 := hIτ 10 11
          have y53 : σ42 10 12 = τ 10 12 := (tw_ne1 eσ42 (by omega))
          have f54 : (0 : Int) ≤ τ 10 12 ∧ τ 10 12 ≤ 400 := hIτ 10 12
          have y55 : σ42 10 7 = τ 10 7 := (tw_ne1 eσ42 (by omega))
          have f56 : (0 : Int) ≤ τ 10 7 ∧ τ 10 7 ≤ 400 := hIτ 10 7
          exact ih (i + 1) ⟨by omega, by omega⟩ σ42 hIσ42 hFσ42 (show ((i + 1) = 0 ∧ σ42 10 8 = 0) ∨ ((i + 1) = 1 ∧ σ42 10 8 ≤ 9) ∨ ((i + 1) = 2 ∧ σ42 10 8 ≤ 99) ∨ (3 ≤ (i + 1) ∧ σ42 10 8 ≤ 999) from by omega) (show σ42 10 6 = 2 from by omega) (show σ42 10 5 = σ 10 5 + (i + 1) from by omega) (show run isG (fX σ) (σ42 10 5) = run isG (fX σ) (σ 10 5) from (by rw [(tw_eq1 eσ42)]; first | exact (run_s (show isG (fX σ (τ 10 5)) = true from decide_eq_true (by omega)) (by omega)).symm.trans i3 | rfl)) (show ¬ σ 10 5 ≤ σ 10 10 ∨ σ42 10 5 ≤ σ 10 10 from by omega) (show σ42 10 8 = nv (fX σ) (σ 10 5) (i + 1).toNat from (by rw [(tw_ne1 eσ42 (by omega))]; first | rfl | (rw [nv_lt ⟨by omega, by omega⟩, show σ 10 5 + i = τ 10 5 from by omega]; omega) | (rw [nv_ge (by omega)]; exact i5))) (show σ42 10 11 = σ 10 11 from by omega) (show σ42 10 12 = σ 10 12 from by omega) (show σ42 10 7 = σ 10 7 from by omega) (show (400 - (i + 1)).toNat < N_ from by omega)
        · refine j_aload_n (pc := 38) dX9_readNumber_38 rfl rfl ?_
          refine j_bipush (pc := 39) dX9_readNumber_39 rfl ?_
          refine j_aload_n (pc := 41) dX9_readNumber_41 rfl rfl ?_
          refine j_getI (pc := 42) fl_X9_95 dX9_readNumber_42 (a_10 hX) rfl ?_
          have f57 : (0 : Int) ≤ τ 10 8 ∧ τ 10 8 ≤ 999 := hIτ 10 8
          refine j_imul (pc := 45) dX9_readNumber_45 ?_
          refine j_aload_n (pc := 46) dX9_readNumber_46 rfl rfl ?_
          refine j_aload_n (pc := 47) dX9_readNumber_47 rfl rfl ?_
          refine j_getI (pc := 48) fl_X9_69 dX9_readNumber_48 (a_10 hX) rfl ?_
          refine j_callV (pc := 51) (As := [vI (τ 10 5)]) (st := [vI (10 * (τ 10 8)), vR 10]) (c_X9_byteAt hX (τ 10 5) ⟨by omega, by omega⟩ τ hIτ) mv_X9_72 rfl rfl rfl (a_10 hX) dX9_readNumber_51 ⟨Nat.le_of_ble_eq_true rfl, Nat.le_of_ble_eq_true rfl⟩ ⟨Nat.le_refl _, Nat.le_refl _⟩ rfl (Nat.le_of_ble_eq_true rfl) rfl (fun z58 σ59 hz58 => ?_)
          obtain ⟨r61, rfl, hr61, rfl, q60_0, q60_1⟩ := hz58
          replace q60_0 : (¬ (0 ≤ (τ 10 5) ∧ (τ 10 5) < τ 10 10 ∧ (τ 10 5) < 400) ∧ r61 = -1) ∨ (0 ≤ (τ 10 5) ∧ (τ 10 5) < τ 10 10 ∧ (τ 10 5) < 400 ∧ 0 ≤ r61 ∧ r61 = tw_and (τ 11 (τ 10 5).toNat) 255) := q60_0
          replace q60_1 : r61 = fX τ (τ 10 5) := q60_1
          refine j_st (st' := [vI r61, vI (10 * (τ 10 8)), vR 10]) rfl ?_
          have b8 := q60_1; rw [fx] at b8
          refine j_iadd (pc := 54) dX9_readNumber_54 ?_
          refine j_bipush (pc := 55) dX9_readNumber_55 rfl ?_
          refine j_isub (pc := 57) dX9_readNumber_57 ?_
          refine j_putI (pc := 58) fl_X9_95 fp_X9_8 dX9_readNumber_58 (a_10 hX) rfl (j_nm (fun σ62 (eσ62 : σ62 = tw_up τ 10 8 (((10 * (τ 10 8)) + r61) - 48)) => ?_))
          have hIσ62 : tw_I σ62 := tw_I_up hIτ eσ62 (show (0 : Int) ≤ ((10 * (τ 10 8)) + r61) - 48 ∧ ((10 * (τ 10 8)) + r61) - 48 ≤ 999 from ⟨by omega, by omega⟩)
          have hFσ62 : tw_F (fun c j => (c = 10 ∧ (j = 5 ∨ j = 6 ∨ j = 8 ∨ j = 11 ∨ j = 12))) σ σ62 := tw_F_up hFτ eσ62 (show (10 = 10 ∧ (8 = 5 ∨ 8 = 6 ∨ 8 = 8 ∨ 8 = 11 ∨ 8 = 12)) from by omega)
          refine j_aload_n (pc := 61) dX9_readNumber_61 rfl rfl ?_
          refine j_dup (pc := 62) dX9_readNumber_62 rfl ?_
          refine j_getI (pc := 63) fl_X9_69 dX9_readNumber_63 (a_10 hX) rfl ?_
          refine j_topV (show σ62 10 5 = τ 10 5 from (tw_ne1 eσ62 (by omega))) ?_
          refine j_iconst (pc := 66) dX9_readNumber_66 ?_
          refine j_iadd (pc := 67) dX9_readNumber_67 ?_
          refine j_putI (pc := 68) fl_X9_69 fp_X9_5 dX9_readNumber_68 (a_10 hX) rfl (j_nm (fun σ63 (eσ63 : σ63 = tw_up σ62 10 5 ((τ 10 5) + 1)) => ?_))
          have hIσ63 : tw_I σ63 := tw_I_up hIσ62 eσ63 (show (0 : Int) ≤ (τ 10 5) + 1 ∧ (τ 10 5) + 1 ≤ 400 from ⟨by omega, by omega⟩)
          have hFσ63 : tw_F (fun c j => (c = 10 ∧ (j = 5 ∨ j = 6 ∨ j = 8 ∨ j = 11 ∨ j = 12))) σ σ63 := tw_F_up hFσ62 eσ63 (show (10 = 10 ∧ (5 = 5 ∨ 5 = 6 ∨ 5 = 8 ∨ 5 = 11 ∨ 5 = 12)) from by omega)
          refine j_iinc (pc := 71) (i := 1) (n := 1) (ls' := [(0, vR 10), (1, vI (i + 1))]) [1, 0] dX9_readNumber_71 rfl (Nat.le_of_ble_eq_true rfl) rfl rfl ?_
          refine j_goto (pc := 74) (tgt := 12) dX9_readNumber_74 rfl ?_
          refine j_ls (ls' := [(0, vR 10), (1, vI (i + 1))]) [0, 1] rfl ?_
          have y64 : σ63 10 8 = ((10 * (τ 10 8)) + r61) - 48 := ((tw_ne1 eσ63 (by omega))).trans (tw_eq1 eσ62)
          have y65 : σ63 10 6 = τ 10 6 := ((tw_ne1 eσ63 (by omega))).trans (tw_ne1 eσ62 (by omega))
          have f66 : (0 : Int) ≤ τ 10 6 ∧ τ 10 6 ≤ 3 := hIτ 10 6
          have y67 : σ63 10 5 = (τ 10 5) + 1 := (tw_eq1 eσ63)
          have y68 : σ63 10 5 = (τ 10 5) + 1 := (tw_eq1 eσ63)
          have y69 : σ63 10 5 = (τ 10 5) + 1 := (tw_eq1 eσ63)
          have y70 : σ63 10 8 = ((10 * (τ 10 8)) + r61) - 48 := ((tw_ne1 eσ63 (by omega))).trans (tw_eq1 eσ62)
          have y71 : σ63 10 11 = τ 10 11 := ((tw_ne1 eσ63 (by omega))).trans (tw_ne1 eσ62 (by omega))
          have f72 : (0 : Int) ≤ τ 10 11 ∧ τ 10 11 ≤ 5 := hIτ 10 11
          have y73 : σ63 10 12 = τ 10 12 := ((tw_ne1 eσ63 (by omega))).trans (tw_ne1 eσ62 (by omega))
          have f74 : (0 : Int) ≤ τ 10 12 ∧ τ 10 12 ≤ 400 := hIτ 10 12
          have y75 : σ63 10 7 = τ 10 7 := ((tw_ne1 eσ63 (by omega))).trans (tw_ne1 eσ62 (by omega))
          have f76 : (0 : Int) ≤ τ 10 7 ∧ τ 10 7 ≤ 400 := hIτ 10 7
          exact ih (i + 1) ⟨by omega, by omega⟩ σ63 hIσ63 hFσ63 (show ((i + 1) = 0 ∧ σ63 10 8 = 0) ∨ ((i + 1) = 1 ∧ σ63 10 8 ≤ 9) ∨ ((i + 1) = 2 ∧ σ63 10 8 ≤ 99) ∨ (3 ≤ (i + 1) ∧ σ63 10 8 ≤ 999) from by omega) (show σ63 10 6 = 2 from by omega) (show σ63 10 5 = σ 10 5 + (i + 1) from by omega) (show run isG (fX σ) (σ63 10 5) = run isG (fX σ) (σ 10 5) from (by rw [(tw_eq1 eσ63)]; first | exact (run_s (show isG (fX σ (τ 10 5)) = true from decide_eq_true (by omega)) (by omega)).symm.trans i3 | rfl)) (show ¬ σ 10 5 ≤ σ 10 10 ∨ σ63 10 5 ≤ σ 10 10 from by omega) (show σ63 10 8 = nv (fX σ) (σ 10 5) (i + 1).toNat from (by rw [((tw_ne1 eσ63 (by omega))).trans (tw_eq1 eσ62)]; first | rfl | (rw [nv_lt ⟨by omega, by omega⟩, show σ 10 5 + i = τ 10 5 from by omega]; omega) | (rw [nv_ge (by omega)]; exact i5))) (show σ63 10 11 = σ 10 11 from by omega) (show σ63 10 12 = σ 10 12 from by omega) (show σ63 10 7 = σ 10 7 from by omega) (show (400 - (i + 1)).toNat < N_ from by omega)
set_option maxHeartbeats 4000000 in
set_option maxRecDepth 100000 in
theorem c_X9_readNumber {G : tw_G} (hX : tw_isX G) (σ : tw_M) (hI : tw_I σ) : tw_C G yX9_readNumber cX9_readNumber 2 none 1 [vR 10] σ (q_X9_readNumber σ) := by
  refine tw_met [(0, vR 10)] (by decide +kernel) rfl (Nat.le_of_ble_eq_true rfl) ?_
  refine j_aload_n (pc := 0) dX9_readNumber_0 rfl rfl ?_
  refine j_iconst (pc := 1) dX9_readNumber_1 ?_
  refine j_putI (pc := 2) fl_X9_48 fp_X9_6 dX9_readNumber_2 (a_10 hX) rfl (j_nm (fun σ77 (eσ77 : σ77 = tw_up σ 10 6 2) => ?_))
  have hIσ77 : tw_I σ77 := tw_I_up hI eσ77 (show (0 : Int) ≤ 2 ∧ 2 ≤ 3 from ⟨by omega, by omega⟩)
  have hFσ77 : tw_F (fun c j => (c = 10 ∧ (j = 5 ∨ j = 6 ∨ j = 8 ∨ j = 11 ∨ j = 12))) σ σ77 := tw_F_up (tw_F_rf) eσ77 (show (10 = 10 ∧ (6 = 5 ∨ 6 = 6 ∨ 6 = 8 ∨ 6 = 11 ∨ 6 = 12)) from by omega)
  refine j_aload_n (pc := 5) dX9_readNumber_5 rfl rfl ?_
  refine j_iconst (pc := 6) dX9_readNumber_6 ?_
  refine j_putI (pc := 7) fl_X9_95 fp_X9_8 dX9_readNumber_7 (a_10 hX) rfl (j_nm (fun σ78 (eσ78 : σ78 = tw_up σ77 10 8 0) => ?_))
  have hIσ78 : tw_I σ78 := tw_I_up hIσ77 eσ78 (show (0 : Int) ≤ 0 ∧ 0 ≤ 999 from ⟨by omega, by omega⟩)
  have hFσ78 : tw_F (fun c j => (c = 10 ∧ (j = 5 ∨ j = 6 ∨ j = 8 ∨ j = 11 ∨ j = 12))) σ σ78 := tw_F_up hFσ77 eσ78 (show (10 = 10 ∧ (8 = 5 ∨ 8 = 6 ∨ 8 = 8 ∨ 8 = 11 ∨ 8 = 12)) from by omega)
  refine j_iconst (pc := 10) dX9_readNumber_10 ?_
  refine j_istore_n (pc := 11) (i := 1) (ls' := [(0, vR 10), (1, vI 0)]) [1, 0] dX9_readNumber_11 rfl (Nat.le_of_ble_eq_true rfl) rfl rfl ?_
  refine j_ls (ls' := [(0, vR 10), (1, vI 0)]) [0, 1] rfl ?_
  have y79 : σ78 10 8 = 0 := (tw_eq1 eσ78)
  have y80 : σ78 10 6 = 2 := ((tw_ne1 eσ78 (by omega))).trans (tw_eq1 eσ77)
  have y81 : σ78 10 5 = σ 10 5 := ((tw_ne1 eσ78 (by omega))).trans (tw_ne1 eσ77 (by omega))
  have f82 : (0 : Int) ≤ σ 10 5 ∧ σ 10 5 ≤ 400 := hI 10 5
  have y83 : σ78 10 5 = σ 10 5 := ((tw_ne1 eσ78 (by omega))).trans (tw_ne1 eσ77 (by omega))
  have y84 : σ78 10 5 = σ 10 5 := ((tw_ne1 eσ78 (by omega))).trans (tw_ne1 eσ77 (by omega))
  have y85 : σ78 10 8 = 0 := (tw_eq1 eσ78)
  have y86 : σ78 10 11 = σ 10 11 := ((tw_ne1 eσ78 (by omega))).trans (tw_ne1 eσ77 (by omega))
  have f87 : (0 : Int) ≤ σ 10 11 ∧ σ 10 11 ≤ 5 := hI 10 11
  have y88 : σ78 10 12 = σ 10 12 := ((tw_ne1 eσ78 (by omega))).trans (tw_ne1 eσ77 (by omega))
  have f89 : (0 : Int) ≤ σ 10 12 ∧ σ 10 12 ≤ 400 := hI 10 12
  have y90 : σ78 10 7 = σ 10 7 := ((tw_ne1 eσ78 (by omega))).trans (tw_ne1 eσ77 (by omega))
  have f91 : (0 : Int) ≤ σ 10 7 ∧ σ 10 7 ≤ 400 := hI 10 7
  exact (l_X9_readNumber hX σ hI (((400 - (0 : Int)).toNat) + 1)) 0 ⟨by omega, by omega⟩ σ78 hIσ78 hFσ78 (show ((0 : Int) = 0 ∧ σ78 10 8 = 0) ∨ ((0 : Int) = 1 ∧ σ78 10 8 ≤ 9) ∨ ((0 : Int) = 2 ∧ σ78 10 8 ≤ 99) ∨ (3 ≤ (0 : Int) ∧ σ78 10 8 ≤ 999) from by omega) (show σ78 10 6 = 2 from by omega) (show σ78 10 5 = σ 10 5 + (0 : Int) from by omega) (show run isG (fX σ) (σ78 10 5) = run isG (fX σ) (σ 10 5) from (by rw [((tw_ne1 eσ78 (by omega))).trans (tw_ne1 eσ77 (by omega))]; first | exact (run_s (show isG (fX σ (τ 10 5)) = true from decide_eq_true (by omega)) (by omega)).symm.trans i3 | rfl)) (show ¬ σ 10 5 ≤ σ 10 10 ∨ σ78 10 5 ≤ σ 10 10 from by omega) (show σ78 10 8 = nv (fX σ) (σ 10 5) (0 : Int).toNat from (by rw [(tw_eq1 eσ78)]; first | rfl | (rw [nv_lt ⟨by omega, by omega⟩, show σ 10 5 + i = τ 10 5 from by omega]; omega) | (rw [nv_ge (by omega)]; exact i5))) (show σ78 10 11 = σ 10 11 from by omega) (show σ78 10 12 = σ 10 12 from by omega) (show σ78 10 7 = σ 10 7 from by omega) (Nat.lt_succ_self _)
abbrev q_X9_readSign  (σ : tw_M) : Option tw_V → tw_M → Prop := fun z τ => z = none ∧ tw_I τ ∧ tw_F (fun c j => (c = 10 ∧ (j = 5 ∨ j = 6))) σ τ ∧ (τ 10 6 = 3) ∧ (τ 10 5 = σ 10 5 + 1)
set_option maxHeartbeats 4000000 in
set_option maxRecDepth 100000 in
theorem c_X9_readSign {G : tw_G} (hX : tw_isX G) (σ : tw_M) (hI : tw_I σ) (hq0 : σ 10 5 < 400) : tw_C G yX9_readSign cX9_readSign 1 none 0 [vR 10] σ (q_X9_readSign σ) := by
  refine tw_met [(0, vR 10)] (by decide +kernel) rfl (Nat.le_of_ble_eq_true rfl) ?_
  refine j_aload_n (pc := 0) dX9_readSign_0 rfl rfl ?_
  refine j_iconst (pc := 1) dX9_readSign_1 ?_
  refine j_putI (pc := 2) fl_X9_48 fp_X9_6 dX9_readSign_2 (a_10 hX) rfl (j_nm (fun σ1 (eσ1 : σ1 = tw_up σ 10 6 3) => ?_))
  have hIσ1 : tw_I σ1 := tw_I_up hI eσ1 (show (0 : Int) ≤ 3 ∧ 3 ≤ 3 from ⟨by omega, by omega⟩)
  have hFσ1 : tw_F (fun c j => (c = 10 ∧ (j = 5 ∨ j = 6))) σ σ1 := tw_F_up (tw_F_rf) eσ1 (show (10 = 10 ∧ (6 = 5 ∨ 6 = 6)) from by omega)
  refine j_aload_n (pc := 5) dX9_readSign_5 rfl rfl ?_
  refine j_dup (pc := 6) dX9_readSign_6 rfl ?_
  refine j_getI (pc := 7) fl_X9_69 dX9_readSign_7 (a_10 hX) rfl ?_
  refine j_topV (show σ1 10 5 = σ 10 5 from (tw_ne1 eσ1 (by omega))) ?_
  have f2 : (0 : Int) ≤ σ 10 5 ∧ σ 10 5 ≤ 400 := hI 10 5
  refine j_iconst (pc := 10) dX9_readSign_10 ?_
  refine j_iadd (pc := 11) dX9_readSign_11 ?_
  refine j_putI (pc := 12) fl_X9_69 fp_X9_5 dX9_readSign_12 (a_10 hX) rfl (j_nm (fun σ3 (eσ3 : σ3 = tw_up σ1 10 5 ((σ 10 5) + 1)) => ?_))
  have hIσ3 : tw_I σ3 := tw_I_up hIσ1 eσ3 (show (0 : Int) ≤ (σ 10 5) + 1 ∧ (σ 10 5) + 1 ≤ 400 from ⟨by omega, by omega⟩)
  have hFσ3 : tw_F (fun c j => (c = 10 ∧ (j = 5 ∨ j = 6))) σ σ3 := tw_F_up hFσ1 eσ3 (show (10 = 10 ∧ (5 = 5 ∨ 5 = 6)) from by omega)
  have y4 : σ3 10 6 = 3 := ((tw_ne1 eσ3 (by omega))).trans (tw_eq1 eσ1)
  have y5 : σ3 10 5 = (σ 10 5) + 1 := (tw_eq1 eσ3)
  exact j_vret (pc := 15) ⟨rfl, rfl⟩ dX9_readSign_15 rfl ⟨rfl, hIσ3, hFσ3, by omega, by omega⟩
abbrev q_X9_advance  (σ : tw_M) : Option tw_V → tw_M → Prop := fun z τ => z = none ∧ tw_I τ ∧ tw_F (fun c j => (c = 10 ∧ (j = 5 ∨ j = 6 ∨ j = 7 ∨ j = 8 ∨ j = 11 ∨ j = 12))) σ τ ∧ (aX τ = tok (fX σ) (aX σ)) ∧ (¬ σ 10 5 ≤ σ 10 10 ∨ τ 10 5 ≤ σ 10 10) ∧ (¬ σ 10 5 ≤ σ 10 10 ∨ ¬ τ 10 11 = 0 ∨ ¬ τ 10 6 = 0 ∨ τ 10 7 = σ 10 10) ∧ (¬ τ 10 11 = 0 ∨ (σ 10 11 = 0 ∧ σ 10 5 ≤ τ 10 5 ∧ (τ 10 6 = 0 ∨ σ 10 5 < τ 10 5)))
set_option maxHeartbeats 4000000 in
set_option maxRecDepth 100000 in
theorem l_X9_advance {G : tw_G} (hX : tw_isX G) (σ : tw_M) (hI : tw_I σ) : ∀ N_ : Nat, (∀ (i : Int) (hi : 0 ≤ i ∧ i ≤ 400) (τ : tw_M) (hIτ : tw_I τ) (hFτ : tw_F (fun c j => (c = 10 ∧ (j = 5 ∨ j = 6 ∨ j = 7 ∨ j = 8 ∨ j = 11 ∨ j = 12))) σ τ) (i0 : σ 10 11 = 0) (i1 : τ 10 11 = 0) (i2 : τ 10 12 = σ 10 12) (i3 : τ 10 5 = σ 10 5 + i) (i4 : run isS (fX σ) (τ 10 5) = run isS (fX σ) (σ 10 5)) (i5 : ¬ σ 10 5 ≤ σ 10 10 ∨ τ 10 5 ≤ σ 10 10) (hm : (400 - i).toNat < N_), tw_J G (tw_mt RX9 cX9_advance 2 none 2) (tw_E G (q_X9_advance σ)) 10 [(0, vR 10), (1, vI i)] [] τ) := by
  intro N_
  induction N_ with
  | zero => exact fun i hi τ hIτ hFτ i0 i1 i2 i3 i4 i5 hm => absurd hm (Nat.not_lt_zero _)
  | succ N_ ih =>
    intro i hi τ hIτ hFτ i0 i1 i2 i3 i4 i5 hm
    have fx : fX τ = fX σ := fX_F (hFτ 10 10 (show ¬ ((10 = 10 ∧ (10 = 5 ∨ 10 = 6 ∨ 10 = 7 ∨ 10 = 8 ∨ 10 = 11 ∨ 10 = 12))) from by omega)) (fun j => hFτ 11 j (show ¬ ((11 = 10 ∧ (j = 5 ∨ j = 6 ∨ j = 7 ∨ j = 8 ∨ j = 11 ∨ j = 12))) from by omega))
    have f10 : (0 : Int) ≤ σ 10 10 ∧ σ 10 10 ≤ 400 := hI 10 10
    have e10 : τ 10 10 = σ 10 10 := hFτ 10 10 (show ¬ ((10 = 10 ∧ (10 = 5 ∨ 10 = 6 ∨ 10 = 7 ∨ 10 = 8 ∨ 10 = 11 ∨ 10 = 12))) from by omega); have f05 : (0 : Int) ≤ σ 10 5 ∧ σ 10 5 ≤ 400 := hI 10 5; have f15 : (0 : Int) ≤ τ 10 5 ∧ τ 10 5 ≤ 400 := hIτ 10 5
    refine j_iload_n (pc := 10) dX9_advance_10 rfl rfl ?_
    refine j_sipush (pc := 11) dX9_advance_11 rfl ?_
    refine j_icmpR_ge (pc := 14) (tgt := 46) ⟨by omega, by omega⟩ ⟨by omega, by omega⟩ dX9_advance_14 rfl (fun h1 => ?_) (fun h1 => ?_)
    · have rs : τ 10 5 = run isS (fX σ) (σ 10 5) := (by rw [show τ 10 5 = τ 10 5 from rfl, ← i4]; exact (run_n (show isS (fX σ (τ 10 5)) = false from decide_eq_false (by first | omega | (rw [fX_no (by omega)]; decide)))).symm)
      refine j_aload_n (pc := 46) dX9_advance_46 rfl rfl ?_
      refine j_aload_n (pc := 47) dX9_advance_47 rfl rfl ?_
      refine j_getI (pc := 48) fl_X9_69 dX9_advance_48 (a_10 hX) rfl ?_
      have f2 : (0 : Int) ≤ τ 10 5 ∧ τ 10 5 ≤ 400 := hIτ 10 5
      refine j_putI (pc := 51) fl_X9_76 fp_X9_7 dX9_advance_51 (a_10 hX) rfl (j_nm (fun σ3 (eσ3 : σ3 = tw_up τ 10 7 (τ 10 5)) => ?_))
      have hIσ3 : tw_I σ3 := tw_I_up hIτ eσ3 (show (0 : Int) ≤ τ 10 5 ∧ τ 10 5 ≤ 400 from ⟨by omega, by omega⟩)
      have hFσ3 : tw_F (fun c j => (c = 10 ∧ (j = 5 ∨ j = 6 ∨ j = 7 ∨ j = 8 ∨ j = 11 ∨ j = 12))) σ σ3 := tw_F_up hFτ eσ3 (show (10 = 10 ∧ (7 = 5 ∨ 7 = 6 ∨ 7 = 7 ∨ 7 = 8 ∨ 7 = 11 ∨ 7 = 12)) from by omega)
      refine j_aload_n (pc := 54) dX9_advance_54 rfl rfl ?_
      refine j_aload_n (pc := 55) dX9_advance_55 rfl rfl ?_
      refine j_getI (pc := 56) fl_X9_69 dX9_advance_56 (a_10 hX) rfl ?_
      refine j_topV (show σ3 10 5 = τ 10 5 from (tw_ne1 eσ3 (by omega))) ?_
      refine j_callV (pc := 59) (As := [vI (τ 10 5)]) (st := []) (c_X9_byteAt hX (τ 10 5) ⟨by omega, by omega⟩ σ3 hIσ3) mv_X9_72 rfl rfl rfl (a_10 hX) dX9_advance_59 ⟨Nat.le_of_ble_eq_true rfl, Nat.le_of_ble_eq_true rfl⟩ ⟨Nat.le_refl _, Nat.le_refl _⟩ rfl (Nat.le_of_ble_eq_true rfl) rfl (fun z4 σ5 hz4 => ?_)
      obtain ⟨r7, rfl, hr7, rfl, q6_0, q6_1⟩ := hz4
      replace q6_0 : (¬ (0 ≤ (τ 10 5) ∧ (τ 10 5) < σ3 10 10 ∧ (τ 10 5) < 400) ∧ r7 = -1) ∨ (0 ≤ (τ 10 5) ∧ (τ 10 5) < σ3 10 10 ∧ (τ 10 5) < 400 ∧ 0 ≤ r7 ∧ r7 = tw_and (σ3 11 (τ 10 5).toNat) 255) := q6_0
      have y8 : σ3 10 10 = τ 10 10 := (tw_ne1 eσ3 (by omega))
      have f9 : (0 : Int) ≤ τ 10 10 ∧ τ 10 10 ≤ 400 := hIτ 10 10
      have y10 : σ3 11 ((τ 10 5).toNat) = τ 11 ((τ 10 5).toNat) := (tw_ne1 eσ3 (by omega))
      replace q6_1 : r7 = fX σ3 (τ 10 5) := q6_1
      refine j_st (st' := [vI r7]) rfl ?_
      have fy : fX σ3 = fX σ := fX_F (hFσ3 10 10 (show ¬ ((10 = 10 ∧ (10 = 5 ∨ 10 = 6 ∨ 10 = 7 ∨ 10 = 8 ∨ 10 = 11 ∨ 10 = 12))) from by omega)) (fun j => hFσ3 11 j (show ¬ ((11 = 10 ∧ (j = 5 ∨ j = 6 ∨ j = 7 ∨ j = 8 ∨ j = 11 ∨ j = 12))) from by omega))
      have b7 := q6_1; rw [fy] at b7
      have pa : σ3 10 5 = τ 10 5 := (tw_ne1 eσ3 (by omega))
      have y11 : σ3 10 7 = τ 10 5 := (tw_eq1 eσ3)
      refine j_istore_n (pc := 62) (i := 1) (ls' := [(0, vR 10), (1, vI r7)]) [1, 0] dX9_advance_62 rfl (Nat.le_of_ble_eq_true rfl) rfl rfl ?_
      refine j_iload_n (pc := 63) dX9_advance_63 rfl rfl ?_
      refine j_ifR_ge (pc := 64) (tgt := 75) ⟨by omega, by omega⟩ dX9_advance_64 rfl (fun h12 => ?_) (fun h12 => ?_)
      · refine j_iload_n (pc := 75) dX9_advance_75 rfl rfl ?_
        refine j_callS (pc := 76) (As := [vI r7]) (st := []) (c_X9_isLetter r7 ⟨by omega, by omega⟩ σ3 hIσ3) ms_X9_79 rfl dX9_advance_76 ⟨Nat.le_of_ble_eq_true rfl, Nat.le_of_ble_eq_true rfl⟩ ⟨Nat.le_refl _, Nat.le_refl _⟩ rfl (Nat.le_of_ble_eq_true rfl) rfl (fun z13 σ14 hz13 => ?_)
        obtain ⟨r16, rfl, hr16, rfl, q15_0⟩ := hz13
        replace q15_0 : (r16 = 1 ∧ 97 ≤ r7 ∧ r7 ≤ 122) ∨ (r16 = 0 ∧ ¬ (97 ≤ r7 ∧ r7 ≤ 122)) := q15_0
        refine j_st (st' := [vI r16]) rfl ?_
        refine j_ifR_eq (pc := 79) (tgt := 89) ⟨by omega, by omega⟩ dX9_advance_79 rfl (fun h17 => ?_) (fun h17 => ?_)
        · refine j_iload_n (pc := 89) dX9_advance_89 rfl rfl ?_
          refine j_callS (pc := 90) (As := [vI r7]) (st := []) (c_X9_isFigure r7 ⟨by omega, by omega⟩ σ3 hIσ3) ms_X9_86 rfl dX9_advance_90 ⟨Nat.le_of_ble_eq_true rfl, Nat.le_of_ble_eq_true rfl⟩ ⟨Nat.le_refl _, Nat.le_refl _⟩ rfl (Nat.le_of_ble_eq_true rfl) rfl (fun z18 σ19 hz18 => ?_)
          obtain ⟨r21, rfl, hr21, rfl, q20_0⟩ := hz18
          replace q20_0 : (r21 = 1 ∧ 48 ≤ r7 ∧ r7 ≤ 57) ∨ (r21 = 0 ∧ ¬ (48 ≤ r7 ∧ r7 ≤ 57)) := q20_0
          refine j_st (st' := [vI r21]) rfl ?_
          refine j_ifR_eq (pc := 93) (tgt := 103) ⟨by omega, by omega⟩ dX9_advance_93 rfl (fun h22 => ?_) (fun h22 => ?_)
          · refine j_iload_n (pc := 103) dX9_advance_103 rfl rfl ?_
            refine j_bipush (pc := 104) dX9_advance_104 rfl ?_
            refine j_icmpR_ne (pc := 106) (tgt := 116) ⟨by omega, by omega⟩ ⟨by omega, by omega⟩ dX9_advance_106 rfl (fun h23 => ?_) (fun h23 => ?_)
            · refine j_aload_n (pc := 116) dX9_advance_116 rfl rfl ?_
              refine j_iconst (pc := 117) dX9_advance_117 ?_
              refine j_aload_n (pc := 118) dX9_advance_118 rfl rfl ?_
              refine j_getI (pc := 119) fl_X9_76 dX9_advance_119 (a_10 hX) rfl ?_
              refine j_topV (show σ3 10 7 = τ 10 5 from (tw_eq1 eσ3)) ?_
              refine j_callV (pc := 122) (As := [vI 1, vI (τ 10 5)]) (st := []) (c_X9_fail hX 1 ⟨by omega, by omega⟩ (τ 10 5) ⟨by omega, by omega⟩ σ3 hIσ3) mv_X9_61 rfl rfl rfl (a_10 hX) dX9_advance_122 ⟨Nat.le_of_ble_eq_true rfl, Nat.le_of_ble_eq_true rfl⟩ ⟨Nat.le_refl _, Nat.le_refl _⟩ rfl (Nat.le_of_ble_eq_true rfl) rfl (fun z24 σ25 hz24 => ?_)
              obtain ⟨rfl, hIσ25, hGσ25, q26_0⟩ := hz24
              replace q26_0 : (σ3 10 11 = 0 ∧ σ25 10 11 = (1 : Int) ∧ σ25 10 12 = (τ 10 5)) ∨ (¬ σ3 10 11 = 0 ∧ σ25 10 11 = σ3 10 11 ∧ σ25 10 12 = σ3 10 12) := q26_0
              have y28 : σ3 10 11 = τ 10 11 := (tw_ne1 eσ3 (by omega))
              have f29 : (0 : Int) ≤ τ 10 11 ∧ τ 10 11 ≤ 5 := hIτ 10 11
              have y30 : σ3 10 12 = τ 10 12 := (tw_ne1 eσ3 (by omega))
              have f31 : (0 : Int) ≤ τ 10 12 ∧ τ 10 12 ≤ 400 := hIτ 10 12
              have hFσ25 : tw_F (fun c j => (c = 10 ∧ (j = 5 ∨ j = 6 ∨ j = 7 ∨ j = 8 ∨ j = 11 ∨ j = 12))) σ σ25 := tw_F_tr hFσ3 hGσ25 (fun c j q => (show (c = 10 ∧ (j = 5 ∨ j = 6 ∨ j = 7 ∨ j = 8 ∨ j = 11 ∨ j = 12)) from by replace q : (c = 10 ∧ (j = 11 ∨ j = 12)) := q; omega))
              refine j_st (st' := []) rfl ?_
              have y32 : σ25 10 5 = τ 10 5 := ((hGσ25 10 5 (show ¬ ((10 = 10 ∧ (5 = 11 ∨ 5 = 12))) from by omega))).trans (tw_ne1 eσ3 (by omega))
              have y33 : σ25 10 6 = τ 10 6 := ((hGσ25 10 6 (show ¬ ((10 = 10 ∧ (6 = 11 ∨ 6 = 12))) from by omega))).trans (tw_ne1 eσ3 (by omega))
              have y34 : σ25 10 7 = τ 10 5 := ((hGσ25 10 7 (show ¬ ((10 = 10 ∧ (7 = 11 ∨ 7 = 12))) from by omega))).trans (tw_eq1 eσ3)
              have y35 : σ25 10 8 = τ 10 8 := ((hGσ25 10 8 (show ¬ ((10 = 10 ∧ (8 = 11 ∨ 8 = 12))) from by omega))).trans (tw_ne1 eσ3 (by omega))
              skip
              skip
              have ax : aX σ25 = tok (fX σ) (aX σ) := adv_bad (by omega) (by omega) (by omega) (by omega) (by rw [show σ25 10 7 = τ 10 5 from by omega]; omega)
              have am := adv_mon ax (hI 10 10)
              have y36 : σ25 10 5 = τ 10 5 := ((hGσ25 10 5 (show ¬ ((10 = 10 ∧ (5 = 11 ∨ 5 = 12))) from by omega))).trans (tw_ne1 eσ3 (by omega))
              have y37 : σ25 10 6 = τ 10 6 := ((hGσ25 10 6 (show ¬ ((10 = 10 ∧ (6 = 11 ∨ 6 = 12))) from by omega))).trans (tw_ne1 eσ3 (by omega))
              have f38 : (0 : Int) ≤ τ 10 6 ∧ τ 10 6 ≤ 3 := hIτ 10 6
              have y39 : σ25 10 7 = τ 10 5 := ((hGσ25 10 7 (show ¬ ((10 = 10 ∧ (7 = 11 ∨ 7 = 12))) from by omega))).trans (tw_eq1 eσ3)
              have y40 : σ25 10 5 = τ 10 5 := ((hGσ25 10 5 (show ¬ ((10 = 10 ∧ (5 = 11 ∨ 5 = 12))) from by omega))).trans (tw_ne1 eσ3 (by omega))
              have y41 : σ25 10 6 = τ 10 6 := ((hGσ25 10 6 (show ¬ ((10 = 10 ∧ (6 = 11 ∨ 6 = 12))) from by omega))).trans (tw_ne1 eσ3 (by omega))
              exact j_vret (pc := 125) ⟨rfl, rfl⟩ dX9_advance_125 rfl ⟨rfl, hIσ25, hFσ25, ax, by omega, by omega, am⟩
            · refine j_aload_n (pc := 109) dX9_advance_109 rfl rfl ?_
              have y42 : σ3 10 5 = τ 10 5 := (tw_ne1 eσ3 (by omega))
              refine j_callV (pc := 110) (As := []) (st := []) (c_X9_readSign hX σ3 hIσ3 (by omega)) mv_X9_92 rfl rfl rfl (a_10 hX) dX9_advance_110 ⟨Nat.le_of_ble_eq_true rfl, Nat.le_of_ble_eq_true rfl⟩ ⟨Nat.le_refl _, Nat.le_refl _⟩ rfl (Nat.le_of_ble_eq_true rfl) rfl (fun z43 σ44 hz43 => ?_)
              obtain ⟨rfl, hIσ44, hGσ44, q45_0, q45_1⟩ := hz43
              replace q45_0 : σ44 10 6 = 3 := q45_0
              replace q45_1 : σ44 10 5 = σ3 10 5 + 1 := q45_1
              have y47 : σ3 10 5 = τ 10 5 := (tw_ne1 eσ3 (by omega))
              have hFσ44 : tw_F (fun c j => (c = 10 ∧ (j = 5 ∨ j = 6 ∨ j = 7 ∨ j = 8 ∨ j = 11 ∨ j = 12))) σ σ44 := tw_F_tr hFσ3 hGσ44 (fun c j q => (show (c = 10 ∧ (j = 5 ∨ j = 6 ∨ j = 7 ∨ j = 8 ∨ j = 11 ∨ j = 12)) from by replace q : (c = 10 ∧ (j = 5 ∨ j = 6)) := q; omega))
              refine j_st (st' := []) rfl ?_
              skip
              skip
              have y48 : σ44 10 7 = τ 10 5 := ((hGσ44 10 7 (show ¬ ((10 = 10 ∧ (7 = 5 ∨ 7 = 6))) from by omega))).trans (tw_eq1 eσ3)
              have y49 : σ44 10 8 = τ 10 8 := ((hGσ44 10 8 (show ¬ ((10 = 10 ∧ (8 = 5 ∨ 8 = 6))) from by omega))).trans (tw_ne1 eσ3 (by omega))
              have y50 : σ44 10 11 = τ 10 11 := ((hGσ44 10 11 (show ¬ ((10 = 10 ∧ (11 = 5 ∨ 11 = 6))) from by omega))).trans (tw_ne1 eσ3 (by omega))
              have y51 : σ44 10 12 = τ 10 12 := ((hGσ44 10 12 (show ¬ ((10 = 10 ∧ (12 = 5 ∨ 12 = 6))) from by omega))).trans (tw_ne1 eσ3 (by omega))
              have ax : aX σ44 = tok (fX σ) (aX σ) := adv_stop (by omega) (drX_F (hFσ44 10 3 (show ¬ ((10 = 10 ∧ (3 = 5 ∨ 3 = 6 ∨ 3 = 7 ∨ 3 = 8 ∨ 3 = 11 ∨ 3 = 12))) from by omega)) (hFσ44 10 4 (show ¬ ((10 = 10 ∧ (4 = 5 ∨ 4 = 6 ∨ 4 = 7 ∨ 4 = 8 ∨ 4 = 11 ∨ 4 = 12))) from by omega)) (fun c j h => hFσ44 c j (show ¬ ((c = 10 ∧ (j = 5 ∨ j = 6 ∨ j = 7 ∨ j = 8 ∨ j = 11 ∨ j = 12))) from by omega))) (by omega) (by omega) (by rw [show σ44 10 7 = τ 10 5 from by omega]; omega) (by omega) (by omega)
              refine j_goto (pc := 113) (tgt := 125) dX9_advance_113 rfl ?_
              have am := adv_mon ax (hI 10 10)
              have y52 : σ44 10 11 = τ 10 11 := ((hGσ44 10 11 (show ¬ ((10 = 10 ∧ (11 = 5 ∨ 11 = 6))) from by omega))).trans (tw_ne1 eσ3 (by omega))
              have f53 : (0 : Int) ≤ τ 10 11 ∧ τ 10 11 ≤ 5 := hIτ 10 11
              have y54 : σ44 10 7 = τ 10 5 := ((hGσ44 10 7 (show ¬ ((10 = 10 ∧ (7 = 5 ∨ 7 = 6))) from by omega))).trans (tw_eq1 eσ3)
              have y55 : σ44 10 11 = τ 10 11 := ((hGσ44 10 11 (show ¬ ((10 = 10 ∧ (11 = 5 ∨ 11 = 6))) from by omega))).trans (tw_ne1 eσ3 (by omega))
              exact j_vret (pc := 125) ⟨rfl, rfl⟩ dX9_advance_125 rfl ⟨rfl, hIσ44, hFσ44, ax, by omega, by omega, am⟩
          · refine j_aload_n (pc := 96) dX9_advance_96 rfl rfl ?_
            refine j_callV (pc := 97) (As := []) (st := []) (c_X9_readNumber hX σ3 hIσ3) mv_X9_89 rfl rfl rfl (a_10 hX) dX9_advance_97 ⟨Nat.le_of_ble_eq_true rfl, Nat.le_of_ble_eq_true rfl⟩ ⟨Nat.le_refl _, Nat.le_refl _⟩ rfl (Nat.le_of_ble_eq_true rfl) rfl (fun z56 σ57 hz56 => ?_)
            obtain ⟨rfl, hIσ57, hGσ57, q58_0, q58_1, q58_2, q58_3, q58_4⟩ := hz56
            replace q58_0 : σ57 10 6 = 2 := q58_0
            replace q58_1 : σ57 10 5 = run isG (fX σ3) (σ3 10 5) := q58_1
            have y60 : σ3 10 5 = τ 10 5 := (tw_ne1 eσ3 (by omega))
            replace q58_2 : σ57 10 8 = nv (fX σ3) (σ3 10 5) (σ57 10 5 - σ3 10 5).toNat := q58_2
            have y61 : σ3 10 5 = τ 10 5 := (tw_ne1 eσ3 (by omega))
            replace q58_3 : (σ57 10 5 - σ3 10 7 ≤ 3 ∧ σ57 10 11 = σ3 10 11 ∧ σ57 10 12 = σ3 10 12) ∨ (3 < σ57 10 5 - σ3 10 7 ∧ σ3 10 11 = 0 ∧ σ57 10 11 = 1 ∧ σ57 10 12 = σ3 10 7) ∨ (3 < σ57 10 5 - σ3 10 7 ∧ ¬ σ3 10 11 = 0 ∧ σ57 10 11 = σ3 10 11 ∧ σ57 10 12 = σ3 10 12) := q58_3
            have y62 : σ3 10 7 = τ 10 5 := (tw_eq1 eσ3)
            have y63 : σ3 10 11 = τ 10 11 := (tw_ne1 eσ3 (by omega))
            have f64 : (0 : Int) ≤ τ 10 11 ∧ τ 10 11 ≤ 5 := hIτ 10 11
            have y65 : σ3 10 12 = τ 10 12 := (tw_ne1 eσ3 (by omega))
            have f66 : (0 : Int) ≤ τ 10 12 ∧ τ 10 12 ≤ 400 := hIτ 10 12
            replace q58_4 : ¬ σ3 10 5 ≤ σ3 10 10 ∨ σ57 10 5 ≤ σ3 10 10 := q58_4
            have y67 : σ3 10 5 = τ 10 5 := (tw_ne1 eσ3 (by omega))
            have y68 : σ3 10 10 = τ 10 10 := (tw_ne1 eσ3 (by omega))
            have hFσ57 : tw_F (fun c j => (c = 10 ∧ (j = 5 ∨ j = 6 ∨ j = 7 ∨ j = 8 ∨ j = 11 ∨ j = 12))) σ σ57 := tw_F_tr hFσ3 hGσ57 (fun c j q => (show (c = 10 ∧ (j = 5 ∨ j = 6 ∨ j = 7 ∨ j = 8 ∨ j = 11 ∨ j = 12)) from by replace q : (c = 10 ∧ (j = 5 ∨ j = 6 ∨ j = 8 ∨ j = 11 ∨ j = 12)) := q; omega))
            refine j_st (st' := []) rfl ?_
            skip
            skip
            have y69 : σ57 10 7 = τ 10 5 := ((hGσ57 10 7 (show ¬ ((10 = 10 ∧ (7 = 5 ∨ 7 = 6 ∨ 7 = 8 ∨ 7 = 11 ∨ 7 = 12))) from by omega))).trans (tw_eq1 eσ3)
            skip
            skip
            skip
            have z1 := q58_1; rw [fy, pa] at z1
            have z2 := q58_2; rw [fy, pa] at z2
            have ax : aX σ57 = tok (fX σ) (aX σ) := by (rcases (show σ57 10 5 - τ 10 5 ≤ 3 ∨ 3 < σ57 10 5 - τ 10 5 from by omega) with u | u); (exact adv_num (by omega) (drX_F (hFσ57 10 3 (show ¬ ((10 = 10 ∧ (3 = 5 ∨ 3 = 6 ∨ 3 = 7 ∨ 3 = 8 ∨ 3 = 11 ∨ 3 = 12))) from by omega)) (hFσ57 10 4 (show ¬ ((10 = 10 ∧ (4 = 5 ∨ 4 = 6 ∨ 4 = 7 ∨ 4 = 8 ∨ 4 = 11 ∨ 4 = 12))) from by omega)) (fun c j h => hFσ57 c j (show ¬ ((c = 10 ∧ (j = 5 ∨ j = 6 ∨ j = 7 ∨ j = 8 ∨ j = 11 ∨ j = 12))) from by omega))) (by omega) (by omega) (by rw [show σ57 10 7 = τ 10 5 from by omega]; omega) (by omega) (by rw [show σ57 10 7 = τ 10 5 from by omega]; exact z1) (by rw [show σ57 10 7 = τ 10 5 from by omega]; exact z2) (by omega)); (exact adv_long (by omega) (by omega) (by omega) (by omega) (by rw [show σ57 10 7 = τ 10 5 from by omega]; omega) (by rw [show σ57 10 7 = τ 10 5 from by omega]; exact z1) (by omega))
            refine j_goto (pc := 100) (tgt := 125) dX9_advance_100 rfl ?_
            have am := adv_mon ax (hI 10 10)
            have y70 : σ57 10 7 = τ 10 5 := ((hGσ57 10 7 (show ¬ ((10 = 10 ∧ (7 = 5 ∨ 7 = 6 ∨ 7 = 8 ∨ 7 = 11 ∨ 7 = 12))) from by omega))).trans (tw_eq1 eσ3)
            exact j_vret (pc := 125) ⟨rfl, rfl⟩ dX9_advance_125 rfl ⟨rfl, hIσ57, hFσ57, ax, by omega, by omega, am⟩
        · refine j_aload_n (pc := 82) dX9_advance_82 rfl rfl ?_
          refine j_callV (pc := 83) (As := []) (st := []) (c_X9_readName hX σ3 hIσ3) mv_X9_83 rfl rfl rfl (a_10 hX) dX9_advance_83 ⟨Nat.le_of_ble_eq_true rfl, Nat.le_of_ble_eq_true rfl⟩ ⟨Nat.le_refl _, Nat.le_refl _⟩ rfl (Nat.le_of_ble_eq_true rfl) rfl (fun z71 σ72 hz71 => ?_)
          obtain ⟨rfl, hIσ72, hGσ72, q73_0, q73_1, q73_2⟩ := hz71
          replace q73_0 : σ72 10 6 = 1 := q73_0
          replace q73_1 : σ72 10 5 = run isL (fX σ3) (σ3 10 5) := q73_1
          have y75 : σ3 10 5 = τ 10 5 := (tw_ne1 eσ3 (by omega))
          replace q73_2 : ¬ σ3 10 5 ≤ σ3 10 10 ∨ σ72 10 5 ≤ σ3 10 10 := q73_2
          have y76 : σ3 10 5 = τ 10 5 := (tw_ne1 eσ3 (by omega))
          have y77 : σ3 10 10 = τ 10 10 := (tw_ne1 eσ3 (by omega))
          have hFσ72 : tw_F (fun c j => (c = 10 ∧ (j = 5 ∨ j = 6 ∨ j = 7 ∨ j = 8 ∨ j = 11 ∨ j = 12))) σ σ72 := tw_F_tr hFσ3 hGσ72 (fun c j q => (show (c = 10 ∧ (j = 5 ∨ j = 6 ∨ j = 7 ∨ j = 8 ∨ j = 11 ∨ j = 12)) from by replace q : (c = 10 ∧ (j = 5 ∨ j = 6)) := q; omega))
          refine j_st (st' := []) rfl ?_
          skip
          skip
          have y78 : σ72 10 7 = τ 10 5 := ((hGσ72 10 7 (show ¬ ((10 = 10 ∧ (7 = 5 ∨ 7 = 6))) from by omega))).trans (tw_eq1 eσ3)
          have y79 : σ72 10 8 = τ 10 8 := ((hGσ72 10 8 (show ¬ ((10 = 10 ∧ (8 = 5 ∨ 8 = 6))) from by omega))).trans (tw_ne1 eσ3 (by omega))
          have y80 : σ72 10 11 = τ 10 11 := ((hGσ72 10 11 (show ¬ ((10 = 10 ∧ (11 = 5 ∨ 11 = 6))) from by omega))).trans (tw_ne1 eσ3 (by omega))
          have y81 : σ72 10 12 = τ 10 12 := ((hGσ72 10 12 (show ¬ ((10 = 10 ∧ (12 = 5 ∨ 12 = 6))) from by omega))).trans (tw_ne1 eσ3 (by omega))
          have z1 := q73_1; rw [fy, pa] at z1
          have ax : aX σ72 = tok (fX σ) (aX σ) := adv_name (by omega) (drX_F (hFσ72 10 3 (show ¬ ((10 = 10 ∧ (3 = 5 ∨ 3 = 6 ∨ 3 = 7 ∨ 3 = 8 ∨ 3 = 11 ∨ 3 = 12))) from by omega)) (hFσ72 10 4 (show ¬ ((10 = 10 ∧ (4 = 5 ∨ 4 = 6 ∨ 4 = 7 ∨ 4 = 8 ∨ 4 = 11 ∨ 4 = 12))) from by omega)) (fun c j h => hFσ72 c j (show ¬ ((c = 10 ∧ (j = 5 ∨ j = 6 ∨ j = 7 ∨ j = 8 ∨ j = 11 ∨ j = 12))) from by omega))) (by omega) (by omega) (by rw [show σ72 10 7 = τ 10 5 from by omega]; omega) (by omega) (by rw [show σ72 10 7 = τ 10 5 from by omega]; exact z1)
          refine j_goto (pc := 86) (tgt := 125) dX9_advance_86 rfl ?_
          have am := adv_mon ax (hI 10 10)
          have y82 : σ72 10 11 = τ 10 11 := ((hGσ72 10 11 (show ¬ ((10 = 10 ∧ (11 = 5 ∨ 11 = 6))) from by omega))).trans (tw_ne1 eσ3 (by omega))
          have f83 : (0 : Int) ≤ τ 10 11 ∧ τ 10 11 ≤ 5 := hIτ 10 11
          have y84 : σ72 10 7 = τ 10 5 := ((hGσ72 10 7 (show ¬ ((10 = 10 ∧ (7 = 5 ∨ 7 = 6))) from by omega))).trans (tw_eq1 eσ3)
          have y85 : σ72 10 11 = τ 10 11 := ((hGσ72 10 11 (show ¬ ((10 = 10 ∧ (11 = 5 ∨ 11 = 6))) from by omega))).trans (tw_ne1 eσ3 (by omega))
          exact j_vret (pc := 125) ⟨rfl, rfl⟩ dX9_advance_125 rfl ⟨rfl, hIσ72, hFσ72, ax, by omega, by omega, am⟩
      · refine j_aload_n (pc := 67) dX9_advance_67 rfl rfl ?_
        refine j_iconst (pc := 68) dX9_advance_68 ?_
        refine j_putI (pc := 69) fl_X9_48 fp_X9_6 dX9_advance_69 (a_10 hX) rfl (j_nm (fun σ86 (eσ86 : σ86 = tw_up σ3 10 6 0) => ?_))
        have hIσ86 : tw_I σ86 := tw_I_up hIσ3 eσ86 (show (0 : Int) ≤ 0 ∧ 0 ≤ 3 from ⟨by omega, by omega⟩)
        have hFσ86 : tw_F (fun c j => (c = 10 ∧ (j = 5 ∨ j = 6 ∨ j = 7 ∨ j = 8 ∨ j = 11 ∨ j = 12))) σ σ86 := tw_F_up hFσ3 eσ86 (show (10 = 10 ∧ (6 = 5 ∨ 6 = 6 ∨ 6 = 7 ∨ 6 = 8 ∨ 6 = 11 ∨ 6 = 12)) from by omega)
        have y87 : σ86 10 5 = τ 10 5 := ((tw_ne1 eσ86 (by omega))).trans (tw_ne1 eσ3 (by omega))
        have y88 : σ86 10 6 = 0 := (tw_eq1 eσ86)
        have y89 : σ86 10 7 = τ 10 5 := ((tw_ne1 eσ86 (by omega))).trans (tw_eq1 eσ3)
        have y90 : σ86 10 8 = τ 10 8 := ((tw_ne1 eσ86 (by omega))).trans (tw_ne1 eσ3 (by omega))
        have y91 : σ86 10 11 = τ 10 11 := ((tw_ne1 eσ86 (by omega))).trans (tw_ne1 eσ3 (by omega))
        have y92 : σ86 10 12 = τ 10 12 := ((tw_ne1 eσ86 (by omega))).trans (tw_ne1 eσ3 (by omega))
        have ax : aX σ86 = tok (fX σ) (aX σ) := adv_end (by omega) (drX_F (hFσ86 10 3 (show ¬ ((10 = 10 ∧ (3 = 5 ∨ 3 = 6 ∨ 3 = 7 ∨ 3 = 8 ∨ 3 = 11 ∨ 3 = 12))) from by omega)) (hFσ86 10 4 (show ¬ ((10 = 10 ∧ (4 = 5 ∨ 4 = 6 ∨ 4 = 7 ∨ 4 = 8 ∨ 4 = 11 ∨ 4 = 12))) from by omega)) (fun c j h => hFσ86 c j (show ¬ ((c = 10 ∧ (j = 5 ∨ j = 6 ∨ j = 7 ∨ j = 8 ∨ j = 11 ∨ j = 12))) from by omega))) (by omega) (by omega) (by rw [show σ86 10 7 = τ 10 5 from by omega]; omega) (by omega) (by omega)
        refine j_goto (pc := 72) (tgt := 125) dX9_advance_72 rfl ?_
        have am := adv_mon ax (hI 10 10)
        have y93 : σ86 10 5 = τ 10 5 := ((tw_ne1 eσ86 (by omega))).trans (tw_ne1 eσ3 (by omega))
        have y94 : σ86 10 11 = τ 10 11 := ((tw_ne1 eσ86 (by omega))).trans (tw_ne1 eσ3 (by omega))
        have f95 : (0 : Int) ≤ τ 10 11 ∧ τ 10 11 ≤ 5 := hIτ 10 11
        have y96 : σ86 10 6 = 0 := (tw_eq1 eσ86)
        have y97 : σ86 10 7 = τ 10 5 := ((tw_ne1 eσ86 (by omega))).trans (tw_eq1 eσ3)
        have y98 : σ86 10 11 = τ 10 11 := ((tw_ne1 eσ86 (by omega))).trans (tw_ne1 eσ3 (by omega))
        have y99 : σ86 10 5 = τ 10 5 := ((tw_ne1 eσ86 (by omega))).trans (tw_ne1 eσ3 (by omega))
        have y100 : σ86 10 6 = 0 := (tw_eq1 eσ86)
        exact j_vret (pc := 125) ⟨rfl, rfl⟩ dX9_advance_125 rfl ⟨rfl, hIσ86, hFσ86, ax, by omega, by omega, am⟩
    · refine j_aload_n (pc := 17) dX9_advance_17 rfl rfl ?_
      refine j_aload_n (pc := 18) dX9_advance_18 rfl rfl ?_
      refine j_getI (pc := 19) fl_X9_69 dX9_advance_19 (a_10 hX) rfl ?_
      have f101 : (0 : Int) ≤ τ 10 5 ∧ τ 10 5 ≤ 400 := hIτ 10 5
      refine j_callV (pc := 22) (As := [vI (τ 10 5)]) (st := []) (c_X9_byteAt hX (τ 10 5) ⟨by omega, by omega⟩ τ hIτ) mv_X9_72 rfl rfl rfl (a_10 hX) dX9_advance_22 ⟨Nat.le_of_ble_eq_true rfl, Nat.le_of_ble_eq_true rfl⟩ ⟨Nat.le_refl _, Nat.le_refl _⟩ rfl (Nat.le_of_ble_eq_true rfl) rfl (fun z102 σ103 hz102 => ?_)
      obtain ⟨r105, rfl, hr105, rfl, q104_0, q104_1⟩ := hz102
      replace q104_0 : (¬ (0 ≤ (τ 10 5) ∧ (τ 10 5) < τ 10 10 ∧ (τ 10 5) < 400) ∧ r105 = -1) ∨ (0 ≤ (τ 10 5) ∧ (τ 10 5) < τ 10 10 ∧ (τ 10 5) < 400 ∧ 0 ≤ r105 ∧ r105 = tw_and (τ 11 (τ 10 5).toNat) 255) := q104_0
      replace q104_1 : r105 = fX τ (τ 10 5) := q104_1
      refine j_st (st' := [vI r105]) rfl ?_
      have b9 := q104_1; rw [fx] at b9
      refine j_bipush (pc := 25) dX9_advance_25 rfl ?_
      refine j_icmpR_ne (pc := 27) (tgt := 46) ⟨by omega, by omega⟩ ⟨by omega, by omega⟩ dX9_advance_27 rfl (fun h106 => ?_) (fun h106 => ?_)
      · have rs : τ 10 5 = run isS (fX σ) (σ 10 5) := (by rw [show τ 10 5 = τ 10 5 from rfl, ← i4]; exact (run_n (show isS (fX σ (τ 10 5)) = false from decide_eq_false (by first | omega | (rw [fX_no (by omega)]; decide)))).symm)
        refine j_aload_n (pc := 46) dX9_advance_46 rfl rfl ?_
        refine j_aload_n (pc := 47) dX9_advance_47 rfl rfl ?_
        refine j_getI (pc := 48) fl_X9_69 dX9_advance_48 (a_10 hX) rfl ?_
        refine j_putI (pc := 51) fl_X9_76 fp_X9_7 dX9_advance_51 (a_10 hX) rfl (j_nm (fun σ107 (eσ107 : σ107 = tw_up τ 10 7 (τ 10 5)) => ?_))
        have hIσ107 : tw_I σ107 := tw_I_up hIτ eσ107 (show (0 : Int) ≤ τ 10 5 ∧ τ 10 5 ≤ 400 from ⟨by omega, by omega⟩)
        have hFσ107 : tw_F (fun c j => (c = 10 ∧ (j = 5 ∨ j = 6 ∨ j = 7 ∨ j = 8 ∨ j = 11 ∨ j = 12))) σ σ107 := tw_F_up hFτ eσ107 (show (10 = 10 ∧ (7 = 5 ∨ 7 = 6 ∨ 7 = 7 ∨ 7 = 8 ∨ 7 = 11 ∨ 7 = 12)) from by omega)
        refine j_aload_n (pc := 54) dX9_advance_54 rfl rfl ?_
        refine j_aload_n (pc := 55) dX9_advance_55 rfl rfl ?_
        refine j_getI (pc := 56) fl_X9_69 dX9_advance_56 (a_10 hX) rfl ?_
        refine j_topV (show σ107 10 5 = τ 10 5 from (tw_ne1 eσ107 (by omega))) ?_
        refine j_callV (pc := 59) (As := [vI (τ 10 5)]) (st := []) (c_X9_byteAt hX (τ 10 5) ⟨by omega, by omega⟩ σ107 hIσ107) mv_X9_72 rfl rfl rfl (a_10 hX) dX9_advance_59 ⟨Nat.le_of_ble_eq_true rfl, Nat.le_of_ble_eq_true rfl⟩ ⟨Nat.le_refl _, Nat.le_refl _⟩ rfl (Nat.le_of_ble_eq_true rfl) rfl (fun z108 σ109 hz108 => ?_)
        obtain ⟨r111, rfl, hr111, rfl, q110_0, q110_1⟩ := hz108
        replace q110_0 : (¬ (0 ≤ (τ 10 5) ∧ (τ 10 5) < σ107 10 10 ∧ (τ 10 5) < 400) ∧ r111 = -1) ∨ (0 ≤ (τ 10 5) ∧ (τ 10 5) < σ107 10 10 ∧ (τ 10 5) < 400 ∧ 0 ≤ r111 ∧ r111 = tw_and (σ107 11 (τ 10 5).toNat) 255) := q110_0
        have y112 : σ107 10 10 = τ 10 10 := (tw_ne1 eσ107 (by omega))
        have f113 : (0 : Int) ≤ τ 10 10 ∧ τ 10 10 ≤ 400 := hIτ 10 10
        have y114 : σ107 11 ((τ 10 5).toNat) = τ 11 ((τ 10 5).toNat) := (tw_ne1 eσ107 (by omega))
        replace q110_1 : r111 = fX σ107 (τ 10 5) := q110_1
        refine j_st (st' := [vI r111]) rfl ?_
        have fy : fX σ107 = fX σ := fX_F (hFσ107 10 10 (show ¬ ((10 = 10 ∧ (10 = 5 ∨ 10 = 6 ∨ 10 = 7 ∨ 10 = 8 ∨ 10 = 11 ∨ 10 = 12))) from by omega)) (fun j => hFσ107 11 j (show ¬ ((11 = 10 ∧ (j = 5 ∨ j = 6 ∨ j = 7 ∨ j = 8 ∨ j = 11 ∨ j = 12))) from by omega))
        have b7 := q110_1; rw [fy] at b7
        have pa : σ107 10 5 = τ 10 5 := (tw_ne1 eσ107 (by omega))
        have y115 : σ107 10 7 = τ 10 5 := (tw_eq1 eσ107)
        refine j_istore_n (pc := 62) (i := 1) (ls' := [(0, vR 10), (1, vI r111)]) [1, 0] dX9_advance_62 rfl (Nat.le_of_ble_eq_true rfl) rfl rfl ?_
        refine j_iload_n (pc := 63) dX9_advance_63 rfl rfl ?_
        refine j_ifR_ge (pc := 64) (tgt := 75) ⟨by omega, by omega⟩ dX9_advance_64 rfl (fun h116 => ?_) (fun h116 => ?_)
        · refine j_iload_n (pc := 75) dX9_advance_75 rfl rfl ?_
          refine j_callS (pc := 76) (As := [vI r111]) (st := []) (c_X9_isLetter r111 ⟨by omega, by omega⟩ σ107 hIσ107) ms_X9_79 rfl dX9_advance_76 ⟨Nat.le_of_ble_eq_true rfl, Nat.le_of_ble_eq_true rfl⟩ ⟨Nat.le_refl _, Nat.le_refl _⟩ rfl (Nat.le_of_ble_eq_true rfl) rfl (fun z117 σ118 hz117 => ?_)
          obtain ⟨r120, rfl, hr120, rfl, q119_0⟩ := hz117
          replace q119_0 : (r120 = 1 ∧ 97 ≤ r111 ∧ r111 ≤ 122) ∨ (r120 = 0 ∧ ¬ (97 ≤ r111 ∧ r111 ≤ 122)) := q119_0
          refine j_st (st' := [vI r120]) rfl ?_
          refine j_ifR_eq (pc := 79) (tgt := 89) ⟨by omega, by omega⟩ dX9_advance_79 rfl (fun h121 => ?_) (fun h121 => ?_)
          · refine j_iload_n (pc := 89) dX9_advance_89 rfl rfl ?_
            refine j_callS (pc := 90) (As := [vI r111]) (st := []) (c_X9_isFigure r111 ⟨by omega, by omega⟩ σ107 hIσ107) ms_X9_86 rfl dX9_advance_90 ⟨Nat.le_of_ble_eq_true rfl, Nat.le_of_ble_eq_true rfl⟩ ⟨Nat.le_refl _, Nat.le_refl _⟩ rfl (Nat.le_of_ble_eq_true rfl) rfl (fun z122 σ123 hz122 => ?_)
            obtain ⟨r125, rfl, hr125, rfl, q124_0⟩ := hz122
            replace q124_0 : (r125 = 1 ∧ 48 ≤ r111 ∧ r111 ≤ 57) ∨ (r125 = 0 ∧ ¬ (48 ≤ r111 ∧ r111 ≤ 57)) := q124_0
            refine j_st (st' := [vI r125]) rfl ?_
            refine j_ifR_eq (pc := 93) (tgt := 103) ⟨by omega, by omega⟩ dX9_advance_93 rfl (fun h126 => ?_) (fun h126 => ?_)
            · refine j_iload_n (pc := 103) dX9_advance_103 rfl rfl ?_
              refine j_bipush (pc := 104) dX9_advance_104 rfl ?_
              refine j_icmpR_ne (pc := 106) (tgt := 116) ⟨by omega, by omega⟩ ⟨by omega, by omega⟩ dX9_advance_106 rfl (fun h127 => ?_) (fun h127 => ?_)
              · refine j_aload_n (pc := 116) dX9_advance_116 rfl rfl ?_
                refine j_iconst (pc := 117) dX9_advance_117 ?_
                refine j_aload_n (pc := 118) dX9_advance_118 rfl rfl ?_
                refine j_getI (pc := 119) fl_X9_76 dX9_advance_119 (a_10 hX) rfl ?_
                refine j_topV (show σ107 10 7 = τ 10 5 from (tw_eq1 eσ107)) ?_
                refine j_callV (pc := 122) (As := [vI 1, vI (τ 10 5)]) (st := []) (c_X9_fail hX 1 ⟨by omega, by omega⟩ (τ 10 5) ⟨by omega, by omega⟩ σ107 hIσ107) mv_X9_61 rfl rfl rfl (a_10 hX) dX9_advance_122 ⟨Nat.le_of_ble_eq_true rfl, Nat.le_of_ble_eq_true rfl⟩ ⟨Nat.le_refl _, Nat.le_refl _⟩ rfl (Nat.le_of_ble_eq_true rfl) rfl (fun z128 σ129 hz128 => ?_)
                obtain ⟨rfl, hIσ129, hGσ129, q130_0⟩ := hz128
                replace q130_0 : (σ107 10 11 = 0 ∧ σ129 10 11 = (1 : Int) ∧ σ129 10 12 = (τ 10 5)) ∨ (¬ σ107 10 11 = 0 ∧ σ129 10 11 = σ107 10 11 ∧ σ129 10 12 = σ107 10 12) := q130_0
                have y132 : σ107 10 11 = τ 10 11 := (tw_ne1 eσ107 (by omega))
                have f133 : (0 : Int) ≤ τ 10 11 ∧ τ 10 11 ≤ 5 := hIτ 10 11
                have y134 : σ107 10 12 = τ 10 12 := (tw_ne1 eσ107 (by omega))
                have f135 : (0 : Int) ≤ τ 10 12 ∧ τ 10 12 ≤ 400 := hIτ 10 12
                have hFσ129 : tw_F (fun c j => (c = 10 ∧ (j = 5 ∨ j = 6 ∨ j = 7 ∨ j = 8 ∨ j = 11 ∨ j = 12))) σ σ129 := tw_F_tr hFσ107 hGσ129 (fun c j q => (show (c = 10 ∧ (j = 5 ∨ j = 6 ∨ j = 7 ∨ j = 8 ∨ j = 11 ∨ j = 12)) from by replace q : (c = 10 ∧ (j = 11 ∨ j = 12)) := q; omega))
                refine j_st (st' := []) rfl ?_
                have y136 : σ129 10 5 = τ 10 5 := ((hGσ129 10 5 (show ¬ ((10 = 10 ∧ (5 = 11 ∨ 5 = 12))) from by omega))).trans (tw_ne1 eσ107 (by omega))
                have y137 : σ129 10 6 = τ 10 6 := ((hGσ129 10 6 (show ¬ ((10 = 10 ∧ (6 = 11 ∨ 6 = 12))) from by omega))).trans (tw_ne1 eσ107 (by omega))
                have y138 : σ129 10 7 = τ 10 5 := ((hGσ129 10 7 (show ¬ ((10 = 10 ∧ (7 = 11 ∨ 7 = 12))) from by omega))).trans (tw_eq1 eσ107)
                have y139 : σ129 10 8 = τ 10 8 := ((hGσ129 10 8 (show ¬ ((10 = 10 ∧ (8 = 11 ∨ 8 = 12))) from by omega))).trans (tw_ne1 eσ107 (by omega))
                skip
                skip
                have ax : aX σ129 = tok (fX σ) (aX σ) := adv_bad (by omega) (by omega) (by omega) (by omega) (by rw [show σ129 10 7 = τ 10 5 from by omega]; omega)
                have am := adv_mon ax (hI 10 10)
                have y140 : σ129 10 5 = τ 10 5 := ((hGσ129 10 5 (show ¬ ((10 = 10 ∧ (5 = 11 ∨ 5 = 12))) from by omega))).trans (tw_ne1 eσ107 (by omega))
                have y141 : σ129 10 6 = τ 10 6 := ((hGσ129 10 6 (show ¬ ((10 = 10 ∧ (6 = 11 ∨ 6 = 12))) from by omega))).trans (tw_ne1 eσ107 (by omega))
                have f142 : (0 : Int) ≤ τ 10 6 ∧ τ 10 6 ≤ 3 := hIτ 10 6
                have y143 : σ129 10 7 = τ 10 5 := ((hGσ129 10 7 (show ¬ ((10 = 10 ∧ (7 = 11 ∨ 7 = 12))) from by omega))).trans (tw_eq1 eσ107)
                have y144 : σ129 10 5 = τ 10 5 := ((hGσ129 10 5 (show ¬ ((10 = 10 ∧ (5 = 11 ∨ 5 = 12))) from by omega))).trans (tw_ne1 eσ107 (by omega))
                have y145 : σ129 10 6 = τ 10 6 := ((hGσ129 10 6 (show ¬ ((10 = 10 ∧ (6 = 11 ∨ 6 = 12))) from by omega))).trans (tw_ne1 eσ107 (by omega))
                exact j_vret (pc := 125) ⟨rfl, rfl⟩ dX9_advance_125 rfl ⟨rfl, hIσ129, hFσ129, ax, by omega, by omega, am⟩
              · refine j_aload_n (pc := 109) dX9_advance_109 rfl rfl ?_
                have y146 : σ107 10 5 = τ 10 5 := (tw_ne1 eσ107 (by omega))
                refine j_callV (pc := 110) (As := []) (st := []) (c_X9_readSign hX σ107 hIσ107 (by omega)) mv_X9_92 rfl rfl rfl (a_10 hX) dX9_advance_110 ⟨Nat.le_of_ble_eq_true rfl, Nat.le_of_ble_eq_true rfl⟩ ⟨Nat.le_refl _, Nat.le_refl _⟩ rfl (Nat.le_of_ble_eq_true rfl) rfl (fun z147 σ148 hz147 => ?_)
                obtain ⟨rfl, hIσ148, hGσ148, q149_0, q149_1⟩ := hz147
                replace q149_0 : σ148 10 6 = 3 := q149_0
                replace q149_1 : σ148 10 5 = σ107 10 5 + 1 := q149_1
                have y151 : σ107 10 5 = τ 10 5 := (tw_ne1 eσ107 (by omega))
                have hFσ148 : tw_F (fun c j => (c = 10 ∧ (j = 5 ∨ j = 6 ∨ j = 7 ∨ j = 8 ∨ j = 11 ∨ j = 12))) σ σ148 := tw_F_tr hFσ107 hGσ148 (fun c j q => (show (c = 10 ∧ (j = 5 ∨ j = 6 ∨ j = 7 ∨ j = 8 ∨ j = 11 ∨ j = 12)) from by replace q : (c = 10 ∧ (j = 5 ∨ j = 6)) := q; omega))
                refine j_st (st' := []) rfl ?_
                skip
                skip
                have y152 : σ148 10 7 = τ 10 5 := ((hGσ148 10 7 (show ¬ ((10 = 10 ∧ (7 = 5 ∨ 7 = 6))) from by omega))).trans (tw_eq1 eσ107)
                have y153 : σ148 10 8 = τ 10 8 := ((hGσ148 10 8 (show ¬ ((10 = 10 ∧ (8 = 5 ∨ 8 = 6))) from by omega))).trans (tw_ne1 eσ107 (by omega))
                have y154 : σ148 10 11 = τ 10 11 := ((hGσ148 10 11 (show ¬ ((10 = 10 ∧ (11 = 5 ∨ 11 = 6))) from by omega))).trans (tw_ne1 eσ107 (by omega))
                have y155 : σ148 10 12 = τ 10 12 := ((hGσ148 10 12 (show ¬ ((10 = 10 ∧ (12 = 5 ∨ 12 = 6))) from by omega))).trans (tw_ne1 eσ107 (by omega))
                have ax : aX σ148 = tok (fX σ) (aX σ) := adv_stop (by omega) (drX_F (hFσ148 10 3 (show ¬ ((10 = 10 ∧ (3 = 5 ∨ 3 = 6 ∨ 3 = 7 ∨ 3 = 8 ∨ 3 = 11 ∨ 3 = 12))) from by omega)) (hFσ148 10 4 (show ¬ ((10 = 10 ∧ (4 = 5 ∨ 4 = 6 ∨ 4 = 7 ∨ 4 = 8 ∨ 4 = 11 ∨ 4 = 12))) from by omega)) (fun c j h => hFσ148 c j (show ¬ ((c = 10 ∧ (j = 5 ∨ j = 6 ∨ j = 7 ∨ j = 8 ∨ j = 11 ∨ j = 12))) from by omega))) (by omega) (by omega) (by rw [show σ148 10 7 = τ 10 5 from by omega]; omega) (by omega) (by omega)
                refine j_goto (pc := 113) (tgt := 125) dX9_advance_113 rfl ?_
                have am := adv_mon ax (hI 10 10)
                have y156 : σ148 10 11 = τ 10 11 := ((hGσ148 10 11 (show ¬ ((10 = 10 ∧ (11 = 5 ∨ 11 = 6))) from by omega))).trans (tw_ne1 eσ107 (by omega))
                have f157 : (0 : Int) ≤ τ 10 11 ∧ τ 10 11 ≤ 5 := hIτ 10 11
                have y158 : σ148 10 7 = τ 10 5 := ((hGσ148 10 7 (show ¬ ((10 = 10 ∧ (7 = 5 ∨ 7 = 6))) from by omega))).trans (tw_eq1 eσ107)
                have y159 : σ148 10 11 = τ 10 11 := ((hGσ148 10 11 (show ¬ ((10 = 10 ∧ (11 = 5 ∨ 11 = 6))) from by omega))).trans (tw_ne1 eσ107 (by omega))
                exact j_vret (pc := 125) ⟨rfl, rfl⟩ dX9_advance_125 rfl ⟨rfl, hIσ148, hFσ148, ax, by omega, by omega, am⟩
            · refine j_aload_n (pc := 96) dX9_advance_96 rfl rfl ?_
              refine j_callV (pc := 97) (As := []) (st := []) (c_X9_readNumber hX σ107 hIσ107) mv_X9_89 rfl rfl rfl (a_10 hX) dX9_advance_97 ⟨Nat.le_of_ble_eq_true rfl, Nat.le_of_ble_eq_true rfl⟩ ⟨Nat.le_refl _, Nat.le_refl _⟩ rfl (Nat.le_of_ble_eq_true rfl) rfl (fun z160 σ161 hz160 => ?_)
              obtain ⟨rfl, hIσ161, hGσ161, q162_0, q162_1, q162_2, q162_3, q162_4⟩ := hz160
              replace q162_0 : σ161 10 6 = 2 := q162_0
              replace q162_1 : σ161 10 5 = run isG (fX σ107) (σ107 10 5) := q162_1
              have y164 : σ107 10 5 = τ 10 5 := (tw_ne1 eσ107 (by omega))
              replace q162_2 : σ161 10 8 = nv (fX σ107) (σ107 10 5) (σ161 10 5 - σ107 10 5).toNat := q162_2
              have y165 : σ107 10 5 = τ 10 5 := (tw_ne1 eσ107 (by omega))
              replace q162_3 : (σ161 10 5 - σ107 10 7 ≤ 3 ∧ σ161 10 11 = σ107 10 11 ∧ σ161 10 12 = σ107 10 12) ∨ (3 < σ161 10 5 - σ107 10 7 ∧ σ107 10 11 = 0 ∧ σ161 10 11 = 1 ∧ σ161 10 12 = σ107 10 7) ∨ (3 < σ161 10 5 - σ107 10 7 ∧ ¬ σ107 10 11 = 0 ∧ σ161 10 11 = σ107 10 11 ∧ σ161 10 12 = σ107 10 12) := q162_3
              have y166 : σ107 10 7 = τ 10 5 := (tw_eq1 eσ107)
              have y167 : σ107 10 11 = τ 10 11 := (tw_ne1 eσ107 (by omega))
              have f168 : (0 : Int) ≤ τ 10 11 ∧ τ 10 11 ≤ 5 := hIτ 10 11
              have y169 : σ107 10 12 = τ 10 12 := (tw_ne1 eσ107 (by omega))
              have f170 : (0 : Int) ≤ τ 10 12 ∧ τ 10 12 ≤ 400 := hIτ 10 12
              replace q162_4 : ¬ σ107 10 5 ≤ σ107 10 10 ∨ σ161 10 5 ≤ σ107 10 10 := q162_4
              have y171 : σ107 10 5 = τ 10 5 := (tw_ne1 eσ107 (by omega))
              have y172 : σ107 10 10 = τ 10 10 := (tw_ne1 eσ107 (by omega))
              have hFσ161 : tw_F (fun c j => (c = 10 ∧ (j = 5 ∨ j = 6 ∨ j = 7 ∨ j = 8 ∨ j = 11 ∨ j = 12))) σ σ161 := tw_F_tr hFσ107 hGσ161 (fun c j q => (show (c = 10 ∧ (j = 5 ∨ j = 6 ∨ j = 7 ∨ j = 8 ∨ j = 11 ∨ j = 12)) from by replace q : (c = 10 ∧ (j = 5 ∨ j = 6 ∨ j = 8 ∨ j = 11 ∨ j = 12)) := q; omega))
              refine j_st (st' := []) rfl ?_
              skip
              skip
              have y173 : σ161 10 7 = τ 10 5 := ((hGσ161 10 7 (show ¬ ((10 = 10 ∧ (7 = 5 ∨ 7 = 6 ∨ 7 = 8 ∨ 7 = 11 ∨ 7 = 12))) from by omega))).trans (tw_eq1 eσ107)
              skip
              skip
              skip
              have z1 := q162_1; rw [fy, pa] at z1
              have z2 := q162_2; rw [fy, pa] at z2
              have ax : aX σ161 = tok (fX σ) (aX σ) := by (rcases (show σ161 10 5 - τ 10 5 ≤ 3 ∨ 3 < σ161 10 5 - τ 10 5 from by omega) with u | u); (exact adv_num (by omega) (drX_F (hFσ161 10 3 (show ¬ ((10 = 10 ∧ (3 = 5 ∨ 3 = 6 ∨ 3 = 7 ∨ 3 = 8 ∨ 3 = 11 ∨ 3 = 12))) from by omega)) (hFσ161 10 4 (show ¬ ((10 = 10 ∧ (4 = 5 ∨ 4 = 6 ∨ 4 = 7 ∨ 4 = 8 ∨ 4 = 11 ∨ 4 = 12))) from by omega)) (fun c j h => hFσ161 c j (show ¬ ((c = 10 ∧ (j = 5 ∨ j = 6 ∨ j = 7 ∨ j = 8 ∨ j = 11 ∨ j = 12))) from by omega))) (by omega) (by omega) (by rw [show σ161 10 7 = τ 10 5 from by omega]; omega) (by omega) (by rw [show σ161 10 7 = τ 10 5 from by omega]; exact z1) (by rw [show σ161 10 7 = τ 10 5 from by omega]; exact z2) (by omega)); (exact adv_long (by omega) (by omega) (by omega) (by omega) (by rw [show σ161 10 7 = τ 10 5 from by omega]; omega) (by rw [show σ161 10 7 = τ 10 5 from by omega]; exact z1) (by omega))
              refine j_goto (pc := 100) (tgt := 125) dX9_advance_100 rfl ?_
              have am := adv_mon ax (hI 10 10)
              have y174 : σ161 10 7 = τ 10 5 := ((hGσ161 10 7 (show ¬ ((10 = 10 ∧ (7 = 5 ∨ 7 = 6 ∨ 7 = 8 ∨ 7 = 11 ∨ 7 = 12))) from by omega))).trans (tw_eq1 eσ107)
              exact j_vret (pc := 125) ⟨rfl, rfl⟩ dX9_advance_125 rfl ⟨rfl, hIσ161, hFσ161, ax, by omega, by omega, am⟩
          · refine j_aload_n (pc := 82) dX9_advance_82 rfl rfl ?_
            refine j_callV (pc := 83) (As := []) (st := []) (c_X9_readName hX σ107 hIσ107) mv_X9_83 rfl rfl rfl (a_10 hX) dX9_advance_83 ⟨Nat.le_of_ble_eq_true rfl, Nat.le_of_ble_eq_true rfl⟩ ⟨Nat.le_refl _, Nat.le_refl _⟩ rfl (Nat.le_of_ble_eq_true rfl) rfl (fun z175 σ176 hz175 => ?_)
            obtain ⟨rfl, hIσ176, hGσ176, q177_0, q177_1, q177_2⟩ := hz175
            replace q177_0 : σ176 10 6 = 1 := q177_0
            replace q177_1 : σ176 10 5 = run isL (fX σ107) (σ107 10 5) := q177_1
            have y179 : σ107 10 5 = τ 10 5 := (tw_ne1 eσ107 (by omega))
            replace q177_2 : ¬ σ107 10 5 ≤ σ107 10 10 ∨ σ176 10 5 ≤ σ107 10 10 := q177_2
            have y180 : σ107 10 5 = τ 10 5 := (tw_ne1 eσ107 (by omega))
            have y181 : σ107 10 10 = τ 10 10 := (tw_ne1 eσ107 (by omega))
            have hFσ176 : tw_F (fun c j => (c = 10 ∧ (j = 5 ∨ j = 6 ∨ j = 7 ∨ j = 8 ∨ j = 11 ∨ j = 12))) σ σ176 := tw_F_tr hFσ107 hGσ176 (fun c j q => (show (c = 10 ∧ (j = 5 ∨ j = 6 ∨ j = 7 ∨ j = 8 ∨ j = 11 ∨ j = 12)) from by replace q : (c = 10 ∧ (j = 5 ∨ j = 6)) := q; omega))
            refine j_st (st' := []) rfl ?_
            skip
            skip
            have y182 : σ176 10 7 = τ 10 5 := ((hGσ176 10 7 (show ¬ ((10 = 10 ∧ (7 = 5 ∨ 7 = 6))) from by omega))).trans (tw_eq1 eσ107)
            have y183 : σ176 10 8 = τ 10 8 := ((hGσ176 10 8 (show ¬ ((10 = 10 ∧ (8 = 5 ∨ 8 = 6))) from by omega))).trans (tw_ne1 eσ107 (by omega))
            have y184 : σ176 10 11 = τ 10 11 := ((hGσ176 10 11 (show ¬ ((10 = 10 ∧ (11 = 5 ∨ 11 = 6))) from by omega))).trans (tw_ne1 eσ107 (by omega))
            have y185 : σ176 10 12 = τ 10 12 := ((hGσ176 10 12 (show ¬ ((10 = 10 ∧ (12 = 5 ∨ 12 = 6))) from by omega))).trans (tw_ne1 eσ107 (by omega))
            have z1 := q177_1; rw [fy, pa] at z1
            have ax : aX σ176 = tok (fX σ) (aX σ) := adv_name (by omega) (drX_F (hFσ176 10 3 (show ¬ ((10 = 10 ∧ (3 = 5 ∨ 3 = 6 ∨ 3 = 7 ∨ 3 = 8 ∨ 3 = 11 ∨ 3 = 12))) from by omega)) (hFσ176 10 4 (show ¬ ((10 = 10 ∧ (4 = 5 ∨ 4 = 6 ∨ 4 = 7 ∨ 4 = 8 ∨ 4 = 11 ∨ 4 = 12))) from by omega)) (fun c j h => hFσ176 c j (show ¬ ((c = 10 ∧ (j = 5 ∨ j = 6 ∨ j = 7 ∨ j = 8 ∨ j = 11 ∨ j = 12))) from by omega))) (by omega) (by omega) (by rw [show σ176 10 7 = τ 10 5 from by omega]; omega) (by omega) (by rw [show σ176 10 7 = τ 10 5 from by omega]; exact z1)
            refine j_goto (pc := 86) (tgt := 125) dX9_advance_86 rfl ?_
            have am := adv_mon ax (hI 10 10)
            have y186 : σ176 10 11 = τ 10 11 := ((hGσ176 10 11 (show ¬ ((10 = 10 ∧ (11 = 5 ∨ 11 = 6))) from by omega))).trans (tw_ne1 eσ107 (by omega))
            have f187 : (0 : Int) ≤ τ 10 11 ∧ τ 10 11 ≤ 5 := hIτ 10 11
            have y188 : σ176 10 7 = τ 10 5 := ((hGσ176 10 7 (show ¬ ((10 = 10 ∧ (7 = 5 ∨ 7 = 6))) from by omega))).trans (tw_eq1 eσ107)
            have y189 : σ176 10 11 = τ 10 11 := ((hGσ176 10 11 (show ¬ ((10 = 10 ∧ (11 = 5 ∨ 11 = 6))) from by omega))).trans (tw_ne1 eσ107 (by omega))
            exact j_vret (pc := 125) ⟨rfl, rfl⟩ dX9_advance_125 rfl ⟨rfl, hIσ176, hFσ176, ax, by omega, by omega, am⟩
        · refine j_aload_n (pc := 67) dX9_advance_67 rfl rfl ?_
          refine j_iconst (pc := 68) dX9_advance_68 ?_
          refine j_putI (pc := 69) fl_X9_48 fp_X9_6 dX9_advance_69 (a_10 hX) rfl (j_nm (fun σ190 (eσ190 : σ190 = tw_up σ107 10 6 0) => ?_))
          have hIσ190 : tw_I σ190 := tw_I_up hIσ107 eσ190 (show (0 : Int) ≤ 0 ∧ 0 ≤ 3 from ⟨by omega, by omega⟩)
          have hFσ190 : tw_F (fun c j => (c = 10 ∧ (j = 5 ∨ j = 6 ∨ j = 7 ∨ j = 8 ∨ j = 11 ∨ j = 12))) σ σ190 := tw_F_up hFσ107 eσ190 (show (10 = 10 ∧ (6 = 5 ∨ 6 = 6 ∨ 6 = 7 ∨ 6 = 8 ∨ 6 = 11 ∨ 6 = 12)) from by omega)
          have y191 : σ190 10 5 = τ 10 5 := ((tw_ne1 eσ190 (by omega))).trans (tw_ne1 eσ107 (by omega))
          have y192 : σ190 10 6 = 0 := (tw_eq1 eσ190)
          have y193 : σ190 10 7 = τ 10 5 := ((tw_ne1 eσ190 (by omega))).trans (tw_eq1 eσ107)
          have y194 : σ190 10 8 = τ 10 8 := ((tw_ne1 eσ190 (by omega))).trans (tw_ne1 eσ107 (by omega))
          have y195 : σ190 10 11 = τ 10 11 := ((tw_ne1 eσ190 (by omega))).trans (tw_ne1 eσ107 (by omega))
          have y196 : σ190 10 12 = τ 10 12 := ((tw_ne1 eσ190 (by omega))).trans (tw_ne1 eσ107 (by omega))
          have ax : aX σ190 = tok (fX σ) (aX σ) := adv_end (by omega) (drX_F (hFσ190 10 3 (show ¬ ((10 = 10 ∧ (3 = 5 ∨ 3 = 6 ∨ 3 = 7 ∨ 3 = 8 ∨ 3 = 11 ∨ 3 = 12))) from by omega)) (hFσ190 10 4 (show ¬ ((10 = 10 ∧ (4 = 5 ∨ 4 = 6 ∨ 4 = 7 ∨ 4 = 8 ∨ 4 = 11 ∨ 4 = 12))) from by omega)) (fun c j h => hFσ190 c j (show ¬ ((c = 10 ∧ (j = 5 ∨ j = 6 ∨ j = 7 ∨ j = 8 ∨ j = 11 ∨ j = 12))) from by omega))) (by omega) (by omega) (by rw [show σ190 10 7 = τ 10 5 from by omega]; omega) (by omega) (by omega)
          refine j_goto (pc := 72) (tgt := 125) dX9_advance_72 rfl ?_
          have am := adv_mon ax (hI 10 10)
          have y197 : σ190 10 5 = τ 10 5 := ((tw_ne1 eσ190 (by omega))).trans (tw_ne1 eσ107 (by omega))
          have y198 : σ190 10 11 = τ 10 11 := ((tw_ne1 eσ190 (by omega))).trans (tw_ne1 eσ107 (by omega))
          have f199 : (0 : Int) ≤ τ 10 11 ∧ τ 10 11 ≤ 5 := hIτ 10 11
          have y200 : σ190 10 6 = 0 := (tw_eq1 eσ190)
          have y201 : σ190 10 7 = τ 10 5 := ((tw_ne1 eσ190 (by omega))).trans (tw_eq1 eσ107)
          have y202 : σ190 10 11 = τ 10 11 := ((tw_ne1 eσ190 (by omega))).trans (tw_ne1 eσ107 (by omega))
          have y203 : σ190 10 5 = τ 10 5 := ((tw_ne1 eσ190 (by omega))).trans (tw_ne1 eσ107 (by omega))
          have y204 : σ190 10 6 = 0 := (tw_eq1 eσ190)
          exact j_vret (pc := 125) ⟨rfl, rfl⟩ dX9_advance_125 rfl ⟨rfl, hIσ190, hFσ190, ax, by omega, by omega, am⟩
      · refine j_aload_n (pc := 30) dX9_advance_30 rfl rfl ?_
        refine j_dup (pc := 31) dX9_advance_31 rfl ?_
        refine j_getI (pc := 32) fl_X9_69 dX9_advance_32 (a_10 hX) rfl ?_
        refine j_iconst (pc := 35) dX9_advance_35 ?_
        refine j_iadd (pc := 36) dX9_advance_36 ?_
        refine j_putI (pc := 37) fl_X9_69 fp_X9_5 dX9_advance_37 (a_10 hX) rfl (j_nm (fun σ205 (eσ205 : σ205 = tw_up τ 10 5 ((τ 10 5) + 1)) => ?_))
        have hIσ205 : tw_I σ205 := tw_I_up hIτ eσ205 (show (0 : Int) ≤ (τ 10 5) + 1 ∧ (τ 10 5) + 1 ≤ 400 from ⟨by omega, by omega⟩)
        have hFσ205 : tw_F (fun c j => (c = 10 ∧ (j = 5 ∨ j = 6 ∨ j = 7 ∨ j = 8 ∨ j = 11 ∨ j = 12))) σ σ205 := tw_F_up hFτ eσ205 (show (10 = 10 ∧ (5 = 5 ∨ 5 = 6 ∨ 5 = 7 ∨ 5 = 8 ∨ 5 = 11 ∨ 5 = 12)) from by omega)
        refine j_iinc (pc := 40) (i := 1) (n := 1) (ls' := [(0, vR 10), (1, vI (i + 1))]) [1, 0] dX9_advance_40 rfl (Nat.le_of_ble_eq_true rfl) rfl rfl ?_
        refine j_goto (pc := 43) (tgt := 10) dX9_advance_43 rfl ?_
        refine j_ls (ls' := [(0, vR 10), (1, vI (i + 1))]) [0, 1] rfl ?_
        have y206 : σ205 10 11 = τ 10 11 := (tw_ne1 eσ205 (by omega))
        have f207 : (0 : Int) ≤ τ 10 11 ∧ τ 10 11 ≤ 5 := hIτ 10 11
        have y208 : σ205 10 12 = τ 10 12 := (tw_ne1 eσ205 (by omega))
        have f209 : (0 : Int) ≤ τ 10 12 ∧ τ 10 12 ≤ 400 := hIτ 10 12
        have y210 : σ205 10 5 = (τ 10 5) + 1 := (tw_eq1 eσ205)
        have y211 : σ205 10 5 = (τ 10 5) + 1 := (tw_eq1 eσ205)
        have y212 : σ205 10 5 = (τ 10 5) + 1 := (tw_eq1 eσ205)
        exact ih (i + 1) ⟨by omega, by omega⟩ σ205 hIσ205 hFσ205 (show σ 10 11 = 0 from by omega) (show σ205 10 11 = 0 from by omega) (show σ205 10 12 = σ 10 12 from by omega) (show σ205 10 5 = σ 10 5 + (i + 1) from by omega) (show run isS (fX σ) (σ205 10 5) = run isS (fX σ) (σ 10 5) from (by rw [(tw_eq1 eσ205)]; first | exact (run_s (show isS (fX σ (τ 10 5)) = true from decide_eq_true (by omega)) (by omega)).symm.trans i4 | rfl)) (show ¬ σ 10 5 ≤ σ 10 10 ∨ σ205 10 5 ≤ σ 10 10 from by omega) (show (400 - (i + 1)).toNat < N_ from by omega)
set_option maxHeartbeats 4000000 in
set_option maxRecDepth 100000 in
theorem c_X9_advance {G : tw_G} (hX : tw_isX G) (σ : tw_M) (hI : tw_I σ) : tw_C G yX9_advance cX9_advance 2 none 2 [vR 10] σ (q_X9_advance σ) := by
  refine tw_met [(0, vR 10)] (by decide +kernel) rfl (Nat.le_of_ble_eq_true rfl) ?_
  refine j_aload_n (pc := 0) dX9_advance_0 rfl rfl ?_
  refine j_getI (pc := 1) fl_X9_33 dX9_advance_1 (a_10 hX) rfl ?_
  have f213 : (0 : Int) ≤ σ 10 11 ∧ σ 10 11 ≤ 5 := hI 10 11
  refine j_ifR_eq (pc := 4) (tgt := 8) ⟨by omega, by omega⟩ dX9_advance_4 rfl (fun h214 => ?_) (fun h214 => ?_)
  · refine j_iconst (pc := 8) dX9_advance_8 ?_
    refine j_istore_n (pc := 9) (i := 1) (ls' := [(0, vR 10), (1, vI 0)]) [1, 0] dX9_advance_9 rfl (Nat.le_of_ble_eq_true rfl) rfl rfl ?_
    refine j_ls (ls' := [(0, vR 10), (1, vI 0)]) [0, 1] rfl ?_
    exact (l_X9_advance hX σ hI (((400 - (0 : Int)).toNat) + 1)) 0 ⟨by omega, by omega⟩ σ hI (tw_F_rf) (show σ 10 11 = 0 from by omega) (show σ 10 11 = 0 from by omega) (show σ 10 12 = σ 10 12 from by omega) (show σ 10 5 = σ 10 5 + (0 : Int) from by omega) (show run isS (fX σ) (σ 10 5) = run isS (fX σ) (σ 10 5) from (by rw [rfl]; first | exact (run_s (show isS (fX σ (τ 10 5)) = true from decide_eq_true (by omega)) (by omega)).symm.trans i4 | rfl)) (show ¬ σ 10 5 ≤ σ 10 10 ∨ σ 10 5 ≤ σ 10 10 from by omega) (Nat.lt_succ_self _)
  · have ax : aX σ = tok (fX σ) (aX σ) := adv_no (by omega)
    have am := adv_mon ax (hI 10 10)
    exact j_vret (pc := 7) ⟨rfl, rfl⟩ dX9_advance_7 rfl ⟨rfl, hI, (tw_F_rf), ax, by omega, by omega, am⟩
abbrev q_X9_isName (i : Nat) (σ : tw_M) : Option tw_V → tw_M → Prop := fun z τ => ∃ r : Int, z = some (vI r) ∧ (0 ≤ r ∧ r ≤ 1) ∧ σ = τ ∧ ((σ 10 6 = 1 ∧ r = nm (fX σ) (σ 10 7) (σ 10 5) i) ∨ (¬ σ 10 6 = 1 ∧ r = 0))
set_option maxHeartbeats 4000000 in
set_option maxRecDepth 100000 in
theorem l_X9_isName {G : tw_G} (hX : tw_isX G) (i : Nat) (hi : i < tw_lit.length) (σ : tw_M) (hI : tw_I σ) : ∀ N_ : Nat, (∀ (j : Int) (hj : 0 ≤ j ∧ j ≤ 8) (i0 : σ 10 6 = 1) (i1 : σ 10 5 - σ 10 7 = (tw_llen i : Int)) (i2 : ∀ k : Nat, (k : Int) < j → fX σ (σ 10 7 + (k : Int)) = tw_lch i k) (hm : (8 - j).toNat < N_), tw_J G (tw_mt RX9 cX9_isName 3 (some .boolean) 4) (tw_E G (q_X9_isName i σ)) 28 [(0, vR 10), (1, vR (200 + i)), (2, vI j)] [] σ) := by
  intro N_
  induction N_ with
  | zero => exact fun j hj i0 i1 i2 hm => absurd hm (Nat.not_lt_zero _)
  | succ N_ ih =>
    intro j hj i0 i1 i2 hm
    refine j_iload_n (pc := 28) dX9_isName_28 rfl rfl ?_
    refine j_aload_n (pc := 29) dX9_isName_29 rfl rfl ?_
    refine j_callT (pc := 30) (i := i) (As := []) (st := [vI j]) (c_J0_length_8abf5 i hi σ hI) hi mv_X9_98 rfl rfl dX9_isName_30 ⟨Nat.le_of_ble_eq_true rfl, Nat.le_of_ble_eq_true rfl⟩ ⟨Nat.le_refl _, Nat.le_refl _⟩ rfl (Nat.le_of_ble_eq_true rfl) rfl (fun z1 σ2 hz1 => ?_)
    obtain ⟨r4, rfl, hr4, rfl, q3_0⟩ := hz1
    replace q3_0 : r4 = (tw_llen i : Int) := q3_0
    refine j_st (st' := [vI r4, vI j]) rfl ?_
    refine j_icmpR_ge (pc := 33) (tgt := 62) ⟨by omega, by omega⟩ ⟨by omega, by omega⟩ dX9_isName_33 rfl (fun h5 => ?_) (fun h5 => ?_)
    · refine j_iconst (pc := 62) dX9_isName_62 ?_
      exact j_zret (pc := 63) ⟨rfl, rfl⟩ dX9_isName_63 rfl (nar_bool (by omega) (by omega)) ⟨_, rfl, ⟨by omega, by omega⟩, rfl, (by first | exact Or.inr ⟨by omega, by omega⟩ | exact Or.inl ⟨by omega, (nm_len (by omega)).symm⟩ | exact Or.inl ⟨by omega, (nm_1 (by omega) (fun k hk => i2 k (by omega))).symm⟩ | exact Or.inl ⟨by omega, (nm_ch (k := j.toNat) (by omega) (by rw [Int.toNat_of_nonneg (by omega)]; omega)).symm⟩)⟩
    · refine j_aload_n (pc := 36) dX9_isName_36 rfl rfl ?_
      refine j_aload_n (pc := 37) dX9_isName_37 rfl rfl ?_
      refine j_getI (pc := 38) fl_X9_76 dX9_isName_38 (a_10 hX) rfl ?_
      have f6 : (0 : Int) ≤ σ 10 7 ∧ σ 10 7 ≤ 400 := hI 10 7
      refine j_iload_n (pc := 41) dX9_isName_41 rfl rfl ?_
      refine j_iadd (pc := 42) dX9_isName_42 ?_
      refine j_callV (pc := 43) (As := [vI ((σ 10 7) + j)]) (st := []) (c_X9_byteAt hX ((σ 10 7) + j) ⟨by omega, by omega⟩ σ hI) mv_X9_72 rfl rfl rfl (a_10 hX) dX9_isName_43 ⟨Nat.le_of_ble_eq_true rfl, Nat.le_of_ble_eq_true rfl⟩ ⟨Nat.le_refl _, Nat.le_refl _⟩ rfl (Nat.le_of_ble_eq_true rfl) rfl (fun z7 σ8 hz7 => ?_)
      obtain ⟨r10, rfl, hr10, rfl, q9_0, q9_1⟩ := hz7
      replace q9_0 : (¬ (0 ≤ ((σ 10 7) + j) ∧ ((σ 10 7) + j) < σ 10 10 ∧ ((σ 10 7) + j) < 400) ∧ r10 = -1) ∨ (0 ≤ ((σ 10 7) + j) ∧ ((σ 10 7) + j) < σ 10 10 ∧ ((σ 10 7) + j) < 400 ∧ 0 ≤ r10 ∧ r10 = tw_and (σ 11 ((σ 10 7) + j).toNat) 255) := q9_0
      replace q9_1 : r10 = fX σ ((σ 10 7) + j) := q9_1
      refine j_st (st' := [vI r10]) rfl ?_
      refine j_aload_n (pc := 46) dX9_isName_46 rfl rfl ?_
      refine j_iload_n (pc := 47) dX9_isName_47 rfl rfl ?_
      refine j_callT (pc := 48) (i := i) (As := [vI j]) (st := [vI r10]) (c_J0_charAt_5068e i hi j ⟨by omega, by omega⟩ σ hI (by omega)) hi mv_X9_102 rfl rfl dX9_isName_48 ⟨Nat.le_of_ble_eq_true rfl, Nat.le_of_ble_eq_true rfl⟩ ⟨Nat.le_refl _, Nat.le_refl _⟩ rfl (Nat.le_of_ble_eq_true rfl) rfl (fun z11 σ12 hz11 => ?_)
      obtain ⟨r14, rfl, hr14, rfl, q13_0⟩ := hz11
      replace q13_0 : r14 = tw_lch i j.toNat := q13_0
      refine j_st (st' := [vI r14, vI r10]) rfl ?_
      refine j_icmpR_eq (pc := 51) (tgt := 56) ⟨by omega, by omega⟩ ⟨by omega, by omega⟩ dX9_isName_51 rfl (fun h15 => ?_) (fun h15 => ?_)
      · refine j_iinc (pc := 56) (i := 2) (n := 1) (ls' := [(0, vR 10), (1, vR (200 + i)), (2, vI (j + 1))]) [1, 2, 0] dX9_isName_56 rfl (Nat.le_of_ble_eq_true rfl) rfl rfl ?_
        refine j_goto (pc := 59) (tgt := 28) dX9_isName_59 rfl ?_
        refine j_ls (ls' := [(0, vR 10), (1, vR (200 + i)), (2, vI (j + 1))]) [0, 1, 2] rfl ?_
        exact ih (j + 1) ⟨by omega, by omega⟩ (show σ 10 6 = 1 from by omega) (show σ 10 5 - σ 10 7 = (tw_llen i : Int) from by omega) (show ∀ k : Nat, (k : Int) < (j + 1) → fX σ (σ 10 7 + (k : Int)) = tw_lch i k from (by first | exact (fun k hk => by exfalso; omega) | exact (fun k hk => by rcases (show (k : Int) < j ∨ (k : Int) = j by omega) with z | z; (exact i2 k z); (have e : j.toNat = k := by omega); rw [z, ← e]; omega))) (show (8 - (j + 1)).toNat < N_ from by omega)
      · refine j_iconst (pc := 54) dX9_isName_54 ?_
        exact j_zret (pc := 55) ⟨rfl, rfl⟩ dX9_isName_55 rfl (nar_bool (by omega) (by omega)) ⟨_, rfl, ⟨by omega, by omega⟩, rfl, (by first | exact Or.inr ⟨by omega, by omega⟩ | exact Or.inl ⟨by omega, (nm_len (by omega)).symm⟩ | exact Or.inl ⟨by omega, (nm_1 (by omega) (fun k hk => i2 k (by omega))).symm⟩ | exact Or.inl ⟨by omega, (nm_ch (k := j.toNat) (by omega) (by rw [Int.toNat_of_nonneg (by omega)]; omega)).symm⟩)⟩
set_option maxHeartbeats 4000000 in
set_option maxRecDepth 100000 in
theorem c_X9_isName {G : tw_G} (hX : tw_isX G) (i : Nat) (hi : i < tw_lit.length) (σ : tw_M) (hI : tw_I σ) : tw_C G yX9_isName cX9_isName 3 (some .boolean) 4 [vR 10, vR (200 + i)] σ (q_X9_isName i σ) := by
  refine tw_met [(0, vR 10), (1, vR (200 + i))] (by decide +kernel) rfl (Nat.le_of_ble_eq_true rfl) ?_
  refine j_aload_n (pc := 0) dX9_isName_0 rfl rfl ?_
  refine j_getI (pc := 1) fl_X9_48 dX9_isName_1 (a_10 hX) rfl ?_
  have f16 : (0 : Int) ≤ σ 10 6 ∧ σ 10 6 ≤ 3 := hI 10 6
  refine j_iconst (pc := 4) dX9_isName_4 ?_
  refine j_icmpR_ne (pc := 5) (tgt := 24) ⟨by omega, by omega⟩ ⟨by omega, by omega⟩ dX9_isName_5 rfl (fun h17 => ?_) (fun h17 => ?_)
  · refine j_iconst (pc := 24) dX9_isName_24 ?_
    exact j_zret (pc := 25) ⟨rfl, rfl⟩ dX9_isName_25 rfl (nar_bool (by omega) (by omega)) ⟨_, rfl, ⟨by omega, by omega⟩, rfl, (by first | exact Or.inr ⟨by omega, by omega⟩ | exact Or.inl ⟨by omega, (nm_len (by omega)).symm⟩ | exact Or.inl ⟨by omega, (nm_1 (by omega) (fun k hk => i2 k (by omega))).symm⟩ | exact Or.inl ⟨by omega, (nm_ch (k := j.toNat) (by omega) (by rw [Int.toNat_of_nonneg (by omega)]; omega)).symm⟩)⟩
  · refine j_aload_n (pc := 8) dX9_isName_8 rfl rfl ?_
    refine j_getI (pc := 9) fl_X9_69 dX9_isName_9 (a_10 hX) rfl ?_
    have f18 : (0 : Int) ≤ σ 10 5 ∧ σ 10 5 ≤ 400 := hI 10 5
    refine j_aload_n (pc := 12) dX9_isName_12 rfl rfl ?_
    refine j_getI (pc := 13) fl_X9_76 dX9_isName_13 (a_10 hX) rfl ?_
    have f19 : (0 : Int) ≤ σ 10 7 ∧ σ 10 7 ≤ 400 := hI 10 7
    refine j_isub (pc := 16) dX9_isName_16 ?_
    refine j_aload_n (pc := 17) dX9_isName_17 rfl rfl ?_
    refine j_callT (pc := 18) (i := i) (As := []) (st := [vI ((σ 10 5) - (σ 10 7))]) (c_J0_length_8abf5 i hi σ hI) hi mv_X9_98 rfl rfl dX9_isName_18 ⟨Nat.le_of_ble_eq_true rfl, Nat.le_of_ble_eq_true rfl⟩ ⟨Nat.le_refl _, Nat.le_refl _⟩ rfl (Nat.le_of_ble_eq_true rfl) rfl (fun z20 σ21 hz20 => ?_)
    obtain ⟨r23, rfl, hr23, rfl, q22_0⟩ := hz20
    replace q22_0 : r23 = (tw_llen i : Int) := q22_0
    refine j_st (st' := [vI r23, vI ((σ 10 5) - (σ 10 7))]) rfl ?_
    refine j_icmpR_eq (pc := 21) (tgt := 26) ⟨by omega, by omega⟩ ⟨by omega, by omega⟩ dX9_isName_21 rfl (fun h24 => ?_) (fun h24 => ?_)
    · refine j_iconst (pc := 26) dX9_isName_26 ?_
      refine j_istore_n (pc := 27) (i := 2) (ls' := [(0, vR 10), (1, vR (200 + i)), (2, vI 0)]) [1, 2, 0] dX9_isName_27 rfl (Nat.le_of_ble_eq_true rfl) rfl rfl ?_
      refine j_ls (ls' := [(0, vR 10), (1, vR (200 + i)), (2, vI 0)]) [0, 1, 2] rfl ?_
      exact (l_X9_isName hX i hi σ hI (((8 - (0 : Int)).toNat) + 1)) 0 ⟨by omega, by omega⟩ (show σ 10 6 = 1 from by omega) (show σ 10 5 - σ 10 7 = (tw_llen i : Int) from by omega) (show ∀ k : Nat, (k : Int) < (0 : Int) → fX σ (σ 10 7 + (k : Int)) = tw_lch i k from (by first | exact (fun k hk => by exfalso; omega) | exact (fun k hk => by rcases (show (k : Int) < j ∨ (k : Int) = j by omega) with z | z; (exact i2 k z); (have e : j.toNat = k := by omega); rw [z, ← e]; omega))) (Nat.lt_succ_self _)
    · refine j_iconst (pc := 24) dX9_isName_24 ?_
      exact j_zret (pc := 25) ⟨rfl, rfl⟩ dX9_isName_25 rfl (nar_bool (by omega) (by omega)) ⟨_, rfl, ⟨by omega, by omega⟩, rfl, (by first | exact Or.inr ⟨by omega, by omega⟩ | exact Or.inl ⟨by omega, (nm_len (by omega)).symm⟩ | exact Or.inl ⟨by omega, (nm_1 (by omega) (fun k hk => i2 k (by omega))).symm⟩ | exact Or.inl ⟨by omega, (nm_ch (k := j.toNat) (by omega) (by rw [Int.toNat_of_nonneg (by omega)]; omega)).symm⟩)⟩
abbrev q_X9_lineName  (σ : tw_M) : Option tw_V → tw_M → Prop := fun z τ => ∃ r : Int, z = some (vI r) ∧ (-1 ≤ r ∧ r ≤ 10) ∧ σ = τ ∧ (r = lnm (fX σ) (σ 10 6) (σ 10 7) (σ 10 5))
set_option maxHeartbeats 4000000 in
set_option maxRecDepth 100000 in
theorem c_X9_lineName {G : tw_G} (hX : tw_isX G) (σ : tw_M) (hI : tw_I σ) : tw_C G yX9_lineName cX9_lineName 1 (some .int) 5 [vR 10] σ (q_X9_lineName σ) := by
  refine tw_met [(0, vR 10)] (by decide +kernel) rfl (Nat.le_of_ble_eq_true rfl) ?_
  have n0 := nm_in (fX σ) (σ 10 7) (σ 10 5) 0
  have n1 := nm_in (fX σ) (σ 10 7) (σ 10 5) 1
  have n2 := nm_in (fX σ) (σ 10 7) (σ 10 5) 2
  have n3 := nm_in (fX σ) (σ 10 7) (σ 10 5) 3
  have n4 := nm_in (fX σ) (σ 10 7) (σ 10 5) 4
  have n5 := nm_in (fX σ) (σ 10 7) (σ 10 5) 5
  have n6 := nm_in (fX σ) (σ 10 7) (σ 10 5) 6
  have n7 := nm_in (fX σ) (σ 10 7) (σ 10 5) 7
  have n8 := nm_in (fX σ) (σ 10 7) (σ 10 5) 8
  have n9 := nm_in (fX σ) (σ 10 7) (σ 10 5) 9
  refine j_aload_n (pc := 0) dX9_lineName_0 rfl rfl ?_
  refine j_ldcS (pc := 1) (i := 0) rfl rfl rfl dX9_lineName_1 ?_
  refine j_callV (pc := 3) (As := [vR (200 + 0)]) (st := []) (c_X9_isName hX 0 (show 0 < tw_lit.length from by decide) σ hI) mv_X9_108 rfl rfl rfl (a_10 hX) dX9_lineName_3 ⟨Nat.le_of_ble_eq_true rfl, Nat.le_of_ble_eq_true rfl⟩ ⟨Nat.le_refl _, Nat.le_refl _⟩ rfl (Nat.le_of_ble_eq_true rfl) rfl (fun z1 σ2 hz1 => ?_)
  obtain ⟨r4, rfl, hr4, rfl, q3_0⟩ := hz1
  replace q3_0 : (σ 10 6 = 1 ∧ r4 = nm (fX σ) (σ 10 7) (σ 10 5) 0) ∨ (¬ σ 10 6 = 1 ∧ r4 = 0) := q3_0
  refine j_st (st' := [vI r4]) rfl ?_
  refine j_ifR_eq (pc := 6) (tgt := 12) ⟨by omega, by omega⟩ dX9_lineName_6 rfl (fun h5 => ?_) (fun h5 => ?_)
  · refine j_aload_n (pc := 12) dX9_lineName_12 rfl rfl ?_
    refine j_ldcS (pc := 13) (i := 1) rfl rfl rfl dX9_lineName_13 ?_
    refine j_callV (pc := 15) (As := [vR (200 + 1)]) (st := []) (c_X9_isName hX 1 (show 1 < tw_lit.length from by decide) σ hI) mv_X9_108 rfl rfl rfl (a_10 hX) dX9_lineName_15 ⟨Nat.le_of_ble_eq_true rfl, Nat.le_of_ble_eq_true rfl⟩ ⟨Nat.le_refl _, Nat.le_refl _⟩ rfl (Nat.le_of_ble_eq_true rfl) rfl (fun z6 σ7 hz6 => ?_)
    obtain ⟨r9, rfl, hr9, rfl, q8_0⟩ := hz6
    replace q8_0 : (σ 10 6 = 1 ∧ r9 = nm (fX σ) (σ 10 7) (σ 10 5) 1) ∨ (¬ σ 10 6 = 1 ∧ r9 = 0) := q8_0
    refine j_st (st' := [vI r9]) rfl ?_
    refine j_ifR_eq (pc := 18) (tgt := 24) ⟨by omega, by omega⟩ dX9_lineName_18 rfl (fun h10 => ?_) (fun h10 => ?_)
    · refine j_aload_n (pc := 24) dX9_lineName_24 rfl rfl ?_
      refine j_ldcS (pc := 25) (i := 2) rfl rfl rfl dX9_lineName_25 ?_
      refine j_callV (pc := 27) (As := [vR (200 + 2)]) (st := []) (c_X9_isName hX 2 (show 2 < tw_lit.length from by decide) σ hI) mv_X9_108 rfl rfl rfl (a_10 hX) dX9_lineName_27 ⟨Nat.le_of_ble_eq_true rfl, Nat.le_of_ble_eq_true rfl⟩ ⟨Nat.le_refl _, Nat.le_refl _⟩ rfl (Nat.le_of_ble_eq_true rfl) rfl (fun z11 σ12 hz11 => ?_)
      obtain ⟨r14, rfl, hr14, rfl, q13_0⟩ := hz11
      replace q13_0 : (σ 10 6 = 1 ∧ r14 = nm (fX σ) (σ 10 7) (σ 10 5) 2) ∨ (¬ σ 10 6 = 1 ∧ r14 = 0) := q13_0
      refine j_st (st' := [vI r14]) rfl ?_
      refine j_ifR_eq (pc := 30) (tgt := 35) ⟨by omega, by omega⟩ dX9_lineName_30 rfl (fun h15 => ?_) (fun h15 => ?_)
      · refine j_aload_n (pc := 35) dX9_lineName_35 rfl rfl ?_
        refine j_ldcS (pc := 36) (i := 3) rfl rfl rfl dX9_lineName_36 ?_
        refine j_callV (pc := 38) (As := [vR (200 + 3)]) (st := []) (c_X9_isName hX 3 (show 3 < tw_lit.length from by decide) σ hI) mv_X9_108 rfl rfl rfl (a_10 hX) dX9_lineName_38 ⟨Nat.le_of_ble_eq_true rfl, Nat.le_of_ble_eq_true rfl⟩ ⟨Nat.le_refl _, Nat.le_refl _⟩ rfl (Nat.le_of_ble_eq_true rfl) rfl (fun z16 σ17 hz16 => ?_)
        obtain ⟨r19, rfl, hr19, rfl, q18_0⟩ := hz16
        replace q18_0 : (σ 10 6 = 1 ∧ r19 = nm (fX σ) (σ 10 7) (σ 10 5) 3) ∨ (¬ σ 10 6 = 1 ∧ r19 = 0) := q18_0
        refine j_st (st' := [vI r19]) rfl ?_
        refine j_ifR_eq (pc := 41) (tgt := 46) ⟨by omega, by omega⟩ dX9_lineName_41 rfl (fun h20 => ?_) (fun h20 => ?_)
        · refine j_aload_n (pc := 46) dX9_lineName_46 rfl rfl ?_
          refine j_ldcS (pc := 47) (i := 4) rfl rfl rfl dX9_lineName_47 ?_
          refine j_callV (pc := 49) (As := [vR (200 + 4)]) (st := []) (c_X9_isName hX 4 (show 4 < tw_lit.length from by decide) σ hI) mv_X9_108 rfl rfl rfl (a_10 hX) dX9_lineName_49 ⟨Nat.le_of_ble_eq_true rfl, Nat.le_of_ble_eq_true rfl⟩ ⟨Nat.le_refl _, Nat.le_refl _⟩ rfl (Nat.le_of_ble_eq_true rfl) rfl (fun z21 σ22 hz21 => ?_)
          obtain ⟨r24, rfl, hr24, rfl, q23_0⟩ := hz21
          replace q23_0 : (σ 10 6 = 1 ∧ r24 = nm (fX σ) (σ 10 7) (σ 10 5) 4) ∨ (¬ σ 10 6 = 1 ∧ r24 = 0) := q23_0
          refine j_st (st' := [vI r24]) rfl ?_
          refine j_ifR_eq (pc := 52) (tgt := 57) ⟨by omega, by omega⟩ dX9_lineName_52 rfl (fun h25 => ?_) (fun h25 => ?_)
          · refine j_aload_n (pc := 57) dX9_lineName_57 rfl rfl ?_
            refine j_ldcS (pc := 58) (i := 5) rfl rfl rfl dX9_lineName_58 ?_
            refine j_callV (pc := 60) (As := [vR (200 + 5)]) (st := []) (c_X9_isName hX 5 (show 5 < tw_lit.length from by decide) σ hI) mv_X9_108 rfl rfl rfl (a_10 hX) dX9_lineName_60 ⟨Nat.le_of_ble_eq_true rfl, Nat.le_of_ble_eq_true rfl⟩ ⟨Nat.le_refl _, Nat.le_refl _⟩ rfl (Nat.le_of_ble_eq_true rfl) rfl (fun z26 σ27 hz26 => ?_)
            obtain ⟨r29, rfl, hr29, rfl, q28_0⟩ := hz26
            replace q28_0 : (σ 10 6 = 1 ∧ r29 = nm (fX σ) (σ 10 7) (σ 10 5) 5) ∨ (¬ σ 10 6 = 1 ∧ r29 = 0) := q28_0
            refine j_st (st' := [vI r29]) rfl ?_
            refine j_ifR_eq (pc := 63) (tgt := 68) ⟨by omega, by omega⟩ dX9_lineName_63 rfl (fun h30 => ?_) (fun h30 => ?_)
            · refine j_aload_n (pc := 68) dX9_lineName_68 rfl rfl ?_
              refine j_ldcS (pc := 69) (i := 6) rfl rfl rfl dX9_lineName_69 ?_
              refine j_callV (pc := 71) (As := [vR (200 + 6)]) (st := []) (c_X9_isName hX 6 (show 6 < tw_lit.length from by decide) σ hI) mv_X9_108 rfl rfl rfl (a_10 hX) dX9_lineName_71 ⟨Nat.le_of_ble_eq_true rfl, Nat.le_of_ble_eq_true rfl⟩ ⟨Nat.le_refl _, Nat.le_refl _⟩ rfl (Nat.le_of_ble_eq_true rfl) rfl (fun z31 σ32 hz31 => ?_)
              obtain ⟨r34, rfl, hr34, rfl, q33_0⟩ := hz31
              replace q33_0 : (σ 10 6 = 1 ∧ r34 = nm (fX σ) (σ 10 7) (σ 10 5) 6) ∨ (¬ σ 10 6 = 1 ∧ r34 = 0) := q33_0
              refine j_st (st' := [vI r34]) rfl ?_
              refine j_ifR_eq (pc := 74) (tgt := 79) ⟨by omega, by omega⟩ dX9_lineName_74 rfl (fun h35 => ?_) (fun h35 => ?_)
              · refine j_aload_n (pc := 79) dX9_lineName_79 rfl rfl ?_
                refine j_ldcS (pc := 80) (i := 7) rfl rfl rfl dX9_lineName_80 ?_
                refine j_callV (pc := 82) (As := [vR (200 + 7)]) (st := []) (c_X9_isName hX 7 (show 7 < tw_lit.length from by decide) σ hI) mv_X9_108 rfl rfl rfl (a_10 hX) dX9_lineName_82 ⟨Nat.le_of_ble_eq_true rfl, Nat.le_of_ble_eq_true rfl⟩ ⟨Nat.le_refl _, Nat.le_refl _⟩ rfl (Nat.le_of_ble_eq_true rfl) rfl (fun z36 σ37 hz36 => ?_)
                obtain ⟨r39, rfl, hr39, rfl, q38_0⟩ := hz36
                replace q38_0 : (σ 10 6 = 1 ∧ r39 = nm (fX σ) (σ 10 7) (σ 10 5) 7) ∨ (¬ σ 10 6 = 1 ∧ r39 = 0) := q38_0
                refine j_st (st' := [vI r39]) rfl ?_
                refine j_ifR_eq (pc := 85) (tgt := 90) ⟨by omega, by omega⟩ dX9_lineName_85 rfl (fun h40 => ?_) (fun h40 => ?_)
                · refine j_aload_n (pc := 90) dX9_lineName_90 rfl rfl ?_
                  refine j_ldcS (pc := 91) (i := 8) rfl rfl rfl dX9_lineName_91 ?_
                  refine j_callV (pc := 93) (As := [vR (200 + 8)]) (st := []) (c_X9_isName hX 8 (show 8 < tw_lit.length from by decide) σ hI) mv_X9_108 rfl rfl rfl (a_10 hX) dX9_lineName_93 ⟨Nat.le_of_ble_eq_true rfl, Nat.le_of_ble_eq_true rfl⟩ ⟨Nat.le_refl _, Nat.le_refl _⟩ rfl (Nat.le_of_ble_eq_true rfl) rfl (fun z41 σ42 hz41 => ?_)
                  obtain ⟨r44, rfl, hr44, rfl, q43_0⟩ := hz41
                  replace q43_0 : (σ 10 6 = 1 ∧ r44 = nm (fX σ) (σ 10 7) (σ 10 5) 8) ∨ (¬ σ 10 6 = 1 ∧ r44 = 0) := q43_0
                  refine j_st (st' := [vI r44]) rfl ?_
                  refine j_ifR_eq (pc := 96) (tgt := 102) ⟨by omega, by omega⟩ dX9_lineName_96 rfl (fun h45 => ?_) (fun h45 => ?_)
                  · refine j_aload_n (pc := 102) dX9_lineName_102 rfl rfl ?_
                    refine j_ldcS (pc := 103) (i := 9) rfl rfl rfl dX9_lineName_103 ?_
                    refine j_callV (pc := 105) (As := [vR (200 + 9)]) (st := []) (c_X9_isName hX 9 (show 9 < tw_lit.length from by decide) σ hI) mv_X9_108 rfl rfl rfl (a_10 hX) dX9_lineName_105 ⟨Nat.le_of_ble_eq_true rfl, Nat.le_of_ble_eq_true rfl⟩ ⟨Nat.le_refl _, Nat.le_refl _⟩ rfl (Nat.le_of_ble_eq_true rfl) rfl (fun z46 σ47 hz46 => ?_)
                    obtain ⟨r49, rfl, hr49, rfl, q48_0⟩ := hz46
                    replace q48_0 : (σ 10 6 = 1 ∧ r49 = nm (fX σ) (σ 10 7) (σ 10 5) 9) ∨ (¬ σ 10 6 = 1 ∧ r49 = 0) := q48_0
                    refine j_st (st' := [vI r49]) rfl ?_
                    refine j_ifR_eq (pc := 108) (tgt := 116) ⟨by omega, by omega⟩ dX9_lineName_108 rfl (fun h50 => ?_) (fun h50 => ?_)
                    · refine j_iconst (pc := 116) dX9_lineName_116 ?_
                      exact j_iret (pc := 117) ⟨rfl, rfl⟩ dX9_lineName_117 rfl ⟨_, rfl, ⟨by omega, by omega⟩, rfl, (by unfold lnm; (repeat' split) <;> omega)⟩
                    · refine j_bipush (pc := 111) dX9_lineName_111 rfl ?_
                      refine j_goto (pc := 113) (tgt := 117) dX9_lineName_113 rfl ?_
                      exact j_iret (pc := 117) ⟨rfl, rfl⟩ dX9_lineName_117 rfl ⟨_, rfl, ⟨by omega, by omega⟩, rfl, (by unfold lnm; (repeat' split) <;> omega)⟩
                  · refine j_bipush (pc := 99) dX9_lineName_99 rfl ?_
                    exact j_iret (pc := 101) ⟨rfl, rfl⟩ dX9_lineName_101 rfl ⟨_, rfl, ⟨by omega, by omega⟩, rfl, (by unfold lnm; (repeat' split) <;> omega)⟩
                · refine j_iconst (pc := 88) dX9_lineName_88 ?_
                  exact j_iret (pc := 89) ⟨rfl, rfl⟩ dX9_lineName_89 rfl ⟨_, rfl, ⟨by omega, by omega⟩, rfl, (by unfold lnm; (repeat' split) <;> omega)⟩
              · refine j_iconst (pc := 77) dX9_lineName_77 ?_
                exact j_iret (pc := 78) ⟨rfl, rfl⟩ dX9_lineName_78 rfl ⟨_, rfl, ⟨by omega, by omega⟩, rfl, (by unfold lnm; (repeat' split) <;> omega)⟩
            · refine j_iconst (pc := 66) dX9_lineName_66 ?_
              exact j_iret (pc := 67) ⟨rfl, rfl⟩ dX9_lineName_67 rfl ⟨_, rfl, ⟨by omega, by omega⟩, rfl, (by unfold lnm; (repeat' split) <;> omega)⟩
          · refine j_iconst (pc := 55) dX9_lineName_55 ?_
            exact j_iret (pc := 56) ⟨rfl, rfl⟩ dX9_lineName_56 rfl ⟨_, rfl, ⟨by omega, by omega⟩, rfl, (by unfold lnm; (repeat' split) <;> omega)⟩
        · refine j_iconst (pc := 44) dX9_lineName_44 ?_
          exact j_iret (pc := 45) ⟨rfl, rfl⟩ dX9_lineName_45 rfl ⟨_, rfl, ⟨by omega, by omega⟩, rfl, (by unfold lnm; (repeat' split) <;> omega)⟩
      · refine j_iconst (pc := 33) dX9_lineName_33 ?_
        exact j_iret (pc := 34) ⟨rfl, rfl⟩ dX9_lineName_34 rfl ⟨_, rfl, ⟨by omega, by omega⟩, rfl, (by unfold lnm; (repeat' split) <;> omega)⟩
    · refine j_bipush (pc := 21) dX9_lineName_21 rfl ?_
      exact j_iret (pc := 23) ⟨rfl, rfl⟩ dX9_lineName_23 rfl ⟨_, rfl, ⟨by omega, by omega⟩, rfl, (by unfold lnm; (repeat' split) <;> omega)⟩
  · refine j_bipush (pc := 9) dX9_lineName_9 rfl ?_
    exact j_iret (pc := 11) ⟨rfl, rfl⟩ dX9_lineName_11 rfl ⟨_, rfl, ⟨by omega, by omega⟩, rfl, (by unfold lnm; (repeat' split) <;> omega)⟩
abbrev q_X9_withName  (σ : tw_M) : Option tw_V → tw_M → Prop := fun z τ => ∃ r : Int, z = some (vI r) ∧ (-1 ≤ r ∧ r ≤ 3) ∧ σ = τ ∧ (r = wnm (fX σ) (σ 10 6) (σ 10 7) (σ 10 5))
set_option maxHeartbeats 4000000 in
set_option maxRecDepth 100000 in
theorem c_X9_withName {G : tw_G} (hX : tw_isX G) (σ : tw_M) (hI : tw_I σ) : tw_C G yX9_withName cX9_withName 1 (some .int) 5 [vR 10] σ (q_X9_withName σ) := by
  refine tw_met [(0, vR 10)] (by decide +kernel) rfl (Nat.le_of_ble_eq_true rfl) ?_
  have n10 := nm_in (fX σ) (σ 10 7) (σ 10 5) 10
  have n11 := nm_in (fX σ) (σ 10 7) (σ 10 5) 11
  have n12 := nm_in (fX σ) (σ 10 7) (σ 10 5) 12
  have n13 := nm_in (fX σ) (σ 10 7) (σ 10 5) 13
  refine j_aload_n (pc := 0) dX9_withName_0 rfl rfl ?_
  refine j_ldcS (pc := 1) (i := 10) rfl rfl rfl dX9_withName_1 ?_
  refine j_callV (pc := 3) (As := [vR (200 + 10)]) (st := []) (c_X9_isName hX 10 (show 10 < tw_lit.length from by decide) σ hI) mv_X9_108 rfl rfl rfl (a_10 hX) dX9_withName_3 ⟨Nat.le_of_ble_eq_true rfl, Nat.le_of_ble_eq_true rfl⟩ ⟨Nat.le_refl _, Nat.le_refl _⟩ rfl (Nat.le_of_ble_eq_true rfl) rfl (fun z1 σ2 hz1 => ?_)
  obtain ⟨r4, rfl, hr4, rfl, q3_0⟩ := hz1
  replace q3_0 : (σ 10 6 = 1 ∧ r4 = nm (fX σ) (σ 10 7) (σ 10 5) 10) ∨ (¬ σ 10 6 = 1 ∧ r4 = 0) := q3_0
  refine j_st (st' := [vI r4]) rfl ?_
  refine j_ifR_eq (pc := 6) (tgt := 11) ⟨by omega, by omega⟩ dX9_withName_6 rfl (fun h5 => ?_) (fun h5 => ?_)
  · refine j_aload_n (pc := 11) dX9_withName_11 rfl rfl ?_
    refine j_ldcS (pc := 12) (i := 11) rfl rfl rfl dX9_withName_12 ?_
    refine j_callV (pc := 14) (As := [vR (200 + 11)]) (st := []) (c_X9_isName hX 11 (show 11 < tw_lit.length from by decide) σ hI) mv_X9_108 rfl rfl rfl (a_10 hX) dX9_withName_14 ⟨Nat.le_of_ble_eq_true rfl, Nat.le_of_ble_eq_true rfl⟩ ⟨Nat.le_refl _, Nat.le_refl _⟩ rfl (Nat.le_of_ble_eq_true rfl) rfl (fun z6 σ7 hz6 => ?_)
    obtain ⟨r9, rfl, hr9, rfl, q8_0⟩ := hz6
    replace q8_0 : (σ 10 6 = 1 ∧ r9 = nm (fX σ) (σ 10 7) (σ 10 5) 11) ∨ (¬ σ 10 6 = 1 ∧ r9 = 0) := q8_0
    refine j_st (st' := [vI r9]) rfl ?_
    refine j_ifR_eq (pc := 17) (tgt := 22) ⟨by omega, by omega⟩ dX9_withName_17 rfl (fun h10 => ?_) (fun h10 => ?_)
    · refine j_aload_n (pc := 22) dX9_withName_22 rfl rfl ?_
      refine j_ldcS (pc := 23) (i := 12) rfl rfl rfl dX9_withName_23 ?_
      refine j_callV (pc := 25) (As := [vR (200 + 12)]) (st := []) (c_X9_isName hX 12 (show 12 < tw_lit.length from by decide) σ hI) mv_X9_108 rfl rfl rfl (a_10 hX) dX9_withName_25 ⟨Nat.le_of_ble_eq_true rfl, Nat.le_of_ble_eq_true rfl⟩ ⟨Nat.le_refl _, Nat.le_refl _⟩ rfl (Nat.le_of_ble_eq_true rfl) rfl (fun z11 σ12 hz11 => ?_)
      obtain ⟨r14, rfl, hr14, rfl, q13_0⟩ := hz11
      replace q13_0 : (σ 10 6 = 1 ∧ r14 = nm (fX σ) (σ 10 7) (σ 10 5) 12) ∨ (¬ σ 10 6 = 1 ∧ r14 = 0) := q13_0
      refine j_st (st' := [vI r14]) rfl ?_
      refine j_ifR_eq (pc := 28) (tgt := 33) ⟨by omega, by omega⟩ dX9_withName_28 rfl (fun h15 => ?_) (fun h15 => ?_)
      · refine j_aload_n (pc := 33) dX9_withName_33 rfl rfl ?_
        refine j_ldcS (pc := 34) (i := 13) rfl rfl rfl dX9_withName_34 ?_
        refine j_callV (pc := 36) (As := [vR (200 + 13)]) (st := []) (c_X9_isName hX 13 (show 13 < tw_lit.length from by decide) σ hI) mv_X9_108 rfl rfl rfl (a_10 hX) dX9_withName_36 ⟨Nat.le_of_ble_eq_true rfl, Nat.le_of_ble_eq_true rfl⟩ ⟨Nat.le_refl _, Nat.le_refl _⟩ rfl (Nat.le_of_ble_eq_true rfl) rfl (fun z16 σ17 hz16 => ?_)
        obtain ⟨r19, rfl, hr19, rfl, q18_0⟩ := hz16
        replace q18_0 : (σ 10 6 = 1 ∧ r19 = nm (fX σ) (σ 10 7) (σ 10 5) 13) ∨ (¬ σ 10 6 = 1 ∧ r19 = 0) := q18_0
        refine j_st (st' := [vI r19]) rfl ?_
        refine j_ifR_eq (pc := 39) (tgt := 46) ⟨by omega, by omega⟩ dX9_withName_39 rfl (fun h20 => ?_) (fun h20 => ?_)
        · refine j_iconst (pc := 46) dX9_withName_46 ?_
          exact j_iret (pc := 47) ⟨rfl, rfl⟩ dX9_withName_47 rfl ⟨_, rfl, ⟨by omega, by omega⟩, rfl, (by unfold wnm; (repeat' split) <;> omega)⟩
        · refine j_iconst (pc := 42) dX9_withName_42 ?_
          refine j_goto (pc := 43) (tgt := 47) dX9_withName_43 rfl ?_
          exact j_iret (pc := 47) ⟨rfl, rfl⟩ dX9_withName_47 rfl ⟨_, rfl, ⟨by omega, by omega⟩, rfl, (by unfold wnm; (repeat' split) <;> omega)⟩
      · refine j_iconst (pc := 31) dX9_withName_31 ?_
        exact j_iret (pc := 32) ⟨rfl, rfl⟩ dX9_withName_32 rfl ⟨_, rfl, ⟨by omega, by omega⟩, rfl, (by unfold wnm; (repeat' split) <;> omega)⟩
    · refine j_iconst (pc := 20) dX9_withName_20 ?_
      exact j_iret (pc := 21) ⟨rfl, rfl⟩ dX9_withName_21 rfl ⟨_, rfl, ⟨by omega, by omega⟩, rfl, (by unfold wnm; (repeat' split) <;> omega)⟩
  · refine j_iconst (pc := 9) dX9_withName_9 ?_
    exact j_iret (pc := 10) ⟨rfl, rfl⟩ dX9_withName_10 rfl ⟨_, rfl, ⟨by omega, by omega⟩, rfl, (by unfold wnm; (repeat' split) <;> omega)⟩
abbrev q_X9_lineEnd  (σ : tw_M) : Option tw_V → tw_M → Prop := fun z τ => z = none ∧ tw_I τ ∧ tw_F (fun c j => (c = 10 ∧ (j = 5 ∨ j = 6 ∨ j = 7 ∨ j = 8 ∨ j = 11 ∨ j = 12))) σ τ ∧ (aX τ = tok (fX σ) (need (decide ((aX σ) 2 = 3)) 2 (aX σ))) ∧ (¬ σ 10 5 ≤ σ 10 10 ∨ τ 10 5 ≤ σ 10 10) ∧ (¬ σ 10 5 ≤ σ 10 10 ∨ ¬ τ 10 11 = 0 ∨ ¬ τ 10 6 = 0 ∨ τ 10 7 = σ 10 10) ∧ (¬ τ 10 11 = 0 ∨ (σ 10 11 = 0 ∧ σ 10 5 ≤ τ 10 5 ∧ (τ 10 6 = 0 ∨ σ 10 5 < τ 10 5)))
set_option maxHeartbeats 4000000 in
set_option maxRecDepth 100000 in
theorem c_X9_lineEnd {G : tw_G} (hX : tw_isX G) (σ : tw_M) (hI : tw_I σ) : tw_C G yX9_lineEnd cX9_lineEnd 1 none 3 [vR 10] σ (q_X9_lineEnd σ) := by
  refine tw_met [(0, vR 10)] (by decide +kernel) rfl (Nat.le_of_ble_eq_true rfl) ?_
  refine j_aload_n (pc := 0) dX9_lineEnd_0 rfl rfl ?_
  refine j_getI (pc := 1) fl_X9_48 dX9_lineEnd_1 (a_10 hX) rfl ?_
  have f1 : (0 : Int) ≤ σ 10 6 ∧ σ 10 6 ≤ 3 := hI 10 6
  refine j_iconst (pc := 4) dX9_lineEnd_4 ?_
  refine j_icmpR_eq (pc := 5) (tgt := 17) ⟨by omega, by omega⟩ ⟨by omega, by omega⟩ dX9_lineEnd_5 rfl (fun h2 => ?_) (fun h2 => ?_)
  · have c1 := stop_t (σ := σ) (by omega)
    have fz : fX σ = fX σ := fX_F ((tw_F_rf) 10 10 (show ¬ ((10 = 10 ∧ (10 = 5 ∨ 10 = 6 ∨ 10 = 7 ∨ 10 = 8 ∨ 10 = 11 ∨ 10 = 12))) from by omega)) (fun j => (tw_F_rf) 11 j (show ¬ ((11 = 10 ∧ (j = 5 ∨ j = 6 ∨ j = 7 ∨ j = 8 ∨ j = 11 ∨ j = 12))) from by omega))
    refine j_aload_n (pc := 17) dX9_lineEnd_17 rfl rfl ?_
    refine j_callV (pc := 18) (As := []) (st := []) (c_X9_advance hX σ hI) mv_X9_45 rfl rfl rfl (a_10 hX) dX9_lineEnd_18 ⟨Nat.le_of_ble_eq_true rfl, Nat.le_of_ble_eq_true rfl⟩ ⟨Nat.le_refl _, Nat.le_refl _⟩ rfl (Nat.le_of_ble_eq_true rfl) rfl (fun z3 σ4 hz3 => ?_)
    obtain ⟨rfl, hIσ4, hGσ4, q5_0, q5_1, q5_2, q5_3⟩ := hz3
    replace q5_0 : aX σ4 = tok (fX σ) (aX σ) := q5_0
    replace q5_1 : ¬ σ 10 5 ≤ σ 10 10 ∨ σ4 10 5 ≤ σ 10 10 := q5_1
    replace q5_2 : ¬ σ 10 5 ≤ σ 10 10 ∨ ¬ σ4 10 11 = 0 ∨ ¬ σ4 10 6 = 0 ∨ σ4 10 7 = σ 10 10 := q5_2
    replace q5_3 : ¬ σ4 10 11 = 0 ∨ (σ 10 11 = 0 ∧ σ 10 5 ≤ σ4 10 5 ∧ (σ4 10 6 = 0 ∨ σ 10 5 < σ4 10 5)) := q5_3
    have hFσ4 : tw_F (fun c j => (c = 10 ∧ (j = 5 ∨ j = 6 ∨ j = 7 ∨ j = 8 ∨ j = 11 ∨ j = 12))) σ σ4 := tw_F_tr (tw_F_rf) hGσ4 (fun c j q => (show (c = 10 ∧ (j = 5 ∨ j = 6 ∨ j = 7 ∨ j = 8 ∨ j = 11 ∨ j = 12)) from by replace q : (c = 10 ∧ (j = 5 ∨ j = 6 ∨ j = 7 ∨ j = 8 ∨ j = 11 ∨ j = 12)) := q; omega))
    refine j_st (st' := []) rfl ?_
    have c2 := q5_0; rw [fz, c1] at c2
    exact j_vret (pc := 21) ⟨rfl, rfl⟩ dX9_lineEnd_21 rfl ⟨rfl, hIσ4, hFσ4, c2, by omega, by omega, by omega⟩
  · refine j_aload_n (pc := 8) dX9_lineEnd_8 rfl rfl ?_
    refine j_iconst (pc := 9) dX9_lineEnd_9 ?_
    refine j_aload_n (pc := 10) dX9_lineEnd_10 rfl rfl ?_
    refine j_getI (pc := 11) fl_X9_76 dX9_lineEnd_11 (a_10 hX) rfl ?_
    have f7 : (0 : Int) ≤ σ 10 7 ∧ σ 10 7 ≤ 400 := hI 10 7
    refine j_callV (pc := 14) (As := [vI 2, vI (σ 10 7)]) (st := []) (c_X9_fail hX 2 ⟨by omega, by omega⟩ (σ 10 7) ⟨by omega, by omega⟩ σ hI) mv_X9_61 rfl rfl rfl (a_10 hX) dX9_lineEnd_14 ⟨Nat.le_of_ble_eq_true rfl, Nat.le_of_ble_eq_true rfl⟩ ⟨Nat.le_refl _, Nat.le_refl _⟩ rfl (Nat.le_of_ble_eq_true rfl) rfl (fun z8 σ9 hz8 => ?_)
    obtain ⟨rfl, hIσ9, hGσ9, q10_0⟩ := hz8
    replace q10_0 : (σ 10 11 = 0 ∧ σ9 10 11 = (2 : Int) ∧ σ9 10 12 = (σ 10 7)) ∨ (¬ σ 10 11 = 0 ∧ σ9 10 11 = σ 10 11 ∧ σ9 10 12 = σ 10 12) := q10_0
    have hFσ9 : tw_F (fun c j => (c = 10 ∧ (j = 5 ∨ j = 6 ∨ j = 7 ∨ j = 8 ∨ j = 11 ∨ j = 12))) σ σ9 := tw_F_tr (tw_F_rf) hGσ9 (fun c j q => (show (c = 10 ∧ (j = 5 ∨ j = 6 ∨ j = 7 ∨ j = 8 ∨ j = 11 ∨ j = 12)) from by replace q : (c = 10 ∧ (j = 11 ∨ j = 12)) := q; omega))
    refine j_st (st' := []) rfl ?_
    have c1 := stop_f (τ := σ9) (σ := σ) (by omega) (by omega)
    have fz : fX σ9 = fX σ := fX_F (hFσ9 10 10 (show ¬ ((10 = 10 ∧ (10 = 5 ∨ 10 = 6 ∨ 10 = 7 ∨ 10 = 8 ∨ 10 = 11 ∨ 10 = 12))) from by omega)) (fun j => hFσ9 11 j (show ¬ ((11 = 10 ∧ (j = 5 ∨ j = 6 ∨ j = 7 ∨ j = 8 ∨ j = 11 ∨ j = 12))) from by omega))
    refine j_aload_n (pc := 17) dX9_lineEnd_17 rfl rfl ?_
    refine j_callV (pc := 18) (As := []) (st := []) (c_X9_advance hX σ9 hIσ9) mv_X9_45 rfl rfl rfl (a_10 hX) dX9_lineEnd_18 ⟨Nat.le_of_ble_eq_true rfl, Nat.le_of_ble_eq_true rfl⟩ ⟨Nat.le_refl _, Nat.le_refl _⟩ rfl (Nat.le_of_ble_eq_true rfl) rfl (fun z12 σ13 hz12 => ?_)
    obtain ⟨rfl, hIσ13, hGσ13, q14_0, q14_1, q14_2, q14_3⟩ := hz12
    replace q14_0 : aX σ13 = tok (fX σ9) (aX σ9) := q14_0
    replace q14_1 : ¬ σ9 10 5 ≤ σ9 10 10 ∨ σ13 10 5 ≤ σ9 10 10 := q14_1
    have y16 : σ9 10 5 = σ 10 5 := (hGσ9 10 5 (show ¬ ((10 = 10 ∧ (5 = 11 ∨ 5 = 12))) from by omega))
    have f17 : (0 : Int) ≤ σ 10 5 ∧ σ 10 5 ≤ 400 := hI 10 5
    have y18 : σ9 10 10 = σ 10 10 := (hGσ9 10 10 (show ¬ ((10 = 10 ∧ (10 = 11 ∨ 10 = 12))) from by omega))
    have f19 : (0 : Int) ≤ σ 10 10 ∧ σ 10 10 ≤ 400 := hI 10 10
    replace q14_2 : ¬ σ9 10 5 ≤ σ9 10 10 ∨ ¬ σ13 10 11 = 0 ∨ ¬ σ13 10 6 = 0 ∨ σ13 10 7 = σ9 10 10 := q14_2
    have y20 : σ9 10 5 = σ 10 5 := (hGσ9 10 5 (show ¬ ((10 = 10 ∧ (5 = 11 ∨ 5 = 12))) from by omega))
    have y21 : σ9 10 10 = σ 10 10 := (hGσ9 10 10 (show ¬ ((10 = 10 ∧ (10 = 11 ∨ 10 = 12))) from by omega))
    replace q14_3 : ¬ σ13 10 11 = 0 ∨ (σ9 10 11 = 0 ∧ σ9 10 5 ≤ σ13 10 5 ∧ (σ13 10 6 = 0 ∨ σ9 10 5 < σ13 10 5)) := q14_3
    have y22 : σ9 10 5 = σ 10 5 := (hGσ9 10 5 (show ¬ ((10 = 10 ∧ (5 = 11 ∨ 5 = 12))) from by omega))
    have hFσ13 : tw_F (fun c j => (c = 10 ∧ (j = 5 ∨ j = 6 ∨ j = 7 ∨ j = 8 ∨ j = 11 ∨ j = 12))) σ σ13 := tw_F_tr hFσ9 hGσ13 (fun c j q => (show (c = 10 ∧ (j = 5 ∨ j = 6 ∨ j = 7 ∨ j = 8 ∨ j = 11 ∨ j = 12)) from by replace q : (c = 10 ∧ (j = 5 ∨ j = 6 ∨ j = 7 ∨ j = 8 ∨ j = 11 ∨ j = 12)) := q; omega))
    refine j_st (st' := []) rfl ?_
    have c2 := q14_0; rw [fz, c1] at c2
    exact j_vret (pc := 21) ⟨rfl, rfl⟩ dX9_lineEnd_21 rfl ⟨rfl, hIσ13, hFσ13, c2, by omega, by omega, by omega⟩
abbrev q_X9_number (a : Int) (b : Int) (σ : tw_M) : Option tw_V → tw_M → Prop := fun z τ => ∃ r : Int, z = some (vI r) ∧ (-2147483648 ≤ r ∧ r ≤ 2147483647) ∧ tw_I τ ∧ tw_F (fun c j => (c = 10 ∧ (j = 11 ∨ j = 12))) σ τ ∧ (a ≤ r ∧ r ≤ b) ∧ (aX τ = numS a b (aX σ)) ∧ (¬ τ 10 11 = 0 ∨ r = σ 10 8) ∧ (¬ τ 10 11 = 0 ∨ σ 10 11 = 0) ∧ (True ∨ σ 10 6 = τ 10 12) ∧ (¬ τ 10 11 = 0 ∨ σ 10 6 = 2)
set_option maxHeartbeats 4000000 in
set_option maxRecDepth 100000 in
theorem c_X9_number {G : tw_G} (hX : tw_isX G) (a : Int) (ha : -2147483648 ≤ a ∧ a ≤ 2147483647) (b : Int) (hb : -2147483648 ≤ b ∧ b ≤ 2147483647) (σ : tw_M) (hI : tw_I σ) (hq0 : a ≤ b) : tw_C G yX9_number cX9_number 3 (some .int) 1 [vR 10, vI a, vI b] σ (q_X9_number a b σ) := by
  refine tw_met [(0, vR 10), (1, vI a), (2, vI b)] (by decide +kernel) rfl (Nat.le_of_ble_eq_true rfl) ?_
  refine j_aload_n (pc := 0) dX9_number_0 rfl rfl ?_
  refine j_getI (pc := 1) fl_X9_33 dX9_number_1 (a_10 hX) rfl ?_
  have f1 : (0 : Int) ≤ σ 10 11 ∧ σ 10 11 ≤ 5 := hI 10 11
  refine j_ifR_eq (pc := 4) (tgt := 9) ⟨by omega, by omega⟩ dX9_number_4 rfl (fun h2 => ?_) (fun h2 => ?_)
  · refine j_aload_n (pc := 9) dX9_number_9 rfl rfl ?_
    refine j_getI (pc := 10) fl_X9_48 dX9_number_10 (a_10 hX) rfl ?_
    have f3 : (0 : Int) ≤ σ 10 6 ∧ σ 10 6 ≤ 3 := hI 10 6
    refine j_iconst (pc := 13) dX9_number_13 ?_
    refine j_icmpR_eq (pc := 14) (tgt := 29) ⟨by omega, by omega⟩ ⟨by omega, by omega⟩ dX9_number_14 rfl (fun h4 => ?_) (fun h4 => ?_)
    · refine j_aload_n (pc := 29) dX9_number_29 rfl rfl ?_
      refine j_getI (pc := 30) fl_X9_95 dX9_number_30 (a_10 hX) rfl ?_
      have f5 : (0 : Int) ≤ σ 10 8 ∧ σ 10 8 ≤ 999 := hI 10 8
      refine j_iload_n (pc := 33) dX9_number_33 rfl rfl ?_
      refine j_icmpR_lt (pc := 34) (tgt := 45) ⟨by omega, by omega⟩ ⟨by omega, by omega⟩ dX9_number_34 rfl (fun h6 => ?_) (fun h6 => ?_)
      · refine j_aload_n (pc := 45) dX9_number_45 rfl rfl ?_
        refine j_iconst (pc := 46) dX9_number_46 ?_
        refine j_aload_n (pc := 47) dX9_number_47 rfl rfl ?_
        refine j_getI (pc := 48) fl_X9_76 dX9_number_48 (a_10 hX) rfl ?_
        have f7 : (0 : Int) ≤ σ 10 7 ∧ σ 10 7 ≤ 400 := hI 10 7
        refine j_callV (pc := 51) (As := [vI 3, vI (σ 10 7)]) (st := []) (c_X9_fail hX 3 ⟨by omega, by omega⟩ (σ 10 7) ⟨by omega, by omega⟩ σ hI) mv_X9_61 rfl rfl rfl (a_10 hX) dX9_number_51 ⟨Nat.le_of_ble_eq_true rfl, Nat.le_of_ble_eq_true rfl⟩ ⟨Nat.le_refl _, Nat.le_refl _⟩ rfl (Nat.le_of_ble_eq_true rfl) rfl (fun z8 σ9 hz8 => ?_)
        obtain ⟨rfl, hIσ9, hGσ9, q10_0⟩ := hz8
        replace q10_0 : (σ 10 11 = 0 ∧ σ9 10 11 = (3 : Int) ∧ σ9 10 12 = (σ 10 7)) ∨ (¬ σ 10 11 = 0 ∧ σ9 10 11 = σ 10 11 ∧ σ9 10 12 = σ 10 12) := q10_0
        have hFσ9 : tw_F (fun c j => (c = 10 ∧ (j = 11 ∨ j = 12))) σ σ9 := tw_F_tr (tw_F_rf) hGσ9 (fun c j q => (show (c = 10 ∧ (j = 11 ∨ j = 12)) from by replace q : (c = 10 ∧ (j = 11 ∨ j = 12)) := q; omega))
        refine j_st (st' := []) rfl ?_
        refine j_aload_n (pc := 54) dX9_number_54 rfl rfl ?_
        refine j_getI (pc := 55) fl_X9_33 dX9_number_55 (a_10 hX) rfl ?_
        have f12 : (0 : Int) ≤ σ9 10 11 ∧ σ9 10 11 ≤ 5 := hIσ9 10 11
        refine j_ifR_ne (pc := 58) (tgt := 68) ⟨by omega, by omega⟩ dX9_number_58 rfl (fun h13 => ?_) (fun h13 => ?_)
        · refine j_iload_n (pc := 68) dX9_number_68 rfl rfl ?_
          exact j_iret (pc := 69) ⟨rfl, rfl⟩ dX9_number_69 rfl ⟨_, rfl, ⟨by omega, by omega⟩, hIσ9, hFσ9, by omega, (by first | exact aX_num_no (by omega) | exact aX_num_ok (by omega) (by omega) ⟨by omega, by omega⟩ | exact aX_num_sort (by omega) (by omega) ⟨by omega, by omega⟩ | exact aX_num_out (by omega) (by omega) (by omega) ⟨by omega, by omega⟩), by omega, by omega, Or.inl trivial, by omega⟩
        · refine j_aload_n (pc := 61) dX9_number_61 rfl rfl ?_
          refine j_getI (pc := 62) fl_X9_95 dX9_number_62 (a_10 hX) rfl ?_
          refine j_topV (show σ9 10 8 = σ 10 8 from (hGσ9 10 8 (show ¬ ((10 = 10 ∧ (8 = 11 ∨ 8 = 12))) from by omega))) ?_
          refine j_goto (pc := 65) (tgt := 69) dX9_number_65 rfl ?_
          exact j_iret (pc := 69) ⟨rfl, rfl⟩ dX9_number_69 rfl ⟨_, rfl, ⟨by omega, by omega⟩, hIσ9, hFσ9, by omega, (by first | exact aX_num_no (by omega) | exact aX_num_ok (by omega) (by omega) ⟨by omega, by omega⟩ | exact aX_num_sort (by omega) (by omega) ⟨by omega, by omega⟩ | exact aX_num_out (by omega) (by omega) (by omega) ⟨by omega, by omega⟩), by omega, by omega, Or.inl trivial, by omega⟩
      · refine j_aload_n (pc := 37) dX9_number_37 rfl rfl ?_
        refine j_getI (pc := 38) fl_X9_95 dX9_number_38 (a_10 hX) rfl ?_
        refine j_iload_n (pc := 41) dX9_number_41 rfl rfl ?_
        refine j_icmpR_le (pc := 42) (tgt := 54) ⟨by omega, by omega⟩ ⟨by omega, by omega⟩ dX9_number_42 rfl (fun h14 => ?_) (fun h14 => ?_)
        · refine j_aload_n (pc := 54) dX9_number_54 rfl rfl ?_
          refine j_getI (pc := 55) fl_X9_33 dX9_number_55 (a_10 hX) rfl ?_
          refine j_ifR_ne (pc := 58) (tgt := 68) ⟨by omega, by omega⟩ dX9_number_58 rfl (fun h15 => by exfalso; omega) (fun h15 => ?_)
          refine j_aload_n (pc := 61) dX9_number_61 rfl rfl ?_
          refine j_getI (pc := 62) fl_X9_95 dX9_number_62 (a_10 hX) rfl ?_
          refine j_goto (pc := 65) (tgt := 69) dX9_number_65 rfl ?_
          exact j_iret (pc := 69) ⟨rfl, rfl⟩ dX9_number_69 rfl ⟨_, rfl, ⟨by omega, by omega⟩, hI, (tw_F_rf), by omega, (by first | exact aX_num_no (by omega) | exact aX_num_ok (by omega) (by omega) ⟨by omega, by omega⟩ | exact aX_num_sort (by omega) (by omega) ⟨by omega, by omega⟩ | exact aX_num_out (by omega) (by omega) (by omega) ⟨by omega, by omega⟩), by omega, by omega, Or.inl trivial, by omega⟩
        · refine j_aload_n (pc := 45) dX9_number_45 rfl rfl ?_
          refine j_iconst (pc := 46) dX9_number_46 ?_
          refine j_aload_n (pc := 47) dX9_number_47 rfl rfl ?_
          refine j_getI (pc := 48) fl_X9_76 dX9_number_48 (a_10 hX) rfl ?_
          have f16 : (0 : Int) ≤ σ 10 7 ∧ σ 10 7 ≤ 400 := hI 10 7
          refine j_callV (pc := 51) (As := [vI 3, vI (σ 10 7)]) (st := []) (c_X9_fail hX 3 ⟨by omega, by omega⟩ (σ 10 7) ⟨by omega, by omega⟩ σ hI) mv_X9_61 rfl rfl rfl (a_10 hX) dX9_number_51 ⟨Nat.le_of_ble_eq_true rfl, Nat.le_of_ble_eq_true rfl⟩ ⟨Nat.le_refl _, Nat.le_refl _⟩ rfl (Nat.le_of_ble_eq_true rfl) rfl (fun z17 σ18 hz17 => ?_)
          obtain ⟨rfl, hIσ18, hGσ18, q19_0⟩ := hz17
          replace q19_0 : (σ 10 11 = 0 ∧ σ18 10 11 = (3 : Int) ∧ σ18 10 12 = (σ 10 7)) ∨ (¬ σ 10 11 = 0 ∧ σ18 10 11 = σ 10 11 ∧ σ18 10 12 = σ 10 12) := q19_0
          have hFσ18 : tw_F (fun c j => (c = 10 ∧ (j = 11 ∨ j = 12))) σ σ18 := tw_F_tr (tw_F_rf) hGσ18 (fun c j q => (show (c = 10 ∧ (j = 11 ∨ j = 12)) from by replace q : (c = 10 ∧ (j = 11 ∨ j = 12)) := q; omega))
          refine j_st (st' := []) rfl ?_
          refine j_aload_n (pc := 54) dX9_number_54 rfl rfl ?_
          refine j_getI (pc := 55) fl_X9_33 dX9_number_55 (a_10 hX) rfl ?_
          have f21 : (0 : Int) ≤ σ18 10 11 ∧ σ18 10 11 ≤ 5 := hIσ18 10 11
          refine j_ifR_ne (pc := 58) (tgt := 68) ⟨by omega, by omega⟩ dX9_number_58 rfl (fun h22 => ?_) (fun h22 => ?_)
          · refine j_iload_n (pc := 68) dX9_number_68 rfl rfl ?_
            exact j_iret (pc := 69) ⟨rfl, rfl⟩ dX9_number_69 rfl ⟨_, rfl, ⟨by omega, by omega⟩, hIσ18, hFσ18, by omega, (by first | exact aX_num_no (by omega) | exact aX_num_ok (by omega) (by omega) ⟨by omega, by omega⟩ | exact aX_num_sort (by omega) (by omega) ⟨by omega, by omega⟩ | exact aX_num_out (by omega) (by omega) (by omega) ⟨by omega, by omega⟩), by omega, by omega, Or.inl trivial, by omega⟩
          · refine j_aload_n (pc := 61) dX9_number_61 rfl rfl ?_
            refine j_getI (pc := 62) fl_X9_95 dX9_number_62 (a_10 hX) rfl ?_
            refine j_topV (show σ18 10 8 = σ 10 8 from (hGσ18 10 8 (show ¬ ((10 = 10 ∧ (8 = 11 ∨ 8 = 12))) from by omega))) ?_
            refine j_goto (pc := 65) (tgt := 69) dX9_number_65 rfl ?_
            exact j_iret (pc := 69) ⟨rfl, rfl⟩ dX9_number_69 rfl ⟨_, rfl, ⟨by omega, by omega⟩, hIσ18, hFσ18, by omega, (by first | exact aX_num_no (by omega) | exact aX_num_ok (by omega) (by omega) ⟨by omega, by omega⟩ | exact aX_num_sort (by omega) (by omega) ⟨by omega, by omega⟩ | exact aX_num_out (by omega) (by omega) (by omega) ⟨by omega, by omega⟩), by omega, by omega, Or.inl trivial, by omega⟩
    · refine j_aload_n (pc := 17) dX9_number_17 rfl rfl ?_
      refine j_iconst (pc := 18) dX9_number_18 ?_
      refine j_aload_n (pc := 19) dX9_number_19 rfl rfl ?_
      refine j_getI (pc := 20) fl_X9_76 dX9_number_20 (a_10 hX) rfl ?_
      have f23 : (0 : Int) ≤ σ 10 7 ∧ σ 10 7 ≤ 400 := hI 10 7
      refine j_callV (pc := 23) (As := [vI 2, vI (σ 10 7)]) (st := []) (c_X9_fail hX 2 ⟨by omega, by omega⟩ (σ 10 7) ⟨by omega, by omega⟩ σ hI) mv_X9_61 rfl rfl rfl (a_10 hX) dX9_number_23 ⟨Nat.le_of_ble_eq_true rfl, Nat.le_of_ble_eq_true rfl⟩ ⟨Nat.le_refl _, Nat.le_refl _⟩ rfl (Nat.le_of_ble_eq_true rfl) rfl (fun z24 σ25 hz24 => ?_)
      obtain ⟨rfl, hIσ25, hGσ25, q26_0⟩ := hz24
      replace q26_0 : (σ 10 11 = 0 ∧ σ25 10 11 = (2 : Int) ∧ σ25 10 12 = (σ 10 7)) ∨ (¬ σ 10 11 = 0 ∧ σ25 10 11 = σ 10 11 ∧ σ25 10 12 = σ 10 12) := q26_0
      have hFσ25 : tw_F (fun c j => (c = 10 ∧ (j = 11 ∨ j = 12))) σ σ25 := tw_F_tr (tw_F_rf) hGσ25 (fun c j q => (show (c = 10 ∧ (j = 11 ∨ j = 12)) from by replace q : (c = 10 ∧ (j = 11 ∨ j = 12)) := q; omega))
      refine j_st (st' := []) rfl ?_
      refine j_goto (pc := 26) (tgt := 54) dX9_number_26 rfl ?_
      refine j_aload_n (pc := 54) dX9_number_54 rfl rfl ?_
      refine j_getI (pc := 55) fl_X9_33 dX9_number_55 (a_10 hX) rfl ?_
      have f28 : (0 : Int) ≤ σ25 10 11 ∧ σ25 10 11 ≤ 5 := hIσ25 10 11
      refine j_ifR_ne (pc := 58) (tgt := 68) ⟨by omega, by omega⟩ dX9_number_58 rfl (fun h29 => ?_) (fun h29 => ?_)
      · refine j_iload_n (pc := 68) dX9_number_68 rfl rfl ?_
        exact j_iret (pc := 69) ⟨rfl, rfl⟩ dX9_number_69 rfl ⟨_, rfl, ⟨by omega, by omega⟩, hIσ25, hFσ25, by omega, (by first | exact aX_num_no (by omega) | exact aX_num_ok (by omega) (by omega) ⟨by omega, by omega⟩ | exact aX_num_sort (by omega) (by omega) ⟨by omega, by omega⟩ | exact aX_num_out (by omega) (by omega) (by omega) ⟨by omega, by omega⟩), by omega, by omega, Or.inl trivial, by omega⟩
      · refine j_aload_n (pc := 61) dX9_number_61 rfl rfl ?_
        refine j_getI (pc := 62) fl_X9_95 dX9_number_62 (a_10 hX) rfl ?_
        refine j_topV (show σ25 10 8 = σ 10 8 from (hGσ25 10 8 (show ¬ ((10 = 10 ∧ (8 = 11 ∨ 8 = 12))) from by omega))) ?_
        have f30 : (0 : Int) ≤ σ 10 8 ∧ σ 10 8 ≤ 999 := hI 10 8
        refine j_goto (pc := 65) (tgt := 69) dX9_number_65 rfl ?_
        exact j_iret (pc := 69) ⟨rfl, rfl⟩ dX9_number_69 rfl ⟨_, rfl, ⟨by omega, by omega⟩, hIσ25, hFσ25, by omega, (by first | exact aX_num_no (by omega) | exact aX_num_ok (by omega) (by omega) ⟨by omega, by omega⟩ | exact aX_num_sort (by omega) (by omega) ⟨by omega, by omega⟩ | exact aX_num_out (by omega) (by omega) (by omega) ⟨by omega, by omega⟩), by omega, by omega, Or.inl trivial, by omega⟩
  · refine j_iload_n (pc := 7) dX9_number_7 rfl rfl ?_
    exact j_iret (pc := 8) ⟨rfl, rfl⟩ dX9_number_8 rfl ⟨_, rfl, ⟨by omega, by omega⟩, hI, (tw_F_rf), by omega, (by first | exact aX_num_no (by omega) | exact aX_num_ok (by omega) (by omega) ⟨by omega, by omega⟩ | exact aX_num_sort (by omega) (by omega) ⟨by omega, by omega⟩ | exact aX_num_out (by omega) (by omega) (by omega) ⟨by omega, by omega⟩), by omega, by omega, Or.inl trivial, by omega⟩
abbrev q_X9_readWith (h : Int) (w : Int) (σ : tw_M) : Option tw_V → tw_M → Prop := fun z τ => z = none ∧ tw_I τ ∧ tw_F (fun c j => (c = 10 ∧ (j = 5 ∨ j = 6 ∨ j = 7 ∨ j = 8 ∨ j = 11 ∨ j = 12)) ∨ (14 ≤ c ∧ c < 23)) σ τ ∧ (aX τ = withX (fX σ) h w (aX σ)) ∧ (¬ σ 10 5 ≤ σ 10 10 ∨ τ 10 5 ≤ σ 10 10) ∧ (¬ τ 10 11 = 0 ∨ (σ 10 11 = 0 ∧ σ 10 5 ≤ τ 10 5) ) ∧ (¬ τ 10 11 = 0 ∨ τ 10 6 = 0 ∨ σ 10 5 < τ 10 5)
set_option maxHeartbeats 4000000 in
set_option maxRecDepth 100000 in
theorem c_X9_readWith {G : tw_G} (hX : tw_isX G) (h : Int) (hh : 1 ≤ h ∧ h ≤ 40) (w : Int) (hw : 0 ≤ w ∧ w ≤ 3) (σ : tw_M) (hI : tw_I σ) : tw_C G yX9_readWith cX9_readWith 3 none 3 [vR 10, vI h, vI w] σ (q_X9_readWith h w σ) := by
  refine tw_met [(0, vR 10), (1, vI h), (2, vI w)] (by decide +kernel) rfl (Nat.le_of_ble_eq_true rfl) ?_
  refine j_aload_n (pc := 0) dX9_readWith_0 rfl rfl ?_
  have fz : fX σ = fX σ := fX_F ((tw_F_rf) 10 10 (show ¬ ((10 = 10 ∧ (10 = 5 ∨ 10 = 6 ∨ 10 = 7 ∨ 10 = 8 ∨ 10 = 11 ∨ 10 = 12)) ∨ (14 ≤ 10 ∧ 10 < 23)) from by omega)) (fun j => (tw_F_rf) 11 j (show ¬ ((11 = 10 ∧ (j = 5 ∨ j = 6 ∨ j = 7 ∨ j = 8 ∨ j = 11 ∨ j = 12)) ∨ (14 ≤ 11 ∧ 11 < 23)) from by omega))
  refine j_callV (pc := 1) (As := []) (st := []) (c_X9_advance hX σ hI) mv_X9_45 rfl rfl rfl (a_10 hX) dX9_readWith_1 ⟨Nat.le_of_ble_eq_true rfl, Nat.le_of_ble_eq_true rfl⟩ ⟨Nat.le_refl _, Nat.le_refl _⟩ rfl (Nat.le_of_ble_eq_true rfl) rfl (fun z1 σ2 hz1 => ?_)
  obtain ⟨rfl, hIσ2, hGσ2, q3_0, q3_1, q3_2, q3_3⟩ := hz1
  replace q3_0 : aX σ2 = tok (fX σ) (aX σ) := q3_0
  replace q3_1 : ¬ σ 10 5 ≤ σ 10 10 ∨ σ2 10 5 ≤ σ 10 10 := q3_1
  replace q3_2 : ¬ σ 10 5 ≤ σ 10 10 ∨ ¬ σ2 10 11 = 0 ∨ ¬ σ2 10 6 = 0 ∨ σ2 10 7 = σ 10 10 := q3_2
  replace q3_3 : ¬ σ2 10 11 = 0 ∨ (σ 10 11 = 0 ∧ σ 10 5 ≤ σ2 10 5 ∧ (σ2 10 6 = 0 ∨ σ 10 5 < σ2 10 5)) := q3_3
  have hFσ2 : tw_F (fun c j => (c = 10 ∧ (j = 5 ∨ j = 6 ∨ j = 7 ∨ j = 8 ∨ j = 11 ∨ j = 12)) ∨ (14 ≤ c ∧ c < 23)) σ σ2 := tw_F_tr (tw_F_rf) hGσ2 (fun c j q => (show (c = 10 ∧ (j = 5 ∨ j = 6 ∨ j = 7 ∨ j = 8 ∨ j = 11 ∨ j = 12)) ∨ (14 ≤ c ∧ c < 23) from by replace q : (c = 10 ∧ (j = 5 ∨ j = 6 ∨ j = 7 ∨ j = 8 ∨ j = 11 ∨ j = 12)) := q; omega))
  refine j_st (st' := []) rfl ?_
  have c1 := q3_0; rw [fz] at c1
  refine j_iload_n (pc := 4) dX9_readWith_4 rfl rfl ?_
  refine j_iconst (pc := 5) dX9_readWith_5 ?_
  refine j_icmpR_ne (pc := 6) (tgt := 22) ⟨by omega, by omega⟩ ⟨by omega, by omega⟩ dX9_readWith_6 rfl (fun h5 => ?_) (fun h5 => ?_)
  · refine j_iload_n (pc := 22) dX9_readWith_22 rfl rfl ?_
    refine j_iconst (pc := 23) dX9_readWith_23 ?_
    refine j_icmpR_ne (pc := 24) (tgt := 40) ⟨by omega, by omega⟩ ⟨by omega, by omega⟩ dX9_readWith_24 rfl (fun h6 => ?_) (fun h6 => ?_)
    · refine j_iload_n (pc := 40) dX9_readWith_40 rfl rfl ?_
      refine j_ifR_ne (pc := 41) (tgt := 67) ⟨by omega, by omega⟩ dX9_readWith_41 rfl (fun h7 => ?_) (fun h7 => ?_)
      · refine j_aload_n (pc := 67) dX9_readWith_67 rfl rfl ?_
        refine j_getR (pc := 68) (r := 14) fl_X9_25 dX9_readWith_68 (a_10 hX) rfl ?_
        refine j_getR (pc := 71) (r := 21) fl_X9_177 dX9_readWith_71 (a_14 hX) rfl ?_
        refine j_iload_n (pc := 74) dX9_readWith_74 rfl rfl ?_
        refine j_aload_n (pc := 75) dX9_readWith_75 rfl rfl ?_
        refine j_iconst (pc := 76) dX9_readWith_76 ?_
        refine j_bipush (pc := 77) dX9_readWith_77 rfl ?_
        refine j_callV (pc := 79) (As := [vI 0, vI 9]) (st := [vI h, vR 21]) (c_X9_number hX 0 ⟨by omega, by omega⟩ 9 ⟨by omega, by omega⟩ σ2 hIσ2 (by omega)) mv_X9_152 rfl rfl rfl (a_10 hX) dX9_readWith_79 ⟨Nat.le_of_ble_eq_true rfl, Nat.le_of_ble_eq_true rfl⟩ ⟨Nat.le_refl _, Nat.le_refl _⟩ rfl (Nat.le_of_ble_eq_true rfl) rfl (fun z8 σ9 hz8 => ?_)
        obtain ⟨r11, rfl, hr11, hIσ9, hGσ9, q10_0, q10_1, q10_2, q10_3, q10_4, q10_5⟩ := hz8
        replace q10_0 : (0 : Int) ≤ r11 ∧ r11 ≤ (9 : Int) := q10_0
        replace q10_1 : aX σ9 = numS (0 : Int) (9 : Int) (aX σ2) := q10_1
        replace q10_2 : ¬ σ9 10 11 = 0 ∨ r11 = σ2 10 8 := q10_2
        replace q10_3 : ¬ σ9 10 11 = 0 ∨ σ2 10 11 = 0 := q10_3
        replace q10_4 : True ∨ σ2 10 6 = σ9 10 12 := q10_4
        replace q10_5 : ¬ σ9 10 11 = 0 ∨ σ2 10 6 = 2 := q10_5
        have hFσ9 : tw_F (fun c j => (c = 10 ∧ (j = 5 ∨ j = 6 ∨ j = 7 ∨ j = 8 ∨ j = 11 ∨ j = 12)) ∨ (14 ≤ c ∧ c < 23)) σ σ9 := tw_F_tr hFσ2 hGσ9 (fun c j q => (show (c = 10 ∧ (j = 5 ∨ j = 6 ∨ j = 7 ∨ j = 8 ∨ j = 11 ∨ j = 12)) ∨ (14 ≤ c ∧ c < 23) from by replace q : (c = 10 ∧ (j = 11 ∨ j = 12)) := q; omega))
        refine j_st (st' := [vI r11, vI h, vR 21]) rfl ?_
        have c2 := q10_1
        have v2 := aX_numv q10_1 ((hGσ9 10 6 (show ¬ ((10 = 10 ∧ (6 = 11 ∨ 6 = 12))) from by omega))) ((hGσ9 10 8 (show ¬ ((10 = 10 ∧ (8 = 11 ∨ 8 = 12))) from by omega))) q10_2
        refine j_iast (pc := 82) dX9_readWith_82 (a_21 hX) (by omega) (by omega) (by decide) (j_nm (fun σ12 (eσ12 : σ12 = tw_up σ9 21 (h.toNat) r11) => ?_))
        have hIσ12 : tw_I σ12 := tw_I_up hIσ9 eσ12 (show (0 : Int) ≤ r11 ∧ r11 ≤ 9 from ⟨by omega, by omega⟩)
        have hFσ12 : tw_F (fun c j => (c = 10 ∧ (j = 5 ∨ j = 6 ∨ j = 7 ∨ j = 8 ∨ j = 11 ∨ j = 12)) ∨ (14 ≤ c ∧ c < 23)) σ σ12 := tw_F_up hFσ9 eσ12 (show (21 = 10 ∧ (h.toNat = 5 ∨ h.toNat = 6 ∨ h.toNat = 7 ∨ h.toNat = 8 ∨ h.toNat = 11 ∨ h.toNat = 12)) ∨ (14 ≤ 21 ∧ 21 < 23) from by omega)
        have c3 := (aX_wr (i := 304 + 5 * h.toNat) eσ12 (by omega)).trans (by rw [ci5 (by omega)]; exact wr_cg v2)
        refine j_aload_n (pc := 83) dX9_readWith_83 rfl rfl ?_
        have fz : fX σ12 = fX σ := fX_F (hFσ12 10 10 (show ¬ ((10 = 10 ∧ (10 = 5 ∨ 10 = 6 ∨ 10 = 7 ∨ 10 = 8 ∨ 10 = 11 ∨ 10 = 12)) ∨ (14 ≤ 10 ∧ 10 < 23)) from by omega)) (fun j => hFσ12 11 j (show ¬ ((11 = 10 ∧ (j = 5 ∨ j = 6 ∨ j = 7 ∨ j = 8 ∨ j = 11 ∨ j = 12)) ∨ (14 ≤ 11 ∧ 11 < 23)) from by omega))
        refine j_callV (pc := 84) (As := []) (st := []) (c_X9_advance hX σ12 hIσ12) mv_X9_45 rfl rfl rfl (a_10 hX) dX9_readWith_84 ⟨Nat.le_of_ble_eq_true rfl, Nat.le_of_ble_eq_true rfl⟩ ⟨Nat.le_refl _, Nat.le_refl _⟩ rfl (Nat.le_of_ble_eq_true rfl) rfl (fun z13 σ14 hz13 => ?_)
        obtain ⟨rfl, hIσ14, hGσ14, q15_0, q15_1, q15_2, q15_3⟩ := hz13
        replace q15_0 : aX σ14 = tok (fX σ12) (aX σ12) := q15_0
        replace q15_1 : ¬ σ12 10 5 ≤ σ12 10 10 ∨ σ14 10 5 ≤ σ12 10 10 := q15_1
        have y17 : σ12 10 5 = σ2 10 5 := ((tw_ne1 eσ12 (by omega))).trans (hGσ9 10 5 (show ¬ ((10 = 10 ∧ (5 = 11 ∨ 5 = 12))) from by omega))
        have f18 : (0 : Int) ≤ σ2 10 5 ∧ σ2 10 5 ≤ 400 := hIσ2 10 5
        have y19 : σ12 10 10 = σ 10 10 := (((tw_ne1 eσ12 (by omega))).trans (hGσ9 10 10 (show ¬ ((10 = 10 ∧ (10 = 11 ∨ 10 = 12))) from by omega))).trans (hGσ2 10 10 (show ¬ ((10 = 10 ∧ (10 = 5 ∨ 10 = 6 ∨ 10 = 7 ∨ 10 = 8 ∨ 10 = 11 ∨ 10 = 12))) from by omega))
        have f20 : (0 : Int) ≤ σ 10 10 ∧ σ 10 10 ≤ 400 := hI 10 10
        replace q15_2 : ¬ σ12 10 5 ≤ σ12 10 10 ∨ ¬ σ14 10 11 = 0 ∨ ¬ σ14 10 6 = 0 ∨ σ14 10 7 = σ12 10 10 := q15_2
        have y21 : σ12 10 5 = σ2 10 5 := ((tw_ne1 eσ12 (by omega))).trans (hGσ9 10 5 (show ¬ ((10 = 10 ∧ (5 = 11 ∨ 5 = 12))) from by omega))
        have y22 : σ12 10 10 = σ 10 10 := (((tw_ne1 eσ12 (by omega))).trans (hGσ9 10 10 (show ¬ ((10 = 10 ∧ (10 = 11 ∨ 10 = 12))) from by omega))).trans (hGσ2 10 10 (show ¬ ((10 = 10 ∧ (10 = 5 ∨ 10 = 6 ∨ 10 = 7 ∨ 10 = 8 ∨ 10 = 11 ∨ 10 = 12))) from by omega))
        replace q15_3 : ¬ σ14 10 11 = 0 ∨ (σ12 10 11 = 0 ∧ σ12 10 5 ≤ σ14 10 5 ∧ (σ14 10 6 = 0 ∨ σ12 10 5 < σ14 10 5)) := q15_3
        have y23 : σ12 10 11 = σ9 10 11 := (tw_ne1 eσ12 (by omega))
        have f24 : (0 : Int) ≤ σ9 10 11 ∧ σ9 10 11 ≤ 5 := hIσ9 10 11
        have y25 : σ12 10 5 = σ2 10 5 := ((tw_ne1 eσ12 (by omega))).trans (hGσ9 10 5 (show ¬ ((10 = 10 ∧ (5 = 11 ∨ 5 = 12))) from by omega))
        have hFσ14 : tw_F (fun c j => (c = 10 ∧ (j = 5 ∨ j = 6 ∨ j = 7 ∨ j = 8 ∨ j = 11 ∨ j = 12)) ∨ (14 ≤ c ∧ c < 23)) σ σ14 := tw_F_tr hFσ12 hGσ14 (fun c j q => (show (c = 10 ∧ (j = 5 ∨ j = 6 ∨ j = 7 ∨ j = 8 ∨ j = 11 ∨ j = 12)) ∨ (14 ≤ c ∧ c < 23) from by replace q : (c = 10 ∧ (j = 5 ∨ j = 6 ∨ j = 7 ∨ j = 8 ∨ j = 11 ∨ j = 12)) := q; omega))
        refine j_st (st' := []) rfl ?_
        have c4 := q15_0; rw [fz] at c4
        have cc := with_3 (by omega) c1 c2 c3 c4
        exact j_vret (pc := 87) ⟨rfl, rfl⟩ dX9_readWith_87 rfl ⟨rfl, hIσ14, hFσ14, cc, by omega, by omega, (by omega)⟩
      · refine j_aload_n (pc := 44) dX9_readWith_44 rfl rfl ?_
        refine j_getR (pc := 45) (r := 14) fl_X9_25 dX9_readWith_45 (a_10 hX) rfl ?_
        refine j_getR (pc := 48) (r := 18) fl_X9_175 dX9_readWith_48 (a_14 hX) rfl ?_
        refine j_iload_n (pc := 51) dX9_readWith_51 rfl rfl ?_
        refine j_aload_n (pc := 52) dX9_readWith_52 rfl rfl ?_
        refine j_iconst (pc := 53) dX9_readWith_53 ?_
        refine j_bipush (pc := 54) dX9_readWith_54 rfl ?_
        refine j_callV (pc := 56) (As := [vI 1, vI 10]) (st := [vI h, vR 18]) (c_X9_number hX 1 ⟨by omega, by omega⟩ 10 ⟨by omega, by omega⟩ σ2 hIσ2 (by omega)) mv_X9_152 rfl rfl rfl (a_10 hX) dX9_readWith_56 ⟨Nat.le_of_ble_eq_true rfl, Nat.le_of_ble_eq_true rfl⟩ ⟨Nat.le_refl _, Nat.le_refl _⟩ rfl (Nat.le_of_ble_eq_true rfl) rfl (fun z26 σ27 hz26 => ?_)
        obtain ⟨r29, rfl, hr29, hIσ27, hGσ27, q28_0, q28_1, q28_2, q28_3, q28_4, q28_5⟩ := hz26
        replace q28_0 : (1 : Int) ≤ r29 ∧ r29 ≤ (10 : Int) := q28_0
        replace q28_1 : aX σ27 = numS (1 : Int) (10 : Int) (aX σ2) := q28_1
        replace q28_2 : ¬ σ27 10 11 = 0 ∨ r29 = σ2 10 8 := q28_2
        replace q28_3 : ¬ σ27 10 11 = 0 ∨ σ2 10 11 = 0 := q28_3
        replace q28_4 : True ∨ σ2 10 6 = σ27 10 12 := q28_4
        replace q28_5 : ¬ σ27 10 11 = 0 ∨ σ2 10 6 = 2 := q28_5
        have hFσ27 : tw_F (fun c j => (c = 10 ∧ (j = 5 ∨ j = 6 ∨ j = 7 ∨ j = 8 ∨ j = 11 ∨ j = 12)) ∨ (14 ≤ c ∧ c < 23)) σ σ27 := tw_F_tr hFσ2 hGσ27 (fun c j q => (show (c = 10 ∧ (j = 5 ∨ j = 6 ∨ j = 7 ∨ j = 8 ∨ j = 11 ∨ j = 12)) ∨ (14 ≤ c ∧ c < 23) from by replace q : (c = 10 ∧ (j = 11 ∨ j = 12)) := q; omega))
        refine j_st (st' := [vI r29, vI h, vR 18]) rfl ?_
        have c2 := q28_1
        have v2 := aX_numv q28_1 ((hGσ27 10 6 (show ¬ ((10 = 10 ∧ (6 = 11 ∨ 6 = 12))) from by omega))) ((hGσ27 10 8 (show ¬ ((10 = 10 ∧ (8 = 11 ∨ 8 = 12))) from by omega))) q28_2
        refine j_iast (pc := 59) dX9_readWith_59 (a_18 hX) (by omega) (by omega) (by decide) (j_nm (fun σ30 (eσ30 : σ30 = tw_up σ27 18 (h.toNat) r29) => ?_))
        have hIσ30 : tw_I σ30 := tw_I_up hIσ27 eσ30 (show (0 : Int) ≤ r29 ∧ r29 ≤ 10 from ⟨by omega, by omega⟩)
        have hFσ30 : tw_F (fun c j => (c = 10 ∧ (j = 5 ∨ j = 6 ∨ j = 7 ∨ j = 8 ∨ j = 11 ∨ j = 12)) ∨ (14 ≤ c ∧ c < 23)) σ σ30 := tw_F_up hFσ27 eσ30 (show (18 = 10 ∧ (h.toNat = 5 ∨ h.toNat = 6 ∨ h.toNat = 7 ∨ h.toNat = 8 ∨ h.toNat = 11 ∨ h.toNat = 12)) ∨ (14 ≤ 18 ∧ 18 < 23) from by omega)
        have c3 := (aX_wr (i := 301 + 5 * h.toNat) eσ30 (by omega)).trans (by rw [ci5 (by omega)]; exact wr_cg v2)
        refine j_aload_n (pc := 60) dX9_readWith_60 rfl rfl ?_
        have fz : fX σ30 = fX σ := fX_F (hFσ30 10 10 (show ¬ ((10 = 10 ∧ (10 = 5 ∨ 10 = 6 ∨ 10 = 7 ∨ 10 = 8 ∨ 10 = 11 ∨ 10 = 12)) ∨ (14 ≤ 10 ∧ 10 < 23)) from by omega)) (fun j => hFσ30 11 j (show ¬ ((11 = 10 ∧ (j = 5 ∨ j = 6 ∨ j = 7 ∨ j = 8 ∨ j = 11 ∨ j = 12)) ∨ (14 ≤ 11 ∧ 11 < 23)) from by omega))
        refine j_callV (pc := 61) (As := []) (st := []) (c_X9_advance hX σ30 hIσ30) mv_X9_45 rfl rfl rfl (a_10 hX) dX9_readWith_61 ⟨Nat.le_of_ble_eq_true rfl, Nat.le_of_ble_eq_true rfl⟩ ⟨Nat.le_refl _, Nat.le_refl _⟩ rfl (Nat.le_of_ble_eq_true rfl) rfl (fun z31 σ32 hz31 => ?_)
        obtain ⟨rfl, hIσ32, hGσ32, q33_0, q33_1, q33_2, q33_3⟩ := hz31
        replace q33_0 : aX σ32 = tok (fX σ30) (aX σ30) := q33_0
        replace q33_1 : ¬ σ30 10 5 ≤ σ30 10 10 ∨ σ32 10 5 ≤ σ30 10 10 := q33_1
        have y35 : σ30 10 5 = σ2 10 5 := ((tw_ne1 eσ30 (by omega))).trans (hGσ27 10 5 (show ¬ ((10 = 10 ∧ (5 = 11 ∨ 5 = 12))) from by omega))
        have f36 : (0 : Int) ≤ σ2 10 5 ∧ σ2 10 5 ≤ 400 := hIσ2 10 5
        have y37 : σ30 10 10 = σ 10 10 := (((tw_ne1 eσ30 (by omega))).trans (hGσ27 10 10 (show ¬ ((10 = 10 ∧ (10 = 11 ∨ 10 = 12))) from by omega))).trans (hGσ2 10 10 (show ¬ ((10 = 10 ∧ (10 = 5 ∨ 10 = 6 ∨ 10 = 7 ∨ 10 = 8 ∨ 10 = 11 ∨ 10 = 12))) from by omega))
        have f38 : (0 : Int) ≤ σ 10 10 ∧ σ 10 10 ≤ 400 := hI 10 10
        replace q33_2 : ¬ σ30 10 5 ≤ σ30 10 10 ∨ ¬ σ32 10 11 = 0 ∨ ¬ σ32 10 6 = 0 ∨ σ32 10 7 = σ30 10 10 := q33_2
        have y39 : σ30 10 5 = σ2 10 5 := ((tw_ne1 eσ30 (by omega))).trans (hGσ27 10 5 (show ¬ ((10 = 10 ∧ (5 = 11 ∨ 5 = 12))) from by omega))
        have y40 : σ30 10 10 = σ 10 10 := (((tw_ne1 eσ30 (by omega))).trans (hGσ27 10 10 (show ¬ ((10 = 10 ∧ (10 = 11 ∨ 10 = 12))) from by omega))).trans (hGσ2 10 10 (show ¬ ((10 = 10 ∧ (10 = 5 ∨ 10 = 6 ∨ 10 = 7 ∨ 10 = 8 ∨ 10 = 11 ∨ 10 = 12))) from by omega))
        replace q33_3 : ¬ σ32 10 11 = 0 ∨ (σ30 10 11 = 0 ∧ σ30 10 5 ≤ σ32 10 5 ∧ (σ32 10 6 = 0 ∨ σ30 10 5 < σ32 10 5)) := q33_3
        have y41 : σ30 10 11 = σ27 10 11 := (tw_ne1 eσ30 (by omega))
        have f42 : (0 : Int) ≤ σ27 10 11 ∧ σ27 10 11 ≤ 5 := hIσ27 10 11
        have y43 : σ30 10 5 = σ2 10 5 := ((tw_ne1 eσ30 (by omega))).trans (hGσ27 10 5 (show ¬ ((10 = 10 ∧ (5 = 11 ∨ 5 = 12))) from by omega))
        have hFσ32 : tw_F (fun c j => (c = 10 ∧ (j = 5 ∨ j = 6 ∨ j = 7 ∨ j = 8 ∨ j = 11 ∨ j = 12)) ∨ (14 ≤ c ∧ c < 23)) σ σ32 := tw_F_tr hFσ30 hGσ32 (fun c j q => (show (c = 10 ∧ (j = 5 ∨ j = 6 ∨ j = 7 ∨ j = 8 ∨ j = 11 ∨ j = 12)) ∨ (14 ≤ c ∧ c < 23) from by replace q : (c = 10 ∧ (j = 5 ∨ j = 6 ∨ j = 7 ∨ j = 8 ∨ j = 11 ∨ j = 12)) := q; omega))
        refine j_st (st' := []) rfl ?_
        have c4 := q33_0; rw [fz] at c4
        have cc := with_0 (by omega) c1 c2 c3 c4
        refine j_goto (pc := 64) (tgt := 87) dX9_readWith_64 rfl ?_
        exact j_vret (pc := 87) ⟨rfl, rfl⟩ dX9_readWith_87 rfl ⟨rfl, hIσ32, hFσ32, cc, by omega, by omega, (by omega)⟩
    · refine j_aload_n (pc := 27) dX9_readWith_27 rfl rfl ?_
      refine j_getR (pc := 28) (r := 14) fl_X9_25 dX9_readWith_28 (a_10 hX) rfl ?_
      refine j_getR (pc := 31) (r := 20) fl_X9_173 dX9_readWith_31 (a_14 hX) rfl ?_
      refine j_iload_n (pc := 34) dX9_readWith_34 rfl rfl ?_
      refine j_iconst (pc := 35) dX9_readWith_35 ?_
      refine j_iast (pc := 36) dX9_readWith_36 (a_20 hX) (by omega) (by omega) (by decide) (j_nm (fun σ44 (eσ44 : σ44 = tw_up σ2 20 (h.toNat) 1) => ?_))
      have hIσ44 : tw_I σ44 := tw_I_up hIσ2 eσ44 (show (0 : Int) ≤ 1 ∧ 1 ≤ 1 from ⟨by omega, by omega⟩)
      have hFσ44 : tw_F (fun c j => (c = 10 ∧ (j = 5 ∨ j = 6 ∨ j = 7 ∨ j = 8 ∨ j = 11 ∨ j = 12)) ∨ (14 ≤ c ∧ c < 23)) σ σ44 := tw_F_up hFσ2 eσ44 (show (20 = 10 ∧ (h.toNat = 5 ∨ h.toNat = 6 ∨ h.toNat = 7 ∨ h.toNat = 8 ∨ h.toNat = 11 ∨ h.toNat = 12)) ∨ (14 ≤ 20 ∧ 20 < 23) from by omega)
      have c2 := (aX_wr (i := 303 + 5 * h.toNat) eσ44 (by omega)).trans (by rw [ci5 (by omega)])
      have cc := with_2 (by omega) c1 c2
      refine j_goto (pc := 37) (tgt := 87) dX9_readWith_37 rfl ?_
      have y45 : σ44 10 5 = σ2 10 5 := (tw_ne1 eσ44 (by omega))
      have f46 : (0 : Int) ≤ σ2 10 5 ∧ σ2 10 5 ≤ 400 := hIσ2 10 5
      have y47 : σ44 10 11 = σ2 10 11 := (tw_ne1 eσ44 (by omega))
      have f48 : (0 : Int) ≤ σ2 10 11 ∧ σ2 10 11 ≤ 5 := hIσ2 10 11
      have y49 : σ44 10 5 = σ2 10 5 := (tw_ne1 eσ44 (by omega))
      have y50 : σ44 10 11 = σ2 10 11 := (tw_ne1 eσ44 (by omega))
      have y51 : σ44 10 6 = σ2 10 6 := (tw_ne1 eσ44 (by omega))
      have f52 : (0 : Int) ≤ σ2 10 6 ∧ σ2 10 6 ≤ 3 := hIσ2 10 6
      have y53 : σ44 10 5 = σ2 10 5 := (tw_ne1 eσ44 (by omega))
      exact j_vret (pc := 87) ⟨rfl, rfl⟩ dX9_readWith_87 rfl ⟨rfl, hIσ44, hFσ44, cc, by omega, by omega, (by omega)⟩
  · refine j_aload_n (pc := 9) dX9_readWith_9 rfl rfl ?_
    refine j_getR (pc := 10) (r := 14) fl_X9_25 dX9_readWith_10 (a_10 hX) rfl ?_
    refine j_getR (pc := 13) (r := 19) fl_X9_171 dX9_readWith_13 (a_14 hX) rfl ?_
    refine j_iload_n (pc := 16) dX9_readWith_16 rfl rfl ?_
    refine j_iconst (pc := 17) dX9_readWith_17 ?_
    refine j_iast (pc := 18) dX9_readWith_18 (a_19 hX) (by omega) (by omega) (by decide) (j_nm (fun σ54 (eσ54 : σ54 = tw_up σ2 19 (h.toNat) 1) => ?_))
    have hIσ54 : tw_I σ54 := tw_I_up hIσ2 eσ54 (show (0 : Int) ≤ 1 ∧ 1 ≤ 1 from ⟨by omega, by omega⟩)
    have hFσ54 : tw_F (fun c j => (c = 10 ∧ (j = 5 ∨ j = 6 ∨ j = 7 ∨ j = 8 ∨ j = 11 ∨ j = 12)) ∨ (14 ≤ c ∧ c < 23)) σ σ54 := tw_F_up hFσ2 eσ54 (show (19 = 10 ∧ (h.toNat = 5 ∨ h.toNat = 6 ∨ h.toNat = 7 ∨ h.toNat = 8 ∨ h.toNat = 11 ∨ h.toNat = 12)) ∨ (14 ≤ 19 ∧ 19 < 23) from by omega)
    have c2 := (aX_wr (i := 302 + 5 * h.toNat) eσ54 (by omega)).trans (by rw [ci5 (by omega)])
    have cc := with_1 (by omega) c1 c2
    refine j_goto (pc := 19) (tgt := 87) dX9_readWith_19 rfl ?_
    have y55 : σ54 10 5 = σ2 10 5 := (tw_ne1 eσ54 (by omega))
    have f56 : (0 : Int) ≤ σ2 10 5 ∧ σ2 10 5 ≤ 400 := hIσ2 10 5
    have y57 : σ54 10 11 = σ2 10 11 := (tw_ne1 eσ54 (by omega))
    have f58 : (0 : Int) ≤ σ2 10 11 ∧ σ2 10 11 ≤ 5 := hIσ2 10 11
    have y59 : σ54 10 5 = σ2 10 5 := (tw_ne1 eσ54 (by omega))
    have y60 : σ54 10 11 = σ2 10 11 := (tw_ne1 eσ54 (by omega))
    have y61 : σ54 10 6 = σ2 10 6 := (tw_ne1 eσ54 (by omega))
    have f62 : (0 : Int) ≤ σ2 10 6 ∧ σ2 10 6 ≤ 3 := hIσ2 10 6
    have y63 : σ54 10 5 = σ2 10 5 := (tw_ne1 eσ54 (by omega))
    exact j_vret (pc := 87) ⟨rfl, rfl⟩ dX9_readWith_87 rfl ⟨rfl, hIσ54, hFσ54, cc, by omega, by omega, (by omega)⟩
abbrev q_X9_footLine  (σ : tw_M) : Option tw_V → tw_M → Prop := fun z τ => z = none ∧ tw_I τ ∧ tw_F (fun c j => (c = 10 ∧ (j = 4 ∨ j = 5 ∨ j = 6 ∨ j = 7 ∨ j = 8 ∨ j = 11 ∨ j = 12)) ∨ c = 12 ∨ (14 ≤ c ∧ c < 23)) σ τ ∧ (aX τ = footX (fX σ) (aX σ)) ∧ (¬ σ 10 5 ≤ σ 10 10 ∨ τ 10 5 ≤ σ 10 10) ∧ (¬ τ 10 11 = 0 ∨ (σ 10 11 = 0 ∧ σ 10 5 ≤ τ 10 5))
set_option maxHeartbeats 4000000 in
set_option maxRecDepth 100000 in
theorem l_X9_footLine {G : tw_G} (hX : tw_isX G) (σ : tw_M) (hI : tw_I σ) : ∀ N_ : Nat, (∀ (h : Int) (hh : 1 ≤ h ∧ h ≤ 40) (t : Int) (ht : -2147483648 ≤ t ∧ t ≤ 2147483647) (i : Int) (hi : 0 ≤ i ∧ i ≤ 400) (τ : tw_M) (hIτ : tw_I τ) (hFτ : tw_F (fun c j => (c = 10 ∧ (j = 4 ∨ j = 5 ∨ j = 6 ∨ j = 7 ∨ j = 8 ∨ j = 11 ∨ j = 12)) ∨ c = 12 ∨ (14 ≤ c ∧ c < 23)) σ τ) (i0 : (it wstopX (wstepX (fX σ) h) wmes (aX τ, t)).1 = footX (fX σ) (aX σ)) (i1 : ¬ σ 10 5 ≤ σ 10 10 ∨ τ 10 5 ≤ σ 10 10) (i2 : ¬ τ 10 11 = 0 ∨ (σ 10 11 = 0 ∧ σ 10 5 ≤ τ 10 5)) (i3 : ¬ τ 10 11 = 0 ∨ (τ 10 6 = 0 ∧ i + 1 ≤ τ 10 5) ∨ i + 2 ≤ τ 10 5) (hm : (400 - i).toNat < N_), tw_J G (tw_mt RX9 cX9_footLine 5 none 6) (tw_E G (q_X9_footLine σ)) 81 [(0, vR 10), (1, vI h), (2, vI t), (3, vI i)] [] τ) := by
  intro N_
  induction N_ with
  | zero => exact fun h hh t ht i hi τ hIτ hFτ i0 i1 i2 i3 hm => absurd hm (Nat.not_lt_zero _)
  | succ N_ ih =>
    intro h hh t ht i hi τ hIτ hFτ i0 i1 i2 i3 hm
    have fx : fX τ = fX σ := fX_F (hFτ 10 10 (show ¬ ((10 = 10 ∧ (10 = 4 ∨ 10 = 5 ∨ 10 = 6 ∨ 10 = 7 ∨ 10 = 8 ∨ 10 = 11 ∨ 10 = 12)) ∨ 10 = 12 ∨ (14 ≤ 10 ∧ 10 < 23)) from by omega)) (fun j => hFτ 11 j (show ¬ ((11 = 10 ∧ (j = 4 ∨ j = 5 ∨ j = 6 ∨ j = 7 ∨ j = 8 ∨ j = 11 ∨ j = 12)) ∨ 11 = 12 ∨ (14 ≤ 11 ∧ 11 < 23)) from by omega))
    have f10 : (0 : Int) ≤ σ 10 10 ∧ σ 10 10 ≤ 400 := hI 10 10
    have e10 : τ 10 10 = σ 10 10 := hFτ 10 10 (show ¬ ((10 = 10 ∧ (10 = 4 ∨ 10 = 5 ∨ 10 = 6 ∨ 10 = 7 ∨ 10 = 8 ∨ 10 = 11 ∨ 10 = 12)) ∨ 10 = 12 ∨ (14 ≤ 10 ∧ 10 < 23)) from by omega); have f05 : (0 : Int) ≤ σ 10 5 ∧ σ 10 5 ≤ 400 := hI 10 5; have f15 : (0 : Int) ≤ τ 10 5 ∧ τ 10 5 ≤ 400 := hIτ 10 5
    refine j_iload_n (pc := 81) dX9_footLine_81 rfl rfl ?_
    refine j_sipush (pc := 82) dX9_footLine_82 rfl ?_
    refine j_icmpR_ge (pc := 85) (tgt := 172) ⟨by omega, by omega⟩ ⟨by omega, by omega⟩ dX9_footLine_85 rfl (fun h1 => ?_) (fun h1 => ?_)
    · exact j_vret (pc := 172) ⟨rfl, rfl⟩ dX9_footLine_172 rfl ⟨rfl, hIτ, hFτ, (by first | (rw [← i0, it_n (wstopX_t (by omega))]) | (exfalso; omega) | exact footX_no c1 c2 (by rw [aX_4]; omega)), by omega, by omega⟩
    · refine j_aload_n (pc := 88) dX9_footLine_88 rfl rfl ?_
      refine j_getI (pc := 89) fl_X9_33 dX9_footLine_89 (a_10 hX) rfl ?_
      have f2 : (0 : Int) ≤ τ 10 11 ∧ τ 10 11 ≤ 5 := hIτ 10 11
      refine j_ifR_ne (pc := 92) (tgt := 172) ⟨by omega, by omega⟩ dX9_footLine_92 rfl (fun h3 => ?_) (fun h3 => ?_)
      · exact j_vret (pc := 172) ⟨rfl, rfl⟩ dX9_footLine_172 rfl ⟨rfl, hIτ, hFτ, (by first | (rw [← i0, it_n (wstopX_t (by omega))]) | (exfalso; omega) | exact footX_no c1 c2 (by rw [aX_4]; omega)), by omega, by omega⟩
      · refine j_aload_n (pc := 95) dX9_footLine_95 rfl rfl ?_
        refine j_getI (pc := 96) fl_X9_48 dX9_footLine_96 (a_10 hX) rfl ?_
        have f4 : (0 : Int) ≤ τ 10 6 ∧ τ 10 6 ≤ 3 := hIτ 10 6
        refine j_iconst (pc := 99) dX9_footLine_99 ?_
        refine j_icmpR_eq (pc := 100) (tgt := 172) ⟨by omega, by omega⟩ ⟨by omega, by omega⟩ dX9_footLine_100 rfl (fun h5 => ?_) (fun h5 => ?_)
        · exact j_vret (pc := 172) ⟨rfl, rfl⟩ dX9_footLine_172 rfl ⟨rfl, hIτ, hFτ, (by first | (rw [← i0, it_n (wstopX_t (by omega))]) | (exfalso; omega) | exact footX_no c1 c2 (by rw [aX_4]; omega)), by omega, by omega⟩
        · have hs := wstopX_f (τ := τ) (t := t) (by omega) (by omega)
          refine j_aload_n (pc := 103) dX9_footLine_103 rfl rfl ?_
          refine j_callV (pc := 104) (As := []) (st := []) (c_X9_withName hX τ hIτ) mv_X9_165 rfl rfl rfl (a_10 hX) dX9_footLine_104 ⟨Nat.le_of_ble_eq_true rfl, Nat.le_of_ble_eq_true rfl⟩ ⟨Nat.le_refl _, Nat.le_refl _⟩ rfl (Nat.le_of_ble_eq_true rfl) rfl (fun z6 σ7 hz6 => ?_)
          obtain ⟨r9, rfl, hr9, rfl, q8_0⟩ := hz6
          replace q8_0 : r9 = wnm (fX τ) (τ 10 6) (τ 10 7) (τ 10 5) := q8_0
          refine j_st (st' := [vI r9]) rfl ?_
          refine j_istore (pc := 107) (i := 4) (ls' := [(0, vR 10), (1, vI h), (2, vI t), (3, vI i), (4, vI r9)]) [1, 2, 3, 4, 0] dX9_footLine_107 (Nat.le_of_ble_eq_true rfl) rfl rfl ?_
          have w1 := q8_0; rw [fx] at w1
          have w2 := wnm_aX (by omega) w1
          refine j_iload (pc := 109) dX9_footLine_109 rfl ?_
          refine j_ifR_ge (pc := 111) (tgt := 126) ⟨by omega, by omega⟩ dX9_footLine_111 rfl (fun h10 => ?_) (fun h10 => ?_)
          · refine j_iload_n (pc := 126) dX9_footLine_126 rfl rfl ?_
            refine j_iload (pc := 127) dX9_footLine_127 rfl ?_
            refine j_ishr (pc := 129) dX9_footLine_129 (fun z11 ez11 => ?_)
            have hz11 : (-2147483648 : Int) ≤ z11 ∧ z11 ≤ 2147483647 := by rw [ez11]; exact shr_in _ _
            have b1 := ez11
            refine j_iconst (pc := 130) dX9_footLine_130 ?_
            refine j_iand (pc := 131) dX9_footLine_131 (fun z12 ez12 => ?_)
            have hz12 : (-2147483648 : Int) ≤ z12 ∧ z12 ≤ 2147483647 := by rw [ez12]; exact and_in _ _
            have b2 := ez12; rw [b1] at b2
            refine j_ifR_eq (pc := 132) (tgt := 147) ⟨by omega, by omega⟩ dX9_footLine_132 rfl (fun h13 => ?_) (fun h13 => ?_)
            · refine j_aload_n (pc := 147) dX9_footLine_147 rfl rfl ?_
              refine j_iload_n (pc := 148) dX9_footLine_148 rfl rfl ?_
              refine j_iload (pc := 149) dX9_footLine_149 rfl ?_
              refine j_callV (pc := 151) (As := [vI h, vI r9]) (st := []) (c_X9_readWith hX h ⟨by omega, by omega⟩ r9 ⟨by omega, by omega⟩ τ hIτ) mv_X9_168 rfl rfl rfl (a_10 hX) dX9_footLine_151 ⟨Nat.le_of_ble_eq_true rfl, Nat.le_of_ble_eq_true rfl⟩ ⟨Nat.le_refl _, Nat.le_refl _⟩ rfl (Nat.le_of_ble_eq_true rfl) rfl (fun z14 σ15 hz14 => ?_)
              obtain ⟨rfl, hIσ15, hGσ15, q16_0, q16_1, q16_2, q16_3⟩ := hz14
              replace q16_0 : aX σ15 = withX (fX τ) h r9 (aX τ) := q16_0
              replace q16_1 : ¬ τ 10 5 ≤ τ 10 10 ∨ σ15 10 5 ≤ τ 10 10 := q16_1
              replace q16_2 : ¬ σ15 10 11 = 0 ∨ (τ 10 11 = 0 ∧ τ 10 5 ≤ σ15 10 5)  := q16_2
              replace q16_3 : ¬ σ15 10 11 = 0 ∨ σ15 10 6 = 0 ∨ τ 10 5 < σ15 10 5 := q16_3
              have hFσ15 : tw_F (fun c j => (c = 10 ∧ (j = 4 ∨ j = 5 ∨ j = 6 ∨ j = 7 ∨ j = 8 ∨ j = 11 ∨ j = 12)) ∨ c = 12 ∨ (14 ≤ c ∧ c < 23)) σ σ15 := tw_F_tr hFτ hGσ15 (fun c j q => (show (c = 10 ∧ (j = 4 ∨ j = 5 ∨ j = 6 ∨ j = 7 ∨ j = 8 ∨ j = 11 ∨ j = 12)) ∨ c = 12 ∨ (14 ≤ c ∧ c < 23) from by replace q : (c = 10 ∧ (j = 5 ∨ j = 6 ∨ j = 7 ∨ j = 8 ∨ j = 11 ∨ j = 12)) ∨ (14 ≤ c ∧ c < 23) := q; omega))
              refine j_st (st' := []) rfl ?_
              have aa := q16_0; rw [fx] at aa
              refine j_iload (pc := 154) dX9_footLine_154 rfl ?_
              refine j_ifR_lt (pc := 156) (tgt := 166) ⟨by omega, by omega⟩ dX9_footLine_156 rfl (fun h18 => by exfalso; omega) (fun h18 => ?_)
              refine j_iload_n (pc := 159) dX9_footLine_159 rfl rfl ?_
              refine j_iconst (pc := 160) dX9_footLine_160 ?_
              refine j_iload (pc := 161) dX9_footLine_161 rfl ?_
              refine j_ishl (pc := 163) dX9_footLine_163 (fun z19 ez19 => ?_)
              have hz19 : (-2147483648 : Int) ≤ z19 ∧ z19 ≤ 2147483647 := by rw [ez19]; exact shl_in _ _
              have t1 := ez19
              refine j_ior (pc := 164) dX9_footLine_164 (fun z20 ez20 => ?_)
              have hz20 : (-2147483648 : Int) ≤ z20 ∧ z20 ≤ 2147483647 := by rw [ez20]; exact or_in _ _
              have t2 := ez20; rw [t1] at t2
              refine j_istore_n (pc := 165) (i := 2) (ls' := [(0, vR 10), (1, vI h), (2, vI z20), (3, vI i)]) [1, 2, 0, 3] dX9_footLine_165 rfl (Nat.le_of_ble_eq_true rfl) rfl rfl ?_
              have nx : (it wstopX (wstepX (fX σ) h) wmes (aX σ15, z20)).1 = footX (fX σ) (aX σ) := by rw [aa, t2, ← wstep_yes (h := h) (t := t) w2 (by omega) (by rw [← b2]; omega), ← it_s (wstepX_go (fX_FB f10)) hs]; exact i0
              refine j_iinc (pc := 166) (i := 3) (n := 1) (ls' := [(0, vR 10), (1, vI h), (2, vI z20), (3, vI (i + 1))]) [1, 2, 3, 0] dX9_footLine_166 rfl (Nat.le_of_ble_eq_true rfl) rfl rfl ?_
              refine j_goto (pc := 169) (tgt := 81) dX9_footLine_169 rfl ?_
              refine j_ls (ls' := [(0, vR 10), (1, vI h), (2, vI z20), (3, vI (i + 1))]) [0, 1, 2, 3] rfl ?_
              exact ih h ⟨by omega, by omega⟩ z20 ⟨by omega, by omega⟩ (i + 1) ⟨by omega, by omega⟩ σ15 hIσ15 hFσ15 (show (it wstopX (wstepX (fX σ) h) wmes (aX σ15, z20)).1 = footX (fX σ) (aX σ) from (by first | exact nx | exact footX_of c1 c2 (fun h4 => v1 (by rw [aX_4] at h4 ⊢; omega)) c3 c4 hv c5 c6 c7 (by rw [c8]) (by rw [aX_4]; omega))) (show ¬ σ 10 5 ≤ σ 10 10 ∨ σ15 10 5 ≤ σ 10 10 from by omega) (show ¬ σ15 10 11 = 0 ∨ (σ 10 11 = 0 ∧ σ 10 5 ≤ σ15 10 5) from by omega) (show ¬ σ15 10 11 = 0 ∨ (σ15 10 6 = 0 ∧ (i + 1) + 1 ≤ σ15 10 5) ∨ (i + 1) + 2 ≤ σ15 10 5 from by omega) (show (400 - (i + 1)).toNat < N_ from by omega)
            · refine j_aload_n (pc := 135) dX9_footLine_135 rfl rfl ?_
              refine j_iconst (pc := 136) dX9_footLine_136 ?_
              refine j_aload_n (pc := 137) dX9_footLine_137 rfl rfl ?_
              refine j_getI (pc := 138) fl_X9_76 dX9_footLine_138 (a_10 hX) rfl ?_
              have f21 : (0 : Int) ≤ τ 10 7 ∧ τ 10 7 ≤ 400 := hIτ 10 7
              refine j_callV (pc := 141) (As := [vI 4, vI (τ 10 7)]) (st := []) (c_X9_fail hX 4 ⟨by omega, by omega⟩ (τ 10 7) ⟨by omega, by omega⟩ τ hIτ) mv_X9_61 rfl rfl rfl (a_10 hX) dX9_footLine_141 ⟨Nat.le_of_ble_eq_true rfl, Nat.le_of_ble_eq_true rfl⟩ ⟨Nat.le_refl _, Nat.le_refl _⟩ rfl (Nat.le_of_ble_eq_true rfl) rfl (fun z22 σ23 hz22 => ?_)
              obtain ⟨rfl, hIσ23, hGσ23, q24_0⟩ := hz22
              replace q24_0 : (τ 10 11 = 0 ∧ σ23 10 11 = (4 : Int) ∧ σ23 10 12 = (τ 10 7)) ∨ (¬ τ 10 11 = 0 ∧ σ23 10 11 = τ 10 11 ∧ σ23 10 12 = τ 10 12) := q24_0
              have hFσ23 : tw_F (fun c j => (c = 10 ∧ (j = 4 ∨ j = 5 ∨ j = 6 ∨ j = 7 ∨ j = 8 ∨ j = 11 ∨ j = 12)) ∨ c = 12 ∨ (14 ≤ c ∧ c < 23)) σ σ23 := tw_F_tr hFτ hGσ23 (fun c j q => (show (c = 10 ∧ (j = 4 ∨ j = 5 ∨ j = 6 ∨ j = 7 ∨ j = 8 ∨ j = 11 ∨ j = 12)) ∨ c = 12 ∨ (14 ≤ c ∧ c < 23) from by replace q : (c = 10 ∧ (j = 11 ∨ j = 12)) := q; omega))
              refine j_st (st' := []) rfl ?_
              have aa : aX σ23 = need false 4 (aX τ) := aX_need (by decide) (fun _ => rfl) (by omega)
              refine j_goto (pc := 144) (tgt := 154) dX9_footLine_144 rfl ?_
              refine j_iload (pc := 154) dX9_footLine_154 rfl ?_
              refine j_ifR_lt (pc := 156) (tgt := 166) ⟨by omega, by omega⟩ dX9_footLine_156 rfl (fun h26 => by exfalso; omega) (fun h26 => ?_)
              refine j_iload_n (pc := 159) dX9_footLine_159 rfl rfl ?_
              refine j_iconst (pc := 160) dX9_footLine_160 ?_
              refine j_iload (pc := 161) dX9_footLine_161 rfl ?_
              refine j_ishl (pc := 163) dX9_footLine_163 (fun z27 ez27 => ?_)
              have hz27 : (-2147483648 : Int) ≤ z27 ∧ z27 ≤ 2147483647 := by rw [ez27]; exact shl_in _ _
              have t1 := ez27
              refine j_ior (pc := 164) dX9_footLine_164 (fun z28 ez28 => ?_)
              have hz28 : (-2147483648 : Int) ≤ z28 ∧ z28 ≤ 2147483647 := by rw [ez28]; exact or_in _ _
              have t2 := ez28; rw [t1] at t2
              refine j_istore_n (pc := 165) (i := 2) (ls' := [(0, vR 10), (1, vI h), (2, vI z28), (3, vI i)]) [1, 2, 0, 3] dX9_footLine_165 rfl (Nat.le_of_ble_eq_true rfl) rfl rfl ?_
              have nx : (it wstopX (wstepX (fX σ) h) wmes (aX σ23, z28)).1 = footX (fX σ) (aX σ) := by rw [aa, t2, ← wstep_told (h := h) (t := t) w2 (by omega) (by rw [← b2]; omega), ← it_s (wstepX_go (fX_FB f10)) hs]; exact i0
              refine j_iinc (pc := 166) (i := 3) (n := 1) (ls' := [(0, vR 10), (1, vI h), (2, vI z28), (3, vI (i + 1))]) [1, 2, 3, 0] dX9_footLine_166 rfl (Nat.le_of_ble_eq_true rfl) rfl rfl ?_
              refine j_goto (pc := 169) (tgt := 81) dX9_footLine_169 rfl ?_
              refine j_ls (ls' := [(0, vR 10), (1, vI h), (2, vI z28), (3, vI (i + 1))]) [0, 1, 2, 3] rfl ?_
              have y29 : σ23 10 5 = τ 10 5 := (hGσ23 10 5 (show ¬ ((10 = 10 ∧ (5 = 11 ∨ 5 = 12))) from by omega))
              have f30 : (0 : Int) ≤ τ 10 5 ∧ τ 10 5 ≤ 400 := hIτ 10 5
              have y31 : σ23 10 5 = τ 10 5 := (hGσ23 10 5 (show ¬ ((10 = 10 ∧ (5 = 11 ∨ 5 = 12))) from by omega))
              have y32 : σ23 10 6 = τ 10 6 := (hGσ23 10 6 (show ¬ ((10 = 10 ∧ (6 = 11 ∨ 6 = 12))) from by omega))
              have y33 : σ23 10 5 = τ 10 5 := (hGσ23 10 5 (show ¬ ((10 = 10 ∧ (5 = 11 ∨ 5 = 12))) from by omega))
              exact ih h ⟨by omega, by omega⟩ z28 ⟨by omega, by omega⟩ (i + 1) ⟨by omega, by omega⟩ σ23 hIσ23 hFσ23 (show (it wstopX (wstepX (fX σ) h) wmes (aX σ23, z28)).1 = footX (fX σ) (aX σ) from (by first | exact nx | exact footX_of c1 c2 (fun h4 => v1 (by rw [aX_4] at h4 ⊢; omega)) c3 c4 hv c5 c6 c7 (by rw [c8]) (by rw [aX_4]; omega))) (show ¬ σ 10 5 ≤ σ 10 10 ∨ σ23 10 5 ≤ σ 10 10 from by omega) (show ¬ σ23 10 11 = 0 ∨ (σ 10 11 = 0 ∧ σ 10 5 ≤ σ23 10 5) from by omega) (show ¬ σ23 10 11 = 0 ∨ (σ23 10 6 = 0 ∧ (i + 1) + 1 ≤ σ23 10 5) ∨ (i + 1) + 2 ≤ σ23 10 5 from by omega) (show (400 - (i + 1)).toNat < N_ from by omega)
          · refine j_aload_n (pc := 114) dX9_footLine_114 rfl rfl ?_
            refine j_iconst (pc := 115) dX9_footLine_115 ?_
            refine j_aload_n (pc := 116) dX9_footLine_116 rfl rfl ?_
            refine j_getI (pc := 117) fl_X9_76 dX9_footLine_117 (a_10 hX) rfl ?_
            have f34 : (0 : Int) ≤ τ 10 7 ∧ τ 10 7 ≤ 400 := hIτ 10 7
            refine j_callV (pc := 120) (As := [vI 2, vI (τ 10 7)]) (st := []) (c_X9_fail hX 2 ⟨by omega, by omega⟩ (τ 10 7) ⟨by omega, by omega⟩ τ hIτ) mv_X9_61 rfl rfl rfl (a_10 hX) dX9_footLine_120 ⟨Nat.le_of_ble_eq_true rfl, Nat.le_of_ble_eq_true rfl⟩ ⟨Nat.le_refl _, Nat.le_refl _⟩ rfl (Nat.le_of_ble_eq_true rfl) rfl (fun z35 σ36 hz35 => ?_)
            obtain ⟨rfl, hIσ36, hGσ36, q37_0⟩ := hz35
            replace q37_0 : (τ 10 11 = 0 ∧ σ36 10 11 = (2 : Int) ∧ σ36 10 12 = (τ 10 7)) ∨ (¬ τ 10 11 = 0 ∧ σ36 10 11 = τ 10 11 ∧ σ36 10 12 = τ 10 12) := q37_0
            have hFσ36 : tw_F (fun c j => (c = 10 ∧ (j = 4 ∨ j = 5 ∨ j = 6 ∨ j = 7 ∨ j = 8 ∨ j = 11 ∨ j = 12)) ∨ c = 12 ∨ (14 ≤ c ∧ c < 23)) σ σ36 := tw_F_tr hFτ hGσ36 (fun c j q => (show (c = 10 ∧ (j = 4 ∨ j = 5 ∨ j = 6 ∨ j = 7 ∨ j = 8 ∨ j = 11 ∨ j = 12)) ∨ c = 12 ∨ (14 ≤ c ∧ c < 23) from by replace q : (c = 10 ∧ (j = 11 ∨ j = 12)) := q; omega))
            refine j_st (st' := []) rfl ?_
            have aa : aX σ36 = need false 2 (aX τ) := aX_need (by decide) (fun _ => rfl) (by omega)
            refine j_goto (pc := 123) (tgt := 154) dX9_footLine_123 rfl ?_
            refine j_iload (pc := 154) dX9_footLine_154 rfl ?_
            refine j_ifR_lt (pc := 156) (tgt := 166) ⟨by omega, by omega⟩ dX9_footLine_156 rfl (fun h39 => ?_) (fun h39 => by exfalso; omega)
            have nx : (it wstopX (wstepX (fX σ) h) wmes (aX σ36, t)).1 = footX (fX σ) (aX σ) := by rw [aa, ← wstep_no (h := h) (t := t) w2 (by omega), ← it_s (wstepX_go (fX_FB f10)) hs]; exact i0
            refine j_iinc (pc := 166) (i := 3) (n := 1) (ls' := [(0, vR 10), (1, vI h), (2, vI t), (3, vI (i + 1))]) [1, 2, 3, 0] dX9_footLine_166 rfl (Nat.le_of_ble_eq_true rfl) rfl rfl ?_
            refine j_goto (pc := 169) (tgt := 81) dX9_footLine_169 rfl ?_
            refine j_ls (ls' := [(0, vR 10), (1, vI h), (2, vI t), (3, vI (i + 1))]) [0, 1, 2, 3] rfl ?_
            have y40 : σ36 10 5 = τ 10 5 := (hGσ36 10 5 (show ¬ ((10 = 10 ∧ (5 = 11 ∨ 5 = 12))) from by omega))
            have f41 : (0 : Int) ≤ τ 10 5 ∧ τ 10 5 ≤ 400 := hIτ 10 5
            have y42 : σ36 10 5 = τ 10 5 := (hGσ36 10 5 (show ¬ ((10 = 10 ∧ (5 = 11 ∨ 5 = 12))) from by omega))
            have y43 : σ36 10 6 = τ 10 6 := (hGσ36 10 6 (show ¬ ((10 = 10 ∧ (6 = 11 ∨ 6 = 12))) from by omega))
            have y44 : σ36 10 5 = τ 10 5 := (hGσ36 10 5 (show ¬ ((10 = 10 ∧ (5 = 11 ∨ 5 = 12))) from by omega))
            exact ih h ⟨by omega, by omega⟩ t ⟨by omega, by omega⟩ (i + 1) ⟨by omega, by omega⟩ σ36 hIσ36 hFσ36 (show (it wstopX (wstepX (fX σ) h) wmes (aX σ36, t)).1 = footX (fX σ) (aX σ) from (by first | exact nx | exact footX_of c1 c2 (fun h4 => v1 (by rw [aX_4] at h4 ⊢; omega)) c3 c4 hv c5 c6 c7 (by rw [c8]) (by rw [aX_4]; omega))) (show ¬ σ 10 5 ≤ σ 10 10 ∨ σ36 10 5 ≤ σ 10 10 from by omega) (show ¬ σ36 10 11 = 0 ∨ (σ 10 11 = 0 ∧ σ 10 5 ≤ σ36 10 5) from by omega) (show ¬ σ36 10 11 = 0 ∨ (σ36 10 6 = 0 ∧ (i + 1) + 1 ≤ σ36 10 5) ∨ (i + 1) + 2 ≤ σ36 10 5 from by omega) (show (400 - (i + 1)).toNat < N_ from by omega)
set_option maxHeartbeats 4000000 in
set_option maxRecDepth 100000 in
theorem c_X9_footLine {G : tw_G} (hX : tw_isX G) (σ : tw_M) (hI : tw_I σ) : tw_C G yX9_footLine cX9_footLine 5 none 6 [vR 10] σ (q_X9_footLine σ) := by
  refine tw_met [(0, vR 10)] (by decide +kernel) rfl (Nat.le_of_ble_eq_true rfl) ?_
  refine j_aload_n (pc := 0) dX9_footLine_0 rfl rfl ?_
  refine j_iconst (pc := 1) dX9_footLine_1 ?_
  refine j_bipush (pc := 2) dX9_footLine_2 rfl ?_
  refine j_callV (pc := 4) (As := [vI 1, vI 40]) (st := []) (c_X9_number hX 1 ⟨by omega, by omega⟩ 40 ⟨by omega, by omega⟩ σ hI (by omega)) mv_X9_152 rfl rfl rfl (a_10 hX) dX9_footLine_4 ⟨Nat.le_of_ble_eq_true rfl, Nat.le_of_ble_eq_true rfl⟩ ⟨Nat.le_refl _, Nat.le_refl _⟩ rfl (Nat.le_of_ble_eq_true rfl) rfl (fun z45 σ46 hz45 => ?_)
  obtain ⟨r48, rfl, hr48, hIσ46, hGσ46, q47_0, q47_1, q47_2, q47_3, q47_4, q47_5⟩ := hz45
  replace q47_0 : (1 : Int) ≤ r48 ∧ r48 ≤ (40 : Int) := q47_0
  replace q47_1 : aX σ46 = numS (1 : Int) (40 : Int) (aX σ) := q47_1
  replace q47_2 : ¬ σ46 10 11 = 0 ∨ r48 = σ 10 8 := q47_2
  replace q47_3 : ¬ σ46 10 11 = 0 ∨ σ 10 11 = 0 := q47_3
  replace q47_4 : True ∨ σ 10 6 = σ46 10 12 := q47_4
  replace q47_5 : ¬ σ46 10 11 = 0 ∨ σ 10 6 = 2 := q47_5
  have hFσ46 : tw_F (fun c j => (c = 10 ∧ (j = 4 ∨ j = 5 ∨ j = 6 ∨ j = 7 ∨ j = 8 ∨ j = 11 ∨ j = 12)) ∨ c = 12 ∨ (14 ≤ c ∧ c < 23)) σ σ46 := tw_F_tr (tw_F_rf) hGσ46 (fun c j q => (show (c = 10 ∧ (j = 4 ∨ j = 5 ∨ j = 6 ∨ j = 7 ∨ j = 8 ∨ j = 11 ∨ j = 12)) ∨ c = 12 ∨ (14 ≤ c ∧ c < 23) from by replace q : (c = 10 ∧ (j = 11 ∨ j = 12)) := q; omega))
  refine j_st (st' := [vI r48]) rfl ?_
  have c1 := q47_1
  have v1 := aX_numv q47_1 ((hGσ46 10 6 (show ¬ ((10 = 10 ∧ (6 = 11 ∨ 6 = 12))) from by omega))) ((hGσ46 10 8 (show ¬ ((10 = 10 ∧ (8 = 11 ∨ 8 = 12))) from by omega))) q47_2
  have y49 : σ46 10 7 = σ 10 7 := (hGσ46 10 7 (show ¬ ((10 = 10 ∧ (7 = 11 ∨ 7 = 12))) from by omega))
  refine j_istore_n (pc := 7) (i := 1) (ls' := [(0, vR 10), (1, vI r48)]) [1, 0] dX9_footLine_7 rfl (Nat.le_of_ble_eq_true rfl) rfl rfl ?_
  refine j_aload_n (pc := 8) dX9_footLine_8 rfl rfl ?_
  refine j_getR (pc := 9) (r := 12) fl_X9_15 dX9_footLine_9 (a_10 hX) rfl ?_
  refine j_iload_n (pc := 12) dX9_footLine_12 rfl rfl ?_
  refine j_zald (pc := 13) dX9_footLine_13 (a_12 hX) (by omega) (by omega) (by decide) ?_
  refine j_topV (show σ46 12 (r48.toNat) = σ 12 (r48.toNat) from (hGσ46 12 (r48.toNat) (show ¬ ((12 = 10 ∧ (r48.toNat = 11 ∨ r48.toNat = 12))) from by omega))) ?_
  have f50 : (0 : Int) ≤ σ 12 (r48.toNat) ∧ σ 12 (r48.toNat) ≤ 1 := hI 12 (r48.toNat)
  refine j_ifR_eq (pc := 14) (tgt := 26) ⟨by omega, by omega⟩ dX9_footLine_14 rfl (fun h51 => ?_) (fun h51 => ?_)
  · have c2 := aX_needt (σ := σ46) (c := 4) (fun h0 => toldF_t h0 v1 ⟨by omega, by omega⟩ (by omega))
    have y52 : σ46 10 4 = σ 10 4 := (hGσ46 10 4 (show ¬ ((10 = 10 ∧ (4 = 11 ∨ 4 = 12))) from by omega))
    have hx4 : (aX σ46) 4 = 0 → (aX σ46) 7 = σ46 10 4 := fun h4 => by rw [aX_4] at h4; rw [aX_d h4 (by decide), drX_7]
    refine j_aload_n (pc := 26) dX9_footLine_26 rfl rfl ?_
    refine j_getI (pc := 27) fl_X9_33 dX9_footLine_27 (a_10 hX) rfl ?_
    have f53 : (0 : Int) ≤ σ46 10 11 ∧ σ46 10 11 ≤ 5 := hIσ46 10 11
    refine j_ifR_eq (pc := 30) (tgt := 34) ⟨by omega, by omega⟩ dX9_footLine_30 rfl (fun h54 => ?_) (fun h54 => ?_)
    · refine j_aload_n (pc := 34) dX9_footLine_34 rfl rfl ?_
      refine j_getR (pc := 35) (r := 12) fl_X9_15 dX9_footLine_35 (a_10 hX) rfl ?_
      refine j_iload_n (pc := 38) dX9_footLine_38 rfl rfl ?_
      refine j_iconst (pc := 39) dX9_footLine_39 ?_
      refine j_zast (pc := 40) (by omega) dX9_footLine_40 (a_12 hX) (by omega) (by omega) (by decide) (j_nm (fun σ55 (eσ55 : σ55 = tw_up σ46 12 (r48.toNat) 1) => ?_))
      have hIσ55 : tw_I σ55 := tw_I_up hIσ46 eσ55 (show (0 : Int) ≤ 1 ∧ 1 ≤ 1 from ⟨by omega, by omega⟩)
      have hFσ55 : tw_F (fun c j => (c = 10 ∧ (j = 4 ∨ j = 5 ∨ j = 6 ∨ j = 7 ∨ j = 8 ∨ j = 11 ∨ j = 12)) ∨ c = 12 ∨ (14 ≤ c ∧ c < 23)) σ σ55 := tw_F_up hFσ46 eσ55 (show (12 = 10 ∧ (r48.toNat = 4 ∨ r48.toNat = 5 ∨ r48.toNat = 6 ∨ r48.toNat = 7 ∨ r48.toNat = 8 ∨ r48.toNat = 11 ∨ r48.toNat = 12)) ∨ 12 = 12 ∨ (14 ≤ 12 ∧ 12 < 23) from by omega)
      have c3 := aX_wr (i := 600 + r48.toNat) eσ55 (by omega)
      refine j_aload_n (pc := 41) dX9_footLine_41 rfl rfl ?_
      refine j_aload_n (pc := 42) dX9_footLine_42 rfl rfl ?_
      refine j_getI (pc := 43) fl_X9_54 dX9_footLine_43 (a_10 hX) rfl ?_
      refine j_topV (show σ55 10 4 = σ 10 4 from ((tw_ne1 eσ55 (by omega))).trans (hGσ46 10 4 (show ¬ ((10 = 10 ∧ (4 = 11 ∨ 4 = 12))) from by omega))) ?_
      have f56 : (0 : Int) ≤ σ 10 4 ∧ σ 10 4 ≤ 40 := hI 10 4
      refine j_iload_n (pc := 46) dX9_footLine_46 rfl rfl ?_
      refine j_mmax (pc := 47) mm_X9_156 dX9_footLine_47 ⟨Nat.le_of_ble_eq_true rfl, Nat.le_of_ble_eq_true rfl⟩ ⟨Nat.le_refl _, Nat.le_refl _⟩ rfl (fun z57 ez57 => ?_)
      have hz57 := tw_max_eq (a := σ 10 4) (b := r48) ⟨by omega, by omega⟩ ⟨by omega, by omega⟩ ez57
      have hv : (aX σ46) 4 = 0 → z57 = (if (aX σ46) 7 < r48 then r48 else (aX σ46) 7) := fun h4 => by (have h5 := hx4 h4); rw [h5]; split <;> omega
      refine j_putI (pc := 50) fl_X9_54 fp_X9_4 dX9_footLine_50 (a_10 hX) rfl (j_nm (fun σ58 (eσ58 : σ58 = tw_up σ55 10 4 z57) => ?_))
      have hIσ58 : tw_I σ58 := tw_I_up hIσ55 eσ58 (show (0 : Int) ≤ z57 ∧ z57 ≤ 40 from ⟨by omega, by omega⟩)
      have hFσ58 : tw_F (fun c j => (c = 10 ∧ (j = 4 ∨ j = 5 ∨ j = 6 ∨ j = 7 ∨ j = 8 ∨ j = 11 ∨ j = 12)) ∨ c = 12 ∨ (14 ≤ c ∧ c < 23)) σ σ58 := tw_F_up hFσ55 eσ58 (show (10 = 10 ∧ (4 = 4 ∨ 4 = 5 ∨ 4 = 6 ∨ 4 = 7 ∨ 4 = 8 ∨ 4 = 11 ∨ 4 = 12)) ∨ 10 = 12 ∨ (14 ≤ 10 ∧ 10 < 23) from by omega)
      have c4 := aX_wr (i := 7) eσ58 (by omega)
      refine j_aload_n (pc := 53) dX9_footLine_53 rfl rfl ?_
      have fz : fX σ58 = fX σ := fX_F (hFσ58 10 10 (show ¬ ((10 = 10 ∧ (10 = 4 ∨ 10 = 5 ∨ 10 = 6 ∨ 10 = 7 ∨ 10 = 8 ∨ 10 = 11 ∨ 10 = 12)) ∨ 10 = 12 ∨ (14 ≤ 10 ∧ 10 < 23)) from by omega)) (fun j => hFσ58 11 j (show ¬ ((11 = 10 ∧ (j = 4 ∨ j = 5 ∨ j = 6 ∨ j = 7 ∨ j = 8 ∨ j = 11 ∨ j = 12)) ∨ 11 = 12 ∨ (14 ≤ 11 ∧ 11 < 23)) from by omega))
      refine j_callV (pc := 54) (As := []) (st := []) (c_X9_advance hX σ58 hIσ58) mv_X9_45 rfl rfl rfl (a_10 hX) dX9_footLine_54 ⟨Nat.le_of_ble_eq_true rfl, Nat.le_of_ble_eq_true rfl⟩ ⟨Nat.le_refl _, Nat.le_refl _⟩ rfl (Nat.le_of_ble_eq_true rfl) rfl (fun z59 σ60 hz59 => ?_)
      obtain ⟨rfl, hIσ60, hGσ60, q61_0, q61_1, q61_2, q61_3⟩ := hz59
      replace q61_0 : aX σ60 = tok (fX σ58) (aX σ58) := q61_0
      replace q61_1 : ¬ σ58 10 5 ≤ σ58 10 10 ∨ σ60 10 5 ≤ σ58 10 10 := q61_1
      have y63 : σ58 10 5 = σ 10 5 := (((tw_ne1 eσ58 (by omega))).trans (tw_ne1 eσ55 (by omega))).trans (hGσ46 10 5 (show ¬ ((10 = 10 ∧ (5 = 11 ∨ 5 = 12))) from by omega))
      have f64 : (0 : Int) ≤ σ 10 5 ∧ σ 10 5 ≤ 400 := hI 10 5
      have y65 : σ58 10 10 = σ 10 10 := (((tw_ne1 eσ58 (by omega))).trans (tw_ne1 eσ55 (by omega))).trans (hGσ46 10 10 (show ¬ ((10 = 10 ∧ (10 = 11 ∨ 10 = 12))) from by omega))
      have f66 : (0 : Int) ≤ σ 10 10 ∧ σ 10 10 ≤ 400 := hI 10 10
      replace q61_2 : ¬ σ58 10 5 ≤ σ58 10 10 ∨ ¬ σ60 10 11 = 0 ∨ ¬ σ60 10 6 = 0 ∨ σ60 10 7 = σ58 10 10 := q61_2
      have y67 : σ58 10 5 = σ 10 5 := (((tw_ne1 eσ58 (by omega))).trans (tw_ne1 eσ55 (by omega))).trans (hGσ46 10 5 (show ¬ ((10 = 10 ∧ (5 = 11 ∨ 5 = 12))) from by omega))
      have y68 : σ58 10 10 = σ 10 10 := (((tw_ne1 eσ58 (by omega))).trans (tw_ne1 eσ55 (by omega))).trans (hGσ46 10 10 (show ¬ ((10 = 10 ∧ (10 = 11 ∨ 10 = 12))) from by omega))
      replace q61_3 : ¬ σ60 10 11 = 0 ∨ (σ58 10 11 = 0 ∧ σ58 10 5 ≤ σ60 10 5 ∧ (σ60 10 6 = 0 ∨ σ58 10 5 < σ60 10 5)) := q61_3
      have y69 : σ58 10 11 = σ46 10 11 := ((tw_ne1 eσ58 (by omega))).trans (tw_ne1 eσ55 (by omega))
      have y70 : σ58 10 5 = σ 10 5 := (((tw_ne1 eσ58 (by omega))).trans (tw_ne1 eσ55 (by omega))).trans (hGσ46 10 5 (show ¬ ((10 = 10 ∧ (5 = 11 ∨ 5 = 12))) from by omega))
      have hFσ60 : tw_F (fun c j => (c = 10 ∧ (j = 4 ∨ j = 5 ∨ j = 6 ∨ j = 7 ∨ j = 8 ∨ j = 11 ∨ j = 12)) ∨ c = 12 ∨ (14 ≤ c ∧ c < 23)) σ σ60 := tw_F_tr hFσ58 hGσ60 (fun c j q => (show (c = 10 ∧ (j = 4 ∨ j = 5 ∨ j = 6 ∨ j = 7 ∨ j = 8 ∨ j = 11 ∨ j = 12)) ∨ c = 12 ∨ (14 ≤ c ∧ c < 23) from by replace q : (c = 10 ∧ (j = 5 ∨ j = 6 ∨ j = 7 ∨ j = 8 ∨ j = 11 ∨ j = 12)) := q; omega))
      refine j_st (st' := []) rfl ?_
      have c5 := q61_0; rw [fz] at c5
      refine j_aload_n (pc := 57) dX9_footLine_57 rfl rfl ?_
      refine j_getR (pc := 58) (r := 14) fl_X9_25 dX9_footLine_58 (a_10 hX) rfl ?_
      refine j_getR (pc := 61) (r := 17) fl_X9_161 dX9_footLine_61 (a_14 hX) rfl ?_
      refine j_iload_n (pc := 64) dX9_footLine_64 rfl rfl ?_
      refine j_aload_n (pc := 65) dX9_footLine_65 rfl rfl ?_
      refine j_iconst (pc := 66) dX9_footLine_66 ?_
      refine j_bipush (pc := 67) dX9_footLine_67 rfl ?_
      refine j_callV (pc := 69) (As := [vI 0, vI 9]) (st := [vI r48, vR 17]) (c_X9_number hX 0 ⟨by omega, by omega⟩ 9 ⟨by omega, by omega⟩ σ60 hIσ60 (by omega)) mv_X9_152 rfl rfl rfl (a_10 hX) dX9_footLine_69 ⟨Nat.le_of_ble_eq_true rfl, Nat.le_of_ble_eq_true rfl⟩ ⟨Nat.le_refl _, Nat.le_refl _⟩ rfl (Nat.le_of_ble_eq_true rfl) rfl (fun z71 σ72 hz71 => ?_)
      obtain ⟨r74, rfl, hr74, hIσ72, hGσ72, q73_0, q73_1, q73_2, q73_3, q73_4, q73_5⟩ := hz71
      replace q73_0 : (0 : Int) ≤ r74 ∧ r74 ≤ (9 : Int) := q73_0
      replace q73_1 : aX σ72 = numS (0 : Int) (9 : Int) (aX σ60) := q73_1
      replace q73_2 : ¬ σ72 10 11 = 0 ∨ r74 = σ60 10 8 := q73_2
      replace q73_3 : ¬ σ72 10 11 = 0 ∨ σ60 10 11 = 0 := q73_3
      replace q73_4 : True ∨ σ60 10 6 = σ72 10 12 := q73_4
      replace q73_5 : ¬ σ72 10 11 = 0 ∨ σ60 10 6 = 2 := q73_5
      have hFσ72 : tw_F (fun c j => (c = 10 ∧ (j = 4 ∨ j = 5 ∨ j = 6 ∨ j = 7 ∨ j = 8 ∨ j = 11 ∨ j = 12)) ∨ c = 12 ∨ (14 ≤ c ∧ c < 23)) σ σ72 := tw_F_tr hFσ60 hGσ72 (fun c j q => (show (c = 10 ∧ (j = 4 ∨ j = 5 ∨ j = 6 ∨ j = 7 ∨ j = 8 ∨ j = 11 ∨ j = 12)) ∨ c = 12 ∨ (14 ≤ c ∧ c < 23) from by replace q : (c = 10 ∧ (j = 11 ∨ j = 12)) := q; omega))
      refine j_st (st' := [vI r74, vI r48, vR 17]) rfl ?_
      have c6 := q73_1
      have v6 := aX_numv q73_1 ((hGσ72 10 6 (show ¬ ((10 = 10 ∧ (6 = 11 ∨ 6 = 12))) from by omega))) ((hGσ72 10 8 (show ¬ ((10 = 10 ∧ (8 = 11 ∨ 8 = 12))) from by omega))) q73_2
      refine j_iast (pc := 72) dX9_footLine_72 (a_17 hX) (by omega) (by omega) (by decide) (j_nm (fun σ75 (eσ75 : σ75 = tw_up σ72 17 (r48.toNat) r74) => ?_))
      have hIσ75 : tw_I σ75 := tw_I_up hIσ72 eσ75 (show (0 : Int) ≤ r74 ∧ r74 ≤ 9 from ⟨by omega, by omega⟩)
      have hFσ75 : tw_F (fun c j => (c = 10 ∧ (j = 4 ∨ j = 5 ∨ j = 6 ∨ j = 7 ∨ j = 8 ∨ j = 11 ∨ j = 12)) ∨ c = 12 ∨ (14 ≤ c ∧ c < 23)) σ σ75 := tw_F_up hFσ72 eσ75 (show (17 = 10 ∧ (r48.toNat = 4 ∨ r48.toNat = 5 ∨ r48.toNat = 6 ∨ r48.toNat = 7 ∨ r48.toNat = 8 ∨ r48.toNat = 11 ∨ r48.toNat = 12)) ∨ 17 = 12 ∨ (14 ≤ 17 ∧ 17 < 23) from by omega)
      have c7 := (aX_wr (i := 300 + 5 * r48.toNat) eσ75 (by omega)).trans (by rw [ci5 (by omega)]; exact wr_cg v6)
      refine j_aload_n (pc := 73) dX9_footLine_73 rfl rfl ?_
      have fz : fX σ75 = fX σ := fX_F (hFσ75 10 10 (show ¬ ((10 = 10 ∧ (10 = 4 ∨ 10 = 5 ∨ 10 = 6 ∨ 10 = 7 ∨ 10 = 8 ∨ 10 = 11 ∨ 10 = 12)) ∨ 10 = 12 ∨ (14 ≤ 10 ∧ 10 < 23)) from by omega)) (fun j => hFσ75 11 j (show ¬ ((11 = 10 ∧ (j = 4 ∨ j = 5 ∨ j = 6 ∨ j = 7 ∨ j = 8 ∨ j = 11 ∨ j = 12)) ∨ 11 = 12 ∨ (14 ≤ 11 ∧ 11 < 23)) from by omega))
      refine j_callV (pc := 74) (As := []) (st := []) (c_X9_advance hX σ75 hIσ75) mv_X9_45 rfl rfl rfl (a_10 hX) dX9_footLine_74 ⟨Nat.le_of_ble_eq_true rfl, Nat.le_of_ble_eq_true rfl⟩ ⟨Nat.le_refl _, Nat.le_refl _⟩ rfl (Nat.le_of_ble_eq_true rfl) rfl (fun z76 σ77 hz76 => ?_)
      obtain ⟨rfl, hIσ77, hGσ77, q78_0, q78_1, q78_2, q78_3⟩ := hz76
      replace q78_0 : aX σ77 = tok (fX σ75) (aX σ75) := q78_0
      replace q78_1 : ¬ σ75 10 5 ≤ σ75 10 10 ∨ σ77 10 5 ≤ σ75 10 10 := q78_1
      have y80 : σ75 10 5 = σ60 10 5 := ((tw_ne1 eσ75 (by omega))).trans (hGσ72 10 5 (show ¬ ((10 = 10 ∧ (5 = 11 ∨ 5 = 12))) from by omega))
      have f81 : (0 : Int) ≤ σ60 10 5 ∧ σ60 10 5 ≤ 400 := hIσ60 10 5
      have y82 : σ75 10 10 = σ 10 10 := ((((((tw_ne1 eσ75 (by omega))).trans (hGσ72 10 10 (show ¬ ((10 = 10 ∧ (10 = 11 ∨ 10 = 12))) from by omega))).trans (hGσ60 10 10 (show ¬ ((10 = 10 ∧ (10 = 5 ∨ 10 = 6 ∨ 10 = 7 ∨ 10 = 8 ∨ 10 = 11 ∨ 10 = 12))) from by omega))).trans (tw_ne1 eσ58 (by omega))).trans (tw_ne1 eσ55 (by omega))).trans (hGσ46 10 10 (show ¬ ((10 = 10 ∧ (10 = 11 ∨ 10 = 12))) from by omega))
      replace q78_2 : ¬ σ75 10 5 ≤ σ75 10 10 ∨ ¬ σ77 10 11 = 0 ∨ ¬ σ77 10 6 = 0 ∨ σ77 10 7 = σ75 10 10 := q78_2
      have y83 : σ75 10 5 = σ60 10 5 := ((tw_ne1 eσ75 (by omega))).trans (hGσ72 10 5 (show ¬ ((10 = 10 ∧ (5 = 11 ∨ 5 = 12))) from by omega))
      have y84 : σ75 10 10 = σ 10 10 := ((((((tw_ne1 eσ75 (by omega))).trans (hGσ72 10 10 (show ¬ ((10 = 10 ∧ (10 = 11 ∨ 10 = 12))) from by omega))).trans (hGσ60 10 10 (show ¬ ((10 = 10 ∧ (10 = 5 ∨ 10 = 6 ∨ 10 = 7 ∨ 10 = 8 ∨ 10 = 11 ∨ 10 = 12))) from by omega))).trans (tw_ne1 eσ58 (by omega))).trans (tw_ne1 eσ55 (by omega))).trans (hGσ46 10 10 (show ¬ ((10 = 10 ∧ (10 = 11 ∨ 10 = 12))) from by omega))
      replace q78_3 : ¬ σ77 10 11 = 0 ∨ (σ75 10 11 = 0 ∧ σ75 10 5 ≤ σ77 10 5 ∧ (σ77 10 6 = 0 ∨ σ75 10 5 < σ77 10 5)) := q78_3
      have y85 : σ75 10 11 = σ72 10 11 := (tw_ne1 eσ75 (by omega))
      have f86 : (0 : Int) ≤ σ72 10 11 ∧ σ72 10 11 ≤ 5 := hIσ72 10 11
      have y87 : σ75 10 5 = σ60 10 5 := ((tw_ne1 eσ75 (by omega))).trans (hGσ72 10 5 (show ¬ ((10 = 10 ∧ (5 = 11 ∨ 5 = 12))) from by omega))
      have hFσ77 : tw_F (fun c j => (c = 10 ∧ (j = 4 ∨ j = 5 ∨ j = 6 ∨ j = 7 ∨ j = 8 ∨ j = 11 ∨ j = 12)) ∨ c = 12 ∨ (14 ≤ c ∧ c < 23)) σ σ77 := tw_F_tr hFσ75 hGσ77 (fun c j q => (show (c = 10 ∧ (j = 4 ∨ j = 5 ∨ j = 6 ∨ j = 7 ∨ j = 8 ∨ j = 11 ∨ j = 12)) ∨ c = 12 ∨ (14 ≤ c ∧ c < 23) from by replace q : (c = 10 ∧ (j = 5 ∨ j = 6 ∨ j = 7 ∨ j = 8 ∨ j = 11 ∨ j = 12)) := q; omega))
      refine j_st (st' := []) rfl ?_
      have c8 := q78_0; rw [fz] at c8
      refine j_iconst (pc := 77) dX9_footLine_77 ?_
      refine j_istore_n (pc := 78) (i := 2) (ls' := [(0, vR 10), (1, vI r48), (2, vI 0)]) [1, 2, 0] dX9_footLine_78 rfl (Nat.le_of_ble_eq_true rfl) rfl rfl ?_
      refine j_iconst (pc := 79) dX9_footLine_79 ?_
      refine j_istore_n (pc := 80) (i := 3) (ls' := [(0, vR 10), (1, vI r48), (2, vI 0), (3, vI 0)]) [1, 2, 3, 0] dX9_footLine_80 rfl (Nat.le_of_ble_eq_true rfl) rfl rfl ?_
      refine j_ls (ls' := [(0, vR 10), (1, vI r48), (2, vI 0), (3, vI 0)]) [0, 1, 2, 3] rfl ?_
      exact (l_X9_footLine hX σ hI (((400 - (0 : Int)).toNat) + 1)) r48 ⟨by omega, by omega⟩ 0 ⟨by omega, by omega⟩ 0 ⟨by omega, by omega⟩ σ77 hIσ77 hFσ77 (show (it wstopX (wstepX (fX σ) r48) wmes (aX σ77, (0 : Int))).1 = footX (fX σ) (aX σ) from (by first | exact nx | exact footX_of c1 c2 (fun h4 => v1 (by rw [aX_4] at h4 ⊢; omega)) c3 c4 hv c5 c6 c7 (by rw [c8]) (by rw [aX_4]; omega))) (show ¬ σ 10 5 ≤ σ 10 10 ∨ σ77 10 5 ≤ σ 10 10 from by omega) (show ¬ σ77 10 11 = 0 ∨ (σ 10 11 = 0 ∧ σ 10 5 ≤ σ77 10 5) from by omega) (show ¬ σ77 10 11 = 0 ∨ (σ77 10 6 = 0 ∧ (0 : Int) + 1 ≤ σ77 10 5) ∨ (0 : Int) + 2 ≤ σ77 10 5 from by omega) (Nat.lt_succ_self _)
    · have y88 : σ46 10 5 = σ 10 5 := (hGσ46 10 5 (show ¬ ((10 = 10 ∧ (5 = 11 ∨ 5 = 12))) from by omega))
      have f89 : (0 : Int) ≤ σ 10 5 ∧ σ 10 5 ≤ 400 := hI 10 5
      have y90 : σ46 10 5 = σ 10 5 := (hGσ46 10 5 (show ¬ ((10 = 10 ∧ (5 = 11 ∨ 5 = 12))) from by omega))
      exact j_vret (pc := 33) ⟨rfl, rfl⟩ dX9_footLine_33 rfl ⟨rfl, hIσ46, hFσ46, (by first | (rw [← i0, it_n (wstopX_t (by omega))]) | (exfalso; omega) | exact footX_no c1 c2 (by rw [aX_4]; omega)), by omega, by omega⟩
  · refine j_aload_n (pc := 17) dX9_footLine_17 rfl rfl ?_
    refine j_iconst (pc := 18) dX9_footLine_18 ?_
    refine j_aload_n (pc := 19) dX9_footLine_19 rfl rfl ?_
    refine j_getI (pc := 20) fl_X9_76 dX9_footLine_20 (a_10 hX) rfl ?_
    refine j_topV (show σ46 10 7 = σ 10 7 from (hGσ46 10 7 (show ¬ ((10 = 10 ∧ (7 = 11 ∨ 7 = 12))) from by omega))) ?_
    have f91 : (0 : Int) ≤ σ 10 7 ∧ σ 10 7 ≤ 400 := hI 10 7
    refine j_callV (pc := 23) (As := [vI 4, vI (σ 10 7)]) (st := []) (c_X9_fail hX 4 ⟨by omega, by omega⟩ (σ 10 7) ⟨by omega, by omega⟩ σ46 hIσ46) mv_X9_61 rfl rfl rfl (a_10 hX) dX9_footLine_23 ⟨Nat.le_of_ble_eq_true rfl, Nat.le_of_ble_eq_true rfl⟩ ⟨Nat.le_refl _, Nat.le_refl _⟩ rfl (Nat.le_of_ble_eq_true rfl) rfl (fun z92 σ93 hz92 => ?_)
    obtain ⟨rfl, hIσ93, hGσ93, q94_0⟩ := hz92
    replace q94_0 : (σ46 10 11 = 0 ∧ σ93 10 11 = (4 : Int) ∧ σ93 10 12 = (σ 10 7)) ∨ (¬ σ46 10 11 = 0 ∧ σ93 10 11 = σ46 10 11 ∧ σ93 10 12 = σ46 10 12) := q94_0
    have hFσ93 : tw_F (fun c j => (c = 10 ∧ (j = 4 ∨ j = 5 ∨ j = 6 ∨ j = 7 ∨ j = 8 ∨ j = 11 ∨ j = 12)) ∨ c = 12 ∨ (14 ≤ c ∧ c < 23)) σ σ93 := tw_F_tr hFσ46 hGσ93 (fun c j q => (show (c = 10 ∧ (j = 4 ∨ j = 5 ∨ j = 6 ∨ j = 7 ∨ j = 8 ∨ j = 11 ∨ j = 12)) ∨ c = 12 ∨ (14 ≤ c ∧ c < 23) from by replace q : (c = 10 ∧ (j = 11 ∨ j = 12)) := q; omega))
    refine j_st (st' := []) rfl ?_
    have c2 := aX_need (τ := σ93) (c := 4) (by decide) (fun h0 => toldF_f h0 v1 ⟨by omega, by omega⟩ (by omega)) (by omega)
    have y96 : σ93 10 4 = σ 10 4 := ((hGσ93 10 4 (show ¬ ((10 = 10 ∧ (4 = 11 ∨ 4 = 12))) from by omega))).trans (hGσ46 10 4 (show ¬ ((10 = 10 ∧ (4 = 11 ∨ 4 = 12))) from by omega))
    have hx4 : (aX σ93) 4 = 0 → (aX σ93) 7 = σ93 10 4 := fun h4 => by rw [aX_4] at h4; rw [aX_d h4 (by decide), drX_7]
    refine j_aload_n (pc := 26) dX9_footLine_26 rfl rfl ?_
    refine j_getI (pc := 27) fl_X9_33 dX9_footLine_27 (a_10 hX) rfl ?_
    have f97 : (0 : Int) ≤ σ93 10 11 ∧ σ93 10 11 ≤ 5 := hIσ93 10 11
    refine j_ifR_eq (pc := 30) (tgt := 34) ⟨by omega, by omega⟩ dX9_footLine_30 rfl (fun h98 => ?_) (fun h98 => ?_)
    · refine j_aload_n (pc := 34) dX9_footLine_34 rfl rfl ?_
      refine j_getR (pc := 35) (r := 12) fl_X9_15 dX9_footLine_35 (a_10 hX) rfl ?_
      refine j_iload_n (pc := 38) dX9_footLine_38 rfl rfl ?_
      refine j_iconst (pc := 39) dX9_footLine_39 ?_
      refine j_zast (pc := 40) (by omega) dX9_footLine_40 (a_12 hX) (by omega) (by omega) (by decide) (j_nm (fun σ99 (eσ99 : σ99 = tw_up σ93 12 (r48.toNat) 1) => ?_))
      have hIσ99 : tw_I σ99 := tw_I_up hIσ93 eσ99 (show (0 : Int) ≤ 1 ∧ 1 ≤ 1 from ⟨by omega, by omega⟩)
      have hFσ99 : tw_F (fun c j => (c = 10 ∧ (j = 4 ∨ j = 5 ∨ j = 6 ∨ j = 7 ∨ j = 8 ∨ j = 11 ∨ j = 12)) ∨ c = 12 ∨ (14 ≤ c ∧ c < 23)) σ σ99 := tw_F_up hFσ93 eσ99 (show (12 = 10 ∧ (r48.toNat = 4 ∨ r48.toNat = 5 ∨ r48.toNat = 6 ∨ r48.toNat = 7 ∨ r48.toNat = 8 ∨ r48.toNat = 11 ∨ r48.toNat = 12)) ∨ 12 = 12 ∨ (14 ≤ 12 ∧ 12 < 23) from by omega)
      have c3 := aX_wr (i := 600 + r48.toNat) eσ99 (by omega)
      refine j_aload_n (pc := 41) dX9_footLine_41 rfl rfl ?_
      refine j_aload_n (pc := 42) dX9_footLine_42 rfl rfl ?_
      refine j_getI (pc := 43) fl_X9_54 dX9_footLine_43 (a_10 hX) rfl ?_
      refine j_topV (show σ99 10 4 = σ 10 4 from (((tw_ne1 eσ99 (by omega))).trans (hGσ93 10 4 (show ¬ ((10 = 10 ∧ (4 = 11 ∨ 4 = 12))) from by omega))).trans (hGσ46 10 4 (show ¬ ((10 = 10 ∧ (4 = 11 ∨ 4 = 12))) from by omega))) ?_
      have f100 : (0 : Int) ≤ σ 10 4 ∧ σ 10 4 ≤ 40 := hI 10 4
      refine j_iload_n (pc := 46) dX9_footLine_46 rfl rfl ?_
      refine j_mmax (pc := 47) mm_X9_156 dX9_footLine_47 ⟨Nat.le_of_ble_eq_true rfl, Nat.le_of_ble_eq_true rfl⟩ ⟨Nat.le_refl _, Nat.le_refl _⟩ rfl (fun z101 ez101 => ?_)
      have hz101 := tw_max_eq (a := σ 10 4) (b := r48) ⟨by omega, by omega⟩ ⟨by omega, by omega⟩ ez101
      have hv : (aX σ93) 4 = 0 → z101 = (if (aX σ93) 7 < r48 then r48 else (aX σ93) 7) := fun h4 => by (have h5 := hx4 h4); rw [h5]; split <;> omega
      refine j_putI (pc := 50) fl_X9_54 fp_X9_4 dX9_footLine_50 (a_10 hX) rfl (j_nm (fun σ102 (eσ102 : σ102 = tw_up σ99 10 4 z101) => ?_))
      have hIσ102 : tw_I σ102 := tw_I_up hIσ99 eσ102 (show (0 : Int) ≤ z101 ∧ z101 ≤ 40 from ⟨by omega, by omega⟩)
      have hFσ102 : tw_F (fun c j => (c = 10 ∧ (j = 4 ∨ j = 5 ∨ j = 6 ∨ j = 7 ∨ j = 8 ∨ j = 11 ∨ j = 12)) ∨ c = 12 ∨ (14 ≤ c ∧ c < 23)) σ σ102 := tw_F_up hFσ99 eσ102 (show (10 = 10 ∧ (4 = 4 ∨ 4 = 5 ∨ 4 = 6 ∨ 4 = 7 ∨ 4 = 8 ∨ 4 = 11 ∨ 4 = 12)) ∨ 10 = 12 ∨ (14 ≤ 10 ∧ 10 < 23) from by omega)
      have c4 := aX_wr (i := 7) eσ102 (by omega)
      refine j_aload_n (pc := 53) dX9_footLine_53 rfl rfl ?_
      have fz : fX σ102 = fX σ := fX_F (hFσ102 10 10 (show ¬ ((10 = 10 ∧ (10 = 4 ∨ 10 = 5 ∨ 10 = 6 ∨ 10 = 7 ∨ 10 = 8 ∨ 10 = 11 ∨ 10 = 12)) ∨ 10 = 12 ∨ (14 ≤ 10 ∧ 10 < 23)) from by omega)) (fun j => hFσ102 11 j (show ¬ ((11 = 10 ∧ (j = 4 ∨ j = 5 ∨ j = 6 ∨ j = 7 ∨ j = 8 ∨ j = 11 ∨ j = 12)) ∨ 11 = 12 ∨ (14 ≤ 11 ∧ 11 < 23)) from by omega))
      refine j_callV (pc := 54) (As := []) (st := []) (c_X9_advance hX σ102 hIσ102) mv_X9_45 rfl rfl rfl (a_10 hX) dX9_footLine_54 ⟨Nat.le_of_ble_eq_true rfl, Nat.le_of_ble_eq_true rfl⟩ ⟨Nat.le_refl _, Nat.le_refl _⟩ rfl (Nat.le_of_ble_eq_true rfl) rfl (fun z103 σ104 hz103 => ?_)
      obtain ⟨rfl, hIσ104, hGσ104, q105_0, q105_1, q105_2, q105_3⟩ := hz103
      replace q105_0 : aX σ104 = tok (fX σ102) (aX σ102) := q105_0
      replace q105_1 : ¬ σ102 10 5 ≤ σ102 10 10 ∨ σ104 10 5 ≤ σ102 10 10 := q105_1
      have y107 : σ102 10 5 = σ 10 5 := ((((tw_ne1 eσ102 (by omega))).trans (tw_ne1 eσ99 (by omega))).trans (hGσ93 10 5 (show ¬ ((10 = 10 ∧ (5 = 11 ∨ 5 = 12))) from by omega))).trans (hGσ46 10 5 (show ¬ ((10 = 10 ∧ (5 = 11 ∨ 5 = 12))) from by omega))
      have f108 : (0 : Int) ≤ σ 10 5 ∧ σ 10 5 ≤ 400 := hI 10 5
      have y109 : σ102 10 10 = σ 10 10 := ((((tw_ne1 eσ102 (by omega))).trans (tw_ne1 eσ99 (by omega))).trans (hGσ93 10 10 (show ¬ ((10 = 10 ∧ (10 = 11 ∨ 10 = 12))) from by omega))).trans (hGσ46 10 10 (show ¬ ((10 = 10 ∧ (10 = 11 ∨ 10 = 12))) from by omega))
      have f110 : (0 : Int) ≤ σ 10 10 ∧ σ 10 10 ≤ 400 := hI 10 10
      replace q105_2 : ¬ σ102 10 5 ≤ σ102 10 10 ∨ ¬ σ104 10 11 = 0 ∨ ¬ σ104 10 6 = 0 ∨ σ104 10 7 = σ102 10 10 := q105_2
      have y111 : σ102 10 5 = σ 10 5 := ((((tw_ne1 eσ102 (by omega))).trans (tw_ne1 eσ99 (by omega))).trans (hGσ93 10 5 (show ¬ ((10 = 10 ∧ (5 = 11 ∨ 5 = 12))) from by omega))).trans (hGσ46 10 5 (show ¬ ((10 = 10 ∧ (5 = 11 ∨ 5 = 12))) from by omega))
      have y112 : σ102 10 10 = σ 10 10 := ((((tw_ne1 eσ102 (by omega))).trans (tw_ne1 eσ99 (by omega))).trans (hGσ93 10 10 (show ¬ ((10 = 10 ∧ (10 = 11 ∨ 10 = 12))) from by omega))).trans (hGσ46 10 10 (show ¬ ((10 = 10 ∧ (10 = 11 ∨ 10 = 12))) from by omega))
      replace q105_3 : ¬ σ104 10 11 = 0 ∨ (σ102 10 11 = 0 ∧ σ102 10 5 ≤ σ104 10 5 ∧ (σ104 10 6 = 0 ∨ σ102 10 5 < σ104 10 5)) := q105_3
      have y113 : σ102 10 11 = σ93 10 11 := ((tw_ne1 eσ102 (by omega))).trans (tw_ne1 eσ99 (by omega))
      have y114 : σ102 10 5 = σ 10 5 := ((((tw_ne1 eσ102 (by omega))).trans (tw_ne1 eσ99 (by omega))).trans (hGσ93 10 5 (show ¬ ((10 = 10 ∧ (5 = 11 ∨ 5 = 12))) from by omega))).trans (hGσ46 10 5 (show ¬ ((10 = 10 ∧ (5 = 11 ∨ 5 = 12))) from by omega))
      have hFσ104 : tw_F (fun c j => (c = 10 ∧ (j = 4 ∨ j = 5 ∨ j = 6 ∨ j = 7 ∨ j = 8 ∨ j = 11 ∨ j = 12)) ∨ c = 12 ∨ (14 ≤ c ∧ c < 23)) σ σ104 := tw_F_tr hFσ102 hGσ104 (fun c j q => (show (c = 10 ∧ (j = 4 ∨ j = 5 ∨ j = 6 ∨ j = 7 ∨ j = 8 ∨ j = 11 ∨ j = 12)) ∨ c = 12 ∨ (14 ≤ c ∧ c < 23) from by replace q : (c = 10 ∧ (j = 5 ∨ j = 6 ∨ j = 7 ∨ j = 8 ∨ j = 11 ∨ j = 12)) := q; omega))
      refine j_st (st' := []) rfl ?_
      have c5 := q105_0; rw [fz] at c5
      refine j_aload_n (pc := 57) dX9_footLine_57 rfl rfl ?_
      refine j_getR (pc := 58) (r := 14) fl_X9_25 dX9_footLine_58 (a_10 hX) rfl ?_
      refine j_getR (pc := 61) (r := 17) fl_X9_161 dX9_footLine_61 (a_14 hX) rfl ?_
      refine j_iload_n (pc := 64) dX9_footLine_64 rfl rfl ?_
      refine j_aload_n (pc := 65) dX9_footLine_65 rfl rfl ?_
      refine j_iconst (pc := 66) dX9_footLine_66 ?_
      refine j_bipush (pc := 67) dX9_footLine_67 rfl ?_
      refine j_callV (pc := 69) (As := [vI 0, vI 9]) (st := [vI r48, vR 17]) (c_X9_number hX 0 ⟨by omega, by omega⟩ 9 ⟨by omega, by omega⟩ σ104 hIσ104 (by omega)) mv_X9_152 rfl rfl rfl (a_10 hX) dX9_footLine_69 ⟨Nat.le_of_ble_eq_true rfl, Nat.le_of_ble_eq_true rfl⟩ ⟨Nat.le_refl _, Nat.le_refl _⟩ rfl (Nat.le_of_ble_eq_true rfl) rfl (fun z115 σ116 hz115 => ?_)
      obtain ⟨r118, rfl, hr118, hIσ116, hGσ116, q117_0, q117_1, q117_2, q117_3, q117_4, q117_5⟩ := hz115
      replace q117_0 : (0 : Int) ≤ r118 ∧ r118 ≤ (9 : Int) := q117_0
      replace q117_1 : aX σ116 = numS (0 : Int) (9 : Int) (aX σ104) := q117_1
      replace q117_2 : ¬ σ116 10 11 = 0 ∨ r118 = σ104 10 8 := q117_2
      replace q117_3 : ¬ σ116 10 11 = 0 ∨ σ104 10 11 = 0 := q117_3
      replace q117_4 : True ∨ σ104 10 6 = σ116 10 12 := q117_4
      replace q117_5 : ¬ σ116 10 11 = 0 ∨ σ104 10 6 = 2 := q117_5
      have hFσ116 : tw_F (fun c j => (c = 10 ∧ (j = 4 ∨ j = 5 ∨ j = 6 ∨ j = 7 ∨ j = 8 ∨ j = 11 ∨ j = 12)) ∨ c = 12 ∨ (14 ≤ c ∧ c < 23)) σ σ116 := tw_F_tr hFσ104 hGσ116 (fun c j q => (show (c = 10 ∧ (j = 4 ∨ j = 5 ∨ j = 6 ∨ j = 7 ∨ j = 8 ∨ j = 11 ∨ j = 12)) ∨ c = 12 ∨ (14 ≤ c ∧ c < 23) from by replace q : (c = 10 ∧ (j = 11 ∨ j = 12)) := q; omega))
      refine j_st (st' := [vI r118, vI r48, vR 17]) rfl ?_
      have c6 := q117_1
      have v6 := aX_numv q117_1 ((hGσ116 10 6 (show ¬ ((10 = 10 ∧ (6 = 11 ∨ 6 = 12))) from by omega))) ((hGσ116 10 8 (show ¬ ((10 = 10 ∧ (8 = 11 ∨ 8 = 12))) from by omega))) q117_2
      refine j_iast (pc := 72) dX9_footLine_72 (a_17 hX) (by omega) (by omega) (by decide) (j_nm (fun σ119 (eσ119 : σ119 = tw_up σ116 17 (r48.toNat) r118) => ?_))
      have hIσ119 : tw_I σ119 := tw_I_up hIσ116 eσ119 (show (0 : Int) ≤ r118 ∧ r118 ≤ 9 from ⟨by omega, by omega⟩)
      have hFσ119 : tw_F (fun c j => (c = 10 ∧ (j = 4 ∨ j = 5 ∨ j = 6 ∨ j = 7 ∨ j = 8 ∨ j = 11 ∨ j = 12)) ∨ c = 12 ∨ (14 ≤ c ∧ c < 23)) σ σ119 := tw_F_up hFσ116 eσ119 (show (17 = 10 ∧ (r48.toNat = 4 ∨ r48.toNat = 5 ∨ r48.toNat = 6 ∨ r48.toNat = 7 ∨ r48.toNat = 8 ∨ r48.toNat = 11 ∨ r48.toNat = 12)) ∨ 17 = 12 ∨ (14 ≤ 17 ∧ 17 < 23) from by omega)
      have c7 := (aX_wr (i := 300 + 5 * r48.toNat) eσ119 (by omega)).trans (by rw [ci5 (by omega)]; exact wr_cg v6)
      refine j_aload_n (pc := 73) dX9_footLine_73 rfl rfl ?_
      have fz : fX σ119 = fX σ := fX_F (hFσ119 10 10 (show ¬ ((10 = 10 ∧ (10 = 4 ∨ 10 = 5 ∨ 10 = 6 ∨ 10 = 7 ∨ 10 = 8 ∨ 10 = 11 ∨ 10 = 12)) ∨ 10 = 12 ∨ (14 ≤ 10 ∧ 10 < 23)) from by omega)) (fun j => hFσ119 11 j (show ¬ ((11 = 10 ∧ (j = 4 ∨ j = 5 ∨ j = 6 ∨ j = 7 ∨ j = 8 ∨ j = 11 ∨ j = 12)) ∨ 11 = 12 ∨ (14 ≤ 11 ∧ 11 < 23)) from by omega))
      refine j_callV (pc := 74) (As := []) (st := []) (c_X9_advance hX σ119 hIσ119) mv_X9_45 rfl rfl rfl (a_10 hX) dX9_footLine_74 ⟨Nat.le_of_ble_eq_true rfl, Nat.le_of_ble_eq_true rfl⟩ ⟨Nat.le_refl _, Nat.le_refl _⟩ rfl (Nat.le_of_ble_eq_true rfl) rfl (fun z120 σ121 hz120 => ?_)
      obtain ⟨rfl, hIσ121, hGσ121, q122_0, q122_1, q122_2, q122_3⟩ := hz120
      replace q122_0 : aX σ121 = tok (fX σ119) (aX σ119) := q122_0
      replace q122_1 : ¬ σ119 10 5 ≤ σ119 10 10 ∨ σ121 10 5 ≤ σ119 10 10 := q122_1
      have y124 : σ119 10 5 = σ104 10 5 := ((tw_ne1 eσ119 (by omega))).trans (hGσ116 10 5 (show ¬ ((10 = 10 ∧ (5 = 11 ∨ 5 = 12))) from by omega))
      have f125 : (0 : Int) ≤ σ104 10 5 ∧ σ104 10 5 ≤ 400 := hIσ104 10 5
      have y126 : σ119 10 10 = σ 10 10 := (((((((tw_ne1 eσ119 (by omega))).trans (hGσ116 10 10 (show ¬ ((10 = 10 ∧ (10 = 11 ∨ 10 = 12))) from by omega))).trans (hGσ104 10 10 (show ¬ ((10 = 10 ∧ (10 = 5 ∨ 10 = 6 ∨ 10 = 7 ∨ 10 = 8 ∨ 10 = 11 ∨ 10 = 12))) from by omega))).trans (tw_ne1 eσ102 (by omega))).trans (tw_ne1 eσ99 (by omega))).trans (hGσ93 10 10 (show ¬ ((10 = 10 ∧ (10 = 11 ∨ 10 = 12))) from by omega))).trans (hGσ46 10 10 (show ¬ ((10 = 10 ∧ (10 = 11 ∨ 10 = 12))) from by omega))
      replace q122_2 : ¬ σ119 10 5 ≤ σ119 10 10 ∨ ¬ σ121 10 11 = 0 ∨ ¬ σ121 10 6 = 0 ∨ σ121 10 7 = σ119 10 10 := q122_2
      have y127 : σ119 10 5 = σ104 10 5 := ((tw_ne1 eσ119 (by omega))).trans (hGσ116 10 5 (show ¬ ((10 = 10 ∧ (5 = 11 ∨ 5 = 12))) from by omega))
      have y128 : σ119 10 10 = σ 10 10 := (((((((tw_ne1 eσ119 (by omega))).trans (hGσ116 10 10 (show ¬ ((10 = 10 ∧ (10 = 11 ∨ 10 = 12))) from by omega))).trans (hGσ104 10 10 (show ¬ ((10 = 10 ∧ (10 = 5 ∨ 10 = 6 ∨ 10 = 7 ∨ 10 = 8 ∨ 10 = 11 ∨ 10 = 12))) from by omega))).trans (tw_ne1 eσ102 (by omega))).trans (tw_ne1 eσ99 (by omega))).trans (hGσ93 10 10 (show ¬ ((10 = 10 ∧ (10 = 11 ∨ 10 = 12))) from by omega))).trans (hGσ46 10 10 (show ¬ ((10 = 10 ∧ (10 = 11 ∨ 10 = 12))) from by omega))
      replace q122_3 : ¬ σ121 10 11 = 0 ∨ (σ119 10 11 = 0 ∧ σ119 10 5 ≤ σ121 10 5 ∧ (σ121 10 6 = 0 ∨ σ119 10 5 < σ121 10 5)) := q122_3
      have y129 : σ119 10 11 = σ116 10 11 := (tw_ne1 eσ119 (by omega))
      have f130 : (0 : Int) ≤ σ116 10 11 ∧ σ116 10 11 ≤ 5 := hIσ116 10 11
      have y131 : σ119 10 5 = σ104 10 5 := ((tw_ne1 eσ119 (by omega))).trans (hGσ116 10 5 (show ¬ ((10 = 10 ∧ (5 = 11 ∨ 5 = 12))) from by omega))
      have hFσ121 : tw_F (fun c j => (c = 10 ∧ (j = 4 ∨ j = 5 ∨ j = 6 ∨ j = 7 ∨ j = 8 ∨ j = 11 ∨ j = 12)) ∨ c = 12 ∨ (14 ≤ c ∧ c < 23)) σ σ121 := tw_F_tr hFσ119 hGσ121 (fun c j q => (show (c = 10 ∧ (j = 4 ∨ j = 5 ∨ j = 6 ∨ j = 7 ∨ j = 8 ∨ j = 11 ∨ j = 12)) ∨ c = 12 ∨ (14 ≤ c ∧ c < 23) from by replace q : (c = 10 ∧ (j = 5 ∨ j = 6 ∨ j = 7 ∨ j = 8 ∨ j = 11 ∨ j = 12)) := q; omega))
      refine j_st (st' := []) rfl ?_
      have c8 := q122_0; rw [fz] at c8
      refine j_iconst (pc := 77) dX9_footLine_77 ?_
      refine j_istore_n (pc := 78) (i := 2) (ls' := [(0, vR 10), (1, vI r48), (2, vI 0)]) [1, 2, 0] dX9_footLine_78 rfl (Nat.le_of_ble_eq_true rfl) rfl rfl ?_
      refine j_iconst (pc := 79) dX9_footLine_79 ?_
      refine j_istore_n (pc := 80) (i := 3) (ls' := [(0, vR 10), (1, vI r48), (2, vI 0), (3, vI 0)]) [1, 2, 3, 0] dX9_footLine_80 rfl (Nat.le_of_ble_eq_true rfl) rfl rfl ?_
      refine j_ls (ls' := [(0, vR 10), (1, vI r48), (2, vI 0), (3, vI 0)]) [0, 1, 2, 3] rfl ?_
      exact (l_X9_footLine hX σ hI (((400 - (0 : Int)).toNat) + 1)) r48 ⟨by omega, by omega⟩ 0 ⟨by omega, by omega⟩ 0 ⟨by omega, by omega⟩ σ121 hIσ121 hFσ121 (show (it wstopX (wstepX (fX σ) r48) wmes (aX σ121, (0 : Int))).1 = footX (fX σ) (aX σ) from (by first | exact nx | exact footX_of c1 c2 (fun h4 => v1 (by rw [aX_4] at h4 ⊢; omega)) c3 c4 hv c5 c6 c7 (by rw [c8]) (by rw [aX_4]; omega))) (show ¬ σ 10 5 ≤ σ 10 10 ∨ σ121 10 5 ≤ σ 10 10 from by omega) (show ¬ σ121 10 11 = 0 ∨ (σ 10 11 = 0 ∧ σ 10 5 ≤ σ121 10 5) from by omega) (show ¬ σ121 10 11 = 0 ∨ (σ121 10 6 = 0 ∧ (0 : Int) + 1 ≤ σ121 10 5) ∨ (0 : Int) + 2 ≤ σ121 10 5 from by omega) (Nat.lt_succ_self _)
    · have y132 : σ93 10 5 = σ 10 5 := ((hGσ93 10 5 (show ¬ ((10 = 10 ∧ (5 = 11 ∨ 5 = 12))) from by omega))).trans (hGσ46 10 5 (show ¬ ((10 = 10 ∧ (5 = 11 ∨ 5 = 12))) from by omega))
      have f133 : (0 : Int) ≤ σ 10 5 ∧ σ 10 5 ≤ 400 := hI 10 5
      have y134 : σ93 10 5 = σ 10 5 := ((hGσ93 10 5 (show ¬ ((10 = 10 ∧ (5 = 11 ∨ 5 = 12))) from by omega))).trans (hGσ46 10 5 (show ¬ ((10 = 10 ∧ (5 = 11 ∨ 5 = 12))) from by omega))
      exact j_vret (pc := 33) ⟨rfl, rfl⟩ dX9_footLine_33 rfl ⟨rfl, hIσ93, hFσ93, (by first | (rw [← i0, it_n (wstopX_t (by omega))]) | (exfalso; omega) | exact footX_no c1 c2 (by rw [aX_4]; omega)), by omega, by omega⟩
abbrev q_X9_rackLine  (σ : tw_M) : Option tw_V → tw_M → Prop := fun z τ => z = none ∧ tw_I τ ∧ tw_F (fun c j => (c = 10 ∧ (j = 5 ∨ j = 6 ∨ j = 7 ∨ j = 8 ∨ j = 11 ∨ j = 12)) ∨ c = 13 ∨ (14 ≤ c ∧ c < 23)) σ τ ∧ (aX τ = rackX (fX σ) (aX σ)) ∧ (¬ σ 10 5 ≤ σ 10 10 ∨ τ 10 5 ≤ σ 10 10) ∧ (¬ τ 10 11 = 0 ∨ (σ 10 11 = 0 ∧ σ 10 5 ≤ τ 10 5))
set_option maxHeartbeats 4000000 in
set_option maxRecDepth 100000 in
theorem c_X9_rackLine {G : tw_G} (hX : tw_isX G) (σ : tw_M) (hI : tw_I σ) : tw_C G yX9_rackLine cX9_rackLine 2 none 3 [vR 10] σ (q_X9_rackLine σ) := by
  refine tw_met [(0, vR 10)] (by decide +kernel) rfl (Nat.le_of_ble_eq_true rfl) ?_
  refine j_aload_n (pc := 0) dX9_rackLine_0 rfl rfl ?_
  refine j_iconst (pc := 1) dX9_rackLine_1 ?_
  refine j_bipush (pc := 2) dX9_rackLine_2 rfl ?_
  refine j_callV (pc := 4) (As := [vI 1, vI 10]) (st := []) (c_X9_number hX 1 ⟨by omega, by omega⟩ 10 ⟨by omega, by omega⟩ σ hI (by omega)) mv_X9_152 rfl rfl rfl (a_10 hX) dX9_rackLine_4 ⟨Nat.le_of_ble_eq_true rfl, Nat.le_of_ble_eq_true rfl⟩ ⟨Nat.le_refl _, Nat.le_refl _⟩ rfl (Nat.le_of_ble_eq_true rfl) rfl (fun z1 σ2 hz1 => ?_)
  obtain ⟨r4, rfl, hr4, hIσ2, hGσ2, q3_0, q3_1, q3_2, q3_3, q3_4, q3_5⟩ := hz1
  replace q3_0 : (1 : Int) ≤ r4 ∧ r4 ≤ (10 : Int) := q3_0
  replace q3_1 : aX σ2 = numS (1 : Int) (10 : Int) (aX σ) := q3_1
  replace q3_2 : ¬ σ2 10 11 = 0 ∨ r4 = σ 10 8 := q3_2
  replace q3_3 : ¬ σ2 10 11 = 0 ∨ σ 10 11 = 0 := q3_3
  replace q3_4 : True ∨ σ 10 6 = σ2 10 12 := q3_4
  replace q3_5 : ¬ σ2 10 11 = 0 ∨ σ 10 6 = 2 := q3_5
  have hFσ2 : tw_F (fun c j => (c = 10 ∧ (j = 5 ∨ j = 6 ∨ j = 7 ∨ j = 8 ∨ j = 11 ∨ j = 12)) ∨ c = 13 ∨ (14 ≤ c ∧ c < 23)) σ σ2 := tw_F_tr (tw_F_rf) hGσ2 (fun c j q => (show (c = 10 ∧ (j = 5 ∨ j = 6 ∨ j = 7 ∨ j = 8 ∨ j = 11 ∨ j = 12)) ∨ c = 13 ∨ (14 ≤ c ∧ c < 23) from by replace q : (c = 10 ∧ (j = 11 ∨ j = 12)) := q; omega))
  refine j_st (st' := [vI r4]) rfl ?_
  have c1 := q3_1
  have v1 := aX_numv q3_1 ((hGσ2 10 6 (show ¬ ((10 = 10 ∧ (6 = 11 ∨ 6 = 12))) from by omega))) ((hGσ2 10 8 (show ¬ ((10 = 10 ∧ (8 = 11 ∨ 8 = 12))) from by omega))) q3_2
  have y5 : σ2 10 7 = σ 10 7 := (hGσ2 10 7 (show ¬ ((10 = 10 ∧ (7 = 11 ∨ 7 = 12))) from by omega))
  refine j_istore_n (pc := 7) (i := 1) (ls' := [(0, vR 10), (1, vI r4)]) [1, 0] dX9_rackLine_7 rfl (Nat.le_of_ble_eq_true rfl) rfl rfl ?_
  refine j_aload_n (pc := 8) dX9_rackLine_8 rfl rfl ?_
  refine j_getR (pc := 9) (r := 13) fl_X9_19 dX9_rackLine_9 (a_10 hX) rfl ?_
  refine j_iload_n (pc := 12) dX9_rackLine_12 rfl rfl ?_
  refine j_zald (pc := 13) dX9_rackLine_13 (a_13 hX) (by omega) (by omega) (by decide) ?_
  refine j_topV (show σ2 13 (r4.toNat) = σ 13 (r4.toNat) from (hGσ2 13 (r4.toNat) (show ¬ ((13 = 10 ∧ (r4.toNat = 11 ∨ r4.toNat = 12))) from by omega))) ?_
  have f6 : (0 : Int) ≤ σ 13 (r4.toNat) ∧ σ 13 (r4.toNat) ≤ 1 := hI 13 (r4.toNat)
  refine j_ifR_eq (pc := 14) (tgt := 26) ⟨by omega, by omega⟩ dX9_rackLine_14 rfl (fun h7 => ?_) (fun h7 => ?_)
  · have c2 := aX_needt (σ := σ2) (c := 4) (fun h0 => told_t h0 v1 ⟨by omega, by omega⟩ (by omega))
    refine j_aload_n (pc := 26) dX9_rackLine_26 rfl rfl ?_
    refine j_getI (pc := 27) fl_X9_33 dX9_rackLine_27 (a_10 hX) rfl ?_
    have f8 : (0 : Int) ≤ σ2 10 11 ∧ σ2 10 11 ≤ 5 := hIσ2 10 11
    refine j_ifR_eq (pc := 30) (tgt := 34) ⟨by omega, by omega⟩ dX9_rackLine_30 rfl (fun h9 => ?_) (fun h9 => ?_)
    · refine j_aload_n (pc := 34) dX9_rackLine_34 rfl rfl ?_
      refine j_getR (pc := 35) (r := 13) fl_X9_19 dX9_rackLine_35 (a_10 hX) rfl ?_
      refine j_iload_n (pc := 38) dX9_rackLine_38 rfl rfl ?_
      refine j_iconst (pc := 39) dX9_rackLine_39 ?_
      refine j_zast (pc := 40) (by omega) dX9_rackLine_40 (a_13 hX) (by omega) (by omega) (by decide) (j_nm (fun σ10 (eσ10 : σ10 = tw_up σ2 13 (r4.toNat) 1) => ?_))
      have hIσ10 : tw_I σ10 := tw_I_up hIσ2 eσ10 (show (0 : Int) ≤ 1 ∧ 1 ≤ 1 from ⟨by omega, by omega⟩)
      have hFσ10 : tw_F (fun c j => (c = 10 ∧ (j = 5 ∨ j = 6 ∨ j = 7 ∨ j = 8 ∨ j = 11 ∨ j = 12)) ∨ c = 13 ∨ (14 ≤ c ∧ c < 23)) σ σ10 := tw_F_up hFσ2 eσ10 (show (13 = 10 ∧ (r4.toNat = 5 ∨ r4.toNat = 6 ∨ r4.toNat = 7 ∨ r4.toNat = 8 ∨ r4.toNat = 11 ∨ r4.toNat = 12)) ∨ 13 = 13 ∨ (14 ≤ 13 ∧ 13 < 23) from by omega)
      have c3 := (aX_wr (i := 700 + r4.toNat) eσ10 (by omega)).trans (wr_at v1 (fun h4 => by rw [aX_4] at h4 ⊢; omega))
      refine j_aload_n (pc := 41) dX9_rackLine_41 rfl rfl ?_
      have fz : fX σ10 = fX σ := fX_F (hFσ10 10 10 (show ¬ ((10 = 10 ∧ (10 = 5 ∨ 10 = 6 ∨ 10 = 7 ∨ 10 = 8 ∨ 10 = 11 ∨ 10 = 12)) ∨ 10 = 13 ∨ (14 ≤ 10 ∧ 10 < 23)) from by omega)) (fun j => hFσ10 11 j (show ¬ ((11 = 10 ∧ (j = 5 ∨ j = 6 ∨ j = 7 ∨ j = 8 ∨ j = 11 ∨ j = 12)) ∨ 11 = 13 ∨ (14 ≤ 11 ∧ 11 < 23)) from by omega))
      refine j_callV (pc := 42) (As := []) (st := []) (c_X9_advance hX σ10 hIσ10) mv_X9_45 rfl rfl rfl (a_10 hX) dX9_rackLine_42 ⟨Nat.le_of_ble_eq_true rfl, Nat.le_of_ble_eq_true rfl⟩ ⟨Nat.le_refl _, Nat.le_refl _⟩ rfl (Nat.le_of_ble_eq_true rfl) rfl (fun z11 σ12 hz11 => ?_)
      obtain ⟨rfl, hIσ12, hGσ12, q13_0, q13_1, q13_2, q13_3⟩ := hz11
      replace q13_0 : aX σ12 = tok (fX σ10) (aX σ10) := q13_0
      replace q13_1 : ¬ σ10 10 5 ≤ σ10 10 10 ∨ σ12 10 5 ≤ σ10 10 10 := q13_1
      have y15 : σ10 10 5 = σ 10 5 := ((tw_ne1 eσ10 (by omega))).trans (hGσ2 10 5 (show ¬ ((10 = 10 ∧ (5 = 11 ∨ 5 = 12))) from by omega))
      have f16 : (0 : Int) ≤ σ 10 5 ∧ σ 10 5 ≤ 400 := hI 10 5
      have y17 : σ10 10 10 = σ 10 10 := ((tw_ne1 eσ10 (by omega))).trans (hGσ2 10 10 (show ¬ ((10 = 10 ∧ (10 = 11 ∨ 10 = 12))) from by omega))
      have f18 : (0 : Int) ≤ σ 10 10 ∧ σ 10 10 ≤ 400 := hI 10 10
      replace q13_2 : ¬ σ10 10 5 ≤ σ10 10 10 ∨ ¬ σ12 10 11 = 0 ∨ ¬ σ12 10 6 = 0 ∨ σ12 10 7 = σ10 10 10 := q13_2
      have y19 : σ10 10 5 = σ 10 5 := ((tw_ne1 eσ10 (by omega))).trans (hGσ2 10 5 (show ¬ ((10 = 10 ∧ (5 = 11 ∨ 5 = 12))) from by omega))
      have y20 : σ10 10 10 = σ 10 10 := ((tw_ne1 eσ10 (by omega))).trans (hGσ2 10 10 (show ¬ ((10 = 10 ∧ (10 = 11 ∨ 10 = 12))) from by omega))
      replace q13_3 : ¬ σ12 10 11 = 0 ∨ (σ10 10 11 = 0 ∧ σ10 10 5 ≤ σ12 10 5 ∧ (σ12 10 6 = 0 ∨ σ10 10 5 < σ12 10 5)) := q13_3
      have y21 : σ10 10 11 = σ2 10 11 := (tw_ne1 eσ10 (by omega))
      have y22 : σ10 10 5 = σ 10 5 := ((tw_ne1 eσ10 (by omega))).trans (hGσ2 10 5 (show ¬ ((10 = 10 ∧ (5 = 11 ∨ 5 = 12))) from by omega))
      have hFσ12 : tw_F (fun c j => (c = 10 ∧ (j = 5 ∨ j = 6 ∨ j = 7 ∨ j = 8 ∨ j = 11 ∨ j = 12)) ∨ c = 13 ∨ (14 ≤ c ∧ c < 23)) σ σ12 := tw_F_tr hFσ10 hGσ12 (fun c j q => (show (c = 10 ∧ (j = 5 ∨ j = 6 ∨ j = 7 ∨ j = 8 ∨ j = 11 ∨ j = 12)) ∨ c = 13 ∨ (14 ≤ c ∧ c < 23) from by replace q : (c = 10 ∧ (j = 5 ∨ j = 6 ∨ j = 7 ∨ j = 8 ∨ j = 11 ∨ j = 12)) := q; omega))
      refine j_st (st' := []) rfl ?_
      have c4 := q13_0; rw [fz] at c4
      refine j_aload_n (pc := 45) dX9_rackLine_45 rfl rfl ?_
      refine j_getR (pc := 46) (r := 14) fl_X9_25 dX9_rackLine_46 (a_10 hX) rfl ?_
      refine j_getR (pc := 49) (r := 16) fl_X9_179 dX9_rackLine_49 (a_14 hX) rfl ?_
      refine j_iload_n (pc := 52) dX9_rackLine_52 rfl rfl ?_
      refine j_aload_n (pc := 53) dX9_rackLine_53 rfl rfl ?_
      refine j_iconst (pc := 54) dX9_rackLine_54 ?_
      refine j_iconst (pc := 55) dX9_rackLine_55 ?_
      refine j_callV (pc := 56) (As := [vI 0, vI 5]) (st := [vI r4, vR 16]) (c_X9_number hX 0 ⟨by omega, by omega⟩ 5 ⟨by omega, by omega⟩ σ12 hIσ12 (by omega)) mv_X9_152 rfl rfl rfl (a_10 hX) dX9_rackLine_56 ⟨Nat.le_of_ble_eq_true rfl, Nat.le_of_ble_eq_true rfl⟩ ⟨Nat.le_refl _, Nat.le_refl _⟩ rfl (Nat.le_of_ble_eq_true rfl) rfl (fun z23 σ24 hz23 => ?_)
      obtain ⟨r26, rfl, hr26, hIσ24, hGσ24, q25_0, q25_1, q25_2, q25_3, q25_4, q25_5⟩ := hz23
      replace q25_0 : (0 : Int) ≤ r26 ∧ r26 ≤ (5 : Int) := q25_0
      replace q25_1 : aX σ24 = numS (0 : Int) (5 : Int) (aX σ12) := q25_1
      replace q25_2 : ¬ σ24 10 11 = 0 ∨ r26 = σ12 10 8 := q25_2
      replace q25_3 : ¬ σ24 10 11 = 0 ∨ σ12 10 11 = 0 := q25_3
      replace q25_4 : True ∨ σ12 10 6 = σ24 10 12 := q25_4
      replace q25_5 : ¬ σ24 10 11 = 0 ∨ σ12 10 6 = 2 := q25_5
      have hFσ24 : tw_F (fun c j => (c = 10 ∧ (j = 5 ∨ j = 6 ∨ j = 7 ∨ j = 8 ∨ j = 11 ∨ j = 12)) ∨ c = 13 ∨ (14 ≤ c ∧ c < 23)) σ σ24 := tw_F_tr hFσ12 hGσ24 (fun c j q => (show (c = 10 ∧ (j = 5 ∨ j = 6 ∨ j = 7 ∨ j = 8 ∨ j = 11 ∨ j = 12)) ∨ c = 13 ∨ (14 ≤ c ∧ c < 23) from by replace q : (c = 10 ∧ (j = 11 ∨ j = 12)) := q; omega))
      refine j_st (st' := [vI r26, vI r4, vR 16]) rfl ?_
      have c5 := q25_1
      have v5 := aX_numv q25_1 ((hGσ24 10 6 (show ¬ ((10 = 10 ∧ (6 = 11 ∨ 6 = 12))) from by omega))) ((hGσ24 10 8 (show ¬ ((10 = 10 ∧ (8 = 11 ∨ 8 = 12))) from by omega))) q25_2
      refine j_iast (pc := 59) dX9_rackLine_59 (a_16 hX) (by omega) (by omega) (by decide) (j_nm (fun σ27 (eσ27 : σ27 = tw_up σ24 16 (r4.toNat) r26) => ?_))
      have hIσ27 : tw_I σ27 := tw_I_up hIσ24 eσ27 (show (0 : Int) ≤ r26 ∧ r26 ≤ 5 from ⟨by omega, by omega⟩)
      have hFσ27 : tw_F (fun c j => (c = 10 ∧ (j = 5 ∨ j = 6 ∨ j = 7 ∨ j = 8 ∨ j = 11 ∨ j = 12)) ∨ c = 13 ∨ (14 ≤ c ∧ c < 23)) σ σ27 := tw_F_up hFσ24 eσ27 (show (16 = 10 ∧ (r4.toNat = 5 ∨ r4.toNat = 6 ∨ r4.toNat = 7 ∨ r4.toNat = 8 ∨ r4.toNat = 11 ∨ r4.toNat = 12)) ∨ 16 = 13 ∨ (14 ≤ 16 ∧ 16 < 23) from by omega)
      have c6 := (aX_wr (i := 200 + r4.toNat) eσ27 (by omega)).trans ((wr_at v1 (fun h4 => by rw [aX_4] at h4 ⊢; omega)).trans (wr_cg v5))
      refine j_aload_n (pc := 60) dX9_rackLine_60 rfl rfl ?_
      have fz : fX σ27 = fX σ := fX_F (hFσ27 10 10 (show ¬ ((10 = 10 ∧ (10 = 5 ∨ 10 = 6 ∨ 10 = 7 ∨ 10 = 8 ∨ 10 = 11 ∨ 10 = 12)) ∨ 10 = 13 ∨ (14 ≤ 10 ∧ 10 < 23)) from by omega)) (fun j => hFσ27 11 j (show ¬ ((11 = 10 ∧ (j = 5 ∨ j = 6 ∨ j = 7 ∨ j = 8 ∨ j = 11 ∨ j = 12)) ∨ 11 = 13 ∨ (14 ≤ 11 ∧ 11 < 23)) from by omega))
      refine j_callV (pc := 61) (As := []) (st := []) (c_X9_advance hX σ27 hIσ27) mv_X9_45 rfl rfl rfl (a_10 hX) dX9_rackLine_61 ⟨Nat.le_of_ble_eq_true rfl, Nat.le_of_ble_eq_true rfl⟩ ⟨Nat.le_refl _, Nat.le_refl _⟩ rfl (Nat.le_of_ble_eq_true rfl) rfl (fun z28 σ29 hz28 => ?_)
      obtain ⟨rfl, hIσ29, hGσ29, q30_0, q30_1, q30_2, q30_3⟩ := hz28
      replace q30_0 : aX σ29 = tok (fX σ27) (aX σ27) := q30_0
      replace q30_1 : ¬ σ27 10 5 ≤ σ27 10 10 ∨ σ29 10 5 ≤ σ27 10 10 := q30_1
      have y32 : σ27 10 5 = σ12 10 5 := ((tw_ne1 eσ27 (by omega))).trans (hGσ24 10 5 (show ¬ ((10 = 10 ∧ (5 = 11 ∨ 5 = 12))) from by omega))
      have f33 : (0 : Int) ≤ σ12 10 5 ∧ σ12 10 5 ≤ 400 := hIσ12 10 5
      have y34 : σ27 10 10 = σ 10 10 := (((((tw_ne1 eσ27 (by omega))).trans (hGσ24 10 10 (show ¬ ((10 = 10 ∧ (10 = 11 ∨ 10 = 12))) from by omega))).trans (hGσ12 10 10 (show ¬ ((10 = 10 ∧ (10 = 5 ∨ 10 = 6 ∨ 10 = 7 ∨ 10 = 8 ∨ 10 = 11 ∨ 10 = 12))) from by omega))).trans (tw_ne1 eσ10 (by omega))).trans (hGσ2 10 10 (show ¬ ((10 = 10 ∧ (10 = 11 ∨ 10 = 12))) from by omega))
      replace q30_2 : ¬ σ27 10 5 ≤ σ27 10 10 ∨ ¬ σ29 10 11 = 0 ∨ ¬ σ29 10 6 = 0 ∨ σ29 10 7 = σ27 10 10 := q30_2
      have y35 : σ27 10 5 = σ12 10 5 := ((tw_ne1 eσ27 (by omega))).trans (hGσ24 10 5 (show ¬ ((10 = 10 ∧ (5 = 11 ∨ 5 = 12))) from by omega))
      have y36 : σ27 10 10 = σ 10 10 := (((((tw_ne1 eσ27 (by omega))).trans (hGσ24 10 10 (show ¬ ((10 = 10 ∧ (10 = 11 ∨ 10 = 12))) from by omega))).trans (hGσ12 10 10 (show ¬ ((10 = 10 ∧ (10 = 5 ∨ 10 = 6 ∨ 10 = 7 ∨ 10 = 8 ∨ 10 = 11 ∨ 10 = 12))) from by omega))).trans (tw_ne1 eσ10 (by omega))).trans (hGσ2 10 10 (show ¬ ((10 = 10 ∧ (10 = 11 ∨ 10 = 12))) from by omega))
      replace q30_3 : ¬ σ29 10 11 = 0 ∨ (σ27 10 11 = 0 ∧ σ27 10 5 ≤ σ29 10 5 ∧ (σ29 10 6 = 0 ∨ σ27 10 5 < σ29 10 5)) := q30_3
      have y37 : σ27 10 11 = σ24 10 11 := (tw_ne1 eσ27 (by omega))
      have f38 : (0 : Int) ≤ σ24 10 11 ∧ σ24 10 11 ≤ 5 := hIσ24 10 11
      have y39 : σ27 10 5 = σ12 10 5 := ((tw_ne1 eσ27 (by omega))).trans (hGσ24 10 5 (show ¬ ((10 = 10 ∧ (5 = 11 ∨ 5 = 12))) from by omega))
      have hFσ29 : tw_F (fun c j => (c = 10 ∧ (j = 5 ∨ j = 6 ∨ j = 7 ∨ j = 8 ∨ j = 11 ∨ j = 12)) ∨ c = 13 ∨ (14 ≤ c ∧ c < 23)) σ σ29 := tw_F_tr hFσ27 hGσ29 (fun c j q => (show (c = 10 ∧ (j = 5 ∨ j = 6 ∨ j = 7 ∨ j = 8 ∨ j = 11 ∨ j = 12)) ∨ c = 13 ∨ (14 ≤ c ∧ c < 23) from by replace q : (c = 10 ∧ (j = 5 ∨ j = 6 ∨ j = 7 ∨ j = 8 ∨ j = 11 ∨ j = 12)) := q; omega))
      refine j_st (st' := []) rfl ?_
      have c7 := q30_0; rw [fz] at c7
      exact j_vret (pc := 64) ⟨rfl, rfl⟩ dX9_rackLine_64 rfl ⟨rfl, hIσ29, hFσ29, (by first | exact rackX_of c1 c2 c3 c4 c5 c6 c7 | exact rackX_no c1 c2 (by rw [aX_4]; omega)), by omega, by omega⟩
    · have y40 : σ2 10 5 = σ 10 5 := (hGσ2 10 5 (show ¬ ((10 = 10 ∧ (5 = 11 ∨ 5 = 12))) from by omega))
      have f41 : (0 : Int) ≤ σ 10 5 ∧ σ 10 5 ≤ 400 := hI 10 5
      have y42 : σ2 10 5 = σ 10 5 := (hGσ2 10 5 (show ¬ ((10 = 10 ∧ (5 = 11 ∨ 5 = 12))) from by omega))
      exact j_vret (pc := 33) ⟨rfl, rfl⟩ dX9_rackLine_33 rfl ⟨rfl, hIσ2, hFσ2, (by first | exact rackX_of c1 c2 c3 c4 c5 c6 c7 | exact rackX_no c1 c2 (by rw [aX_4]; omega)), by omega, by omega⟩
  · refine j_aload_n (pc := 17) dX9_rackLine_17 rfl rfl ?_
    refine j_iconst (pc := 18) dX9_rackLine_18 ?_
    refine j_aload_n (pc := 19) dX9_rackLine_19 rfl rfl ?_
    refine j_getI (pc := 20) fl_X9_76 dX9_rackLine_20 (a_10 hX) rfl ?_
    refine j_topV (show σ2 10 7 = σ 10 7 from (hGσ2 10 7 (show ¬ ((10 = 10 ∧ (7 = 11 ∨ 7 = 12))) from by omega))) ?_
    have f43 : (0 : Int) ≤ σ 10 7 ∧ σ 10 7 ≤ 400 := hI 10 7
    refine j_callV (pc := 23) (As := [vI 4, vI (σ 10 7)]) (st := []) (c_X9_fail hX 4 ⟨by omega, by omega⟩ (σ 10 7) ⟨by omega, by omega⟩ σ2 hIσ2) mv_X9_61 rfl rfl rfl (a_10 hX) dX9_rackLine_23 ⟨Nat.le_of_ble_eq_true rfl, Nat.le_of_ble_eq_true rfl⟩ ⟨Nat.le_refl _, Nat.le_refl _⟩ rfl (Nat.le_of_ble_eq_true rfl) rfl (fun z44 σ45 hz44 => ?_)
    obtain ⟨rfl, hIσ45, hGσ45, q46_0⟩ := hz44
    replace q46_0 : (σ2 10 11 = 0 ∧ σ45 10 11 = (4 : Int) ∧ σ45 10 12 = (σ 10 7)) ∨ (¬ σ2 10 11 = 0 ∧ σ45 10 11 = σ2 10 11 ∧ σ45 10 12 = σ2 10 12) := q46_0
    have hFσ45 : tw_F (fun c j => (c = 10 ∧ (j = 5 ∨ j = 6 ∨ j = 7 ∨ j = 8 ∨ j = 11 ∨ j = 12)) ∨ c = 13 ∨ (14 ≤ c ∧ c < 23)) σ σ45 := tw_F_tr hFσ2 hGσ45 (fun c j q => (show (c = 10 ∧ (j = 5 ∨ j = 6 ∨ j = 7 ∨ j = 8 ∨ j = 11 ∨ j = 12)) ∨ c = 13 ∨ (14 ≤ c ∧ c < 23) from by replace q : (c = 10 ∧ (j = 11 ∨ j = 12)) := q; omega))
    refine j_st (st' := []) rfl ?_
    have c2 := aX_need (τ := σ45) (c := 4) (by decide) (fun h0 => told_f h0 v1 ⟨by omega, by omega⟩ (by omega)) (by omega)
    refine j_aload_n (pc := 26) dX9_rackLine_26 rfl rfl ?_
    refine j_getI (pc := 27) fl_X9_33 dX9_rackLine_27 (a_10 hX) rfl ?_
    have f48 : (0 : Int) ≤ σ45 10 11 ∧ σ45 10 11 ≤ 5 := hIσ45 10 11
    refine j_ifR_eq (pc := 30) (tgt := 34) ⟨by omega, by omega⟩ dX9_rackLine_30 rfl (fun h49 => ?_) (fun h49 => ?_)
    · refine j_aload_n (pc := 34) dX9_rackLine_34 rfl rfl ?_
      refine j_getR (pc := 35) (r := 13) fl_X9_19 dX9_rackLine_35 (a_10 hX) rfl ?_
      refine j_iload_n (pc := 38) dX9_rackLine_38 rfl rfl ?_
      refine j_iconst (pc := 39) dX9_rackLine_39 ?_
      refine j_zast (pc := 40) (by omega) dX9_rackLine_40 (a_13 hX) (by omega) (by omega) (by decide) (j_nm (fun σ50 (eσ50 : σ50 = tw_up σ45 13 (r4.toNat) 1) => ?_))
      have hIσ50 : tw_I σ50 := tw_I_up hIσ45 eσ50 (show (0 : Int) ≤ 1 ∧ 1 ≤ 1 from ⟨by omega, by omega⟩)
      have hFσ50 : tw_F (fun c j => (c = 10 ∧ (j = 5 ∨ j = 6 ∨ j = 7 ∨ j = 8 ∨ j = 11 ∨ j = 12)) ∨ c = 13 ∨ (14 ≤ c ∧ c < 23)) σ σ50 := tw_F_up hFσ45 eσ50 (show (13 = 10 ∧ (r4.toNat = 5 ∨ r4.toNat = 6 ∨ r4.toNat = 7 ∨ r4.toNat = 8 ∨ r4.toNat = 11 ∨ r4.toNat = 12)) ∨ 13 = 13 ∨ (14 ≤ 13 ∧ 13 < 23) from by omega)
      have c3 := (aX_wr (i := 700 + r4.toNat) eσ50 (by omega)).trans (wr_at v1 (fun h4 => by rw [aX_4] at h4 ⊢; omega))
      refine j_aload_n (pc := 41) dX9_rackLine_41 rfl rfl ?_
      have fz : fX σ50 = fX σ := fX_F (hFσ50 10 10 (show ¬ ((10 = 10 ∧ (10 = 5 ∨ 10 = 6 ∨ 10 = 7 ∨ 10 = 8 ∨ 10 = 11 ∨ 10 = 12)) ∨ 10 = 13 ∨ (14 ≤ 10 ∧ 10 < 23)) from by omega)) (fun j => hFσ50 11 j (show ¬ ((11 = 10 ∧ (j = 5 ∨ j = 6 ∨ j = 7 ∨ j = 8 ∨ j = 11 ∨ j = 12)) ∨ 11 = 13 ∨ (14 ≤ 11 ∧ 11 < 23)) from by omega))
      refine j_callV (pc := 42) (As := []) (st := []) (c_X9_advance hX σ50 hIσ50) mv_X9_45 rfl rfl rfl (a_10 hX) dX9_rackLine_42 ⟨Nat.le_of_ble_eq_true rfl, Nat.le_of_ble_eq_true rfl⟩ ⟨Nat.le_refl _, Nat.le_refl _⟩ rfl (Nat.le_of_ble_eq_true rfl) rfl (fun z51 σ52 hz51 => ?_)
      obtain ⟨rfl, hIσ52, hGσ52, q53_0, q53_1, q53_2, q53_3⟩ := hz51
      replace q53_0 : aX σ52 = tok (fX σ50) (aX σ50) := q53_0
      replace q53_1 : ¬ σ50 10 5 ≤ σ50 10 10 ∨ σ52 10 5 ≤ σ50 10 10 := q53_1
      have y55 : σ50 10 5 = σ 10 5 := (((tw_ne1 eσ50 (by omega))).trans (hGσ45 10 5 (show ¬ ((10 = 10 ∧ (5 = 11 ∨ 5 = 12))) from by omega))).trans (hGσ2 10 5 (show ¬ ((10 = 10 ∧ (5 = 11 ∨ 5 = 12))) from by omega))
      have f56 : (0 : Int) ≤ σ 10 5 ∧ σ 10 5 ≤ 400 := hI 10 5
      have y57 : σ50 10 10 = σ 10 10 := (((tw_ne1 eσ50 (by omega))).trans (hGσ45 10 10 (show ¬ ((10 = 10 ∧ (10 = 11 ∨ 10 = 12))) from by omega))).trans (hGσ2 10 10 (show ¬ ((10 = 10 ∧ (10 = 11 ∨ 10 = 12))) from by omega))
      have f58 : (0 : Int) ≤ σ 10 10 ∧ σ 10 10 ≤ 400 := hI 10 10
      replace q53_2 : ¬ σ50 10 5 ≤ σ50 10 10 ∨ ¬ σ52 10 11 = 0 ∨ ¬ σ52 10 6 = 0 ∨ σ52 10 7 = σ50 10 10 := q53_2
      have y59 : σ50 10 5 = σ 10 5 := (((tw_ne1 eσ50 (by omega))).trans (hGσ45 10 5 (show ¬ ((10 = 10 ∧ (5 = 11 ∨ 5 = 12))) from by omega))).trans (hGσ2 10 5 (show ¬ ((10 = 10 ∧ (5 = 11 ∨ 5 = 12))) from by omega))
      have y60 : σ50 10 10 = σ 10 10 := (((tw_ne1 eσ50 (by omega))).trans (hGσ45 10 10 (show ¬ ((10 = 10 ∧ (10 = 11 ∨ 10 = 12))) from by omega))).trans (hGσ2 10 10 (show ¬ ((10 = 10 ∧ (10 = 11 ∨ 10 = 12))) from by omega))
      replace q53_3 : ¬ σ52 10 11 = 0 ∨ (σ50 10 11 = 0 ∧ σ50 10 5 ≤ σ52 10 5 ∧ (σ52 10 6 = 0 ∨ σ50 10 5 < σ52 10 5)) := q53_3
      have y61 : σ50 10 11 = σ45 10 11 := (tw_ne1 eσ50 (by omega))
      have y62 : σ50 10 5 = σ 10 5 := (((tw_ne1 eσ50 (by omega))).trans (hGσ45 10 5 (show ¬ ((10 = 10 ∧ (5 = 11 ∨ 5 = 12))) from by omega))).trans (hGσ2 10 5 (show ¬ ((10 = 10 ∧ (5 = 11 ∨ 5 = 12))) from by omega))
      have hFσ52 : tw_F (fun c j => (c = 10 ∧ (j = 5 ∨ j = 6 ∨ j = 7 ∨ j = 8 ∨ j = 11 ∨ j = 12)) ∨ c = 13 ∨ (14 ≤ c ∧ c < 23)) σ σ52 := tw_F_tr hFσ50 hGσ52 (fun c j q => (show (c = 10 ∧ (j = 5 ∨ j = 6 ∨ j = 7 ∨ j = 8 ∨ j = 11 ∨ j = 12)) ∨ c = 13 ∨ (14 ≤ c ∧ c < 23) from by replace q : (c = 10 ∧ (j = 5 ∨ j = 6 ∨ j = 7 ∨ j = 8 ∨ j = 11 ∨ j = 12)) := q; omega))
      refine j_st (st' := []) rfl ?_
      have c4 := q53_0; rw [fz] at c4
      refine j_aload_n (pc := 45) dX9_rackLine_45 rfl rfl ?_
      refine j_getR (pc := 46) (r := 14) fl_X9_25 dX9_rackLine_46 (a_10 hX) rfl ?_
      refine j_getR (pc := 49) (r := 16) fl_X9_179 dX9_rackLine_49 (a_14 hX) rfl ?_
      refine j_iload_n (pc := 52) dX9_rackLine_52 rfl rfl ?_
      refine j_aload_n (pc := 53) dX9_rackLine_53 rfl rfl ?_
      refine j_iconst (pc := 54) dX9_rackLine_54 ?_
      refine j_iconst (pc := 55) dX9_rackLine_55 ?_
      refine j_callV (pc := 56) (As := [vI 0, vI 5]) (st := [vI r4, vR 16]) (c_X9_number hX 0 ⟨by omega, by omega⟩ 5 ⟨by omega, by omega⟩ σ52 hIσ52 (by omega)) mv_X9_152 rfl rfl rfl (a_10 hX) dX9_rackLine_56 ⟨Nat.le_of_ble_eq_true rfl, Nat.le_of_ble_eq_true rfl⟩ ⟨Nat.le_refl _, Nat.le_refl _⟩ rfl (Nat.le_of_ble_eq_true rfl) rfl (fun z63 σ64 hz63 => ?_)
      obtain ⟨r66, rfl, hr66, hIσ64, hGσ64, q65_0, q65_1, q65_2, q65_3, q65_4, q65_5⟩ := hz63
      replace q65_0 : (0 : Int) ≤ r66 ∧ r66 ≤ (5 : Int) := q65_0
      replace q65_1 : aX σ64 = numS (0 : Int) (5 : Int) (aX σ52) := q65_1
      replace q65_2 : ¬ σ64 10 11 = 0 ∨ r66 = σ52 10 8 := q65_2
      replace q65_3 : ¬ σ64 10 11 = 0 ∨ σ52 10 11 = 0 := q65_3
      replace q65_4 : True ∨ σ52 10 6 = σ64 10 12 := q65_4
      replace q65_5 : ¬ σ64 10 11 = 0 ∨ σ52 10 6 = 2 := q65_5
      have hFσ64 : tw_F (fun c j => (c = 10 ∧ (j = 5 ∨ j = 6 ∨ j = 7 ∨ j = 8 ∨ j = 11 ∨ j = 12)) ∨ c = 13 ∨ (14 ≤ c ∧ c < 23)) σ σ64 := tw_F_tr hFσ52 hGσ64 (fun c j q => (show (c = 10 ∧ (j = 5 ∨ j = 6 ∨ j = 7 ∨ j = 8 ∨ j = 11 ∨ j = 12)) ∨ c = 13 ∨ (14 ≤ c ∧ c < 23) from by replace q : (c = 10 ∧ (j = 11 ∨ j = 12)) := q; omega))
      refine j_st (st' := [vI r66, vI r4, vR 16]) rfl ?_
      have c5 := q65_1
      have v5 := aX_numv q65_1 ((hGσ64 10 6 (show ¬ ((10 = 10 ∧ (6 = 11 ∨ 6 = 12))) from by omega))) ((hGσ64 10 8 (show ¬ ((10 = 10 ∧ (8 = 11 ∨ 8 = 12))) from by omega))) q65_2
      refine j_iast (pc := 59) dX9_rackLine_59 (a_16 hX) (by omega) (by omega) (by decide) (j_nm (fun σ67 (eσ67 : σ67 = tw_up σ64 16 (r4.toNat) r66) => ?_))
      have hIσ67 : tw_I σ67 := tw_I_up hIσ64 eσ67 (show (0 : Int) ≤ r66 ∧ r66 ≤ 5 from ⟨by omega, by omega⟩)
      have hFσ67 : tw_F (fun c j => (c = 10 ∧ (j = 5 ∨ j = 6 ∨ j = 7 ∨ j = 8 ∨ j = 11 ∨ j = 12)) ∨ c = 13 ∨ (14 ≤ c ∧ c < 23)) σ σ67 := tw_F_up hFσ64 eσ67 (show (16 = 10 ∧ (r4.toNat = 5 ∨ r4.toNat = 6 ∨ r4.toNat = 7 ∨ r4.toNat = 8 ∨ r4.toNat = 11 ∨ r4.toNat = 12)) ∨ 16 = 13 ∨ (14 ≤ 16 ∧ 16 < 23) from by omega)
      have c6 := (aX_wr (i := 200 + r4.toNat) eσ67 (by omega)).trans ((wr_at v1 (fun h4 => by rw [aX_4] at h4 ⊢; omega)).trans (wr_cg v5))
      refine j_aload_n (pc := 60) dX9_rackLine_60 rfl rfl ?_
      have fz : fX σ67 = fX σ := fX_F (hFσ67 10 10 (show ¬ ((10 = 10 ∧ (10 = 5 ∨ 10 = 6 ∨ 10 = 7 ∨ 10 = 8 ∨ 10 = 11 ∨ 10 = 12)) ∨ 10 = 13 ∨ (14 ≤ 10 ∧ 10 < 23)) from by omega)) (fun j => hFσ67 11 j (show ¬ ((11 = 10 ∧ (j = 5 ∨ j = 6 ∨ j = 7 ∨ j = 8 ∨ j = 11 ∨ j = 12)) ∨ 11 = 13 ∨ (14 ≤ 11 ∧ 11 < 23)) from by omega))
      refine j_callV (pc := 61) (As := []) (st := []) (c_X9_advance hX σ67 hIσ67) mv_X9_45 rfl rfl rfl (a_10 hX) dX9_rackLine_61 ⟨Nat.le_of_ble_eq_true rfl, Nat.le_of_ble_eq_true rfl⟩ ⟨Nat.le_refl _, Nat.le_refl _⟩ rfl (Nat.le_of_ble_eq_true rfl) rfl (fun z68 σ69 hz68 => ?_)
      obtain ⟨rfl, hIσ69, hGσ69, q70_0, q70_1, q70_2, q70_3⟩ := hz68
      replace q70_0 : aX σ69 = tok (fX σ67) (aX σ67) := q70_0
      replace q70_1 : ¬ σ67 10 5 ≤ σ67 10 10 ∨ σ69 10 5 ≤ σ67 10 10 := q70_1
      have y72 : σ67 10 5 = σ52 10 5 := ((tw_ne1 eσ67 (by omega))).trans (hGσ64 10 5 (show ¬ ((10 = 10 ∧ (5 = 11 ∨ 5 = 12))) from by omega))
      have f73 : (0 : Int) ≤ σ52 10 5 ∧ σ52 10 5 ≤ 400 := hIσ52 10 5
      have y74 : σ67 10 10 = σ 10 10 := ((((((tw_ne1 eσ67 (by omega))).trans (hGσ64 10 10 (show ¬ ((10 = 10 ∧ (10 = 11 ∨ 10 = 12))) from by omega))).trans (hGσ52 10 10 (show ¬ ((10 = 10 ∧ (10 = 5 ∨ 10 = 6 ∨ 10 = 7 ∨ 10 = 8 ∨ 10 = 11 ∨ 10 = 12))) from by omega))).trans (tw_ne1 eσ50 (by omega))).trans (hGσ45 10 10 (show ¬ ((10 = 10 ∧ (10 = 11 ∨ 10 = 12))) from by omega))).trans (hGσ2 10 10 (show ¬ ((10 = 10 ∧ (10 = 11 ∨ 10 = 12))) from by omega))
      replace q70_2 : ¬ σ67 10 5 ≤ σ67 10 10 ∨ ¬ σ69 10 11 = 0 ∨ ¬ σ69 10 6 = 0 ∨ σ69 10 7 = σ67 10 10 := q70_2
      have y75 : σ67 10 5 = σ52 10 5 := ((tw_ne1 eσ67 (by omega))).trans (hGσ64 10 5 (show ¬ ((10 = 10 ∧ (5 = 11 ∨ 5 = 12))) from by omega))
      have y76 : σ67 10 10 = σ 10 10 := ((((((tw_ne1 eσ67 (by omega))).trans (hGσ64 10 10 (show ¬ ((10 = 10 ∧ (10 = 11 ∨ 10 = 12))) from by omega))).trans (hGσ52 10 10 (show ¬ ((10 = 10 ∧ (10 = 5 ∨ 10 = 6 ∨ 10 = 7 ∨ 10 = 8 ∨ 10 = 11 ∨ 10 = 12))) from by omega))).trans (tw_ne1 eσ50 (by omega))).trans (hGσ45 10 10 (show ¬ ((10 = 10 ∧ (10 = 11 ∨ 10 = 12))) from by omega))).trans (hGσ2 10 10 (show ¬ ((10 = 10 ∧ (10 = 11 ∨ 10 = 12))) from by omega))
      replace q70_3 : ¬ σ69 10 11 = 0 ∨ (σ67 10 11 = 0 ∧ σ67 10 5 ≤ σ69 10 5 ∧ (σ69 10 6 = 0 ∨ σ67 10 5 < σ69 10 5)) := q70_3
      have y77 : σ67 10 11 = σ64 10 11 := (tw_ne1 eσ67 (by omega))
      have f78 : (0 : Int) ≤ σ64 10 11 ∧ σ64 10 11 ≤ 5 := hIσ64 10 11
      have y79 : σ67 10 5 = σ52 10 5 := ((tw_ne1 eσ67 (by omega))).trans (hGσ64 10 5 (show ¬ ((10 = 10 ∧ (5 = 11 ∨ 5 = 12))) from by omega))
      have hFσ69 : tw_F (fun c j => (c = 10 ∧ (j = 5 ∨ j = 6 ∨ j = 7 ∨ j = 8 ∨ j = 11 ∨ j = 12)) ∨ c = 13 ∨ (14 ≤ c ∧ c < 23)) σ σ69 := tw_F_tr hFσ67 hGσ69 (fun c j q => (show (c = 10 ∧ (j = 5 ∨ j = 6 ∨ j = 7 ∨ j = 8 ∨ j = 11 ∨ j = 12)) ∨ c = 13 ∨ (14 ≤ c ∧ c < 23) from by replace q : (c = 10 ∧ (j = 5 ∨ j = 6 ∨ j = 7 ∨ j = 8 ∨ j = 11 ∨ j = 12)) := q; omega))
      refine j_st (st' := []) rfl ?_
      have c7 := q70_0; rw [fz] at c7
      exact j_vret (pc := 64) ⟨rfl, rfl⟩ dX9_rackLine_64 rfl ⟨rfl, hIσ69, hFσ69, (by first | exact rackX_of c1 c2 c3 c4 c5 c6 c7 | exact rackX_no c1 c2 (by rw [aX_4]; omega)), by omega, by omega⟩
    · have y80 : σ45 10 5 = σ 10 5 := ((hGσ45 10 5 (show ¬ ((10 = 10 ∧ (5 = 11 ∨ 5 = 12))) from by omega))).trans (hGσ2 10 5 (show ¬ ((10 = 10 ∧ (5 = 11 ∨ 5 = 12))) from by omega))
      have f81 : (0 : Int) ≤ σ 10 5 ∧ σ 10 5 ≤ 400 := hI 10 5
      have y82 : σ45 10 5 = σ 10 5 := ((hGσ45 10 5 (show ¬ ((10 = 10 ∧ (5 = 11 ∨ 5 = 12))) from by omega))).trans (hGσ2 10 5 (show ¬ ((10 = 10 ∧ (5 = 11 ∨ 5 = 12))) from by omega))
      exact j_vret (pc := 33) ⟨rfl, rfl⟩ dX9_rackLine_33 rfl ⟨rfl, hIσ45, hFσ45, (by first | exact rackX_of c1 c2 c3 c4 c5 c6 c7 | exact rackX_no c1 c2 (by rw [aX_4]; omega)), by omega, by omega⟩
abbrev q_X9_ruleLine (n : Int) (σ : tw_M) : Option tw_V → tw_M → Prop := fun z τ => z = none ∧ tw_I τ ∧ tw_F (fun c j => (c = 10 ∧ (j = 3 ∨ j = 5 ∨ j = 6 ∨ j = 7 ∨ j = 8 ∨ j = 11 ∨ j = 12)) ∨ (14 ≤ c ∧ c < 23)) σ τ ∧ (aX τ = ruleX (fX σ) n (aX σ)) ∧ (¬ σ 10 5 ≤ σ 10 10 ∨ τ 10 5 ≤ σ 10 10) ∧ (¬ τ 10 11 = 0 ∨ (σ 10 11 = 0 ∧ σ 10 5 ≤ τ 10 5))
set_option maxHeartbeats 4000000 in
set_option maxRecDepth 100000 in
theorem c_X9_ruleLine {G : tw_G} (hX : tw_isX G) (n : Int) (hn : 0 ≤ n ∧ n ≤ 8) (σ : tw_M) (hI : tw_I σ) : tw_C G yX9_ruleLine cX9_ruleLine 2 none 3 [vR 10, vI n] σ (q_X9_ruleLine n σ) := by
  refine tw_met [(0, vR 10), (1, vI n)] (by decide +kernel) rfl (Nat.le_of_ble_eq_true rfl) ?_
  refine j_aload_n (pc := 0) dX9_ruleLine_0 rfl rfl ?_
  refine j_getI (pc := 1) fl_X9_66 dX9_ruleLine_1 (a_10 hX) rfl ?_
  have f1 : (-2147483648 : Int) ≤ σ 10 3 ∧ σ 10 3 ≤ 2147483647 := hI 10 3
  refine j_iload_n (pc := 4) dX9_ruleLine_4 rfl rfl ?_
  refine j_ishr (pc := 5) dX9_ruleLine_5 (fun z2 ez2 => ?_)
  have hz2 : (-2147483648 : Int) ≤ z2 ∧ z2 ≤ 2147483647 := by rw [ez2]; exact shr_in _ _
  have b1 := ez2
  refine j_iconst (pc := 6) dX9_ruleLine_6 ?_
  refine j_iand (pc := 7) dX9_ruleLine_7 (fun z3 ez3 => ?_)
  have hz3 : (-2147483648 : Int) ≤ z3 ∧ z3 ≤ 2147483647 := by rw [ez3]; exact and_in _ _
  have b2 := ez3; rw [b1] at b2
  refine j_ifR_eq (pc := 8) (tgt := 20) ⟨by omega, by omega⟩ dX9_ruleLine_8 rfl (fun h4 => ?_) (fun h4 => ?_)
  · have c1 := aX_needt (σ := σ) (c := 4) (fun h0 => bit_t h0 b2 (by omega))
    refine j_aload_n (pc := 20) dX9_ruleLine_20 rfl rfl ?_
    refine j_dup (pc := 21) dX9_ruleLine_21 rfl ?_
    refine j_getI (pc := 22) fl_X9_66 dX9_ruleLine_22 (a_10 hX) rfl ?_
    refine j_iconst (pc := 25) dX9_ruleLine_25 ?_
    refine j_iload_n (pc := 26) dX9_ruleLine_26 rfl rfl ?_
    refine j_ishl (pc := 27) dX9_ruleLine_27 (fun z5 ez5 => ?_)
    have hz5 : (-2147483648 : Int) ≤ z5 ∧ z5 ≤ 2147483647 := by rw [ez5]; exact shl_in _ _
    have s1 := ez5
    refine j_ior (pc := 28) dX9_ruleLine_28 (fun z6 ez6 => ?_)
    have hz6 : (-2147483648 : Int) ≤ z6 ∧ z6 ≤ 2147483647 := by rw [ez6]; exact or_in _ _
    have s2 := ez6; rw [s1] at s2
    refine j_putI (pc := 29) fl_X9_66 fp_X9_3 dX9_ruleLine_29 (a_10 hX) rfl (j_nm (fun σ7 (eσ7 : σ7 = tw_up σ 10 3 z6) => ?_))
    have hIσ7 : tw_I σ7 := tw_I_up hI eσ7 (show (-2147483648 : Int) ≤ z6 ∧ z6 ≤ 2147483647 from ⟨by omega, by omega⟩)
    have hFσ7 : tw_F (fun c j => (c = 10 ∧ (j = 3 ∨ j = 5 ∨ j = 6 ∨ j = 7 ∨ j = 8 ∨ j = 11 ∨ j = 12)) ∨ (14 ≤ c ∧ c < 23)) σ σ7 := tw_F_up (tw_F_rf) eσ7 (show (10 = 10 ∧ (3 = 3 ∨ 3 = 5 ∨ 3 = 6 ∨ 3 = 7 ∨ 3 = 8 ∨ 3 = 11 ∨ 3 = 12)) ∨ (14 ≤ 10 ∧ 10 < 23) from by omega)
    have c2 := (aX_wr (i := 6) eσ7 (by omega)).trans (wr_cg (fun h4 => bit_w (σ := σ) (by rw [aX_4] at h4; omega) s2))
    refine j_aload_n (pc := 32) dX9_ruleLine_32 rfl rfl ?_
    have fz : fX σ7 = fX σ := fX_F (hFσ7 10 10 (show ¬ ((10 = 10 ∧ (10 = 3 ∨ 10 = 5 ∨ 10 = 6 ∨ 10 = 7 ∨ 10 = 8 ∨ 10 = 11 ∨ 10 = 12)) ∨ (14 ≤ 10 ∧ 10 < 23)) from by omega)) (fun j => hFσ7 11 j (show ¬ ((11 = 10 ∧ (j = 3 ∨ j = 5 ∨ j = 6 ∨ j = 7 ∨ j = 8 ∨ j = 11 ∨ j = 12)) ∨ (14 ≤ 11 ∧ 11 < 23)) from by omega))
    refine j_callV (pc := 33) (As := []) (st := []) (c_X9_advance hX σ7 hIσ7) mv_X9_45 rfl rfl rfl (a_10 hX) dX9_ruleLine_33 ⟨Nat.le_of_ble_eq_true rfl, Nat.le_of_ble_eq_true rfl⟩ ⟨Nat.le_refl _, Nat.le_refl _⟩ rfl (Nat.le_of_ble_eq_true rfl) rfl (fun z8 σ9 hz8 => ?_)
    obtain ⟨rfl, hIσ9, hGσ9, q10_0, q10_1, q10_2, q10_3⟩ := hz8
    replace q10_0 : aX σ9 = tok (fX σ7) (aX σ7) := q10_0
    replace q10_1 : ¬ σ7 10 5 ≤ σ7 10 10 ∨ σ9 10 5 ≤ σ7 10 10 := q10_1
    have y12 : σ7 10 5 = σ 10 5 := (tw_ne1 eσ7 (by omega))
    have f13 : (0 : Int) ≤ σ 10 5 ∧ σ 10 5 ≤ 400 := hI 10 5
    have y14 : σ7 10 10 = σ 10 10 := (tw_ne1 eσ7 (by omega))
    have f15 : (0 : Int) ≤ σ 10 10 ∧ σ 10 10 ≤ 400 := hI 10 10
    replace q10_2 : ¬ σ7 10 5 ≤ σ7 10 10 ∨ ¬ σ9 10 11 = 0 ∨ ¬ σ9 10 6 = 0 ∨ σ9 10 7 = σ7 10 10 := q10_2
    have y16 : σ7 10 5 = σ 10 5 := (tw_ne1 eσ7 (by omega))
    have y17 : σ7 10 10 = σ 10 10 := (tw_ne1 eσ7 (by omega))
    replace q10_3 : ¬ σ9 10 11 = 0 ∨ (σ7 10 11 = 0 ∧ σ7 10 5 ≤ σ9 10 5 ∧ (σ9 10 6 = 0 ∨ σ7 10 5 < σ9 10 5)) := q10_3
    have y18 : σ7 10 11 = σ 10 11 := (tw_ne1 eσ7 (by omega))
    have f19 : (0 : Int) ≤ σ 10 11 ∧ σ 10 11 ≤ 5 := hI 10 11
    have y20 : σ7 10 5 = σ 10 5 := (tw_ne1 eσ7 (by omega))
    have hFσ9 : tw_F (fun c j => (c = 10 ∧ (j = 3 ∨ j = 5 ∨ j = 6 ∨ j = 7 ∨ j = 8 ∨ j = 11 ∨ j = 12)) ∨ (14 ≤ c ∧ c < 23)) σ σ9 := tw_F_tr hFσ7 hGσ9 (fun c j q => (show (c = 10 ∧ (j = 3 ∨ j = 5 ∨ j = 6 ∨ j = 7 ∨ j = 8 ∨ j = 11 ∨ j = 12)) ∨ (14 ≤ c ∧ c < 23) from by replace q : (c = 10 ∧ (j = 5 ∨ j = 6 ∨ j = 7 ∨ j = 8 ∨ j = 11 ∨ j = 12)) := q; omega))
    refine j_st (st' := []) rfl ?_
    have c3 := q10_0; rw [fz] at c3
    refine j_aload_n (pc := 36) dX9_ruleLine_36 rfl rfl ?_
    refine j_getR (pc := 37) (r := 14) fl_X9_25 dX9_ruleLine_37 (a_10 hX) rfl ?_
    refine j_getR (pc := 40) (r := 15) fl_X9_181 dX9_ruleLine_40 (a_14 hX) rfl ?_
    refine j_iload_n (pc := 43) dX9_ruleLine_43 rfl rfl ?_
    refine j_aload_n (pc := 44) dX9_ruleLine_44 rfl rfl ?_
    refine j_getsLeast (pc := 45) (tw_in (i := 753) (by decide +kernel) (by decide +kernel)) dX9_ruleLine_45 ?_
    refine j_iload_n (pc := 48) dX9_ruleLine_48 rfl rfl ?_
    refine j_tLeast (pc := 49) dX9_ruleLine_49 (by omega) (by omega) ?_
    have f21 : (-2147483648 : Int) ≤ (tw_least.getD n.toNat 0).toInt ∧ (tw_least.getD n.toNat 0).toInt ≤ 2147483647 := i32_in _
    refine j_getsMost (pc := 50) (tw_in (i := 755) (by decide +kernel) (by decide +kernel)) dX9_ruleLine_50 ?_
    refine j_iload_n (pc := 53) dX9_ruleLine_53 rfl rfl ?_
    refine j_tMost (pc := 54) dX9_ruleLine_54 (by omega) (by omega) ?_
    have f22 : (-2147483648 : Int) ≤ (tw_most.getD n.toNat 0).toInt ∧ (tw_most.getD n.toNat 0).toInt ≤ 2147483647 := i32_in _
    refine j_callV (pc := 55) (As := [vI ((tw_least.getD n.toNat 0).toInt), vI ((tw_most.getD n.toNat 0).toInt)]) (st := [vI n, vR 15]) (c_X9_number hX ((tw_least.getD n.toNat 0).toInt) ⟨by omega, by omega⟩ ((tw_most.getD n.toNat 0).toInt) ⟨by omega, by omega⟩ σ9 hIσ9 (lm_le _ (by omega))) mv_X9_152 rfl rfl rfl (a_10 hX) dX9_ruleLine_55 ⟨Nat.le_of_ble_eq_true rfl, Nat.le_of_ble_eq_true rfl⟩ ⟨Nat.le_refl _, Nat.le_refl _⟩ rfl (Nat.le_of_ble_eq_true rfl) rfl (fun z23 σ24 hz23 => ?_)
    obtain ⟨r26, rfl, hr26, hIσ24, hGσ24, q25_0, q25_1, q25_2, q25_3, q25_4, q25_5⟩ := hz23
    replace q25_0 : ((tw_least.getD n.toNat 0).toInt) ≤ r26 ∧ r26 ≤ ((tw_most.getD n.toNat 0).toInt) := q25_0
    replace q25_1 : aX σ24 = numS ((tw_least.getD n.toNat 0).toInt) ((tw_most.getD n.toNat 0).toInt) (aX σ9) := q25_1
    replace q25_2 : ¬ σ24 10 11 = 0 ∨ r26 = σ9 10 8 := q25_2
    replace q25_3 : ¬ σ24 10 11 = 0 ∨ σ9 10 11 = 0 := q25_3
    replace q25_4 : True ∨ σ9 10 6 = σ24 10 12 := q25_4
    replace q25_5 : ¬ σ24 10 11 = 0 ∨ σ9 10 6 = 2 := q25_5
    have hFσ24 : tw_F (fun c j => (c = 10 ∧ (j = 3 ∨ j = 5 ∨ j = 6 ∨ j = 7 ∨ j = 8 ∨ j = 11 ∨ j = 12)) ∨ (14 ≤ c ∧ c < 23)) σ σ24 := tw_F_tr hFσ9 hGσ24 (fun c j q => (show (c = 10 ∧ (j = 3 ∨ j = 5 ∨ j = 6 ∨ j = 7 ∨ j = 8 ∨ j = 11 ∨ j = 12)) ∨ (14 ≤ c ∧ c < 23) from by replace q : (c = 10 ∧ (j = 11 ∨ j = 12)) := q; omega))
    refine j_st (st' := [vI r26, vI n, vR 15]) rfl ?_
    have c4 := q25_1
    have v4 := aX_numv q25_1 ((hGσ24 10 6 (show ¬ ((10 = 10 ∧ (6 = 11 ∨ 6 = 12))) from by omega))) ((hGσ24 10 8 (show ¬ ((10 = 10 ∧ (8 = 11 ∨ 8 = 12))) from by omega))) q25_2
    refine j_iast (pc := 58) dX9_ruleLine_58 (a_15 hX) (by omega) (by omega) (by decide) (j_nm (fun σ27 (eσ27 : σ27 = tw_up σ24 15 (n.toNat) r26) => ?_))
    have hIσ27 : tw_I σ27 := tw_I_up hIσ24 eσ27  (show (bF tw_RB n.toNat).1 ≤ r26 ∧ r26 ≤ (bF tw_RB n.toNat).2 from by have x := lm_in (n.toNat) (by omega); omega)
    have hFσ27 : tw_F (fun c j => (c = 10 ∧ (j = 3 ∨ j = 5 ∨ j = 6 ∨ j = 7 ∨ j = 8 ∨ j = 11 ∨ j = 12)) ∨ (14 ≤ c ∧ c < 23)) σ σ27 := tw_F_up hFσ24 eσ27 (show (15 = 10 ∧ (n.toNat = 3 ∨ n.toNat = 5 ∨ n.toNat = 6 ∨ n.toNat = 7 ∨ n.toNat = 8 ∨ n.toNat = 11 ∨ n.toNat = 12)) ∨ (14 ≤ 15 ∧ 15 < 23) from by omega)
    have c5 := (aX_wr (i := 100 + n.toNat) eσ27 (by omega)).trans (wr_cg v4)
    refine j_aload_n (pc := 59) dX9_ruleLine_59 rfl rfl ?_
    have fz : fX σ27 = fX σ := fX_F (hFσ27 10 10 (show ¬ ((10 = 10 ∧ (10 = 3 ∨ 10 = 5 ∨ 10 = 6 ∨ 10 = 7 ∨ 10 = 8 ∨ 10 = 11 ∨ 10 = 12)) ∨ (14 ≤ 10 ∧ 10 < 23)) from by omega)) (fun j => hFσ27 11 j (show ¬ ((11 = 10 ∧ (j = 3 ∨ j = 5 ∨ j = 6 ∨ j = 7 ∨ j = 8 ∨ j = 11 ∨ j = 12)) ∨ (14 ≤ 11 ∧ 11 < 23)) from by omega))
    refine j_callV (pc := 60) (As := []) (st := []) (c_X9_advance hX σ27 hIσ27) mv_X9_45 rfl rfl rfl (a_10 hX) dX9_ruleLine_60 ⟨Nat.le_of_ble_eq_true rfl, Nat.le_of_ble_eq_true rfl⟩ ⟨Nat.le_refl _, Nat.le_refl _⟩ rfl (Nat.le_of_ble_eq_true rfl) rfl (fun z28 σ29 hz28 => ?_)
    obtain ⟨rfl, hIσ29, hGσ29, q30_0, q30_1, q30_2, q30_3⟩ := hz28
    replace q30_0 : aX σ29 = tok (fX σ27) (aX σ27) := q30_0
    replace q30_1 : ¬ σ27 10 5 ≤ σ27 10 10 ∨ σ29 10 5 ≤ σ27 10 10 := q30_1
    have y32 : σ27 10 5 = σ9 10 5 := ((tw_ne1 eσ27 (by omega))).trans (hGσ24 10 5 (show ¬ ((10 = 10 ∧ (5 = 11 ∨ 5 = 12))) from by omega))
    have f33 : (0 : Int) ≤ σ9 10 5 ∧ σ9 10 5 ≤ 400 := hIσ9 10 5
    have y34 : σ27 10 10 = σ 10 10 := ((((tw_ne1 eσ27 (by omega))).trans (hGσ24 10 10 (show ¬ ((10 = 10 ∧ (10 = 11 ∨ 10 = 12))) from by omega))).trans (hGσ9 10 10 (show ¬ ((10 = 10 ∧ (10 = 5 ∨ 10 = 6 ∨ 10 = 7 ∨ 10 = 8 ∨ 10 = 11 ∨ 10 = 12))) from by omega))).trans (tw_ne1 eσ7 (by omega))
    replace q30_2 : ¬ σ27 10 5 ≤ σ27 10 10 ∨ ¬ σ29 10 11 = 0 ∨ ¬ σ29 10 6 = 0 ∨ σ29 10 7 = σ27 10 10 := q30_2
    have y35 : σ27 10 5 = σ9 10 5 := ((tw_ne1 eσ27 (by omega))).trans (hGσ24 10 5 (show ¬ ((10 = 10 ∧ (5 = 11 ∨ 5 = 12))) from by omega))
    have y36 : σ27 10 10 = σ 10 10 := ((((tw_ne1 eσ27 (by omega))).trans (hGσ24 10 10 (show ¬ ((10 = 10 ∧ (10 = 11 ∨ 10 = 12))) from by omega))).trans (hGσ9 10 10 (show ¬ ((10 = 10 ∧ (10 = 5 ∨ 10 = 6 ∨ 10 = 7 ∨ 10 = 8 ∨ 10 = 11 ∨ 10 = 12))) from by omega))).trans (tw_ne1 eσ7 (by omega))
    replace q30_3 : ¬ σ29 10 11 = 0 ∨ (σ27 10 11 = 0 ∧ σ27 10 5 ≤ σ29 10 5 ∧ (σ29 10 6 = 0 ∨ σ27 10 5 < σ29 10 5)) := q30_3
    have y37 : σ27 10 11 = σ24 10 11 := (tw_ne1 eσ27 (by omega))
    have f38 : (0 : Int) ≤ σ24 10 11 ∧ σ24 10 11 ≤ 5 := hIσ24 10 11
    have y39 : σ27 10 5 = σ9 10 5 := ((tw_ne1 eσ27 (by omega))).trans (hGσ24 10 5 (show ¬ ((10 = 10 ∧ (5 = 11 ∨ 5 = 12))) from by omega))
    have hFσ29 : tw_F (fun c j => (c = 10 ∧ (j = 3 ∨ j = 5 ∨ j = 6 ∨ j = 7 ∨ j = 8 ∨ j = 11 ∨ j = 12)) ∨ (14 ≤ c ∧ c < 23)) σ σ29 := tw_F_tr hFσ27 hGσ29 (fun c j q => (show (c = 10 ∧ (j = 3 ∨ j = 5 ∨ j = 6 ∨ j = 7 ∨ j = 8 ∨ j = 11 ∨ j = 12)) ∨ (14 ≤ c ∧ c < 23) from by replace q : (c = 10 ∧ (j = 5 ∨ j = 6 ∨ j = 7 ∨ j = 8 ∨ j = 11 ∨ j = 12)) := q; omega))
    refine j_st (st' := []) rfl ?_
    have c6 := q30_0; rw [fz] at c6
    refine j_iload_n (pc := 63) dX9_ruleLine_63 rfl rfl ?_
    refine j_iconst (pc := 64) dX9_ruleLine_64 ?_
    refine j_icmpR_eq (pc := 65) (tgt := 69) ⟨by omega, by omega⟩ ⟨by omega, by omega⟩ dX9_ruleLine_65 rfl (fun h40 => ?_) (fun h40 => ?_)
    · refine j_aload_n (pc := 69) dX9_ruleLine_69 rfl rfl ?_
      refine j_getR (pc := 70) (r := 14) fl_X9_25 dX9_ruleLine_70 (a_10 hX) rfl ?_
      refine j_getR (pc := 73) (r := 15) fl_X9_181 dX9_ruleLine_73 (a_14 hX) rfl ?_
      refine j_bipush (pc := 76) dX9_ruleLine_76 rfl ?_
      refine j_aload_n (pc := 78) dX9_ruleLine_78 rfl rfl ?_
      refine j_getsLeast (pc := 79) (tw_in (i := 753) (by decide +kernel) (by decide +kernel)) dX9_ruleLine_79 ?_
      refine j_bipush (pc := 82) dX9_ruleLine_82 rfl ?_
      refine j_tLeast (pc := 84) dX9_ruleLine_84 (by omega) (by omega) ?_
      refine j_topV (show (tw_least.getD (Int.toNat 6) 0).toInt = (0 : Int) from by decide) ?_
      refine j_getsMost (pc := 85) (tw_in (i := 755) (by decide +kernel) (by decide +kernel)) dX9_ruleLine_85 ?_
      refine j_bipush (pc := 88) dX9_ruleLine_88 rfl ?_
      refine j_tMost (pc := 90) dX9_ruleLine_90 (by omega) (by omega) ?_
      refine j_topV (show (tw_most.getD (Int.toNat 6) 0).toInt = (20 : Int) from by decide) ?_
      refine j_callV (pc := 91) (As := [vI 0, vI 20]) (st := [vI 6, vR 15]) (c_X9_number hX 0 ⟨by omega, by omega⟩ 20 ⟨by omega, by omega⟩ σ29 hIσ29 (by omega)) mv_X9_152 rfl rfl rfl (a_10 hX) dX9_ruleLine_91 ⟨Nat.le_of_ble_eq_true rfl, Nat.le_of_ble_eq_true rfl⟩ ⟨Nat.le_refl _, Nat.le_refl _⟩ rfl (Nat.le_of_ble_eq_true rfl) rfl (fun z41 σ42 hz41 => ?_)
      obtain ⟨r44, rfl, hr44, hIσ42, hGσ42, q43_0, q43_1, q43_2, q43_3, q43_4, q43_5⟩ := hz41
      replace q43_0 : (0 : Int) ≤ r44 ∧ r44 ≤ (20 : Int) := q43_0
      replace q43_1 : aX σ42 = numS (0 : Int) (20 : Int) (aX σ29) := q43_1
      replace q43_2 : ¬ σ42 10 11 = 0 ∨ r44 = σ29 10 8 := q43_2
      replace q43_3 : ¬ σ42 10 11 = 0 ∨ σ29 10 11 = 0 := q43_3
      replace q43_4 : True ∨ σ29 10 6 = σ42 10 12 := q43_4
      replace q43_5 : ¬ σ42 10 11 = 0 ∨ σ29 10 6 = 2 := q43_5
      have hFσ42 : tw_F (fun c j => (c = 10 ∧ (j = 3 ∨ j = 5 ∨ j = 6 ∨ j = 7 ∨ j = 8 ∨ j = 11 ∨ j = 12)) ∨ (14 ≤ c ∧ c < 23)) σ σ42 := tw_F_tr hFσ29 hGσ42 (fun c j q => (show (c = 10 ∧ (j = 3 ∨ j = 5 ∨ j = 6 ∨ j = 7 ∨ j = 8 ∨ j = 11 ∨ j = 12)) ∨ (14 ≤ c ∧ c < 23) from by replace q : (c = 10 ∧ (j = 11 ∨ j = 12)) := q; omega))
      refine j_st (st' := [vI r44, vI 6, vR 15]) rfl ?_
      have c7 := q43_1
      have v7 := aX_numv q43_1 ((hGσ42 10 6 (show ¬ ((10 = 10 ∧ (6 = 11 ∨ 6 = 12))) from by omega))) ((hGσ42 10 8 (show ¬ ((10 = 10 ∧ (8 = 11 ∨ 8 = 12))) from by omega))) q43_2
      refine j_iast (pc := 94) dX9_ruleLine_94 (a_15 hX) (by omega) (by omega) (by decide) (j_nm (fun σ45 (eσ45 : σ45 = tw_up σ42 15 6 r44) => ?_))
      have hIσ45 : tw_I σ45 := tw_I_up hIσ42 eσ45 (show (0 : Int) ≤ r44 ∧ r44 ≤ 20 from ⟨by omega, by omega⟩)
      have hFσ45 : tw_F (fun c j => (c = 10 ∧ (j = 3 ∨ j = 5 ∨ j = 6 ∨ j = 7 ∨ j = 8 ∨ j = 11 ∨ j = 12)) ∨ (14 ≤ c ∧ c < 23)) σ σ45 := tw_F_up hFσ42 eσ45 (show (15 = 10 ∧ (6 = 3 ∨ 6 = 5 ∨ 6 = 6 ∨ 6 = 7 ∨ 6 = 8 ∨ 6 = 11 ∨ 6 = 12)) ∨ (14 ≤ 15 ∧ 15 < 23) from by omega)
      have c8 := (aX_wr (i := 106) eσ45 (by omega)).trans (wr_cg v7)
      refine j_aload_n (pc := 95) dX9_ruleLine_95 rfl rfl ?_
      have fz : fX σ45 = fX σ := fX_F (hFσ45 10 10 (show ¬ ((10 = 10 ∧ (10 = 3 ∨ 10 = 5 ∨ 10 = 6 ∨ 10 = 7 ∨ 10 = 8 ∨ 10 = 11 ∨ 10 = 12)) ∨ (14 ≤ 10 ∧ 10 < 23)) from by omega)) (fun j => hFσ45 11 j (show ¬ ((11 = 10 ∧ (j = 3 ∨ j = 5 ∨ j = 6 ∨ j = 7 ∨ j = 8 ∨ j = 11 ∨ j = 12)) ∨ (14 ≤ 11 ∧ 11 < 23)) from by omega))
      refine j_callV (pc := 96) (As := []) (st := []) (c_X9_advance hX σ45 hIσ45) mv_X9_45 rfl rfl rfl (a_10 hX) dX9_ruleLine_96 ⟨Nat.le_of_ble_eq_true rfl, Nat.le_of_ble_eq_true rfl⟩ ⟨Nat.le_refl _, Nat.le_refl _⟩ rfl (Nat.le_of_ble_eq_true rfl) rfl (fun z46 σ47 hz46 => ?_)
      obtain ⟨rfl, hIσ47, hGσ47, q48_0, q48_1, q48_2, q48_3⟩ := hz46
      replace q48_0 : aX σ47 = tok (fX σ45) (aX σ45) := q48_0
      replace q48_1 : ¬ σ45 10 5 ≤ σ45 10 10 ∨ σ47 10 5 ≤ σ45 10 10 := q48_1
      have y50 : σ45 10 5 = σ29 10 5 := ((tw_ne1 eσ45 (by omega))).trans (hGσ42 10 5 (show ¬ ((10 = 10 ∧ (5 = 11 ∨ 5 = 12))) from by omega))
      have f51 : (0 : Int) ≤ σ29 10 5 ∧ σ29 10 5 ≤ 400 := hIσ29 10 5
      have y52 : σ45 10 10 = σ 10 10 := (((((((tw_ne1 eσ45 (by omega))).trans (hGσ42 10 10 (show ¬ ((10 = 10 ∧ (10 = 11 ∨ 10 = 12))) from by omega))).trans (hGσ29 10 10 (show ¬ ((10 = 10 ∧ (10 = 5 ∨ 10 = 6 ∨ 10 = 7 ∨ 10 = 8 ∨ 10 = 11 ∨ 10 = 12))) from by omega))).trans (tw_ne1 eσ27 (by omega))).trans (hGσ24 10 10 (show ¬ ((10 = 10 ∧ (10 = 11 ∨ 10 = 12))) from by omega))).trans (hGσ9 10 10 (show ¬ ((10 = 10 ∧ (10 = 5 ∨ 10 = 6 ∨ 10 = 7 ∨ 10 = 8 ∨ 10 = 11 ∨ 10 = 12))) from by omega))).trans (tw_ne1 eσ7 (by omega))
      replace q48_2 : ¬ σ45 10 5 ≤ σ45 10 10 ∨ ¬ σ47 10 11 = 0 ∨ ¬ σ47 10 6 = 0 ∨ σ47 10 7 = σ45 10 10 := q48_2
      have y53 : σ45 10 5 = σ29 10 5 := ((tw_ne1 eσ45 (by omega))).trans (hGσ42 10 5 (show ¬ ((10 = 10 ∧ (5 = 11 ∨ 5 = 12))) from by omega))
      have y54 : σ45 10 10 = σ 10 10 := (((((((tw_ne1 eσ45 (by omega))).trans (hGσ42 10 10 (show ¬ ((10 = 10 ∧ (10 = 11 ∨ 10 = 12))) from by omega))).trans (hGσ29 10 10 (show ¬ ((10 = 10 ∧ (10 = 5 ∨ 10 = 6 ∨ 10 = 7 ∨ 10 = 8 ∨ 10 = 11 ∨ 10 = 12))) from by omega))).trans (tw_ne1 eσ27 (by omega))).trans (hGσ24 10 10 (show ¬ ((10 = 10 ∧ (10 = 11 ∨ 10 = 12))) from by omega))).trans (hGσ9 10 10 (show ¬ ((10 = 10 ∧ (10 = 5 ∨ 10 = 6 ∨ 10 = 7 ∨ 10 = 8 ∨ 10 = 11 ∨ 10 = 12))) from by omega))).trans (tw_ne1 eσ7 (by omega))
      replace q48_3 : ¬ σ47 10 11 = 0 ∨ (σ45 10 11 = 0 ∧ σ45 10 5 ≤ σ47 10 5 ∧ (σ47 10 6 = 0 ∨ σ45 10 5 < σ47 10 5)) := q48_3
      have y55 : σ45 10 11 = σ42 10 11 := (tw_ne1 eσ45 (by omega))
      have f56 : (0 : Int) ≤ σ42 10 11 ∧ σ42 10 11 ≤ 5 := hIσ42 10 11
      have y57 : σ45 10 5 = σ29 10 5 := ((tw_ne1 eσ45 (by omega))).trans (hGσ42 10 5 (show ¬ ((10 = 10 ∧ (5 = 11 ∨ 5 = 12))) from by omega))
      have hFσ47 : tw_F (fun c j => (c = 10 ∧ (j = 3 ∨ j = 5 ∨ j = 6 ∨ j = 7 ∨ j = 8 ∨ j = 11 ∨ j = 12)) ∨ (14 ≤ c ∧ c < 23)) σ σ47 := tw_F_tr hFσ45 hGσ47 (fun c j q => (show (c = 10 ∧ (j = 3 ∨ j = 5 ∨ j = 6 ∨ j = 7 ∨ j = 8 ∨ j = 11 ∨ j = 12)) ∨ (14 ≤ c ∧ c < 23) from by replace q : (c = 10 ∧ (j = 5 ∨ j = 6 ∨ j = 7 ∨ j = 8 ∨ j = 11 ∨ j = 12)) := q; omega))
      refine j_st (st' := []) rfl ?_
      have c9 := q48_0; rw [fz] at c9
      exact j_vret (pc := 99) ⟨rfl, rfl⟩ dX9_ruleLine_99 rfl ⟨rfl, hIσ47, hFσ47, (by first | exact ruleX_of5 c1 c2 c3 c4 c5 c6 (by omega) c7 c8 c9 | exact ruleX_of c1 c2 c3 c4 c5 c6 (by omega)), by omega, by omega⟩
    · exact j_vret (pc := 68) ⟨rfl, rfl⟩ dX9_ruleLine_68 rfl ⟨rfl, hIσ29, hFσ29, (by first | exact ruleX_of5 c1 c2 c3 c4 c5 c6 (by omega) c7 c8 c9 | exact ruleX_of c1 c2 c3 c4 c5 c6 (by omega)), by omega, by omega⟩
  · refine j_aload_n (pc := 11) dX9_ruleLine_11 rfl rfl ?_
    refine j_iconst (pc := 12) dX9_ruleLine_12 ?_
    refine j_aload_n (pc := 13) dX9_ruleLine_13 rfl rfl ?_
    refine j_getI (pc := 14) fl_X9_76 dX9_ruleLine_14 (a_10 hX) rfl ?_
    have f58 : (0 : Int) ≤ σ 10 7 ∧ σ 10 7 ≤ 400 := hI 10 7
    refine j_callV (pc := 17) (As := [vI 4, vI (σ 10 7)]) (st := []) (c_X9_fail hX 4 ⟨by omega, by omega⟩ (σ 10 7) ⟨by omega, by omega⟩ σ hI) mv_X9_61 rfl rfl rfl (a_10 hX) dX9_ruleLine_17 ⟨Nat.le_of_ble_eq_true rfl, Nat.le_of_ble_eq_true rfl⟩ ⟨Nat.le_refl _, Nat.le_refl _⟩ rfl (Nat.le_of_ble_eq_true rfl) rfl (fun z59 σ60 hz59 => ?_)
    obtain ⟨rfl, hIσ60, hGσ60, q61_0⟩ := hz59
    replace q61_0 : (σ 10 11 = 0 ∧ σ60 10 11 = (4 : Int) ∧ σ60 10 12 = (σ 10 7)) ∨ (¬ σ 10 11 = 0 ∧ σ60 10 11 = σ 10 11 ∧ σ60 10 12 = σ 10 12) := q61_0
    have hFσ60 : tw_F (fun c j => (c = 10 ∧ (j = 3 ∨ j = 5 ∨ j = 6 ∨ j = 7 ∨ j = 8 ∨ j = 11 ∨ j = 12)) ∨ (14 ≤ c ∧ c < 23)) σ σ60 := tw_F_tr (tw_F_rf) hGσ60 (fun c j q => (show (c = 10 ∧ (j = 3 ∨ j = 5 ∨ j = 6 ∨ j = 7 ∨ j = 8 ∨ j = 11 ∨ j = 12)) ∨ (14 ≤ c ∧ c < 23) from by replace q : (c = 10 ∧ (j = 11 ∨ j = 12)) := q; omega))
    refine j_st (st' := []) rfl ?_
    have c1 := aX_need (σ := σ) (τ := σ60) (c := 4) (by decide) (fun h0 => bit_f h0 b2 (by omega)) (by omega)
    refine j_aload_n (pc := 20) dX9_ruleLine_20 rfl rfl ?_
    refine j_dup (pc := 21) dX9_ruleLine_21 rfl ?_
    refine j_getI (pc := 22) fl_X9_66 dX9_ruleLine_22 (a_10 hX) rfl ?_
    refine j_topV (show σ60 10 3 = σ 10 3 from (hGσ60 10 3 (show ¬ ((10 = 10 ∧ (3 = 11 ∨ 3 = 12))) from by omega))) ?_
    refine j_iconst (pc := 25) dX9_ruleLine_25 ?_
    refine j_iload_n (pc := 26) dX9_ruleLine_26 rfl rfl ?_
    refine j_ishl (pc := 27) dX9_ruleLine_27 (fun z63 ez63 => ?_)
    have hz63 : (-2147483648 : Int) ≤ z63 ∧ z63 ≤ 2147483647 := by rw [ez63]; exact shl_in _ _
    have s1 := ez63
    refine j_ior (pc := 28) dX9_ruleLine_28 (fun z64 ez64 => ?_)
    have hz64 : (-2147483648 : Int) ≤ z64 ∧ z64 ≤ 2147483647 := by rw [ez64]; exact or_in _ _
    have s2 := ez64; rw [s1] at s2
    refine j_putI (pc := 29) fl_X9_66 fp_X9_3 dX9_ruleLine_29 (a_10 hX) rfl (j_nm (fun σ65 (eσ65 : σ65 = tw_up σ60 10 3 z64) => ?_))
    have hIσ65 : tw_I σ65 := tw_I_up hIσ60 eσ65 (show (-2147483648 : Int) ≤ z64 ∧ z64 ≤ 2147483647 from ⟨by omega, by omega⟩)
    have hFσ65 : tw_F (fun c j => (c = 10 ∧ (j = 3 ∨ j = 5 ∨ j = 6 ∨ j = 7 ∨ j = 8 ∨ j = 11 ∨ j = 12)) ∨ (14 ≤ c ∧ c < 23)) σ σ65 := tw_F_up hFσ60 eσ65 (show (10 = 10 ∧ (3 = 3 ∨ 3 = 5 ∨ 3 = 6 ∨ 3 = 7 ∨ 3 = 8 ∨ 3 = 11 ∨ 3 = 12)) ∨ (14 ≤ 10 ∧ 10 < 23) from by omega)
    have c2 := (aX_wr (i := 6) eσ65 (by omega)).trans (wr_cg (fun h4 => bit_w (σ := σ) (by rw [aX_4] at h4; omega) s2))
    refine j_aload_n (pc := 32) dX9_ruleLine_32 rfl rfl ?_
    have fz : fX σ65 = fX σ := fX_F (hFσ65 10 10 (show ¬ ((10 = 10 ∧ (10 = 3 ∨ 10 = 5 ∨ 10 = 6 ∨ 10 = 7 ∨ 10 = 8 ∨ 10 = 11 ∨ 10 = 12)) ∨ (14 ≤ 10 ∧ 10 < 23)) from by omega)) (fun j => hFσ65 11 j (show ¬ ((11 = 10 ∧ (j = 3 ∨ j = 5 ∨ j = 6 ∨ j = 7 ∨ j = 8 ∨ j = 11 ∨ j = 12)) ∨ (14 ≤ 11 ∧ 11 < 23)) from by omega))
    refine j_callV (pc := 33) (As := []) (st := []) (c_X9_advance hX σ65 hIσ65) mv_X9_45 rfl rfl rfl (a_10 hX) dX9_ruleLine_33 ⟨Nat.le_of_ble_eq_true rfl, Nat.le_of_ble_eq_true rfl⟩ ⟨Nat.le_refl _, Nat.le_refl _⟩ rfl (Nat.le_of_ble_eq_true rfl) rfl (fun z66 σ67 hz66 => ?_)
    obtain ⟨rfl, hIσ67, hGσ67, q68_0, q68_1, q68_2, q68_3⟩ := hz66
    replace q68_0 : aX σ67 = tok (fX σ65) (aX σ65) := q68_0
    replace q68_1 : ¬ σ65 10 5 ≤ σ65 10 10 ∨ σ67 10 5 ≤ σ65 10 10 := q68_1
    have y70 : σ65 10 5 = σ 10 5 := ((tw_ne1 eσ65 (by omega))).trans (hGσ60 10 5 (show ¬ ((10 = 10 ∧ (5 = 11 ∨ 5 = 12))) from by omega))
    have f71 : (0 : Int) ≤ σ 10 5 ∧ σ 10 5 ≤ 400 := hI 10 5
    have y72 : σ65 10 10 = σ 10 10 := ((tw_ne1 eσ65 (by omega))).trans (hGσ60 10 10 (show ¬ ((10 = 10 ∧ (10 = 11 ∨ 10 = 12))) from by omega))
    have f73 : (0 : Int) ≤ σ 10 10 ∧ σ 10 10 ≤ 400 := hI 10 10
    replace q68_2 : ¬ σ65 10 5 ≤ σ65 10 10 ∨ ¬ σ67 10 11 = 0 ∨ ¬ σ67 10 6 = 0 ∨ σ67 10 7 = σ65 10 10 := q68_2
    have y74 : σ65 10 5 = σ 10 5 := ((tw_ne1 eσ65 (by omega))).trans (hGσ60 10 5 (show ¬ ((10 = 10 ∧ (5 = 11 ∨ 5 = 12))) from by omega))
    have y75 : σ65 10 10 = σ 10 10 := ((tw_ne1 eσ65 (by omega))).trans (hGσ60 10 10 (show ¬ ((10 = 10 ∧ (10 = 11 ∨ 10 = 12))) from by omega))
    replace q68_3 : ¬ σ67 10 11 = 0 ∨ (σ65 10 11 = 0 ∧ σ65 10 5 ≤ σ67 10 5 ∧ (σ67 10 6 = 0 ∨ σ65 10 5 < σ67 10 5)) := q68_3
    have y76 : σ65 10 11 = σ60 10 11 := (tw_ne1 eσ65 (by omega))
    have f77 : (0 : Int) ≤ σ60 10 11 ∧ σ60 10 11 ≤ 5 := hIσ60 10 11
    have y78 : σ65 10 5 = σ 10 5 := ((tw_ne1 eσ65 (by omega))).trans (hGσ60 10 5 (show ¬ ((10 = 10 ∧ (5 = 11 ∨ 5 = 12))) from by omega))
    have hFσ67 : tw_F (fun c j => (c = 10 ∧ (j = 3 ∨ j = 5 ∨ j = 6 ∨ j = 7 ∨ j = 8 ∨ j = 11 ∨ j = 12)) ∨ (14 ≤ c ∧ c < 23)) σ σ67 := tw_F_tr hFσ65 hGσ67 (fun c j q => (show (c = 10 ∧ (j = 3 ∨ j = 5 ∨ j = 6 ∨ j = 7 ∨ j = 8 ∨ j = 11 ∨ j = 12)) ∨ (14 ≤ c ∧ c < 23) from by replace q : (c = 10 ∧ (j = 5 ∨ j = 6 ∨ j = 7 ∨ j = 8 ∨ j = 11 ∨ j = 12)) := q; omega))
    refine j_st (st' := []) rfl ?_
    have c3 := q68_0; rw [fz] at c3
    refine j_aload_n (pc := 36) dX9_ruleLine_36 rfl rfl ?_
    refine j_getR (pc := 37) (r := 14) fl_X9_25 dX9_ruleLine_37 (a_10 hX) rfl ?_
    refine j_getR (pc := 40) (r := 15) fl_X9_181 dX9_ruleLine_40 (a_14 hX) rfl ?_
    refine j_iload_n (pc := 43) dX9_ruleLine_43 rfl rfl ?_
    refine j_aload_n (pc := 44) dX9_ruleLine_44 rfl rfl ?_
    refine j_getsLeast (pc := 45) (tw_in (i := 753) (by decide +kernel) (by decide +kernel)) dX9_ruleLine_45 ?_
    refine j_iload_n (pc := 48) dX9_ruleLine_48 rfl rfl ?_
    refine j_tLeast (pc := 49) dX9_ruleLine_49 (by omega) (by omega) ?_
    have f79 : (-2147483648 : Int) ≤ (tw_least.getD n.toNat 0).toInt ∧ (tw_least.getD n.toNat 0).toInt ≤ 2147483647 := i32_in _
    refine j_getsMost (pc := 50) (tw_in (i := 755) (by decide +kernel) (by decide +kernel)) dX9_ruleLine_50 ?_
    refine j_iload_n (pc := 53) dX9_ruleLine_53 rfl rfl ?_
    refine j_tMost (pc := 54) dX9_ruleLine_54 (by omega) (by omega) ?_
    have f80 : (-2147483648 : Int) ≤ (tw_most.getD n.toNat 0).toInt ∧ (tw_most.getD n.toNat 0).toInt ≤ 2147483647 := i32_in _
    refine j_callV (pc := 55) (As := [vI ((tw_least.getD n.toNat 0).toInt), vI ((tw_most.getD n.toNat 0).toInt)]) (st := [vI n, vR 15]) (c_X9_number hX ((tw_least.getD n.toNat 0).toInt) ⟨by omega, by omega⟩ ((tw_most.getD n.toNat 0).toInt) ⟨by omega, by omega⟩ σ67 hIσ67 (lm_le _ (by omega))) mv_X9_152 rfl rfl rfl (a_10 hX) dX9_ruleLine_55 ⟨Nat.le_of_ble_eq_true rfl, Nat.le_of_ble_eq_true rfl⟩ ⟨Nat.le_refl _, Nat.le_refl _⟩ rfl (Nat.le_of_ble_eq_true rfl) rfl (fun z81 σ82 hz81 => ?_)
    obtain ⟨r84, rfl, hr84, hIσ82, hGσ82, q83_0, q83_1, q83_2, q83_3, q83_4, q83_5⟩ := hz81
    replace q83_0 : ((tw_least.getD n.toNat 0).toInt) ≤ r84 ∧ r84 ≤ ((tw_most.getD n.toNat 0).toInt) := q83_0
    replace q83_1 : aX σ82 = numS ((tw_least.getD n.toNat 0).toInt) ((tw_most.getD n.toNat 0).toInt) (aX σ67) := q83_1
    replace q83_2 : ¬ σ82 10 11 = 0 ∨ r84 = σ67 10 8 := q83_2
    replace q83_3 : ¬ σ82 10 11 = 0 ∨ σ67 10 11 = 0 := q83_3
    replace q83_4 : True ∨ σ67 10 6 = σ82 10 12 := q83_4
    replace q83_5 : ¬ σ82 10 11 = 0 ∨ σ67 10 6 = 2 := q83_5
    have hFσ82 : tw_F (fun c j => (c = 10 ∧ (j = 3 ∨ j = 5 ∨ j = 6 ∨ j = 7 ∨ j = 8 ∨ j = 11 ∨ j = 12)) ∨ (14 ≤ c ∧ c < 23)) σ σ82 := tw_F_tr hFσ67 hGσ82 (fun c j q => (show (c = 10 ∧ (j = 3 ∨ j = 5 ∨ j = 6 ∨ j = 7 ∨ j = 8 ∨ j = 11 ∨ j = 12)) ∨ (14 ≤ c ∧ c < 23) from by replace q : (c = 10 ∧ (j = 11 ∨ j = 12)) := q; omega))
    refine j_st (st' := [vI r84, vI n, vR 15]) rfl ?_
    have c4 := q83_1
    have v4 := aX_numv q83_1 ((hGσ82 10 6 (show ¬ ((10 = 10 ∧ (6 = 11 ∨ 6 = 12))) from by omega))) ((hGσ82 10 8 (show ¬ ((10 = 10 ∧ (8 = 11 ∨ 8 = 12))) from by omega))) q83_2
    refine j_iast (pc := 58) dX9_ruleLine_58 (a_15 hX) (by omega) (by omega) (by decide) (j_nm (fun σ85 (eσ85 : σ85 = tw_up σ82 15 (n.toNat) r84) => ?_))
    have hIσ85 : tw_I σ85 := tw_I_up hIσ82 eσ85  (show (bF tw_RB n.toNat).1 ≤ r84 ∧ r84 ≤ (bF tw_RB n.toNat).2 from by have x := lm_in (n.toNat) (by omega); omega)
    have hFσ85 : tw_F (fun c j => (c = 10 ∧ (j = 3 ∨ j = 5 ∨ j = 6 ∨ j = 7 ∨ j = 8 ∨ j = 11 ∨ j = 12)) ∨ (14 ≤ c ∧ c < 23)) σ σ85 := tw_F_up hFσ82 eσ85 (show (15 = 10 ∧ (n.toNat = 3 ∨ n.toNat = 5 ∨ n.toNat = 6 ∨ n.toNat = 7 ∨ n.toNat = 8 ∨ n.toNat = 11 ∨ n.toNat = 12)) ∨ (14 ≤ 15 ∧ 15 < 23) from by omega)
    have c5 := (aX_wr (i := 100 + n.toNat) eσ85 (by omega)).trans (wr_cg v4)
    refine j_aload_n (pc := 59) dX9_ruleLine_59 rfl rfl ?_
    have fz : fX σ85 = fX σ := fX_F (hFσ85 10 10 (show ¬ ((10 = 10 ∧ (10 = 3 ∨ 10 = 5 ∨ 10 = 6 ∨ 10 = 7 ∨ 10 = 8 ∨ 10 = 11 ∨ 10 = 12)) ∨ (14 ≤ 10 ∧ 10 < 23)) from by omega)) (fun j => hFσ85 11 j (show ¬ ((11 = 10 ∧ (j = 3 ∨ j = 5 ∨ j = 6 ∨ j = 7 ∨ j = 8 ∨ j = 11 ∨ j = 12)) ∨ (14 ≤ 11 ∧ 11 < 23)) from by omega))
    refine j_callV (pc := 60) (As := []) (st := []) (c_X9_advance hX σ85 hIσ85) mv_X9_45 rfl rfl rfl (a_10 hX) dX9_ruleLine_60 ⟨Nat.le_of_ble_eq_true rfl, Nat.le_of_ble_eq_true rfl⟩ ⟨Nat.le_refl _, Nat.le_refl _⟩ rfl (Nat.le_of_ble_eq_true rfl) rfl (fun z86 σ87 hz86 => ?_)
    obtain ⟨rfl, hIσ87, hGσ87, q88_0, q88_1, q88_2, q88_3⟩ := hz86
    replace q88_0 : aX σ87 = tok (fX σ85) (aX σ85) := q88_0
    replace q88_1 : ¬ σ85 10 5 ≤ σ85 10 10 ∨ σ87 10 5 ≤ σ85 10 10 := q88_1
    have y90 : σ85 10 5 = σ67 10 5 := ((tw_ne1 eσ85 (by omega))).trans (hGσ82 10 5 (show ¬ ((10 = 10 ∧ (5 = 11 ∨ 5 = 12))) from by omega))
    have f91 : (0 : Int) ≤ σ67 10 5 ∧ σ67 10 5 ≤ 400 := hIσ67 10 5
    have y92 : σ85 10 10 = σ 10 10 := (((((tw_ne1 eσ85 (by omega))).trans (hGσ82 10 10 (show ¬ ((10 = 10 ∧ (10 = 11 ∨ 10 = 12))) from by omega))).trans (hGσ67 10 10 (show ¬ ((10 = 10 ∧ (10 = 5 ∨ 10 = 6 ∨ 10 = 7 ∨ 10 = 8 ∨ 10 = 11 ∨ 10 = 12))) from by omega))).trans (tw_ne1 eσ65 (by omega))).trans (hGσ60 10 10 (show ¬ ((10 = 10 ∧ (10 = 11 ∨ 10 = 12))) from by omega))
    replace q88_2 : ¬ σ85 10 5 ≤ σ85 10 10 ∨ ¬ σ87 10 11 = 0 ∨ ¬ σ87 10 6 = 0 ∨ σ87 10 7 = σ85 10 10 := q88_2
    have y93 : σ85 10 5 = σ67 10 5 := ((tw_ne1 eσ85 (by omega))).trans (hGσ82 10 5 (show ¬ ((10 = 10 ∧ (5 = 11 ∨ 5 = 12))) from by omega))
    have y94 : σ85 10 10 = σ 10 10 := (((((tw_ne1 eσ85 (by omega))).trans (hGσ82 10 10 (show ¬ ((10 = 10 ∧ (10 = 11 ∨ 10 = 12))) from by omega))).trans (hGσ67 10 10 (show ¬ ((10 = 10 ∧ (10 = 5 ∨ 10 = 6 ∨ 10 = 7 ∨ 10 = 8 ∨ 10 = 11 ∨ 10 = 12))) from by omega))).trans (tw_ne1 eσ65 (by omega))).trans (hGσ60 10 10 (show ¬ ((10 = 10 ∧ (10 = 11 ∨ 10 = 12))) from by omega))
    replace q88_3 : ¬ σ87 10 11 = 0 ∨ (σ85 10 11 = 0 ∧ σ85 10 5 ≤ σ87 10 5 ∧ (σ87 10 6 = 0 ∨ σ85 10 5 < σ87 10 5)) := q88_3
    have y95 : σ85 10 11 = σ82 10 11 := (tw_ne1 eσ85 (by omega))
    have f96 : (0 : Int) ≤ σ82 10 11 ∧ σ82 10 11 ≤ 5 := hIσ82 10 11
    have y97 : σ85 10 5 = σ67 10 5 := ((tw_ne1 eσ85 (by omega))).trans (hGσ82 10 5 (show ¬ ((10 = 10 ∧ (5 = 11 ∨ 5 = 12))) from by omega))
    have hFσ87 : tw_F (fun c j => (c = 10 ∧ (j = 3 ∨ j = 5 ∨ j = 6 ∨ j = 7 ∨ j = 8 ∨ j = 11 ∨ j = 12)) ∨ (14 ≤ c ∧ c < 23)) σ σ87 := tw_F_tr hFσ85 hGσ87 (fun c j q => (show (c = 10 ∧ (j = 3 ∨ j = 5 ∨ j = 6 ∨ j = 7 ∨ j = 8 ∨ j = 11 ∨ j = 12)) ∨ (14 ≤ c ∧ c < 23) from by replace q : (c = 10 ∧ (j = 5 ∨ j = 6 ∨ j = 7 ∨ j = 8 ∨ j = 11 ∨ j = 12)) := q; omega))
    refine j_st (st' := []) rfl ?_
    have c6 := q88_0; rw [fz] at c6
    refine j_iload_n (pc := 63) dX9_ruleLine_63 rfl rfl ?_
    refine j_iconst (pc := 64) dX9_ruleLine_64 ?_
    refine j_icmpR_eq (pc := 65) (tgt := 69) ⟨by omega, by omega⟩ ⟨by omega, by omega⟩ dX9_ruleLine_65 rfl (fun h98 => ?_) (fun h98 => ?_)
    · refine j_aload_n (pc := 69) dX9_ruleLine_69 rfl rfl ?_
      refine j_getR (pc := 70) (r := 14) fl_X9_25 dX9_ruleLine_70 (a_10 hX) rfl ?_
      refine j_getR (pc := 73) (r := 15) fl_X9_181 dX9_ruleLine_73 (a_14 hX) rfl ?_
      refine j_bipush (pc := 76) dX9_ruleLine_76 rfl ?_
      refine j_aload_n (pc := 78) dX9_ruleLine_78 rfl rfl ?_
      refine j_getsLeast (pc := 79) (tw_in (i := 753) (by decide +kernel) (by decide +kernel)) dX9_ruleLine_79 ?_
      refine j_bipush (pc := 82) dX9_ruleLine_82 rfl ?_
      refine j_tLeast (pc := 84) dX9_ruleLine_84 (by omega) (by omega) ?_
      refine j_topV (show (tw_least.getD (Int.toNat 6) 0).toInt = (0 : Int) from by decide) ?_
      refine j_getsMost (pc := 85) (tw_in (i := 755) (by decide +kernel) (by decide +kernel)) dX9_ruleLine_85 ?_
      refine j_bipush (pc := 88) dX9_ruleLine_88 rfl ?_
      refine j_tMost (pc := 90) dX9_ruleLine_90 (by omega) (by omega) ?_
      refine j_topV (show (tw_most.getD (Int.toNat 6) 0).toInt = (20 : Int) from by decide) ?_
      refine j_callV (pc := 91) (As := [vI 0, vI 20]) (st := [vI 6, vR 15]) (c_X9_number hX 0 ⟨by omega, by omega⟩ 20 ⟨by omega, by omega⟩ σ87 hIσ87 (by omega)) mv_X9_152 rfl rfl rfl (a_10 hX) dX9_ruleLine_91 ⟨Nat.le_of_ble_eq_true rfl, Nat.le_of_ble_eq_true rfl⟩ ⟨Nat.le_refl _, Nat.le_refl _⟩ rfl (Nat.le_of_ble_eq_true rfl) rfl (fun z99 σ100 hz99 => ?_)
      obtain ⟨r102, rfl, hr102, hIσ100, hGσ100, q101_0, q101_1, q101_2, q101_3, q101_4, q101_5⟩ := hz99
      replace q101_0 : (0 : Int) ≤ r102 ∧ r102 ≤ (20 : Int) := q101_0
      replace q101_1 : aX σ100 = numS (0 : Int) (20 : Int) (aX σ87) := q101_1
      replace q101_2 : ¬ σ100 10 11 = 0 ∨ r102 = σ87 10 8 := q101_2
      replace q101_3 : ¬ σ100 10 11 = 0 ∨ σ87 10 11 = 0 := q101_3
      replace q101_4 : True ∨ σ87 10 6 = σ100 10 12 := q101_4
      replace q101_5 : ¬ σ100 10 11 = 0 ∨ σ87 10 6 = 2 := q101_5
      have hFσ100 : tw_F (fun c j => (c = 10 ∧ (j = 3 ∨ j = 5 ∨ j = 6 ∨ j = 7 ∨ j = 8 ∨ j = 11 ∨ j = 12)) ∨ (14 ≤ c ∧ c < 23)) σ σ100 := tw_F_tr hFσ87 hGσ100 (fun c j q => (show (c = 10 ∧ (j = 3 ∨ j = 5 ∨ j = 6 ∨ j = 7 ∨ j = 8 ∨ j = 11 ∨ j = 12)) ∨ (14 ≤ c ∧ c < 23) from by replace q : (c = 10 ∧ (j = 11 ∨ j = 12)) := q; omega))
      refine j_st (st' := [vI r102, vI 6, vR 15]) rfl ?_
      have c7 := q101_1
      have v7 := aX_numv q101_1 ((hGσ100 10 6 (show ¬ ((10 = 10 ∧ (6 = 11 ∨ 6 = 12))) from by omega))) ((hGσ100 10 8 (show ¬ ((10 = 10 ∧ (8 = 11 ∨ 8 = 12))) from by omega))) q101_2
      refine j_iast (pc := 94) dX9_ruleLine_94 (a_15 hX) (by omega) (by omega) (by decide) (j_nm (fun σ103 (eσ103 : σ103 = tw_up σ100 15 6 r102) => ?_))
      have hIσ103 : tw_I σ103 := tw_I_up hIσ100 eσ103 (show (0 : Int) ≤ r102 ∧ r102 ≤ 20 from ⟨by omega, by omega⟩)
      have hFσ103 : tw_F (fun c j => (c = 10 ∧ (j = 3 ∨ j = 5 ∨ j = 6 ∨ j = 7 ∨ j = 8 ∨ j = 11 ∨ j = 12)) ∨ (14 ≤ c ∧ c < 23)) σ σ103 := tw_F_up hFσ100 eσ103 (show (15 = 10 ∧ (6 = 3 ∨ 6 = 5 ∨ 6 = 6 ∨ 6 = 7 ∨ 6 = 8 ∨ 6 = 11 ∨ 6 = 12)) ∨ (14 ≤ 15 ∧ 15 < 23) from by omega)
      have c8 := (aX_wr (i := 106) eσ103 (by omega)).trans (wr_cg v7)
      refine j_aload_n (pc := 95) dX9_ruleLine_95 rfl rfl ?_
      have fz : fX σ103 = fX σ := fX_F (hFσ103 10 10 (show ¬ ((10 = 10 ∧ (10 = 3 ∨ 10 = 5 ∨ 10 = 6 ∨ 10 = 7 ∨ 10 = 8 ∨ 10 = 11 ∨ 10 = 12)) ∨ (14 ≤ 10 ∧ 10 < 23)) from by omega)) (fun j => hFσ103 11 j (show ¬ ((11 = 10 ∧ (j = 3 ∨ j = 5 ∨ j = 6 ∨ j = 7 ∨ j = 8 ∨ j = 11 ∨ j = 12)) ∨ (14 ≤ 11 ∧ 11 < 23)) from by omega))
      refine j_callV (pc := 96) (As := []) (st := []) (c_X9_advance hX σ103 hIσ103) mv_X9_45 rfl rfl rfl (a_10 hX) dX9_ruleLine_96 ⟨Nat.le_of_ble_eq_true rfl, Nat.le_of_ble_eq_true rfl⟩ ⟨Nat.le_refl _, Nat.le_refl _⟩ rfl (Nat.le_of_ble_eq_true rfl) rfl (fun z104 σ105 hz104 => ?_)
      obtain ⟨rfl, hIσ105, hGσ105, q106_0, q106_1, q106_2, q106_3⟩ := hz104
      replace q106_0 : aX σ105 = tok (fX σ103) (aX σ103) := q106_0
      replace q106_1 : ¬ σ103 10 5 ≤ σ103 10 10 ∨ σ105 10 5 ≤ σ103 10 10 := q106_1
      have y108 : σ103 10 5 = σ87 10 5 := ((tw_ne1 eσ103 (by omega))).trans (hGσ100 10 5 (show ¬ ((10 = 10 ∧ (5 = 11 ∨ 5 = 12))) from by omega))
      have f109 : (0 : Int) ≤ σ87 10 5 ∧ σ87 10 5 ≤ 400 := hIσ87 10 5
      have y110 : σ103 10 10 = σ 10 10 := ((((((((tw_ne1 eσ103 (by omega))).trans (hGσ100 10 10 (show ¬ ((10 = 10 ∧ (10 = 11 ∨ 10 = 12))) from by omega))).trans (hGσ87 10 10 (show ¬ ((10 = 10 ∧ (10 = 5 ∨ 10 = 6 ∨ 10 = 7 ∨ 10 = 8 ∨ 10 = 11 ∨ 10 = 12))) from by omega))).trans (tw_ne1 eσ85 (by omega))).trans (hGσ82 10 10 (show ¬ ((10 = 10 ∧ (10 = 11 ∨ 10 = 12))) from by omega))).trans (hGσ67 10 10 (show ¬ ((10 = 10 ∧ (10 = 5 ∨ 10 = 6 ∨ 10 = 7 ∨ 10 = 8 ∨ 10 = 11 ∨ 10 = 12))) from by omega))).trans (tw_ne1 eσ65 (by omega))).trans (hGσ60 10 10 (show ¬ ((10 = 10 ∧ (10 = 11 ∨ 10 = 12))) from by omega))
      replace q106_2 : ¬ σ103 10 5 ≤ σ103 10 10 ∨ ¬ σ105 10 11 = 0 ∨ ¬ σ105 10 6 = 0 ∨ σ105 10 7 = σ103 10 10 := q106_2
      have y111 : σ103 10 5 = σ87 10 5 := ((tw_ne1 eσ103 (by omega))).trans (hGσ100 10 5 (show ¬ ((10 = 10 ∧ (5 = 11 ∨ 5 = 12))) from by omega))
      have y112 : σ103 10 10 = σ 10 10 := ((((((((tw_ne1 eσ103 (by omega))).trans (hGσ100 10 10 (show ¬ ((10 = 10 ∧ (10 = 11 ∨ 10 = 12))) from by omega))).trans (hGσ87 10 10 (show ¬ ((10 = 10 ∧ (10 = 5 ∨ 10 = 6 ∨ 10 = 7 ∨ 10 = 8 ∨ 10 = 11 ∨ 10 = 12))) from by omega))).trans (tw_ne1 eσ85 (by omega))).trans (hGσ82 10 10 (show ¬ ((10 = 10 ∧ (10 = 11 ∨ 10 = 12))) from by omega))).trans (hGσ67 10 10 (show ¬ ((10 = 10 ∧ (10 = 5 ∨ 10 = 6 ∨ 10 = 7 ∨ 10 = 8 ∨ 10 = 11 ∨ 10 = 12))) from by omega))).trans (tw_ne1 eσ65 (by omega))).trans (hGσ60 10 10 (show ¬ ((10 = 10 ∧ (10 = 11 ∨ 10 = 12))) from by omega))
      replace q106_3 : ¬ σ105 10 11 = 0 ∨ (σ103 10 11 = 0 ∧ σ103 10 5 ≤ σ105 10 5 ∧ (σ105 10 6 = 0 ∨ σ103 10 5 < σ105 10 5)) := q106_3
      have y113 : σ103 10 11 = σ100 10 11 := (tw_ne1 eσ103 (by omega))
      have f114 : (0 : Int) ≤ σ100 10 11 ∧ σ100 10 11 ≤ 5 := hIσ100 10 11
      have y115 : σ103 10 5 = σ87 10 5 := ((tw_ne1 eσ103 (by omega))).trans (hGσ100 10 5 (show ¬ ((10 = 10 ∧ (5 = 11 ∨ 5 = 12))) from by omega))
      have hFσ105 : tw_F (fun c j => (c = 10 ∧ (j = 3 ∨ j = 5 ∨ j = 6 ∨ j = 7 ∨ j = 8 ∨ j = 11 ∨ j = 12)) ∨ (14 ≤ c ∧ c < 23)) σ σ105 := tw_F_tr hFσ103 hGσ105 (fun c j q => (show (c = 10 ∧ (j = 3 ∨ j = 5 ∨ j = 6 ∨ j = 7 ∨ j = 8 ∨ j = 11 ∨ j = 12)) ∨ (14 ≤ c ∧ c < 23) from by replace q : (c = 10 ∧ (j = 5 ∨ j = 6 ∨ j = 7 ∨ j = 8 ∨ j = 11 ∨ j = 12)) := q; omega))
      refine j_st (st' := []) rfl ?_
      have c9 := q106_0; rw [fz] at c9
      exact j_vret (pc := 99) ⟨rfl, rfl⟩ dX9_ruleLine_99 rfl ⟨rfl, hIσ105, hFσ105, (by first | exact ruleX_of5 c1 c2 c3 c4 c5 c6 (by omega) c7 c8 c9 | exact ruleX_of c1 c2 c3 c4 c5 c6 (by omega)), by omega, by omega⟩
    · exact j_vret (pc := 68) ⟨rfl, rfl⟩ dX9_ruleLine_68 rfl ⟨rfl, hIσ87, hFσ87, (by first | exact ruleX_of5 c1 c2 c3 c4 c5 c6 (by omega) c7 c8 c9 | exact ruleX_of c1 c2 c3 c4 c5 c6 (by omega)), by omega, by omega⟩
abbrev q_X9_line  (σ : tw_M) : Option tw_V → tw_M → Prop := fun z τ => z = none ∧ tw_I τ ∧ tw_F (fun c j => (c = 10 ∧ (j = 3 ∨ j = 4 ∨ j = 5 ∨ j = 6 ∨ j = 7 ∨ j = 8 ∨ j = 11 ∨ j = 12)) ∨ (12 ≤ c ∧ c < 14) ∨ (14 ≤ c ∧ c < 23)) σ τ ∧ (aX τ = lineX (fX σ) (aX σ)) ∧ (¬ σ 10 5 ≤ σ 10 10 ∨ τ 10 5 ≤ σ 10 10) ∧ (¬ σ 10 5 ≤ σ 10 10 ∨ ¬ τ 10 11 = 0 ∨ ¬ τ 10 6 = 0 ∨ τ 10 7 = σ 10 10) ∧ (¬ τ 10 11 = 0 ∨ (σ 10 11 = 0 ∧ σ 10 5 ≤ τ 10 5 ∧ (τ 10 6 = 0 ∨ σ 10 5 < τ 10 5)))
set_option maxHeartbeats 4000000 in
set_option maxRecDepth 100000 in
theorem c_X9_line {G : tw_G} (hX : tw_isX G) (σ : tw_M) (hI : tw_I σ) (hq0 : σ 10 11 = 0) : tw_C G yX9_line cX9_line 2 none 7 [vR 10] σ (q_X9_line σ) := by
  refine tw_met [(0, vR 10)] (by decide +kernel) rfl (Nat.le_of_ble_eq_true rfl) ?_
  refine j_aload_n (pc := 0) dX9_line_0 rfl rfl ?_
  refine j_callV (pc := 1) (As := []) (st := []) (c_X9_lineName hX σ hI) mv_X9_136 rfl rfl rfl (a_10 hX) dX9_line_1 ⟨Nat.le_of_ble_eq_true rfl, Nat.le_of_ble_eq_true rfl⟩ ⟨Nat.le_refl _, Nat.le_refl _⟩ rfl (Nat.le_of_ble_eq_true rfl) rfl (fun z1 σ2 hz1 => ?_)
  obtain ⟨r4, rfl, hr4, rfl, q3_0⟩ := hz1
  replace q3_0 : r4 = lnm (fX σ) (σ 10 6) (σ 10 7) (σ 10 5) := q3_0
  refine j_st (st' := [vI r4]) rfl ?_
  have k2 : lnm (fX σ) ((aX σ) 2) ((aX σ) 1) ((aX σ) 0) = r4 := by rw [aX_2 hq0, aX_1 hq0, aX_0 hq0]; exact q3_0.symm
  refine j_istore_n (pc := 4) (i := 1) (ls' := [(0, vR 10), (1, vI r4)]) [1, 0] dX9_line_4 rfl (Nat.le_of_ble_eq_true rfl) rfl rfl ?_
  refine j_iload_n (pc := 5) dX9_line_5 rfl rfl ?_
  refine j_ifR_ge (pc := 6) (tgt := 21) ⟨by omega, by omega⟩ dX9_line_6 rfl (fun h5 => ?_) (fun h5 => ?_)
  · refine j_iload_n (pc := 21) dX9_line_21 rfl rfl ?_
    refine j_bipush (pc := 22) dX9_line_22 rfl ?_
    refine j_icmpR_ne (pc := 24) (tgt := 38) ⟨by omega, by omega⟩ ⟨by omega, by omega⟩ dX9_line_24 rfl (fun h6 => ?_) (fun h6 => ?_)
    · refine j_iload_n (pc := 38) dX9_line_38 rfl rfl ?_
      refine j_bipush (pc := 39) dX9_line_39 rfl ?_
      refine j_icmpR_ne (pc := 41) (tgt := 55) ⟨by omega, by omega⟩ ⟨by omega, by omega⟩ dX9_line_41 rfl (fun h7 => ?_) (fun h7 => ?_)
      · refine j_aload_n (pc := 55) dX9_line_55 rfl rfl ?_
        refine j_iload_n (pc := 56) dX9_line_56 rfl rfl ?_
        refine j_callV (pc := 57) (As := [vI r4]) (st := []) (c_X9_ruleLine hX r4 ⟨by omega, by omega⟩ σ hI) mv_X9_145 rfl rfl rfl (a_10 hX) dX9_line_57 ⟨Nat.le_of_ble_eq_true rfl, Nat.le_of_ble_eq_true rfl⟩ ⟨Nat.le_refl _, Nat.le_refl _⟩ rfl (Nat.le_of_ble_eq_true rfl) rfl (fun z8 σ9 hz8 => ?_)
        obtain ⟨rfl, hIσ9, hGσ9, q10_0, q10_1, q10_2⟩ := hz8
        replace q10_0 : aX σ9 = ruleX (fX σ) r4 (aX σ) := q10_0
        replace q10_1 : ¬ σ 10 5 ≤ σ 10 10 ∨ σ9 10 5 ≤ σ 10 10 := q10_1
        replace q10_2 : ¬ σ9 10 11 = 0 ∨ (σ 10 11 = 0 ∧ σ 10 5 ≤ σ9 10 5) := q10_2
        have hFσ9 : tw_F (fun c j => (c = 10 ∧ (j = 3 ∨ j = 4 ∨ j = 5 ∨ j = 6 ∨ j = 7 ∨ j = 8 ∨ j = 11 ∨ j = 12)) ∨ (12 ≤ c ∧ c < 14) ∨ (14 ≤ c ∧ c < 23)) σ σ9 := tw_F_tr (tw_F_rf) hGσ9 (fun c j q => (show (c = 10 ∧ (j = 3 ∨ j = 4 ∨ j = 5 ∨ j = 6 ∨ j = 7 ∨ j = 8 ∨ j = 11 ∨ j = 12)) ∨ (12 ≤ c ∧ c < 14) ∨ (14 ≤ c ∧ c < 23) from by replace q : (c = 10 ∧ (j = 3 ∨ j = 5 ∨ j = 6 ∨ j = 7 ∨ j = 8 ∨ j = 11 ∨ j = 12)) ∨ (14 ≤ c ∧ c < 23) := q; omega))
        refine j_st (st' := []) rfl ?_
        have c1 := q10_0
        have fz : fX σ9 = fX σ := fX_F (hFσ9 10 10 (show ¬ ((10 = 10 ∧ (10 = 3 ∨ 10 = 4 ∨ 10 = 5 ∨ 10 = 6 ∨ 10 = 7 ∨ 10 = 8 ∨ 10 = 11 ∨ 10 = 12)) ∨ (12 ≤ 10 ∧ 10 < 14) ∨ (14 ≤ 10 ∧ 10 < 23)) from by omega)) (fun j => hFσ9 11 j (show ¬ ((11 = 10 ∧ (j = 3 ∨ j = 4 ∨ j = 5 ∨ j = 6 ∨ j = 7 ∨ j = 8 ∨ j = 11 ∨ j = 12)) ∨ (12 ≤ 11 ∧ 11 < 14) ∨ (14 ≤ 11 ∧ 11 < 23)) from by omega))
        refine j_aload_n (pc := 60) dX9_line_60 rfl rfl ?_
        refine j_callV (pc := 61) (As := []) (st := []) (c_X9_lineEnd hX σ9 hIσ9) mv_X9_149 rfl rfl rfl (a_10 hX) dX9_line_61 ⟨Nat.le_of_ble_eq_true rfl, Nat.le_of_ble_eq_true rfl⟩ ⟨Nat.le_refl _, Nat.le_refl _⟩ rfl (Nat.le_of_ble_eq_true rfl) rfl (fun z12 σ13 hz12 => ?_)
        obtain ⟨rfl, hIσ13, hGσ13, q14_0, q14_1, q14_2, q14_3⟩ := hz12
        replace q14_0 : aX σ13 = tok (fX σ9) (need (decide ((aX σ9) 2 = 3)) 2 (aX σ9)) := q14_0
        replace q14_1 : ¬ σ9 10 5 ≤ σ9 10 10 ∨ σ13 10 5 ≤ σ9 10 10 := q14_1
        have y16 : σ9 10 10 = σ 10 10 := (hGσ9 10 10 (show ¬ ((10 = 10 ∧ (10 = 3 ∨ 10 = 5 ∨ 10 = 6 ∨ 10 = 7 ∨ 10 = 8 ∨ 10 = 11 ∨ 10 = 12)) ∨ (14 ≤ 10 ∧ 10 < 23)) from by omega))
        have f17 : (0 : Int) ≤ σ 10 10 ∧ σ 10 10 ≤ 400 := hI 10 10
        replace q14_2 : ¬ σ9 10 5 ≤ σ9 10 10 ∨ ¬ σ13 10 11 = 0 ∨ ¬ σ13 10 6 = 0 ∨ σ13 10 7 = σ9 10 10 := q14_2
        have y18 : σ9 10 10 = σ 10 10 := (hGσ9 10 10 (show ¬ ((10 = 10 ∧ (10 = 3 ∨ 10 = 5 ∨ 10 = 6 ∨ 10 = 7 ∨ 10 = 8 ∨ 10 = 11 ∨ 10 = 12)) ∨ (14 ≤ 10 ∧ 10 < 23)) from by omega))
        replace q14_3 : ¬ σ13 10 11 = 0 ∨ (σ9 10 11 = 0 ∧ σ9 10 5 ≤ σ13 10 5 ∧ (σ13 10 6 = 0 ∨ σ9 10 5 < σ13 10 5)) := q14_3
        have hFσ13 : tw_F (fun c j => (c = 10 ∧ (j = 3 ∨ j = 4 ∨ j = 5 ∨ j = 6 ∨ j = 7 ∨ j = 8 ∨ j = 11 ∨ j = 12)) ∨ (12 ≤ c ∧ c < 14) ∨ (14 ≤ c ∧ c < 23)) σ σ13 := tw_F_tr hFσ9 hGσ13 (fun c j q => (show (c = 10 ∧ (j = 3 ∨ j = 4 ∨ j = 5 ∨ j = 6 ∨ j = 7 ∨ j = 8 ∨ j = 11 ∨ j = 12)) ∨ (12 ≤ c ∧ c < 14) ∨ (14 ≤ c ∧ c < 23) from by replace q : (c = 10 ∧ (j = 5 ∨ j = 6 ∨ j = 7 ∨ j = 8 ∨ j = 11 ∨ j = 12)) := q; omega))
        refine j_st (st' := []) rfl ?_
        have c2 := q14_0; rw [fz] at c2
        have cc := lineX_rule k2 ⟨by omega, by omega⟩ c1 c2
        exact j_vret (pc := 64) ⟨rfl, rfl⟩ dX9_line_64 rfl ⟨rfl, hIσ13, hFσ13, cc, by omega, by omega, by omega⟩
      · refine j_aload_n (pc := 44) dX9_line_44 rfl rfl ?_
        refine j_callV (pc := 45) (As := []) (st := []) (c_X9_advance hX σ hI) mv_X9_45 rfl rfl rfl (a_10 hX) dX9_line_45 ⟨Nat.le_of_ble_eq_true rfl, Nat.le_of_ble_eq_true rfl⟩ ⟨Nat.le_refl _, Nat.le_refl _⟩ rfl (Nat.le_of_ble_eq_true rfl) rfl (fun z19 σ20 hz19 => ?_)
        obtain ⟨rfl, hIσ20, hGσ20, q21_0, q21_1, q21_2, q21_3⟩ := hz19
        replace q21_0 : aX σ20 = tok (fX σ) (aX σ) := q21_0
        replace q21_1 : ¬ σ 10 5 ≤ σ 10 10 ∨ σ20 10 5 ≤ σ 10 10 := q21_1
        replace q21_2 : ¬ σ 10 5 ≤ σ 10 10 ∨ ¬ σ20 10 11 = 0 ∨ ¬ σ20 10 6 = 0 ∨ σ20 10 7 = σ 10 10 := q21_2
        replace q21_3 : ¬ σ20 10 11 = 0 ∨ (σ 10 11 = 0 ∧ σ 10 5 ≤ σ20 10 5 ∧ (σ20 10 6 = 0 ∨ σ 10 5 < σ20 10 5)) := q21_3
        have hFσ20 : tw_F (fun c j => (c = 10 ∧ (j = 3 ∨ j = 4 ∨ j = 5 ∨ j = 6 ∨ j = 7 ∨ j = 8 ∨ j = 11 ∨ j = 12)) ∨ (12 ≤ c ∧ c < 14) ∨ (14 ≤ c ∧ c < 23)) σ σ20 := tw_F_tr (tw_F_rf) hGσ20 (fun c j q => (show (c = 10 ∧ (j = 3 ∨ j = 4 ∨ j = 5 ∨ j = 6 ∨ j = 7 ∨ j = 8 ∨ j = 11 ∨ j = 12)) ∨ (12 ≤ c ∧ c < 14) ∨ (14 ≤ c ∧ c < 23) from by replace q : (c = 10 ∧ (j = 5 ∨ j = 6 ∨ j = 7 ∨ j = 8 ∨ j = 11 ∨ j = 12)) := q; omega))
        refine j_st (st' := []) rfl ?_
        have c0 := q21_0
        have fz : fX σ20 = fX σ := fX_F (hFσ20 10 10 (show ¬ ((10 = 10 ∧ (10 = 3 ∨ 10 = 4 ∨ 10 = 5 ∨ 10 = 6 ∨ 10 = 7 ∨ 10 = 8 ∨ 10 = 11 ∨ 10 = 12)) ∨ (12 ≤ 10 ∧ 10 < 14) ∨ (14 ≤ 10 ∧ 10 < 23)) from by omega)) (fun j => hFσ20 11 j (show ¬ ((11 = 10 ∧ (j = 3 ∨ j = 4 ∨ j = 5 ∨ j = 6 ∨ j = 7 ∨ j = 8 ∨ j = 11 ∨ j = 12)) ∨ (12 ≤ 11 ∧ 11 < 14) ∨ (14 ≤ 11 ∧ 11 < 23)) from by omega))
        refine j_aload_n (pc := 48) dX9_line_48 rfl rfl ?_
        refine j_callV (pc := 49) (As := []) (st := []) (c_X9_rackLine hX σ20 hIσ20) mv_X9_142 rfl rfl rfl (a_10 hX) dX9_line_49 ⟨Nat.le_of_ble_eq_true rfl, Nat.le_of_ble_eq_true rfl⟩ ⟨Nat.le_refl _, Nat.le_refl _⟩ rfl (Nat.le_of_ble_eq_true rfl) rfl (fun z23 σ24 hz23 => ?_)
        obtain ⟨rfl, hIσ24, hGσ24, q25_0, q25_1, q25_2⟩ := hz23
        replace q25_0 : aX σ24 = rackX (fX σ20) (aX σ20) := q25_0
        replace q25_1 : ¬ σ20 10 5 ≤ σ20 10 10 ∨ σ24 10 5 ≤ σ20 10 10 := q25_1
        have y27 : σ20 10 10 = σ 10 10 := (hGσ20 10 10 (show ¬ ((10 = 10 ∧ (10 = 5 ∨ 10 = 6 ∨ 10 = 7 ∨ 10 = 8 ∨ 10 = 11 ∨ 10 = 12))) from by omega))
        have f28 : (0 : Int) ≤ σ 10 10 ∧ σ 10 10 ≤ 400 := hI 10 10
        replace q25_2 : ¬ σ24 10 11 = 0 ∨ (σ20 10 11 = 0 ∧ σ20 10 5 ≤ σ24 10 5) := q25_2
        have hFσ24 : tw_F (fun c j => (c = 10 ∧ (j = 3 ∨ j = 4 ∨ j = 5 ∨ j = 6 ∨ j = 7 ∨ j = 8 ∨ j = 11 ∨ j = 12)) ∨ (12 ≤ c ∧ c < 14) ∨ (14 ≤ c ∧ c < 23)) σ σ24 := tw_F_tr hFσ20 hGσ24 (fun c j q => (show (c = 10 ∧ (j = 3 ∨ j = 4 ∨ j = 5 ∨ j = 6 ∨ j = 7 ∨ j = 8 ∨ j = 11 ∨ j = 12)) ∨ (12 ≤ c ∧ c < 14) ∨ (14 ≤ c ∧ c < 23) from by replace q : (c = 10 ∧ (j = 5 ∨ j = 6 ∨ j = 7 ∨ j = 8 ∨ j = 11 ∨ j = 12)) ∨ c = 13 ∨ (14 ≤ c ∧ c < 23) := q; omega))
        refine j_st (st' := []) rfl ?_
        have c1 := q25_0; rw [fz] at c1
        refine j_goto (pc := 52) (tgt := 60) dX9_line_52 rfl ?_
        have fz : fX σ24 = fX σ := fX_F (hFσ24 10 10 (show ¬ ((10 = 10 ∧ (10 = 3 ∨ 10 = 4 ∨ 10 = 5 ∨ 10 = 6 ∨ 10 = 7 ∨ 10 = 8 ∨ 10 = 11 ∨ 10 = 12)) ∨ (12 ≤ 10 ∧ 10 < 14) ∨ (14 ≤ 10 ∧ 10 < 23)) from by omega)) (fun j => hFσ24 11 j (show ¬ ((11 = 10 ∧ (j = 3 ∨ j = 4 ∨ j = 5 ∨ j = 6 ∨ j = 7 ∨ j = 8 ∨ j = 11 ∨ j = 12)) ∨ (12 ≤ 11 ∧ 11 < 14) ∨ (14 ≤ 11 ∧ 11 < 23)) from by omega))
        refine j_aload_n (pc := 60) dX9_line_60 rfl rfl ?_
        refine j_callV (pc := 61) (As := []) (st := []) (c_X9_lineEnd hX σ24 hIσ24) mv_X9_149 rfl rfl rfl (a_10 hX) dX9_line_61 ⟨Nat.le_of_ble_eq_true rfl, Nat.le_of_ble_eq_true rfl⟩ ⟨Nat.le_refl _, Nat.le_refl _⟩ rfl (Nat.le_of_ble_eq_true rfl) rfl (fun z29 σ30 hz29 => ?_)
        obtain ⟨rfl, hIσ30, hGσ30, q31_0, q31_1, q31_2, q31_3⟩ := hz29
        replace q31_0 : aX σ30 = tok (fX σ24) (need (decide ((aX σ24) 2 = 3)) 2 (aX σ24)) := q31_0
        replace q31_1 : ¬ σ24 10 5 ≤ σ24 10 10 ∨ σ30 10 5 ≤ σ24 10 10 := q31_1
        have y33 : σ24 10 10 = σ 10 10 := ((hGσ24 10 10 (show ¬ ((10 = 10 ∧ (10 = 5 ∨ 10 = 6 ∨ 10 = 7 ∨ 10 = 8 ∨ 10 = 11 ∨ 10 = 12)) ∨ 10 = 13 ∨ (14 ≤ 10 ∧ 10 < 23)) from by omega))).trans (hGσ20 10 10 (show ¬ ((10 = 10 ∧ (10 = 5 ∨ 10 = 6 ∨ 10 = 7 ∨ 10 = 8 ∨ 10 = 11 ∨ 10 = 12))) from by omega))
        replace q31_2 : ¬ σ24 10 5 ≤ σ24 10 10 ∨ ¬ σ30 10 11 = 0 ∨ ¬ σ30 10 6 = 0 ∨ σ30 10 7 = σ24 10 10 := q31_2
        have y34 : σ24 10 10 = σ 10 10 := ((hGσ24 10 10 (show ¬ ((10 = 10 ∧ (10 = 5 ∨ 10 = 6 ∨ 10 = 7 ∨ 10 = 8 ∨ 10 = 11 ∨ 10 = 12)) ∨ 10 = 13 ∨ (14 ≤ 10 ∧ 10 < 23)) from by omega))).trans (hGσ20 10 10 (show ¬ ((10 = 10 ∧ (10 = 5 ∨ 10 = 6 ∨ 10 = 7 ∨ 10 = 8 ∨ 10 = 11 ∨ 10 = 12))) from by omega))
        replace q31_3 : ¬ σ30 10 11 = 0 ∨ (σ24 10 11 = 0 ∧ σ24 10 5 ≤ σ30 10 5 ∧ (σ30 10 6 = 0 ∨ σ24 10 5 < σ30 10 5)) := q31_3
        have hFσ30 : tw_F (fun c j => (c = 10 ∧ (j = 3 ∨ j = 4 ∨ j = 5 ∨ j = 6 ∨ j = 7 ∨ j = 8 ∨ j = 11 ∨ j = 12)) ∨ (12 ≤ c ∧ c < 14) ∨ (14 ≤ c ∧ c < 23)) σ σ30 := tw_F_tr hFσ24 hGσ30 (fun c j q => (show (c = 10 ∧ (j = 3 ∨ j = 4 ∨ j = 5 ∨ j = 6 ∨ j = 7 ∨ j = 8 ∨ j = 11 ∨ j = 12)) ∨ (12 ≤ c ∧ c < 14) ∨ (14 ≤ c ∧ c < 23) from by replace q : (c = 10 ∧ (j = 5 ∨ j = 6 ∨ j = 7 ∨ j = 8 ∨ j = 11 ∨ j = 12)) := q; omega))
        refine j_st (st' := []) rfl ?_
        have c2 := q31_0; rw [fz] at c2
        have cc := lineX_rack (by rw [k2]; omega) c0 c1 c2
        exact j_vret (pc := 64) ⟨rfl, rfl⟩ dX9_line_64 rfl ⟨rfl, hIσ30, hFσ30, cc, by omega, by omega, by omega⟩
    · refine j_aload_n (pc := 27) dX9_line_27 rfl rfl ?_
      refine j_callV (pc := 28) (As := []) (st := []) (c_X9_advance hX σ hI) mv_X9_45 rfl rfl rfl (a_10 hX) dX9_line_28 ⟨Nat.le_of_ble_eq_true rfl, Nat.le_of_ble_eq_true rfl⟩ ⟨Nat.le_refl _, Nat.le_refl _⟩ rfl (Nat.le_of_ble_eq_true rfl) rfl (fun z35 σ36 hz35 => ?_)
      obtain ⟨rfl, hIσ36, hGσ36, q37_0, q37_1, q37_2, q37_3⟩ := hz35
      replace q37_0 : aX σ36 = tok (fX σ) (aX σ) := q37_0
      replace q37_1 : ¬ σ 10 5 ≤ σ 10 10 ∨ σ36 10 5 ≤ σ 10 10 := q37_1
      replace q37_2 : ¬ σ 10 5 ≤ σ 10 10 ∨ ¬ σ36 10 11 = 0 ∨ ¬ σ36 10 6 = 0 ∨ σ36 10 7 = σ 10 10 := q37_2
      replace q37_3 : ¬ σ36 10 11 = 0 ∨ (σ 10 11 = 0 ∧ σ 10 5 ≤ σ36 10 5 ∧ (σ36 10 6 = 0 ∨ σ 10 5 < σ36 10 5)) := q37_3
      have hFσ36 : tw_F (fun c j => (c = 10 ∧ (j = 3 ∨ j = 4 ∨ j = 5 ∨ j = 6 ∨ j = 7 ∨ j = 8 ∨ j = 11 ∨ j = 12)) ∨ (12 ≤ c ∧ c < 14) ∨ (14 ≤ c ∧ c < 23)) σ σ36 := tw_F_tr (tw_F_rf) hGσ36 (fun c j q => (show (c = 10 ∧ (j = 3 ∨ j = 4 ∨ j = 5 ∨ j = 6 ∨ j = 7 ∨ j = 8 ∨ j = 11 ∨ j = 12)) ∨ (12 ≤ c ∧ c < 14) ∨ (14 ≤ c ∧ c < 23) from by replace q : (c = 10 ∧ (j = 5 ∨ j = 6 ∨ j = 7 ∨ j = 8 ∨ j = 11 ∨ j = 12)) := q; omega))
      refine j_st (st' := []) rfl ?_
      have c0 := q37_0
      have fz : fX σ36 = fX σ := fX_F (hFσ36 10 10 (show ¬ ((10 = 10 ∧ (10 = 3 ∨ 10 = 4 ∨ 10 = 5 ∨ 10 = 6 ∨ 10 = 7 ∨ 10 = 8 ∨ 10 = 11 ∨ 10 = 12)) ∨ (12 ≤ 10 ∧ 10 < 14) ∨ (14 ≤ 10 ∧ 10 < 23)) from by omega)) (fun j => hFσ36 11 j (show ¬ ((11 = 10 ∧ (j = 3 ∨ j = 4 ∨ j = 5 ∨ j = 6 ∨ j = 7 ∨ j = 8 ∨ j = 11 ∨ j = 12)) ∨ (12 ≤ 11 ∧ 11 < 14) ∨ (14 ≤ 11 ∧ 11 < 23)) from by omega))
      refine j_aload_n (pc := 31) dX9_line_31 rfl rfl ?_
      refine j_callV (pc := 32) (As := []) (st := []) (c_X9_footLine hX σ36 hIσ36) mv_X9_139 rfl rfl rfl (a_10 hX) dX9_line_32 ⟨Nat.le_of_ble_eq_true rfl, Nat.le_of_ble_eq_true rfl⟩ ⟨Nat.le_refl _, Nat.le_refl _⟩ rfl (Nat.le_of_ble_eq_true rfl) rfl (fun z39 σ40 hz39 => ?_)
      obtain ⟨rfl, hIσ40, hGσ40, q41_0, q41_1, q41_2⟩ := hz39
      replace q41_0 : aX σ40 = footX (fX σ36) (aX σ36) := q41_0
      replace q41_1 : ¬ σ36 10 5 ≤ σ36 10 10 ∨ σ40 10 5 ≤ σ36 10 10 := q41_1
      have y43 : σ36 10 10 = σ 10 10 := (hGσ36 10 10 (show ¬ ((10 = 10 ∧ (10 = 5 ∨ 10 = 6 ∨ 10 = 7 ∨ 10 = 8 ∨ 10 = 11 ∨ 10 = 12))) from by omega))
      have f44 : (0 : Int) ≤ σ 10 10 ∧ σ 10 10 ≤ 400 := hI 10 10
      replace q41_2 : ¬ σ40 10 11 = 0 ∨ (σ36 10 11 = 0 ∧ σ36 10 5 ≤ σ40 10 5) := q41_2
      have hFσ40 : tw_F (fun c j => (c = 10 ∧ (j = 3 ∨ j = 4 ∨ j = 5 ∨ j = 6 ∨ j = 7 ∨ j = 8 ∨ j = 11 ∨ j = 12)) ∨ (12 ≤ c ∧ c < 14) ∨ (14 ≤ c ∧ c < 23)) σ σ40 := tw_F_tr hFσ36 hGσ40 (fun c j q => (show (c = 10 ∧ (j = 3 ∨ j = 4 ∨ j = 5 ∨ j = 6 ∨ j = 7 ∨ j = 8 ∨ j = 11 ∨ j = 12)) ∨ (12 ≤ c ∧ c < 14) ∨ (14 ≤ c ∧ c < 23) from by replace q : (c = 10 ∧ (j = 4 ∨ j = 5 ∨ j = 6 ∨ j = 7 ∨ j = 8 ∨ j = 11 ∨ j = 12)) ∨ c = 12 ∨ (14 ≤ c ∧ c < 23) := q; omega))
      refine j_st (st' := []) rfl ?_
      have c1 := q41_0; rw [fz] at c1
      refine j_goto (pc := 35) (tgt := 60) dX9_line_35 rfl ?_
      have fz : fX σ40 = fX σ := fX_F (hFσ40 10 10 (show ¬ ((10 = 10 ∧ (10 = 3 ∨ 10 = 4 ∨ 10 = 5 ∨ 10 = 6 ∨ 10 = 7 ∨ 10 = 8 ∨ 10 = 11 ∨ 10 = 12)) ∨ (12 ≤ 10 ∧ 10 < 14) ∨ (14 ≤ 10 ∧ 10 < 23)) from by omega)) (fun j => hFσ40 11 j (show ¬ ((11 = 10 ∧ (j = 3 ∨ j = 4 ∨ j = 5 ∨ j = 6 ∨ j = 7 ∨ j = 8 ∨ j = 11 ∨ j = 12)) ∨ (12 ≤ 11 ∧ 11 < 14) ∨ (14 ≤ 11 ∧ 11 < 23)) from by omega))
      refine j_aload_n (pc := 60) dX9_line_60 rfl rfl ?_
      refine j_callV (pc := 61) (As := []) (st := []) (c_X9_lineEnd hX σ40 hIσ40) mv_X9_149 rfl rfl rfl (a_10 hX) dX9_line_61 ⟨Nat.le_of_ble_eq_true rfl, Nat.le_of_ble_eq_true rfl⟩ ⟨Nat.le_refl _, Nat.le_refl _⟩ rfl (Nat.le_of_ble_eq_true rfl) rfl (fun z45 σ46 hz45 => ?_)
      obtain ⟨rfl, hIσ46, hGσ46, q47_0, q47_1, q47_2, q47_3⟩ := hz45
      replace q47_0 : aX σ46 = tok (fX σ40) (need (decide ((aX σ40) 2 = 3)) 2 (aX σ40)) := q47_0
      replace q47_1 : ¬ σ40 10 5 ≤ σ40 10 10 ∨ σ46 10 5 ≤ σ40 10 10 := q47_1
      have y49 : σ40 10 10 = σ 10 10 := ((hGσ40 10 10 (show ¬ ((10 = 10 ∧ (10 = 4 ∨ 10 = 5 ∨ 10 = 6 ∨ 10 = 7 ∨ 10 = 8 ∨ 10 = 11 ∨ 10 = 12)) ∨ 10 = 12 ∨ (14 ≤ 10 ∧ 10 < 23)) from by omega))).trans (hGσ36 10 10 (show ¬ ((10 = 10 ∧ (10 = 5 ∨ 10 = 6 ∨ 10 = 7 ∨ 10 = 8 ∨ 10 = 11 ∨ 10 = 12))) from by omega))
      replace q47_2 : ¬ σ40 10 5 ≤ σ40 10 10 ∨ ¬ σ46 10 11 = 0 ∨ ¬ σ46 10 6 = 0 ∨ σ46 10 7 = σ40 10 10 := q47_2
      have y50 : σ40 10 10 = σ 10 10 := ((hGσ40 10 10 (show ¬ ((10 = 10 ∧ (10 = 4 ∨ 10 = 5 ∨ 10 = 6 ∨ 10 = 7 ∨ 10 = 8 ∨ 10 = 11 ∨ 10 = 12)) ∨ 10 = 12 ∨ (14 ≤ 10 ∧ 10 < 23)) from by omega))).trans (hGσ36 10 10 (show ¬ ((10 = 10 ∧ (10 = 5 ∨ 10 = 6 ∨ 10 = 7 ∨ 10 = 8 ∨ 10 = 11 ∨ 10 = 12))) from by omega))
      replace q47_3 : ¬ σ46 10 11 = 0 ∨ (σ40 10 11 = 0 ∧ σ40 10 5 ≤ σ46 10 5 ∧ (σ46 10 6 = 0 ∨ σ40 10 5 < σ46 10 5)) := q47_3
      have hFσ46 : tw_F (fun c j => (c = 10 ∧ (j = 3 ∨ j = 4 ∨ j = 5 ∨ j = 6 ∨ j = 7 ∨ j = 8 ∨ j = 11 ∨ j = 12)) ∨ (12 ≤ c ∧ c < 14) ∨ (14 ≤ c ∧ c < 23)) σ σ46 := tw_F_tr hFσ40 hGσ46 (fun c j q => (show (c = 10 ∧ (j = 3 ∨ j = 4 ∨ j = 5 ∨ j = 6 ∨ j = 7 ∨ j = 8 ∨ j = 11 ∨ j = 12)) ∨ (12 ≤ c ∧ c < 14) ∨ (14 ≤ c ∧ c < 23) from by replace q : (c = 10 ∧ (j = 5 ∨ j = 6 ∨ j = 7 ∨ j = 8 ∨ j = 11 ∨ j = 12)) := q; omega))
      refine j_st (st' := []) rfl ?_
      have c2 := q47_0; rw [fz] at c2
      have cc := lineX_at (by rw [k2]; omega) c0 c1 c2
      exact j_vret (pc := 64) ⟨rfl, rfl⟩ dX9_line_64 rfl ⟨rfl, hIσ46, hFσ46, cc, by omega, by omega, by omega⟩
  · refine j_aload_n (pc := 9) dX9_line_9 rfl rfl ?_
    refine j_iconst (pc := 10) dX9_line_10 ?_
    refine j_aload_n (pc := 11) dX9_line_11 rfl rfl ?_
    refine j_getI (pc := 12) fl_X9_76 dX9_line_12 (a_10 hX) rfl ?_
    have f51 : (0 : Int) ≤ σ 10 7 ∧ σ 10 7 ≤ 400 := hI 10 7
    refine j_callV (pc := 15) (As := [vI 2, vI (σ 10 7)]) (st := []) (c_X9_fail hX 2 ⟨by omega, by omega⟩ (σ 10 7) ⟨by omega, by omega⟩ σ hI) mv_X9_61 rfl rfl rfl (a_10 hX) dX9_line_15 ⟨Nat.le_of_ble_eq_true rfl, Nat.le_of_ble_eq_true rfl⟩ ⟨Nat.le_refl _, Nat.le_refl _⟩ rfl (Nat.le_of_ble_eq_true rfl) rfl (fun z52 σ53 hz52 => ?_)
    obtain ⟨rfl, hIσ53, hGσ53, q54_0⟩ := hz52
    replace q54_0 : (σ 10 11 = 0 ∧ σ53 10 11 = (2 : Int) ∧ σ53 10 12 = (σ 10 7)) ∨ (¬ σ 10 11 = 0 ∧ σ53 10 11 = σ 10 11 ∧ σ53 10 12 = σ 10 12) := q54_0
    have hFσ53 : tw_F (fun c j => (c = 10 ∧ (j = 3 ∨ j = 4 ∨ j = 5 ∨ j = 6 ∨ j = 7 ∨ j = 8 ∨ j = 11 ∨ j = 12)) ∨ (12 ≤ c ∧ c < 14) ∨ (14 ≤ c ∧ c < 23)) σ σ53 := tw_F_tr (tw_F_rf) hGσ53 (fun c j q => (show (c = 10 ∧ (j = 3 ∨ j = 4 ∨ j = 5 ∨ j = 6 ∨ j = 7 ∨ j = 8 ∨ j = 11 ∨ j = 12)) ∨ (12 ≤ c ∧ c < 14) ∨ (14 ≤ c ∧ c < 23) from by replace q : (c = 10 ∧ (j = 11 ∨ j = 12)) := q; omega))
    refine j_st (st' := []) rfl ?_
    have c1 := aX_need (σ := σ) (τ := σ53) (g := false) (c := 2) (by decide) (fun _ => rfl) (by omega)
    refine j_goto (pc := 18) (tgt := 60) dX9_line_18 rfl ?_
    have fz : fX σ53 = fX σ := fX_F (hFσ53 10 10 (show ¬ ((10 = 10 ∧ (10 = 3 ∨ 10 = 4 ∨ 10 = 5 ∨ 10 = 6 ∨ 10 = 7 ∨ 10 = 8 ∨ 10 = 11 ∨ 10 = 12)) ∨ (12 ≤ 10 ∧ 10 < 14) ∨ (14 ≤ 10 ∧ 10 < 23)) from by omega)) (fun j => hFσ53 11 j (show ¬ ((11 = 10 ∧ (j = 3 ∨ j = 4 ∨ j = 5 ∨ j = 6 ∨ j = 7 ∨ j = 8 ∨ j = 11 ∨ j = 12)) ∨ (12 ≤ 11 ∧ 11 < 14) ∨ (14 ≤ 11 ∧ 11 < 23)) from by omega))
    refine j_aload_n (pc := 60) dX9_line_60 rfl rfl ?_
    refine j_callV (pc := 61) (As := []) (st := []) (c_X9_lineEnd hX σ53 hIσ53) mv_X9_149 rfl rfl rfl (a_10 hX) dX9_line_61 ⟨Nat.le_of_ble_eq_true rfl, Nat.le_of_ble_eq_true rfl⟩ ⟨Nat.le_refl _, Nat.le_refl _⟩ rfl (Nat.le_of_ble_eq_true rfl) rfl (fun z56 σ57 hz56 => ?_)
    obtain ⟨rfl, hIσ57, hGσ57, q58_0, q58_1, q58_2, q58_3⟩ := hz56
    replace q58_0 : aX σ57 = tok (fX σ53) (need (decide ((aX σ53) 2 = 3)) 2 (aX σ53)) := q58_0
    replace q58_1 : ¬ σ53 10 5 ≤ σ53 10 10 ∨ σ57 10 5 ≤ σ53 10 10 := q58_1
    have y60 : σ53 10 5 = σ 10 5 := (hGσ53 10 5 (show ¬ ((10 = 10 ∧ (5 = 11 ∨ 5 = 12))) from by omega))
    have f61 : (0 : Int) ≤ σ 10 5 ∧ σ 10 5 ≤ 400 := hI 10 5
    have y62 : σ53 10 10 = σ 10 10 := (hGσ53 10 10 (show ¬ ((10 = 10 ∧ (10 = 11 ∨ 10 = 12))) from by omega))
    have f63 : (0 : Int) ≤ σ 10 10 ∧ σ 10 10 ≤ 400 := hI 10 10
    replace q58_2 : ¬ σ53 10 5 ≤ σ53 10 10 ∨ ¬ σ57 10 11 = 0 ∨ ¬ σ57 10 6 = 0 ∨ σ57 10 7 = σ53 10 10 := q58_2
    have y64 : σ53 10 5 = σ 10 5 := (hGσ53 10 5 (show ¬ ((10 = 10 ∧ (5 = 11 ∨ 5 = 12))) from by omega))
    have y65 : σ53 10 10 = σ 10 10 := (hGσ53 10 10 (show ¬ ((10 = 10 ∧ (10 = 11 ∨ 10 = 12))) from by omega))
    replace q58_3 : ¬ σ57 10 11 = 0 ∨ (σ53 10 11 = 0 ∧ σ53 10 5 ≤ σ57 10 5 ∧ (σ57 10 6 = 0 ∨ σ53 10 5 < σ57 10 5)) := q58_3
    have y66 : σ53 10 5 = σ 10 5 := (hGσ53 10 5 (show ¬ ((10 = 10 ∧ (5 = 11 ∨ 5 = 12))) from by omega))
    have hFσ57 : tw_F (fun c j => (c = 10 ∧ (j = 3 ∨ j = 4 ∨ j = 5 ∨ j = 6 ∨ j = 7 ∨ j = 8 ∨ j = 11 ∨ j = 12)) ∨ (12 ≤ c ∧ c < 14) ∨ (14 ≤ c ∧ c < 23)) σ σ57 := tw_F_tr hFσ53 hGσ57 (fun c j q => (show (c = 10 ∧ (j = 3 ∨ j = 4 ∨ j = 5 ∨ j = 6 ∨ j = 7 ∨ j = 8 ∨ j = 11 ∨ j = 12)) ∨ (12 ≤ c ∧ c < 14) ∨ (14 ≤ c ∧ c < 23) from by replace q : (c = 10 ∧ (j = 5 ∨ j = 6 ∨ j = 7 ∨ j = 8 ∨ j = 11 ∨ j = 12)) := q; omega))
    refine j_st (st' := []) rfl ?_
    have c2 := q58_0; rw [fz] at c2
    have cc := lineX_no (by rw [k2]; omega) c1 c2
    exact j_vret (pc := 64) ⟨rfl, rfl⟩ dX9_line_64 rfl ⟨rfl, hIσ57, hFσ57, cc, by omega, by omega, by omega⟩
abbrev q_X9_readAll  (σ : tw_M) : Option tw_V → tw_M → Prop := fun z τ => z = none ∧ tw_I τ ∧ tw_F (fun c j => (c = 10 ∧ (j = 3 ∨ j = 4 ∨ j = 5 ∨ j = 6 ∨ j = 7 ∨ j = 8 ∨ j = 11 ∨ j = 12 ∨ j = 13)) ∨ (12 ≤ c ∧ c < 14) ∨ (14 ≤ c ∧ c < 23)) σ τ ∧ ((aX τ, τ 10 13) = parse (fX σ))
set_option maxHeartbeats 4000000 in
set_option maxRecDepth 100000 in
theorem l_X9_readAll {G : tw_G} (hX : tw_isX G) (σ : tw_M) (hI : tw_I σ) : ∀ N_ : Nat, (∀ (i : Int) (hi : 0 ≤ i ∧ i ≤ 400) (τ : tw_M) (hIτ : tw_I τ) (hFτ : tw_F (fun c j => (c = 10 ∧ (j = 3 ∨ j = 4 ∨ j = 5 ∨ j = 6 ∨ j = 7 ∨ j = 8 ∨ j = 11 ∨ j = 12 ∨ j = 13)) ∨ (12 ≤ c ∧ c < 14) ∨ (14 ≤ c ∧ c < 23)) σ τ) (i0 : τ 10 13 ≤ i) (i1 : itK lstop (lstep (fX σ)) (500 - i).toNat (aX τ, τ 10 13) = lns (fX σ)) (i2 : ¬ τ 10 11 = 0 ∨ τ 10 6 = 0 ∨ i + 1 ≤ τ 10 5) (i3 : τ 10 5 ≤ σ 10 10) (i4 : ¬ τ 10 11 = 0 ∨ ¬ τ 10 6 = 0 ∨ τ 10 7 = σ 10 10) (hm : (400 - i).toNat < N_), tw_J G (tw_mt RX9 cX9_readAll 2 none 8) (tw_E G (q_X9_readAll σ)) 10 [(0, vR 10), (1, vI i)] [] τ) := by
  intro N_
  induction N_ with
  | zero => exact fun i hi τ hIτ hFτ i0 i1 i2 i3 i4 hm => absurd hm (Nat.not_lt_zero _)
  | succ N_ ih =>
    intro i hi τ hIτ hFτ i0 i1 i2 i3 i4 hm
    have fx : fX τ = fX σ := fX_F (hFτ 10 10 (show ¬ ((10 = 10 ∧ (10 = 3 ∨ 10 = 4 ∨ 10 = 5 ∨ 10 = 6 ∨ 10 = 7 ∨ 10 = 8 ∨ 10 = 11 ∨ 10 = 12 ∨ 10 = 13)) ∨ (12 ≤ 10 ∧ 10 < 14) ∨ (14 ≤ 10 ∧ 10 < 23)) from by omega)) (fun j => hFτ 11 j (show ¬ ((11 = 10 ∧ (j = 3 ∨ j = 4 ∨ j = 5 ∨ j = 6 ∨ j = 7 ∨ j = 8 ∨ j = 11 ∨ j = 12 ∨ j = 13)) ∨ (12 ≤ 11 ∧ 11 < 14) ∨ (14 ≤ 11 ∧ 11 < 23)) from by omega))
    have f10 : (0 : Int) ≤ σ 10 10 ∧ σ 10 10 ≤ 400 := hI 10 10
    have e10 : τ 10 10 = σ 10 10 := hFτ 10 10 (show ¬ ((10 = 10 ∧ (10 = 3 ∨ 10 = 4 ∨ 10 = 5 ∨ 10 = 6 ∨ 10 = 7 ∨ 10 = 8 ∨ 10 = 11 ∨ 10 = 12 ∨ 10 = 13)) ∨ (12 ≤ 10 ∧ 10 < 14) ∨ (14 ≤ 10 ∧ 10 < 23)) from by omega); have f05 : (0 : Int) ≤ σ 10 5 ∧ σ 10 5 ≤ 400 := hI 10 5; have f15 : (0 : Int) ≤ τ 10 5 ∧ τ 10 5 ≤ 400 := hIτ 10 5
    refine j_iload_n (pc := 10) dX9_readAll_10 rfl rfl ?_
    refine j_sipush (pc := 11) dX9_readAll_11 rfl ?_
    refine j_icmpR_ge (pc := 14) (tgt := 51) ⟨by omega, by omega⟩ ⟨by omega, by omega⟩ dX9_readAll_14 rfl (fun h1 => ?_) (fun h1 => ?_)
    · refine j_aload_n (pc := 51) dX9_readAll_51 rfl rfl ?_
      refine j_getI (pc := 52) fl_X9_33 dX9_readAll_52 (a_10 hX) rfl ?_
      have f2 : (0 : Int) ≤ τ 10 11 ∧ τ 10 11 ≤ 5 := hIτ 10 11
      refine j_ifR_ne (pc := 55) (tgt := 81) ⟨by omega, by omega⟩ dX9_readAll_55 rfl (fun h3 => ?_) (fun h3 => ?_)
      · exact j_vret (pc := 81) ⟨rfl, rfl⟩ dX9_readAll_81 rfl ⟨rfl, hIτ, hFτ, (by first | (exfalso; omega) | exact parse_t i1 (by omega) | exact parse_f i1 (by omega) (by omega) (by omega) ⟨by omega, by omega⟩)⟩
      · refine j_aload_n (pc := 58) dX9_readAll_58 rfl rfl ?_
        refine j_getI (pc := 59) fl_X9_54 dX9_readAll_59 (a_10 hX) rfl ?_
        have f4 : (0 : Int) ≤ τ 10 4 ∧ τ 10 4 ≤ 40 := hIτ 10 4
        refine j_aload_n (pc := 62) dX9_readAll_62 rfl rfl ?_
        refine j_getR (pc := 63) (r := 14) fl_X9_25 dX9_readAll_63 (a_10 hX) rfl ?_
        refine j_callV (pc := 66) (As := []) (st := [vI (τ 10 4)]) (c_X10_top 14 (s_Wall_14 hX) τ hIτ) mv_X9_57 rfl rfl rfl (a_14 hX) dX9_readAll_66 ⟨Nat.le_of_ble_eq_true rfl, Nat.le_of_ble_eq_true rfl⟩ ⟨Nat.le_refl _, Nat.le_refl _⟩ rfl (Nat.le_of_ble_eq_true rfl) rfl (fun z5 σ6 hz5 => ?_)
        obtain ⟨r8, rfl, hr8, rfl, q7_0⟩ := hz5
        replace q7_0 : r8 = τ 15 0 := q7_0
        refine j_st (st' := [vI r8, vI (τ 10 4)]) rfl ?_
        refine j_icmpR_le (pc := 69) (tgt := 81) ⟨by omega, by omega⟩ ⟨by omega, by omega⟩ dX9_readAll_69 rfl (fun h9 => ?_) (fun h9 => ?_)
        · exact j_vret (pc := 81) ⟨rfl, rfl⟩ dX9_readAll_81 rfl ⟨rfl, hIτ, hFτ, (by first | (exfalso; omega) | exact parse_t i1 (by omega) | exact parse_f i1 (by omega) (by omega) (by omega) ⟨by omega, by omega⟩)⟩
        · refine j_aload_n (pc := 72) dX9_readAll_72 rfl rfl ?_
          refine j_iconst (pc := 73) dX9_readAll_73 ?_
          refine j_aload_n (pc := 74) dX9_readAll_74 rfl rfl ?_
          refine j_getI (pc := 75) fl_X9_29 dX9_readAll_75 (a_10 hX) rfl ?_
          have f10 : (0 : Int) ≤ τ 10 10 ∧ τ 10 10 ≤ 400 := hIτ 10 10
          refine j_callV (pc := 78) (As := [vI 5, vI (τ 10 10)]) (st := []) (c_X9_fail hX 5 ⟨by omega, by omega⟩ (τ 10 10) ⟨by omega, by omega⟩ τ hIτ) mv_X9_61 rfl rfl rfl (a_10 hX) dX9_readAll_78 ⟨Nat.le_of_ble_eq_true rfl, Nat.le_of_ble_eq_true rfl⟩ ⟨Nat.le_refl _, Nat.le_refl _⟩ rfl (Nat.le_of_ble_eq_true rfl) rfl (fun z11 σ12 hz11 => ?_)
          obtain ⟨rfl, hIσ12, hGσ12, q13_0⟩ := hz11
          replace q13_0 : (τ 10 11 = 0 ∧ σ12 10 11 = (5 : Int) ∧ σ12 10 12 = (τ 10 10)) ∨ (¬ τ 10 11 = 0 ∧ σ12 10 11 = τ 10 11 ∧ σ12 10 12 = τ 10 12) := q13_0
          have hFσ12 : tw_F (fun c j => (c = 10 ∧ (j = 3 ∨ j = 4 ∨ j = 5 ∨ j = 6 ∨ j = 7 ∨ j = 8 ∨ j = 11 ∨ j = 12 ∨ j = 13)) ∨ (12 ≤ c ∧ c < 14) ∨ (14 ≤ c ∧ c < 23)) σ σ12 := tw_F_tr hFτ hGσ12 (fun c j q => (show (c = 10 ∧ (j = 3 ∨ j = 4 ∨ j = 5 ∨ j = 6 ∨ j = 7 ∨ j = 8 ∨ j = 11 ∨ j = 12 ∨ j = 13)) ∨ (12 ≤ c ∧ c < 14) ∨ (14 ≤ c ∧ c < 23) from by replace q : (c = 10 ∧ (j = 11 ∨ j = 12)) := q; omega))
          refine j_st (st' := []) rfl ?_
          have y15 : σ12 10 13 = τ 10 13 := (hGσ12 10 13 (show ¬ ((10 = 10 ∧ (13 = 11 ∨ 13 = 12))) from by omega))
          have f16 : (0 : Int) ≤ τ 10 13 ∧ τ 10 13 ≤ 400 := hIτ 10 13
          exact j_vret (pc := 81) ⟨rfl, rfl⟩ dX9_readAll_81 rfl ⟨rfl, hIσ12, hFσ12, (by first | (exfalso; omega) | exact parse_t i1 (by omega) | exact parse_f i1 (by omega) (by omega) (by omega) ⟨by omega, by omega⟩)⟩
    · refine j_aload_n (pc := 17) dX9_readAll_17 rfl rfl ?_
      refine j_getI (pc := 18) fl_X9_33 dX9_readAll_18 (a_10 hX) rfl ?_
      have f17 : (0 : Int) ≤ τ 10 11 ∧ τ 10 11 ≤ 5 := hIτ 10 11
      refine j_ifR_ne (pc := 21) (tgt := 51) ⟨by omega, by omega⟩ dX9_readAll_21 rfl (fun h18 => ?_) (fun h18 => ?_)
      · refine j_aload_n (pc := 51) dX9_readAll_51 rfl rfl ?_
        refine j_getI (pc := 52) fl_X9_33 dX9_readAll_52 (a_10 hX) rfl ?_
        refine j_ifR_ne (pc := 55) (tgt := 81) ⟨by omega, by omega⟩ dX9_readAll_55 rfl (fun h19 => ?_) (fun h19 => by exfalso; omega)
        exact j_vret (pc := 81) ⟨rfl, rfl⟩ dX9_readAll_81 rfl ⟨rfl, hIτ, hFτ, (by first | (exfalso; omega) | exact parse_t i1 (by omega) | exact parse_f i1 (by omega) (by omega) (by omega) ⟨by omega, by omega⟩)⟩
      · refine j_aload_n (pc := 24) dX9_readAll_24 rfl rfl ?_
        refine j_getI (pc := 25) fl_X9_48 dX9_readAll_25 (a_10 hX) rfl ?_
        have f20 : (0 : Int) ≤ τ 10 6 ∧ τ 10 6 ≤ 3 := hIτ 10 6
        refine j_ifR_eq (pc := 28) (tgt := 51) ⟨by omega, by omega⟩ dX9_readAll_28 rfl (fun h21 => ?_) (fun h21 => ?_)
        · refine j_aload_n (pc := 51) dX9_readAll_51 rfl rfl ?_
          refine j_getI (pc := 52) fl_X9_33 dX9_readAll_52 (a_10 hX) rfl ?_
          refine j_ifR_ne (pc := 55) (tgt := 81) ⟨by omega, by omega⟩ dX9_readAll_55 rfl (fun h22 => by exfalso; omega) (fun h22 => ?_)
          refine j_aload_n (pc := 58) dX9_readAll_58 rfl rfl ?_
          refine j_getI (pc := 59) fl_X9_54 dX9_readAll_59 (a_10 hX) rfl ?_
          have f23 : (0 : Int) ≤ τ 10 4 ∧ τ 10 4 ≤ 40 := hIτ 10 4
          refine j_aload_n (pc := 62) dX9_readAll_62 rfl rfl ?_
          refine j_getR (pc := 63) (r := 14) fl_X9_25 dX9_readAll_63 (a_10 hX) rfl ?_
          refine j_callV (pc := 66) (As := []) (st := [vI (τ 10 4)]) (c_X10_top 14 (s_Wall_14 hX) τ hIτ) mv_X9_57 rfl rfl rfl (a_14 hX) dX9_readAll_66 ⟨Nat.le_of_ble_eq_true rfl, Nat.le_of_ble_eq_true rfl⟩ ⟨Nat.le_refl _, Nat.le_refl _⟩ rfl (Nat.le_of_ble_eq_true rfl) rfl (fun z24 σ25 hz24 => ?_)
          obtain ⟨r27, rfl, hr27, rfl, q26_0⟩ := hz24
          replace q26_0 : r27 = τ 15 0 := q26_0
          refine j_st (st' := [vI r27, vI (τ 10 4)]) rfl ?_
          refine j_icmpR_le (pc := 69) (tgt := 81) ⟨by omega, by omega⟩ ⟨by omega, by omega⟩ dX9_readAll_69 rfl (fun h28 => ?_) (fun h28 => ?_)
          · exact j_vret (pc := 81) ⟨rfl, rfl⟩ dX9_readAll_81 rfl ⟨rfl, hIτ, hFτ, (by first | (exfalso; omega) | exact parse_t i1 (by omega) | exact parse_f i1 (by omega) (by omega) (by omega) ⟨by omega, by omega⟩)⟩
          · refine j_aload_n (pc := 72) dX9_readAll_72 rfl rfl ?_
            refine j_iconst (pc := 73) dX9_readAll_73 ?_
            refine j_aload_n (pc := 74) dX9_readAll_74 rfl rfl ?_
            refine j_getI (pc := 75) fl_X9_29 dX9_readAll_75 (a_10 hX) rfl ?_
            have f29 : (0 : Int) ≤ τ 10 10 ∧ τ 10 10 ≤ 400 := hIτ 10 10
            refine j_callV (pc := 78) (As := [vI 5, vI (τ 10 10)]) (st := []) (c_X9_fail hX 5 ⟨by omega, by omega⟩ (τ 10 10) ⟨by omega, by omega⟩ τ hIτ) mv_X9_61 rfl rfl rfl (a_10 hX) dX9_readAll_78 ⟨Nat.le_of_ble_eq_true rfl, Nat.le_of_ble_eq_true rfl⟩ ⟨Nat.le_refl _, Nat.le_refl _⟩ rfl (Nat.le_of_ble_eq_true rfl) rfl (fun z30 σ31 hz30 => ?_)
            obtain ⟨rfl, hIσ31, hGσ31, q32_0⟩ := hz30
            replace q32_0 : (τ 10 11 = 0 ∧ σ31 10 11 = (5 : Int) ∧ σ31 10 12 = (τ 10 10)) ∨ (¬ τ 10 11 = 0 ∧ σ31 10 11 = τ 10 11 ∧ σ31 10 12 = τ 10 12) := q32_0
            have hFσ31 : tw_F (fun c j => (c = 10 ∧ (j = 3 ∨ j = 4 ∨ j = 5 ∨ j = 6 ∨ j = 7 ∨ j = 8 ∨ j = 11 ∨ j = 12 ∨ j = 13)) ∨ (12 ≤ c ∧ c < 14) ∨ (14 ≤ c ∧ c < 23)) σ σ31 := tw_F_tr hFτ hGσ31 (fun c j q => (show (c = 10 ∧ (j = 3 ∨ j = 4 ∨ j = 5 ∨ j = 6 ∨ j = 7 ∨ j = 8 ∨ j = 11 ∨ j = 12 ∨ j = 13)) ∨ (12 ≤ c ∧ c < 14) ∨ (14 ≤ c ∧ c < 23) from by replace q : (c = 10 ∧ (j = 11 ∨ j = 12)) := q; omega))
            refine j_st (st' := []) rfl ?_
            have y34 : σ31 10 13 = τ 10 13 := (hGσ31 10 13 (show ¬ ((10 = 10 ∧ (13 = 11 ∨ 13 = 12))) from by omega))
            have f35 : (0 : Int) ≤ τ 10 13 ∧ τ 10 13 ≤ 400 := hIτ 10 13
            exact j_vret (pc := 81) ⟨rfl, rfl⟩ dX9_readAll_81 rfl ⟨rfl, hIσ31, hFσ31, (by first | (exfalso; omega) | exact parse_t i1 (by omega) | exact parse_f i1 (by omega) (by omega) (by omega) ⟨by omega, by omega⟩)⟩
        · refine j_aload_n (pc := 31) dX9_readAll_31 rfl rfl ?_
          refine j_callV (pc := 32) (As := []) (st := []) (c_X9_line hX τ hIτ (by omega)) mv_X9_51 rfl rfl rfl (a_10 hX) dX9_readAll_32 ⟨Nat.le_of_ble_eq_true rfl, Nat.le_of_ble_eq_true rfl⟩ ⟨Nat.le_refl _, Nat.le_refl _⟩ rfl (Nat.le_of_ble_eq_true rfl) rfl (fun z36 σ37 hz36 => ?_)
          obtain ⟨rfl, hIσ37, hGσ37, q38_0, q38_1, q38_2, q38_3⟩ := hz36
          replace q38_0 : aX σ37 = lineX (fX τ) (aX τ) := q38_0
          replace q38_1 : ¬ τ 10 5 ≤ τ 10 10 ∨ σ37 10 5 ≤ τ 10 10 := q38_1
          replace q38_2 : ¬ τ 10 5 ≤ τ 10 10 ∨ ¬ σ37 10 11 = 0 ∨ ¬ σ37 10 6 = 0 ∨ σ37 10 7 = τ 10 10 := q38_2
          replace q38_3 : ¬ σ37 10 11 = 0 ∨ (τ 10 11 = 0 ∧ τ 10 5 ≤ σ37 10 5 ∧ (σ37 10 6 = 0 ∨ τ 10 5 < σ37 10 5)) := q38_3
          have hFσ37 : tw_F (fun c j => (c = 10 ∧ (j = 3 ∨ j = 4 ∨ j = 5 ∨ j = 6 ∨ j = 7 ∨ j = 8 ∨ j = 11 ∨ j = 12 ∨ j = 13)) ∨ (12 ≤ c ∧ c < 14) ∨ (14 ≤ c ∧ c < 23)) σ σ37 := tw_F_tr hFτ hGσ37 (fun c j q => (show (c = 10 ∧ (j = 3 ∨ j = 4 ∨ j = 5 ∨ j = 6 ∨ j = 7 ∨ j = 8 ∨ j = 11 ∨ j = 12 ∨ j = 13)) ∨ (12 ≤ c ∧ c < 14) ∨ (14 ≤ c ∧ c < 23) from by replace q : (c = 10 ∧ (j = 3 ∨ j = 4 ∨ j = 5 ∨ j = 6 ∨ j = 7 ∨ j = 8 ∨ j = 11 ∨ j = 12)) ∨ (12 ≤ c ∧ c < 14) ∨ (14 ≤ c ∧ c < 23) := q; omega))
          refine j_st (st' := []) rfl ?_
          have cl := q38_0; rw [fx] at cl
          refine j_aload_n (pc := 35) dX9_readAll_35 rfl rfl ?_
          refine j_dup (pc := 36) dX9_readAll_36 rfl ?_
          refine j_getI (pc := 37) fl_X9_39 dX9_readAll_37 (a_10 hX) rfl ?_
          refine j_topV (show σ37 10 13 = τ 10 13 from (hGσ37 10 13 (show ¬ ((10 = 10 ∧ (13 = 3 ∨ 13 = 4 ∨ 13 = 5 ∨ 13 = 6 ∨ 13 = 7 ∨ 13 = 8 ∨ 13 = 11 ∨ 13 = 12)) ∨ (12 ≤ 10 ∧ 10 < 14) ∨ (14 ≤ 10 ∧ 10 < 23)) from by omega))) ?_
          have f40 : (0 : Int) ≤ τ 10 13 ∧ τ 10 13 ≤ 400 := hIτ 10 13
          refine j_iconst (pc := 40) dX9_readAll_40 ?_
          refine j_iadd (pc := 41) dX9_readAll_41 ?_
          refine j_putI (pc := 42) fl_X9_39 fp_X9_13 dX9_readAll_42 (a_10 hX) rfl (j_nm (fun σ41 (eσ41 : σ41 = tw_up σ37 10 13 ((τ 10 13) + 1)) => ?_))
          have hIσ41 : tw_I σ41 := tw_I_up hIσ37 eσ41 (show (0 : Int) ≤ (τ 10 13) + 1 ∧ (τ 10 13) + 1 ≤ 400 from ⟨by omega, by omega⟩)
          have hFσ41 : tw_F (fun c j => (c = 10 ∧ (j = 3 ∨ j = 4 ∨ j = 5 ∨ j = 6 ∨ j = 7 ∨ j = 8 ∨ j = 11 ∨ j = 12 ∨ j = 13)) ∨ (12 ≤ c ∧ c < 14) ∨ (14 ≤ c ∧ c < 23)) σ σ41 := tw_F_up hFσ37 eσ41 (show (10 = 10 ∧ (13 = 3 ∨ 13 = 4 ∨ 13 = 5 ∨ 13 = 6 ∨ 13 = 7 ∨ 13 = 8 ∨ 13 = 11 ∨ 13 = 12 ∨ 13 = 13)) ∨ (12 ≤ 10 ∧ 10 < 14) ∨ (14 ≤ 10 ∧ 10 < 23) from by omega)
          have lx := lns_s (τ := σ41) (m := σ41 10 13) i1 ⟨by omega, by omega⟩ (by omega) (by omega) ((aX_13 eσ41).trans cl) (by omega)
          refine j_iinc (pc := 45) (i := 1) (n := 1) (ls' := [(0, vR 10), (1, vI (i + 1))]) [1, 0] dX9_readAll_45 rfl (Nat.le_of_ble_eq_true rfl) rfl rfl ?_
          refine j_goto (pc := 48) (tgt := 10) dX9_readAll_48 rfl ?_
          refine j_ls (ls' := [(0, vR 10), (1, vI (i + 1))]) [0, 1] rfl ?_
          have y42 : σ41 10 13 = (τ 10 13) + 1 := (tw_eq1 eσ41)
          have y43 : σ41 10 13 = (τ 10 13) + 1 := (tw_eq1 eσ41)
          have y44 : σ41 10 11 = σ37 10 11 := (tw_ne1 eσ41 (by omega))
          have f45 : (0 : Int) ≤ σ37 10 11 ∧ σ37 10 11 ≤ 5 := hIσ37 10 11
          have y46 : σ41 10 6 = σ37 10 6 := (tw_ne1 eσ41 (by omega))
          have f47 : (0 : Int) ≤ σ37 10 6 ∧ σ37 10 6 ≤ 3 := hIσ37 10 6
          have y48 : σ41 10 5 = σ37 10 5 := (tw_ne1 eσ41 (by omega))
          have f49 : (0 : Int) ≤ σ37 10 5 ∧ σ37 10 5 ≤ 400 := hIσ37 10 5
          have y50 : σ41 10 5 = σ37 10 5 := (tw_ne1 eσ41 (by omega))
          have y51 : σ41 10 11 = σ37 10 11 := (tw_ne1 eσ41 (by omega))
          have y52 : σ41 10 6 = σ37 10 6 := (tw_ne1 eσ41 (by omega))
          have y53 : σ41 10 7 = σ37 10 7 := (tw_ne1 eσ41 (by omega))
          have f54 : (0 : Int) ≤ σ37 10 7 ∧ σ37 10 7 ≤ 400 := hIσ37 10 7
          exact ih (i + 1) ⟨by omega, by omega⟩ σ41 hIσ41 hFσ41 (show σ41 10 13 ≤ (i + 1) from by omega) (show itK lstop (lstep (fX σ)) (500 - (i + 1)).toNat (aX σ41, σ41 10 13) = lns (fX σ) from (by first | exact lx | (rw [cb]; exact congrArg (fun z => itK lstop (lstep (fX σ)) 500 (z, (0 : Int))) tok_g))) (show ¬ σ41 10 11 = 0 ∨ σ41 10 6 = 0 ∨ (i + 1) + 1 ≤ σ41 10 5 from by omega) (show σ41 10 5 ≤ σ 10 10 from by omega) (show ¬ σ41 10 11 = 0 ∨ ¬ σ41 10 6 = 0 ∨ σ41 10 7 = σ 10 10 from by omega) (show (400 - (i + 1)).toNat < N_ from by omega)
set_option maxHeartbeats 4000000 in
set_option maxRecDepth 100000 in
theorem c_X9_readAll {G : tw_G} (hX : tw_isX G) (σ : tw_M) (hI : tw_I σ) : tw_C G yX9_readAll cX9_readAll 2 none 8 [vR 10] σ (q_X9_readAll σ) := by
  refine tw_met [(0, vR 10)] (by decide +kernel) rfl (Nat.le_of_ble_eq_true rfl) ?_
  refine j_aload_n (pc := 0) dX9_readAll_0 rfl rfl ?_
  refine j_callV (pc := 1) (As := []) (st := []) (c_X9_begin hX σ hI) mv_X9_42 rfl rfl rfl (a_10 hX) dX9_readAll_1 ⟨Nat.le_of_ble_eq_true rfl, Nat.le_of_ble_eq_true rfl⟩ ⟨Nat.le_refl _, Nat.le_refl _⟩ rfl (Nat.le_of_ble_eq_true rfl) rfl (fun z55 σ56 hz55 => ?_)
  obtain ⟨rfl, hIσ56, hGσ56, q57_0, q57_1, q57_2, q57_3, q57_4, q57_5, q57_6⟩ := hz55
  replace q57_0 : σ56 10 3 = 0 := q57_0
  replace q57_1 : σ56 10 4 = 0 := q57_1
  replace q57_2 : σ56 10 5 = 0 := q57_2
  replace q57_3 : σ56 10 11 = 0 := q57_3
  replace q57_4 : σ56 10 12 = 0 := q57_4
  replace q57_5 : σ56 10 13 = 0 := q57_5
  replace q57_6 : drX σ56 = D0 := q57_6
  have hFσ56 : tw_F (fun c j => (c = 10 ∧ (j = 3 ∨ j = 4 ∨ j = 5 ∨ j = 6 ∨ j = 7 ∨ j = 8 ∨ j = 11 ∨ j = 12 ∨ j = 13)) ∨ (12 ≤ c ∧ c < 14) ∨ (14 ≤ c ∧ c < 23)) σ σ56 := tw_F_tr (tw_F_rf) hGσ56 (fun c j q => (show (c = 10 ∧ (j = 3 ∨ j = 4 ∨ j = 5 ∨ j = 6 ∨ j = 7 ∨ j = 8 ∨ j = 11 ∨ j = 12 ∨ j = 13)) ∨ (12 ≤ c ∧ c < 14) ∨ (14 ≤ c ∧ c < 23) from by replace q : (c = 10 ∧ (j = 3 ∨ j = 4 ∨ j = 5 ∨ j = 11 ∨ j = 12 ∨ j = 13)) ∨ (12 ≤ c ∧ c < 14) ∨ (14 ≤ c ∧ c < 23) := q; omega))
  refine j_st (st' := []) rfl ?_
  refine j_aload_n (pc := 4) dX9_readAll_4 rfl rfl ?_
  have fz : fX σ56 = fX σ := fX_F (hFσ56 10 10 (show ¬ ((10 = 10 ∧ (10 = 3 ∨ 10 = 4 ∨ 10 = 5 ∨ 10 = 6 ∨ 10 = 7 ∨ 10 = 8 ∨ 10 = 11 ∨ 10 = 12 ∨ 10 = 13)) ∨ (12 ≤ 10 ∧ 10 < 14) ∨ (14 ≤ 10 ∧ 10 < 23)) from by omega)) (fun j => hFσ56 11 j (show ¬ ((11 = 10 ∧ (j = 3 ∨ j = 4 ∨ j = 5 ∨ j = 6 ∨ j = 7 ∨ j = 8 ∨ j = 11 ∨ j = 12 ∨ j = 13)) ∨ (12 ≤ 11 ∧ 11 < 14) ∨ (14 ≤ 11 ∧ 11 < 23)) from by omega))
  refine j_callV (pc := 5) (As := []) (st := []) (c_X9_advance hX σ56 hIσ56) mv_X9_45 rfl rfl rfl (a_10 hX) dX9_readAll_5 ⟨Nat.le_of_ble_eq_true rfl, Nat.le_of_ble_eq_true rfl⟩ ⟨Nat.le_refl _, Nat.le_refl _⟩ rfl (Nat.le_of_ble_eq_true rfl) rfl (fun z59 σ60 hz59 => ?_)
  obtain ⟨rfl, hIσ60, hGσ60, q61_0, q61_1, q61_2, q61_3⟩ := hz59
  replace q61_0 : aX σ60 = tok (fX σ56) (aX σ56) := q61_0
  replace q61_1 : ¬ σ56 10 5 ≤ σ56 10 10 ∨ σ60 10 5 ≤ σ56 10 10 := q61_1
  have y63 : σ56 10 10 = σ 10 10 := (hGσ56 10 10 (show ¬ ((10 = 10 ∧ (10 = 3 ∨ 10 = 4 ∨ 10 = 5 ∨ 10 = 11 ∨ 10 = 12 ∨ 10 = 13)) ∨ (12 ≤ 10 ∧ 10 < 14) ∨ (14 ≤ 10 ∧ 10 < 23)) from by omega))
  have f64 : (0 : Int) ≤ σ 10 10 ∧ σ 10 10 ≤ 400 := hI 10 10
  replace q61_2 : ¬ σ56 10 5 ≤ σ56 10 10 ∨ ¬ σ60 10 11 = 0 ∨ ¬ σ60 10 6 = 0 ∨ σ60 10 7 = σ56 10 10 := q61_2
  have y65 : σ56 10 10 = σ 10 10 := (hGσ56 10 10 (show ¬ ((10 = 10 ∧ (10 = 3 ∨ 10 = 4 ∨ 10 = 5 ∨ 10 = 11 ∨ 10 = 12 ∨ 10 = 13)) ∨ (12 ≤ 10 ∧ 10 < 14) ∨ (14 ≤ 10 ∧ 10 < 23)) from by omega))
  replace q61_3 : ¬ σ60 10 11 = 0 ∨ (σ56 10 11 = 0 ∧ σ56 10 5 ≤ σ60 10 5 ∧ (σ60 10 6 = 0 ∨ σ56 10 5 < σ60 10 5)) := q61_3
  have hFσ60 : tw_F (fun c j => (c = 10 ∧ (j = 3 ∨ j = 4 ∨ j = 5 ∨ j = 6 ∨ j = 7 ∨ j = 8 ∨ j = 11 ∨ j = 12 ∨ j = 13)) ∨ (12 ≤ c ∧ c < 14) ∨ (14 ≤ c ∧ c < 23)) σ σ60 := tw_F_tr hFσ56 hGσ60 (fun c j q => (show (c = 10 ∧ (j = 3 ∨ j = 4 ∨ j = 5 ∨ j = 6 ∨ j = 7 ∨ j = 8 ∨ j = 11 ∨ j = 12 ∨ j = 13)) ∨ (12 ≤ c ∧ c < 14) ∨ (14 ≤ c ∧ c < 23) from by replace q : (c = 10 ∧ (j = 5 ∨ j = 6 ∨ j = 7 ∨ j = 8 ∨ j = 11 ∨ j = 12)) := q; omega))
  refine j_st (st' := []) rfl ?_
  have cb := q61_0; rw [fz, aX_ok (by omega), q57_6, show _ = (0 : Int) from q57_2] at cb
  refine j_iconst (pc := 8) dX9_readAll_8 ?_
  refine j_istore_n (pc := 9) (i := 1) (ls' := [(0, vR 10), (1, vI 0)]) [1, 0] dX9_readAll_9 rfl (Nat.le_of_ble_eq_true rfl) rfl rfl ?_
  refine j_ls (ls' := [(0, vR 10), (1, vI 0)]) [0, 1] rfl ?_
  have y66 : σ60 10 13 = σ56 10 13 := (hGσ60 10 13 (show ¬ ((10 = 10 ∧ (13 = 5 ∨ 13 = 6 ∨ 13 = 7 ∨ 13 = 8 ∨ 13 = 11 ∨ 13 = 12))) from by omega))
  have f67 : (0 : Int) ≤ σ56 10 13 ∧ σ56 10 13 ≤ 400 := hIσ56 10 13
  have y68 : σ60 10 13 = σ56 10 13 := (hGσ60 10 13 (show ¬ ((10 = 10 ∧ (13 = 5 ∨ 13 = 6 ∨ 13 = 7 ∨ 13 = 8 ∨ 13 = 11 ∨ 13 = 12))) from by omega))
  exact (l_X9_readAll hX σ hI (((400 - (0 : Int)).toNat) + 1)) 0 ⟨by omega, by omega⟩ σ60 hIσ60 hFσ60 (show σ60 10 13 ≤ (0 : Int) from by omega) (show itK lstop (lstep (fX σ)) (500 - (0 : Int)).toNat (aX σ60, σ60 10 13) = lns (fX σ) from (by first | exact lx | (rw [cb]; exact congrArg (fun z => itK lstop (lstep (fX σ)) 500 (z, (0 : Int))) tok_g))) (show ¬ σ60 10 11 = 0 ∨ σ60 10 6 = 0 ∨ (0 : Int) + 1 ≤ σ60 10 5 from by omega) (show σ60 10 5 ≤ σ 10 10 from by omega) (show ¬ σ60 10 11 = 0 ∨ ¬ σ60 10 6 = 0 ∨ σ60 10 7 = σ 10 10 from by omega) (Nat.lt_succ_self _)
