/-! 23.model -/
theorem dX12_in_0 : decode cX12_in 0 = .ok (.lload_n 0, 1) := by decide +kernel
theorem dX12_in_1 : decode cX12_in 1 = .ok (.lload_n 2, 1) := by decide +kernel
theorem dX12_in_2 : decode cX12_in 2 = .ok (.lcmp, 1) := by decide +kernel
theorem dX12_in_3 : decode cX12_in 3 = .ok (.ifCond .lt 14, 3) := by decide +kernel
theorem dX12_in_6 : decode cX12_in 6 = .ok (.lload_n 0, 1) := by decide +kernel
theorem dX12_in_7 : decode cX12_in 7 = .ok (.lload 4, 2) := by decide +kernel
theorem dX12_in_9 : decode cX12_in 9 = .ok (.lcmp, 1) := by decide +kernel
theorem dX12_in_10 : decode cX12_in 10 = .ok (.ifCond .gt 7, 3) := by decide +kernel
theorem dX12_in_13 : decode cX12_in 13 = .ok (.iconst 1, 1) := by decide +kernel
theorem dX12_in_14 : decode cX12_in 14 = .ok (.goto 4, 3) := by decide +kernel
theorem dX12_in_17 : decode cX12_in 17 = .ok (.iconst 0, 1) := by decide +kernel
theorem dX12_in_18 : decode cX12_in 18 = .ok (.ireturn, 1) := by decide +kernel
theorem dX12_flag_0 : decode cX12_flag 0 = .ok (.iload_n 0, 1) := by decide +kernel
theorem dX12_flag_1 : decode cX12_flag 1 = .ok (.ifCond .eq 7, 3) := by decide +kernel
theorem dX12_flag_4 : decode cX12_flag 4 = .ok (.iconst 1, 1) := by decide +kernel
theorem dX12_flag_5 : decode cX12_flag 5 = .ok (.goto 4, 3) := by decide +kernel
theorem dX12_flag_8 : decode cX12_flag 8 = .ok (.iconst 0, 1) := by decide +kernel
theorem dX12_flag_9 : decode cX12_flag 9 = .ok (.ireturn, 1) := by decide +kernel
theorem dX12_countOf_0 : decode cX12_countOf 0 = .ok (.iconst 0, 1) := by decide +kernel
theorem dX12_countOf_1 : decode cX12_countOf 1 = .ok (.istore_n 1, 1) := by decide +kernel
theorem dX12_countOf_2 : decode cX12_countOf 2 = .ok (.iconst 0, 1) := by decide +kernel
theorem dX12_countOf_3 : decode cX12_countOf 3 = .ok (.istore_n 2, 1) := by decide +kernel
theorem dX12_countOf_4 : decode cX12_countOf 4 = .ok (.iload_n 2, 1) := by decide +kernel
theorem dX12_countOf_5 : decode cX12_countOf 5 = .ok (.bipush 12, 2) := by decide +kernel
theorem dX12_countOf_7 : decode cX12_countOf 7 = .ok (.if_icmp .ge 17, 3) := by decide +kernel
theorem dX12_countOf_10 : decode cX12_countOf 10 = .ok (.iload_n 1, 1) := by decide +kernel
theorem dX12_countOf_11 : decode cX12_countOf 11 = .ok (.iload_n 0, 1) := by decide +kernel
theorem dX12_countOf_12 : decode cX12_countOf 12 = .ok (.iload_n 2, 1) := by decide +kernel
theorem dX12_countOf_13 : decode cX12_countOf 13 = .ok (.ishr, 1) := by decide +kernel
theorem dX12_countOf_14 : decode cX12_countOf 14 = .ok (.iconst 1, 1) := by decide +kernel
theorem dX12_countOf_15 : decode cX12_countOf 15 = .ok (.iand, 1) := by decide +kernel
theorem dX12_countOf_16 : decode cX12_countOf 16 = .ok (.iadd, 1) := by decide +kernel
theorem dX12_countOf_17 : decode cX12_countOf 17 = .ok (.istore_n 1, 1) := by decide +kernel
theorem dX12_countOf_18 : decode cX12_countOf 18 = .ok (.iinc 2 1, 3) := by decide +kernel
theorem dX12_countOf_21 : decode cX12_countOf 21 = .ok (.goto (-17), 3) := by decide +kernel
theorem dX12_countOf_24 : decode cX12_countOf 24 = .ok (.iload_n 1, 1) := by decide +kernel
theorem dX12_countOf_25 : decode cX12_countOf 25 = .ok (.ireturn, 1) := by decide +kernel
theorem dX12_size_0 : decode cX12_size 0 = .ok (.iload_n 0, 1) := by decide +kernel
theorem dX12_size_1 : decode cX12_size 1 = .ok (.ifCond .ge 8, 3) := by decide +kernel
theorem dX12_size_4 : decode cX12_size 4 = .ok (.iload_n 0, 1) := by decide +kernel
theorem dX12_size_5 : decode cX12_size 5 = .ok (.ineg, 1) := by decide +kernel
theorem dX12_size_6 : decode cX12_size 6 = .ok (.goto 4, 3) := by decide +kernel
theorem dX12_size_9 : decode cX12_size 9 = .ok (.iload_n 0, 1) := by decide +kernel
theorem dX12_size_10 : decode cX12_size 10 = .ok (.ireturn, 1) := by decide +kernel
theorem dX12_isAt_0 : decode cX12_isAt 0 = .ok (.iload_n 1, 1) := by decide +kernel
theorem dX12_isAt_1 : decode cX12_isAt 1 = .ok (.i2l, 1) := by decide +kernel
theorem dX12_isAt_2 : decode cX12_isAt 2 = .ok (.lconst 1, 1) := by decide +kernel
theorem dX12_isAt_3 : decode cX12_isAt 3 = .ok (.aload_n 0, 1) := by decide +kernel
theorem dX12_isAt_4 : decode cX12_isAt 4 = .ok (.getfield 17, 3) := by decide +kernel
theorem dX12_isAt_7 : decode cX12_isAt 7 = .ok (.iconst 0, 1) := by decide +kernel
theorem dX12_isAt_8 : decode cX12_isAt 8 = .ok (.iaload, 1) := by decide +kernel
theorem dX12_isAt_9 : decode cX12_isAt 9 = .ok (.i2l, 1) := by decide +kernel
theorem dX12_isAt_10 : decode cX12_isAt 10 = .ok (.invokestatic 82, 3) := by decide +kernel
theorem dX12_isAt_13 : decode cX12_isAt 13 = .ok (.ireturn, 1) := by decide +kernel
theorem dX12_of_0 : decode cX12_of 0 = .ok (.aload_n 0, 1) := by decide +kernel
theorem dX12_of_1 : decode cX12_of 1 = .ok (.getfield 20, 3) := by decide +kernel
theorem dX12_of_4 : decode cX12_of 4 = .ok (.iconst 5, 1) := by decide +kernel
theorem dX12_of_5 : decode cX12_of 5 = .ok (.iload_n 1, 1) := by decide +kernel
theorem dX12_of_6 : decode cX12_of 6 = .ok (.imul, 1) := by decide +kernel
theorem dX12_of_7 : decode cX12_of 7 = .ok (.iload_n 2, 1) := by decide +kernel
theorem dX12_of_8 : decode cX12_of 8 = .ok (.iadd, 1) := by decide +kernel
theorem dX12_of_9 : decode cX12_of 9 = .ok (.iaload, 1) := by decide +kernel
theorem dX12_of_10 : decode cX12_of 10 = .ok (.ireturn, 1) := by decide +kernel
theorem dX12_pieces_0 : decode cX12_pieces 0 = .ok (.iconst 0, 1) := by decide +kernel
theorem dX12_pieces_1 : decode cX12_pieces 1 = .ok (.istore_n 3, 1) := by decide +kernel
theorem dX12_pieces_2 : decode cX12_pieces 2 = .ok (.iconst 1, 1) := by decide +kernel
theorem dX12_pieces_3 : decode cX12_pieces 3 = .ok (.istore 4, 2) := by decide +kernel
theorem dX12_pieces_5 : decode cX12_pieces 5 = .ok (.iload 4, 2) := by decide +kernel
theorem dX12_pieces_7 : decode cX12_pieces 7 = .ok (.iload_n 2, 1) := by decide +kernel
theorem dX12_pieces_8 : decode cX12_pieces 8 = .ok (.if_icmp .gt 32, 3) := by decide +kernel
theorem dX12_pieces_11 : decode cX12_pieces 11 = .ok (.iload_n 3, 1) := by decide +kernel
theorem dX12_pieces_12 : decode cX12_pieces 12 = .ok (.aload_n 0, 1) := by decide +kernel
theorem dX12_pieces_13 : decode cX12_pieces 13 = .ok (.getfield 7, 3) := by decide +kernel
theorem dX12_pieces_16 : decode cX12_pieces 16 = .ok (.iload_n 1, 1) := by decide +kernel
theorem dX12_pieces_17 : decode cX12_pieces 17 = .ok (.iload 4, 2) := by decide +kernel
theorem dX12_pieces_19 : decode cX12_pieces 19 = .ok (.iadd, 1) := by decide +kernel
theorem dX12_pieces_20 : decode cX12_pieces 20 = .ok (.iaload, 1) := by decide +kernel
theorem dX12_pieces_21 : decode cX12_pieces 21 = .ok (.ifCond .le 7, 3) := by decide +kernel
theorem dX12_pieces_24 : decode cX12_pieces 24 = .ok (.iconst 1, 1) := by decide +kernel
theorem dX12_pieces_25 : decode cX12_pieces 25 = .ok (.goto 4, 3) := by decide +kernel
theorem dX12_pieces_28 : decode cX12_pieces 28 = .ok (.iconst 0, 1) := by decide +kernel
theorem dX12_pieces_29 : decode cX12_pieces 29 = .ok (.invokestatic 168, 3) := by decide +kernel
theorem dX12_pieces_32 : decode cX12_pieces 32 = .ok (.iadd, 1) := by decide +kernel
theorem dX12_pieces_33 : decode cX12_pieces 33 = .ok (.istore_n 3, 1) := by decide +kernel
theorem dX12_pieces_34 : decode cX12_pieces 34 = .ok (.iinc 4 1, 3) := by decide +kernel
theorem dX12_pieces_37 : decode cX12_pieces 37 = .ok (.goto (-32), 3) := by decide +kernel
theorem dX12_pieces_40 : decode cX12_pieces 40 = .ok (.iload_n 3, 1) := by decide +kernel
theorem dX12_pieces_41 : decode cX12_pieces 41 = .ok (.ireturn, 1) := by decide +kernel
theorem dX12_all_0 : decode cX12_all 0 = .ok (.aload_n 0, 1) := by decide +kernel
theorem dX12_all_1 : decode cX12_all 1 = .ok (.iload_n 1, 1) := by decide +kernel
theorem dX12_all_2 : decode cX12_all 2 = .ok (.aload_n 0, 1) := by decide +kernel
theorem dX12_all_3 : decode cX12_all 3 = .ok (.getfield 17, 3) := by decide +kernel
theorem dX12_all_6 : decode cX12_all 6 = .ok (.iconst 0, 1) := by decide +kernel
theorem dX12_all_7 : decode cX12_all 7 = .ok (.iaload, 1) := by decide +kernel
theorem dX12_all_8 : decode cX12_all 8 = .ok (.invokevirtual 172, 3) := by decide +kernel
theorem dX12_all_11 : decode cX12_all 11 = .ok (.ireturn, 1) := by decide +kernel
theorem dX12_footOf_0 : decode cX12_footOf 0 = .ok (.iconst 0, 1) := by decide +kernel
theorem dX12_footOf_1 : decode cX12_footOf 1 = .ok (.istore_n 3, 1) := by decide +kernel
theorem dX12_footOf_2 : decode cX12_footOf 2 = .ok (.iconst (-1), 1) := by decide +kernel
theorem dX12_footOf_3 : decode cX12_footOf 3 = .ok (.istore 4, 2) := by decide +kernel
theorem dX12_footOf_5 : decode cX12_footOf 5 = .ok (.iload 4, 2) := by decide +kernel
theorem dX12_footOf_7 : decode cX12_footOf 7 = .ok (.iload_n 2, 1) := by decide +kernel
theorem dX12_footOf_8 : decode cX12_footOf 8 = .ok (.if_icmp .ge 33, 3) := by decide +kernel
theorem dX12_footOf_11 : decode cX12_footOf 11 = .ok (.iinc 3 1, 3) := by decide +kernel
theorem dX12_footOf_14 : decode cX12_footOf 14 = .ok (.iload 4, 2) := by decide +kernel
theorem dX12_footOf_16 : decode cX12_footOf 16 = .ok (.aload_n 0, 1) := by decide +kernel
theorem dX12_footOf_17 : decode cX12_footOf 17 = .ok (.getfield 7, 3) := by decide +kernel
theorem dX12_footOf_20 : decode cX12_footOf 20 = .ok (.iload_n 1, 1) := by decide +kernel
theorem dX12_footOf_21 : decode cX12_footOf 21 = .ok (.iload_n 3, 1) := by decide +kernel
theorem dX12_footOf_22 : decode cX12_footOf 22 = .ok (.iadd, 1) := by decide +kernel
theorem dX12_footOf_23 : decode cX12_footOf 23 = .ok (.iaload, 1) := by decide +kernel
theorem dX12_footOf_24 : decode cX12_footOf 24 = .ok (.ifCond .le 7, 3) := by decide +kernel
theorem dX12_footOf_27 : decode cX12_footOf 27 = .ok (.iconst 1, 1) := by decide +kernel
theorem dX12_footOf_28 : decode cX12_footOf 28 = .ok (.goto 4, 3) := by decide +kernel
theorem dX12_footOf_31 : decode cX12_footOf 31 = .ok (.iconst 0, 1) := by decide +kernel
theorem dX12_footOf_32 : decode cX12_footOf 32 = .ok (.invokestatic 168, 3) := by decide +kernel
theorem dX12_footOf_35 : decode cX12_footOf 35 = .ok (.iadd, 1) := by decide +kernel
theorem dX12_footOf_36 : decode cX12_footOf 36 = .ok (.istore 4, 2) := by decide +kernel
theorem dX12_footOf_38 : decode cX12_footOf 38 = .ok (.goto (-33), 3) := by decide +kernel
theorem dX12_footOf_41 : decode cX12_footOf 41 = .ok (.iload_n 3, 1) := by decide +kernel
theorem dX12_footOf_42 : decode cX12_footOf 42 = .ok (.ireturn, 1) := by decide +kernel
theorem dX12_numberAt_0 : decode cX12_numberAt 0 = .ok (.aload_n 0, 1) := by decide +kernel
theorem dX12_numberAt_1 : decode cX12_numberAt 1 = .ok (.getfield 7, 3) := by decide +kernel
theorem dX12_numberAt_4 : decode cX12_numberAt 4 = .ok (.iload_n 1, 1) := by decide +kernel
theorem dX12_numberAt_5 : decode cX12_numberAt 5 = .ok (.iaload, 1) := by decide +kernel
theorem dX12_numberAt_6 : decode cX12_numberAt 6 = .ok (.ifCond .le 14, 3) := by decide +kernel
theorem dX12_numberAt_9 : decode cX12_numberAt 9 = .ok (.aload_n 0, 1) := by decide +kernel
theorem dX12_numberAt_10 : decode cX12_numberAt 10 = .ok (.iconst 0, 1) := by decide +kernel
theorem dX12_numberAt_11 : decode cX12_numberAt 11 = .ok (.iload_n 1, 1) := by decide +kernel
theorem dX12_numberAt_12 : decode cX12_numberAt 12 = .ok (.invokevirtual 172, 3) := by decide +kernel
theorem dX12_numberAt_15 : decode cX12_numberAt 15 = .ok (.iconst 1, 1) := by decide +kernel
theorem dX12_numberAt_16 : decode cX12_numberAt 16 = .ok (.isub, 1) := by decide +kernel
theorem dX12_numberAt_17 : decode cX12_numberAt 17 = .ok (.goto 5, 3) := by decide +kernel
theorem dX12_numberAt_20 : decode cX12_numberAt 20 = .ok (.bipush (-4), 2) := by decide +kernel
theorem dX12_numberAt_22 : decode cX12_numberAt 22 = .ok (.ireturn, 1) := by decide +kernel
theorem dX12_foot_0 : decode cX12_foot 0 = .ok (.aload_n 0, 1) := by decide +kernel
theorem dX12_foot_1 : decode cX12_foot 1 = .ok (.iload_n 1, 1) := by decide +kernel
theorem dX12_foot_2 : decode cX12_foot 2 = .ok (.invokevirtual 175, 3) := by decide +kernel
theorem dX12_foot_5 : decode cX12_foot 5 = .ok (.ifCond .eq 15, 3) := by decide +kernel
theorem dX12_foot_8 : decode cX12_foot 8 = .ok (.iload_n 2, 1) := by decide +kernel
theorem dX12_foot_9 : decode cX12_foot 9 = .ok (.i2l, 1) := by decide +kernel
theorem dX12_foot_10 : decode cX12_foot 10 = .ok (.lconst 0, 1) := by decide +kernel
theorem dX12_foot_11 : decode cX12_foot 11 = .ok (.ldc2_w 179, 3) := by decide +kernel
theorem dX12_foot_14 : decode cX12_foot 14 = .ok (.invokestatic 82, 3) := by decide +kernel
theorem dX12_foot_17 : decode cX12_foot 17 = .ok (.ifCond .ne 7, 3) := by decide +kernel
theorem dX12_foot_20 : decode cX12_foot 20 = .ok (.iconst (-1), 1) := by decide +kernel
theorem dX12_foot_21 : decode cX12_foot 21 = .ok (.goto 22, 3) := by decide +kernel
theorem dX12_foot_24 : decode cX12_foot 24 = .ok (.iload_n 2, 1) := by decide +kernel
theorem dX12_foot_25 : decode cX12_foot 25 = .ok (.iconst 5, 1) := by decide +kernel
theorem dX12_foot_26 : decode cX12_foot 26 = .ok (.if_icmp .ne 11, 3) := by decide +kernel
theorem dX12_foot_29 : decode cX12_foot 29 = .ok (.aload_n 0, 1) := by decide +kernel
theorem dX12_foot_30 : decode cX12_foot 30 = .ok (.iload_n 1, 1) := by decide +kernel
theorem dX12_foot_31 : decode cX12_foot 31 = .ok (.invokevirtual 181, 3) := by decide +kernel
theorem dX12_foot_34 : decode cX12_foot 34 = .ok (.goto 9, 3) := by decide +kernel
theorem dX12_foot_37 : decode cX12_foot 37 = .ok (.aload_n 0, 1) := by decide +kernel
theorem dX12_foot_38 : decode cX12_foot 38 = .ok (.iload_n 1, 1) := by decide +kernel
theorem dX12_foot_39 : decode cX12_foot 39 = .ok (.iload_n 2, 1) := by decide +kernel
theorem dX12_foot_40 : decode cX12_foot 40 = .ok (.invokevirtual 184, 3) := by decide +kernel
theorem dX12_foot_43 : decode cX12_foot 43 = .ok (.ireturn, 1) := by decide +kernel
theorem dX12_chanceAt_0 : decode cX12_chanceAt 0 = .ok (.aload_n 0, 1) := by decide +kernel
theorem dX12_chanceAt_1 : decode cX12_chanceAt 1 = .ok (.getfield 7, 3) := by decide +kernel
theorem dX12_chanceAt_4 : decode cX12_chanceAt 4 = .ok (.iload_n 1, 1) := by decide +kernel
theorem dX12_chanceAt_5 : decode cX12_chanceAt 5 = .ok (.iaload, 1) := by decide +kernel
theorem dX12_chanceAt_6 : decode cX12_chanceAt 6 = .ok (.aload_n 0, 1) := by decide +kernel
theorem dX12_chanceAt_7 : decode cX12_chanceAt 7 = .ok (.iload_n 1, 1) := by decide +kernel
theorem dX12_chanceAt_8 : decode cX12_chanceAt 8 = .ok (.iconst 1, 1) := by decide +kernel
theorem dX12_chanceAt_9 : decode cX12_chanceAt 9 = .ok (.invokevirtual 184, 3) := by decide +kernel
theorem dX12_chanceAt_12 : decode cX12_chanceAt 12 = .ok (.if_icmp .ne 12, 3) := by decide +kernel
theorem dX12_chanceAt_15 : decode cX12_chanceAt 15 = .ok (.aload_n 0, 1) := by decide +kernel
theorem dX12_chanceAt_16 : decode cX12_chanceAt 16 = .ok (.getfield 17, 3) := by decide +kernel
theorem dX12_chanceAt_19 : decode cX12_chanceAt 19 = .ok (.iconst 5, 1) := by decide +kernel
theorem dX12_chanceAt_20 : decode cX12_chanceAt 20 = .ok (.iaload, 1) := by decide +kernel
theorem dX12_chanceAt_21 : decode cX12_chanceAt 21 = .ok (.goto 10, 3) := by decide +kernel
theorem dX12_chanceAt_24 : decode cX12_chanceAt 24 = .ok (.aload_n 0, 1) := by decide +kernel
theorem dX12_chanceAt_25 : decode cX12_chanceAt 25 = .ok (.getfield 17, 3) := by decide +kernel
theorem dX12_chanceAt_28 : decode cX12_chanceAt 28 = .ok (.bipush 6, 2) := by decide +kernel
theorem dX12_chanceAt_30 : decode cX12_chanceAt 30 = .ok (.iaload, 1) := by decide +kernel
theorem dX12_chanceAt_31 : decode cX12_chanceAt 31 = .ok (.ireturn, 1) := by decide +kernel
theorem dX12_sideOf_0 : decode cX12_sideOf 0 = .ok (.iload_n 1, 1) := by decide +kernel
theorem dX12_sideOf_1 : decode cX12_sideOf 1 = .ok (.ifCond .ge 7, 3) := by decide +kernel
theorem dX12_sideOf_4 : decode cX12_sideOf 4 = .ok (.iconst 5, 1) := by decide +kernel
theorem dX12_sideOf_5 : decode cX12_sideOf 5 = .ok (.goto 37, 3) := by decide +kernel
theorem dX12_sideOf_8 : decode cX12_sideOf 8 = .ok (.iload_n 1, 1) := by decide +kernel
theorem dX12_sideOf_9 : decode cX12_sideOf 9 = .ok (.aload_n 0, 1) := by decide +kernel
theorem dX12_sideOf_10 : decode cX12_sideOf 10 = .ok (.iconst 0, 1) := by decide +kernel
theorem dX12_sideOf_11 : decode cX12_sideOf 11 = .ok (.invokevirtual 192, 3) := by decide +kernel
theorem dX12_sideOf_14 : decode cX12_sideOf 14 = .ok (.if_icmp .lt 17, 3) := by decide +kernel
theorem dX12_sideOf_17 : decode cX12_sideOf 17 = .ok (.aload_n 0, 1) := by decide +kernel
theorem dX12_sideOf_18 : decode cX12_sideOf 18 = .ok (.aload_n 0, 1) := by decide +kernel
theorem dX12_sideOf_19 : decode cX12_sideOf 19 = .ok (.getfield 17, 3) := by decide +kernel
theorem dX12_sideOf_22 : decode cX12_sideOf 22 = .ok (.iconst 0, 1) := by decide +kernel
theorem dX12_sideOf_23 : decode cX12_sideOf 23 = .ok (.iaload, 1) := by decide +kernel
theorem dX12_sideOf_24 : decode cX12_sideOf 24 = .ok (.iconst 4, 1) := by decide +kernel
theorem dX12_sideOf_25 : decode cX12_sideOf 25 = .ok (.invokevirtual 184, 3) := by decide +kernel
theorem dX12_sideOf_28 : decode cX12_sideOf 28 = .ok (.goto 14, 3) := by decide +kernel
theorem dX12_sideOf_31 : decode cX12_sideOf 31 = .ok (.aload_n 0, 1) := by decide +kernel
theorem dX12_sideOf_32 : decode cX12_sideOf 32 = .ok (.aload_n 0, 1) := by decide +kernel
theorem dX12_sideOf_33 : decode cX12_sideOf 33 = .ok (.iconst 0, 1) := by decide +kernel
theorem dX12_sideOf_34 : decode cX12_sideOf 34 = .ok (.iload_n 1, 1) := by decide +kernel
theorem dX12_sideOf_35 : decode cX12_sideOf 35 = .ok (.invokevirtual 198, 3) := by decide +kernel
theorem dX12_sideOf_38 : decode cX12_sideOf 38 = .ok (.iconst 4, 1) := by decide +kernel
theorem dX12_sideOf_39 : decode cX12_sideOf 39 = .ok (.invokevirtual 184, 3) := by decide +kernel
theorem dX12_sideOf_42 : decode cX12_sideOf 42 = .ok (.ireturn, 1) := by decide +kernel
theorem dX12_offOf_0 : decode cX12_offOf 0 = .ok (.iconst 2, 1) := by decide +kernel
theorem dX12_offOf_1 : decode cX12_offOf 1 = .ok (.aload_n 0, 1) := by decide +kernel
theorem dX12_offOf_2 : decode cX12_offOf 2 = .ok (.iload_n 1, 1) := by decide +kernel
theorem dX12_offOf_3 : decode cX12_offOf 3 = .ok (.invokevirtual 201, 3) := by decide +kernel
theorem dX12_offOf_6 : decode cX12_offOf 6 = .ok (.imul, 1) := by decide +kernel
theorem dX12_offOf_7 : decode cX12_offOf 7 = .ok (.aload_n 0, 1) := by decide +kernel
theorem dX12_offOf_8 : decode cX12_offOf 8 = .ok (.iload_n 1, 1) := by decide +kernel
theorem dX12_offOf_9 : decode cX12_offOf 9 = .ok (.iconst 1, 1) := by decide +kernel
theorem dX12_offOf_10 : decode cX12_offOf 10 = .ok (.isub, 1) := by decide +kernel
theorem dX12_offOf_11 : decode cX12_offOf 11 = .ok (.invokevirtual 201, 3) := by decide +kernel
theorem dX12_offOf_14 : decode cX12_offOf 14 = .ok (.isub, 1) := by decide +kernel
theorem dX12_offOf_15 : decode cX12_offOf 15 = .ok (.aload_n 0, 1) := by decide +kernel
theorem dX12_offOf_16 : decode cX12_offOf 16 = .ok (.iload_n 1, 1) := by decide +kernel
theorem dX12_offOf_17 : decode cX12_offOf 17 = .ok (.iconst 1, 1) := by decide +kernel
theorem dX12_offOf_18 : decode cX12_offOf 18 = .ok (.iadd, 1) := by decide +kernel
theorem dX12_offOf_19 : decode cX12_offOf 19 = .ok (.invokevirtual 201, 3) := by decide +kernel
theorem dX12_offOf_22 : decode cX12_offOf 22 = .ok (.isub, 1) := by decide +kernel
theorem dX12_offOf_23 : decode cX12_offOf 23 = .ok (.invokestatic 189, 3) := by decide +kernel
theorem dX12_offOf_26 : decode cX12_offOf 26 = .ok (.istore_n 3, 1) := by decide +kernel
theorem dX12_offOf_27 : decode cX12_offOf 27 = .ok (.iload_n 2, 1) := by decide +kernel
theorem dX12_offOf_28 : decode cX12_offOf 28 = .ok (.ifCond .eq 9, 3) := by decide +kernel
theorem dX12_offOf_31 : decode cX12_offOf 31 = .ok (.iload_n 3, 1) := by decide +kernel
theorem dX12_offOf_32 : decode cX12_offOf 32 = .ok (.iconst 2, 1) := by decide +kernel
theorem dX12_offOf_33 : decode cX12_offOf 33 = .ok (.idiv, 1) := by decide +kernel
theorem dX12_offOf_34 : decode cX12_offOf 34 = .ok (.goto 4, 3) := by decide +kernel
theorem dX12_offOf_37 : decode cX12_offOf 37 = .ok (.iload_n 3, 1) := by decide +kernel
theorem dX12_offOf_38 : decode cX12_offOf 38 = .ok (.ireturn, 1) := by decide +kernel
theorem dX12_hasSling_0 : decode cX12_hasSling 0 = .ok (.aload_n 0, 1) := by decide +kernel
theorem dX12_hasSling_1 : decode cX12_hasSling 1 = .ok (.getfield 7, 3) := by decide +kernel
theorem dX12_hasSling_4 : decode cX12_hasSling 4 = .ok (.bipush 41, 2) := by decide +kernel
theorem dX12_hasSling_6 : decode cX12_hasSling 6 = .ok (.aload_n 0, 1) := by decide +kernel
theorem dX12_hasSling_7 : decode cX12_hasSling 7 = .ok (.iconst 0, 1) := by decide +kernel
theorem dX12_hasSling_8 : decode cX12_hasSling 8 = .ok (.iload_n 1, 1) := by decide +kernel
theorem dX12_hasSling_9 : decode cX12_hasSling 9 = .ok (.invokevirtual 198, 3) := by decide +kernel
theorem dX12_hasSling_12 : decode cX12_hasSling 12 = .ok (.iadd, 1) := by decide +kernel
theorem dX12_hasSling_13 : decode cX12_hasSling 13 = .ok (.iaload, 1) := by decide +kernel
theorem dX12_hasSling_14 : decode cX12_hasSling 14 = .ok (.iconst 1, 1) := by decide +kernel
theorem dX12_hasSling_15 : decode cX12_hasSling 15 = .ok (.if_icmp .ne 7, 3) := by decide +kernel
theorem dX12_hasSling_18 : decode cX12_hasSling 18 = .ok (.iconst 1, 1) := by decide +kernel
theorem dX12_hasSling_19 : decode cX12_hasSling 19 = .ok (.goto 4, 3) := by decide +kernel
theorem dX12_hasSling_22 : decode cX12_hasSling 22 = .ok (.iconst 0, 1) := by decide +kernel
theorem dX12_hasSling_23 : decode cX12_hasSling 23 = .ok (.ireturn, 1) := by decide +kernel
theorem dX12_isLifted_0 : decode cX12_isLifted 0 = .ok (.aload_n 0, 1) := by decide +kernel
theorem dX12_isLifted_1 : decode cX12_isLifted 1 = .ok (.iload_n 1, 1) := by decide +kernel
theorem dX12_isLifted_2 : decode cX12_isLifted 2 = .ok (.invokevirtual 201, 3) := by decide +kernel
theorem dX12_isLifted_5 : decode cX12_isLifted 5 = .ok (.istore_n 2, 1) := by decide +kernel
theorem dX12_isLifted_6 : decode cX12_isLifted 6 = .ok (.aload_n 0, 1) := by decide +kernel
theorem dX12_isLifted_7 : decode cX12_isLifted 7 = .ok (.iload_n 1, 1) := by decide +kernel
theorem dX12_isLifted_8 : decode cX12_isLifted 8 = .ok (.iconst 1, 1) := by decide +kernel
theorem dX12_isLifted_9 : decode cX12_isLifted 9 = .ok (.isub, 1) := by decide +kernel
theorem dX12_isLifted_10 : decode cX12_isLifted 10 = .ok (.invokevirtual 201, 3) := by decide +kernel
theorem dX12_isLifted_13 : decode cX12_isLifted 13 = .ok (.iload_n 2, 1) := by decide +kernel
theorem dX12_isLifted_14 : decode cX12_isLifted 14 = .ok (.isub, 1) := by decide +kernel
theorem dX12_isLifted_15 : decode cX12_isLifted 15 = .ok (.istore_n 3, 1) := by decide +kernel
theorem dX12_isLifted_16 : decode cX12_isLifted 16 = .ok (.aload_n 0, 1) := by decide +kernel
theorem dX12_isLifted_17 : decode cX12_isLifted 17 = .ok (.iload_n 1, 1) := by decide +kernel
theorem dX12_isLifted_18 : decode cX12_isLifted 18 = .ok (.iconst 1, 1) := by decide +kernel
theorem dX12_isLifted_19 : decode cX12_isLifted 19 = .ok (.iadd, 1) := by decide +kernel
theorem dX12_isLifted_20 : decode cX12_isLifted 20 = .ok (.invokevirtual 201, 3) := by decide +kernel
theorem dX12_isLifted_23 : decode cX12_isLifted 23 = .ok (.iload_n 2, 1) := by decide +kernel
theorem dX12_isLifted_24 : decode cX12_isLifted 24 = .ok (.isub, 1) := by decide +kernel
theorem dX12_isLifted_25 : decode cX12_isLifted 25 = .ok (.istore 4, 2) := by decide +kernel
theorem dX12_isLifted_27 : decode cX12_isLifted 27 = .ok (.aload_n 0, 1) := by decide +kernel
theorem dX12_isLifted_28 : decode cX12_isLifted 28 = .ok (.iload_n 1, 1) := by decide +kernel
theorem dX12_isLifted_29 : decode cX12_isLifted 29 = .ok (.invokevirtual 204, 3) := by decide +kernel
theorem dX12_isLifted_32 : decode cX12_isLifted 32 = .ok (.ifCond .ne 31, 3) := by decide +kernel
theorem dX12_isLifted_35 : decode cX12_isLifted 35 = .ok (.iload_n 3, 1) := by decide +kernel
theorem dX12_isLifted_36 : decode cX12_isLifted 36 = .ok (.iconst 2, 1) := by decide +kernel
theorem dX12_isLifted_37 : decode cX12_isLifted 37 = .ok (.if_icmp .lt 9, 3) := by decide +kernel
theorem dX12_isLifted_40 : decode cX12_isLifted 40 = .ok (.iload 4, 2) := by decide +kernel
theorem dX12_isLifted_42 : decode cX12_isLifted 42 = .ok (.iconst 2, 1) := by decide +kernel
theorem dX12_isLifted_43 : decode cX12_isLifted 43 = .ok (.if_icmp .ge 16, 3) := by decide +kernel
theorem dX12_isLifted_46 : decode cX12_isLifted 46 = .ok (.iload_n 3, 1) := by decide +kernel
theorem dX12_isLifted_47 : decode cX12_isLifted 47 = .ok (.bipush (-2), 2) := by decide +kernel
theorem dX12_isLifted_49 : decode cX12_isLifted 49 = .ok (.if_icmp .gt 14, 3) := by decide +kernel
theorem dX12_isLifted_52 : decode cX12_isLifted 52 = .ok (.iload 4, 2) := by decide +kernel
theorem dX12_isLifted_54 : decode cX12_isLifted 54 = .ok (.bipush (-2), 2) := by decide +kernel
theorem dX12_isLifted_56 : decode cX12_isLifted 56 = .ok (.if_icmp .gt 7, 3) := by decide +kernel
theorem dX12_isLifted_59 : decode cX12_isLifted 59 = .ok (.iconst 1, 1) := by decide +kernel
theorem dX12_isLifted_60 : decode cX12_isLifted 60 = .ok (.goto 4, 3) := by decide +kernel
theorem dX12_isLifted_63 : decode cX12_isLifted 63 = .ok (.iconst 0, 1) := by decide +kernel
theorem dX12_isLifted_64 : decode cX12_isLifted 64 = .ok (.ireturn, 1) := by decide +kernel
theorem dX12_piece_0 : decode cX12_piece 0 = .ok (.iload_n 1, 1) := by decide +kernel
theorem dX12_piece_1 : decode cX12_piece 1 = .ok (.i2l, 1) := by decide +kernel
theorem dX12_piece_2 : decode cX12_piece 2 = .ok (.lconst 0, 1) := by decide +kernel
theorem dX12_piece_3 : decode cX12_piece 3 = .ok (.aload_n 0, 1) := by decide +kernel
theorem dX12_piece_4 : decode cX12_piece 4 = .ok (.iconst 0, 1) := by decide +kernel
theorem dX12_piece_5 : decode cX12_piece 5 = .ok (.invokevirtual 192, 3) := by decide +kernel
theorem dX12_piece_8 : decode cX12_piece 8 = .ok (.iconst 1, 1) := by decide +kernel
theorem dX12_piece_9 : decode cX12_piece 9 = .ok (.isub, 1) := by decide +kernel
theorem dX12_piece_10 : decode cX12_piece 10 = .ok (.i2l, 1) := by decide +kernel
theorem dX12_piece_11 : decode cX12_piece 11 = .ok (.invokestatic 82, 3) := by decide +kernel
theorem dX12_piece_14 : decode cX12_piece 14 = .ok (.ifCond .ne 5, 3) := by decide +kernel
theorem dX12_piece_17 : decode cX12_piece 17 = .ok (.iconst (-1), 1) := by decide +kernel
theorem dX12_piece_18 : decode cX12_piece 18 = .ok (.ireturn, 1) := by decide +kernel
theorem dX12_piece_19 : decode cX12_piece 19 = .ok (.aload_n 0, 1) := by decide +kernel
theorem dX12_piece_20 : decode cX12_piece 20 = .ok (.iconst 0, 1) := by decide +kernel
theorem dX12_piece_21 : decode cX12_piece 21 = .ok (.iload_n 1, 1) := by decide +kernel
theorem dX12_piece_22 : decode cX12_piece 22 = .ok (.invokevirtual 198, 3) := by decide +kernel
theorem dX12_piece_25 : decode cX12_piece 25 = .ok (.istore_n 3, 1) := by decide +kernel
theorem dX12_piece_26 : decode cX12_piece 26 = .ok (.iload_n 2, 1) := by decide +kernel
theorem dX12_piece_27 : decode cX12_piece 27 = .ok (.tableswitch 101 0 6 #[41, 43, 50, 56, 71, 81, 90], 41) := by decide +kernel
theorem dX12_piece_68 : decode cX12_piece 68 = .ok (.iload_n 3, 1) := by decide +kernel
theorem dX12_piece_69 : decode cX12_piece 69 = .ok (.ireturn, 1) := by decide +kernel
theorem dX12_piece_70 : decode cX12_piece 70 = .ok (.aload_n 0, 1) := by decide +kernel
theorem dX12_piece_71 : decode cX12_piece 71 = .ok (.getfield 7, 3) := by decide +kernel
theorem dX12_piece_74 : decode cX12_piece 74 = .ok (.iload_n 3, 1) := by decide +kernel
theorem dX12_piece_75 : decode cX12_piece 75 = .ok (.iaload, 1) := by decide +kernel
theorem dX12_piece_76 : decode cX12_piece 76 = .ok (.ireturn, 1) := by decide +kernel
theorem dX12_piece_77 : decode cX12_piece 77 = .ok (.aload_n 0, 1) := by decide +kernel
theorem dX12_piece_78 : decode cX12_piece 78 = .ok (.iload_n 3, 1) := by decide +kernel
theorem dX12_piece_79 : decode cX12_piece 79 = .ok (.invokevirtual 207, 3) := by decide +kernel
theorem dX12_piece_82 : decode cX12_piece 82 = .ok (.ireturn, 1) := by decide +kernel
theorem dX12_piece_83 : decode cX12_piece 83 = .ok (.aload_n 0, 1) := by decide +kernel
theorem dX12_piece_84 : decode cX12_piece 84 = .ok (.getfield 7, 3) := by decide +kernel
theorem dX12_piece_87 : decode cX12_piece 87 = .ok (.iload_n 3, 1) := by decide +kernel
theorem dX12_piece_88 : decode cX12_piece 88 = .ok (.iaload, 1) := by decide +kernel
theorem dX12_piece_89 : decode cX12_piece 89 = .ok (.aload_n 0, 1) := by decide +kernel
theorem dX12_piece_90 : decode cX12_piece 90 = .ok (.getfield 17, 3) := by decide +kernel
theorem dX12_piece_93 : decode cX12_piece 93 = .ok (.bipush 7, 2) := by decide +kernel
theorem dX12_piece_95 : decode cX12_piece 95 = .ok (.iaload, 1) := by decide +kernel
theorem dX12_piece_96 : decode cX12_piece 96 = .ok (.iadd, 1) := by decide +kernel
theorem dX12_piece_97 : decode cX12_piece 97 = .ok (.ireturn, 1) := by decide +kernel
theorem dX12_piece_98 : decode cX12_piece 98 = .ok (.aload_n 0, 1) := by decide +kernel
theorem dX12_piece_99 : decode cX12_piece 99 = .ok (.getfield 7, 3) := by decide +kernel
theorem dX12_piece_102 : decode cX12_piece 102 = .ok (.bipush 41, 2) := by decide +kernel
theorem dX12_piece_104 : decode cX12_piece 104 = .ok (.iload_n 3, 1) := by decide +kernel
theorem dX12_piece_105 : decode cX12_piece 105 = .ok (.iadd, 1) := by decide +kernel
theorem dX12_piece_106 : decode cX12_piece 106 = .ok (.iaload, 1) := by decide +kernel
theorem dX12_piece_107 : decode cX12_piece 107 = .ok (.ireturn, 1) := by decide +kernel
theorem dX12_piece_108 : decode cX12_piece 108 = .ok (.aload_n 0, 1) := by decide +kernel
theorem dX12_piece_109 : decode cX12_piece 109 = .ok (.iload_n 1, 1) := by decide +kernel
theorem dX12_piece_110 : decode cX12_piece 110 = .ok (.invokevirtual 210, 3) := by decide +kernel
theorem dX12_piece_113 : decode cX12_piece 113 = .ok (.invokestatic 168, 3) := by decide +kernel
theorem dX12_piece_116 : decode cX12_piece 116 = .ok (.ireturn, 1) := by decide +kernel
theorem dX12_piece_117 : decode cX12_piece 117 = .ok (.aload_n 0, 1) := by decide +kernel
theorem dX12_piece_118 : decode cX12_piece 118 = .ok (.iload_n 1, 1) := by decide +kernel
theorem dX12_piece_119 : decode cX12_piece 119 = .ok (.aload_n 0, 1) := by decide +kernel
theorem dX12_piece_120 : decode cX12_piece 120 = .ok (.iload_n 1, 1) := by decide +kernel
theorem dX12_piece_121 : decode cX12_piece 121 = .ok (.invokevirtual 204, 3) := by decide +kernel
theorem dX12_piece_124 : decode cX12_piece 124 = .ok (.invokevirtual 213, 3) := by decide +kernel
theorem dX12_piece_127 : decode cX12_piece 127 = .ok (.ireturn, 1) := by decide +kernel
theorem dX12_piece_128 : decode cX12_piece 128 = .ok (.iconst (-1), 1) := by decide +kernel
theorem dX12_piece_129 : decode cX12_piece 129 = .ok (.ireturn, 1) := by decide +kernel
theorem dX12_dropOf_0 : decode cX12_dropOf 0 = .ok (.iconst 2, 1) := by decide +kernel
theorem dX12_dropOf_1 : decode cX12_dropOf 1 = .ok (.iload_n 1, 1) := by decide +kernel
theorem dX12_dropOf_2 : decode cX12_dropOf 2 = .ok (.iload_n 2, 1) := by decide +kernel
theorem dX12_dropOf_3 : decode cX12_dropOf 3 = .ok (.isub, 1) := by decide +kernel
theorem dX12_dropOf_4 : decode cX12_dropOf 4 = .ok (.imul, 1) := by decide +kernel
theorem dX12_dropOf_5 : decode cX12_dropOf 5 = .ok (.aload_n 0, 1) := by decide +kernel
theorem dX12_dropOf_6 : decode cX12_dropOf 6 = .ok (.getfield 17, 3) := by decide +kernel
theorem dX12_dropOf_9 : decode cX12_dropOf 9 = .ok (.iconst 4, 1) := by decide +kernel
theorem dX12_dropOf_10 : decode cX12_dropOf 10 = .ok (.iaload, 1) := by decide +kernel
theorem dX12_dropOf_11 : decode cX12_dropOf 11 = .ok (.iload_n 1, 1) := by decide +kernel
theorem dX12_dropOf_12 : decode cX12_dropOf 12 = .ok (.imul, 1) := by decide +kernel
theorem dX12_dropOf_13 : decode cX12_dropOf 13 = .ok (.bipush 100, 2) := by decide +kernel
theorem dX12_dropOf_15 : decode cX12_dropOf 15 = .ok (.idiv, 1) := by decide +kernel
theorem dX12_dropOf_16 : decode cX12_dropOf 16 = .ok (.iadd, 1) := by decide +kernel
theorem dX12_dropOf_17 : decode cX12_dropOf 17 = .ok (.ireturn, 1) := by decide +kernel
theorem dX12_findStruck_0 : decode cX12_findStruck 0 = .ok (.aload_n 0, 1) := by decide +kernel
theorem dX12_findStruck_1 : decode cX12_findStruck 1 = .ok (.aload_n 0, 1) := by decide +kernel
theorem dX12_findStruck_2 : decode cX12_findStruck 2 = .ok (.getfield 220, 3) := by decide +kernel
theorem dX12_findStruck_5 : decode cX12_findStruck 5 = .ok (.ifCond .gt 7, 3) := by decide +kernel
theorem dX12_findStruck_8 : decode cX12_findStruck 8 = .ok (.iconst 0, 1) := by decide +kernel
theorem dX12_findStruck_9 : decode cX12_findStruck 9 = .ok (.goto 5, 3) := by decide +kernel
theorem dX12_findStruck_12 : decode cX12_findStruck 12 = .ok (.bipush (-4), 2) := by decide +kernel
theorem dX12_findStruck_14 : decode cX12_findStruck 14 = .ok (.putfield 223, 3) := by decide +kernel
theorem dX12_findStruck_17 : decode cX12_findStruck 17 = .ok (.iconst 1, 1) := by decide +kernel
theorem dX12_findStruck_18 : decode cX12_findStruck 18 = .ok (.istore_n 2, 1) := by decide +kernel
theorem dX12_findStruck_19 : decode cX12_findStruck 19 = .ok (.iload_n 2, 1) := by decide +kernel
theorem dX12_findStruck_20 : decode cX12_findStruck 20 = .ok (.iload_n 1, 1) := by decide +kernel
theorem dX12_findStruck_21 : decode cX12_findStruck 21 = .ok (.if_icmp .ge 39, 3) := by decide +kernel
theorem dX12_findStruck_24 : decode cX12_findStruck 24 = .ok (.aload_n 0, 1) := by decide +kernel
theorem dX12_findStruck_25 : decode cX12_findStruck 25 = .ok (.iload_n 2, 1) := by decide +kernel
theorem dX12_findStruck_26 : decode cX12_findStruck 26 = .ok (.aload_n 0, 1) := by decide +kernel
theorem dX12_findStruck_27 : decode cX12_findStruck 27 = .ok (.getfield 220, 3) := by decide +kernel
theorem dX12_findStruck_30 : decode cX12_findStruck 30 = .ok (.if_icmp .lt 17, 3) := by decide +kernel
theorem dX12_findStruck_33 : decode cX12_findStruck 33 = .ok (.aload_n 0, 1) := by decide +kernel
theorem dX12_findStruck_34 : decode cX12_findStruck 34 = .ok (.iload_n 2, 1) := by decide +kernel
theorem dX12_findStruck_35 : decode cX12_findStruck 35 = .ok (.iconst 2, 1) := by decide +kernel
theorem dX12_findStruck_36 : decode cX12_findStruck 36 = .ok (.invokevirtual 184, 3) := by decide +kernel
theorem dX12_findStruck_39 : decode cX12_findStruck 39 = .ok (.iconst 1, 1) := by decide +kernel
theorem dX12_findStruck_40 : decode cX12_findStruck 40 = .ok (.if_icmp .ne 7, 3) := by decide +kernel
theorem dX12_findStruck_43 : decode cX12_findStruck 43 = .ok (.iload_n 2, 1) := by decide +kernel
theorem dX12_findStruck_44 : decode cX12_findStruck 44 = .ok (.goto 7, 3) := by decide +kernel
theorem dX12_findStruck_47 : decode cX12_findStruck 47 = .ok (.aload_n 0, 1) := by decide +kernel
theorem dX12_findStruck_48 : decode cX12_findStruck 48 = .ok (.getfield 223, 3) := by decide +kernel
theorem dX12_findStruck_51 : decode cX12_findStruck 51 = .ok (.putfield 223, 3) := by decide +kernel
theorem dX12_findStruck_54 : decode cX12_findStruck 54 = .ok (.iinc 2 1, 3) := by decide +kernel
theorem dX12_findStruck_57 : decode cX12_findStruck 57 = .ok (.goto (-38), 3) := by decide +kernel
theorem dX12_findStruck_60 : decode cX12_findStruck 60 = .ok (.return_, 1) := by decide +kernel
theorem dX12_falls_0 : decode cX12_falls 0 = .ok (.aload_n 0, 1) := by decide +kernel
theorem dX12_falls_1 : decode cX12_falls 1 = .ok (.iconst 0, 1) := by decide +kernel
theorem dX12_falls_2 : decode cX12_falls 2 = .ok (.putfield 220, 3) := by decide +kernel
theorem dX12_falls_5 : decode cX12_falls 5 = .ok (.aload_n 0, 1) := by decide +kernel
theorem dX12_falls_6 : decode cX12_falls 6 = .ok (.bipush (-4), 2) := by decide +kernel
theorem dX12_falls_8 : decode cX12_falls 8 = .ok (.putfield 226, 3) := by decide +kernel
theorem dX12_falls_11 : decode cX12_falls 11 = .ok (.aload_n 0, 1) := by decide +kernel
theorem dX12_falls_12 : decode cX12_falls 12 = .ok (.iconst 0, 1) := by decide +kernel
theorem dX12_falls_13 : decode cX12_falls 13 = .ok (.putfield 229, 3) := by decide +kernel
theorem dX12_falls_16 : decode cX12_falls 16 = .ok (.aload_n 0, 1) := by decide +kernel
theorem dX12_falls_17 : decode cX12_falls 17 = .ok (.iconst 0, 1) := by decide +kernel
theorem dX12_falls_18 : decode cX12_falls 18 = .ok (.putfield 232, 3) := by decide +kernel
theorem dX12_falls_21 : decode cX12_falls 21 = .ok (.aload_n 0, 1) := by decide +kernel
theorem dX12_falls_22 : decode cX12_falls 22 = .ok (.iload_n 1, 1) := by decide +kernel
theorem dX12_falls_23 : decode cX12_falls 23 = .ok (.iload_n 2, 1) := by decide +kernel
theorem dX12_falls_24 : decode cX12_falls 24 = .ok (.invokevirtual 172, 3) := by decide +kernel
theorem dX12_falls_27 : decode cX12_falls 27 = .ok (.iconst 1, 1) := by decide +kernel
theorem dX12_falls_28 : decode cX12_falls 28 = .ok (.isub, 1) := by decide +kernel
theorem dX12_falls_29 : decode cX12_falls 29 = .ok (.istore 4, 2) := by decide +kernel
theorem dX12_falls_31 : decode cX12_falls 31 = .ok (.iload_n 2, 1) := by decide +kernel
theorem dX12_falls_32 : decode cX12_falls 32 = .ok (.istore 5, 2) := by decide +kernel
theorem dX12_falls_34 : decode cX12_falls 34 = .ok (.iload 5, 2) := by decide +kernel
theorem dX12_falls_36 : decode cX12_falls 36 = .ok (.ifCond .le 121, 3) := by decide +kernel
theorem dX12_falls_39 : decode cX12_falls 39 = .ok (.aload_n 0, 1) := by decide +kernel
theorem dX12_falls_40 : decode cX12_falls 40 = .ok (.getfield 226, 3) := by decide +kernel
theorem dX12_falls_43 : decode cX12_falls 43 = .ok (.bipush (-4), 2) := by decide +kernel
theorem dX12_falls_45 : decode cX12_falls 45 = .ok (.if_icmp .ne 112, 3) := by decide +kernel
theorem dX12_falls_48 : decode cX12_falls 48 = .ok (.aload_n 0, 1) := by decide +kernel
theorem dX12_falls_49 : decode cX12_falls 49 = .ok (.getfield 7, 3) := by decide +kernel
theorem dX12_falls_52 : decode cX12_falls 52 = .ok (.iload_n 1, 1) := by decide +kernel
theorem dX12_falls_53 : decode cX12_falls 53 = .ok (.iload 5, 2) := by decide +kernel
theorem dX12_falls_55 : decode cX12_falls 55 = .ok (.iadd, 1) := by decide +kernel
theorem dX12_falls_56 : decode cX12_falls 56 = .ok (.iaload, 1) := by decide +kernel
theorem dX12_falls_57 : decode cX12_falls 57 = .ok (.ifCond .le 94, 3) := by decide +kernel
theorem dX12_falls_60 : decode cX12_falls 60 = .ok (.aload_n 0, 1) := by decide +kernel
theorem dX12_falls_61 : decode cX12_falls 61 = .ok (.iload_n 2, 1) := by decide +kernel
theorem dX12_falls_62 : decode cX12_falls 62 = .ok (.iload 5, 2) := by decide +kernel
theorem dX12_falls_64 : decode cX12_falls 64 = .ok (.invokevirtual 235, 3) := by decide +kernel
theorem dX12_falls_67 : decode cX12_falls 67 = .ok (.istore 6, 2) := by decide +kernel
theorem dX12_falls_69 : decode cX12_falls 69 = .ok (.iconst 2, 1) := by decide +kernel
theorem dX12_falls_70 : decode cX12_falls 70 = .ok (.bipush 10, 2) := by decide +kernel
theorem dX12_falls_72 : decode cX12_falls 72 = .ok (.iload 6, 2) := by decide +kernel
theorem dX12_falls_74 : decode cX12_falls 74 = .ok (.imul, 1) := by decide +kernel
theorem dX12_falls_75 : decode cX12_falls 75 = .ok (.iload_n 2, 1) := by decide +kernel
theorem dX12_falls_76 : decode cX12_falls 76 = .ok (.idiv, 1) := by decide +kernel
theorem dX12_falls_77 : decode cX12_falls 77 = .ok (.iadd, 1) := by decide +kernel
theorem dX12_falls_78 : decode cX12_falls 78 = .ok (.istore 7, 2) := by decide +kernel
theorem dX12_falls_80 : decode cX12_falls 80 = .ok (.iload_n 3, 1) := by decide +kernel
theorem dX12_falls_81 : decode cX12_falls 81 = .ok (.iload 4, 2) := by decide +kernel
theorem dX12_falls_83 : decode cX12_falls 83 = .ok (.ishr, 1) := by decide +kernel
theorem dX12_falls_84 : decode cX12_falls 84 = .ok (.iconst 1, 1) := by decide +kernel
theorem dX12_falls_85 : decode cX12_falls 85 = .ok (.iand, 1) := by decide +kernel
theorem dX12_falls_86 : decode cX12_falls 86 = .ok (.iconst 1, 1) := by decide +kernel
theorem dX12_falls_87 : decode cX12_falls 87 = .ok (.if_icmp .ne 48, 3) := by decide +kernel
theorem dX12_falls_90 : decode cX12_falls 90 = .ok (.iload 7, 2) := by decide +kernel
theorem dX12_falls_92 : decode cX12_falls 92 = .ok (.aload_n 0, 1) := by decide +kernel
theorem dX12_falls_93 : decode cX12_falls 93 = .ok (.getfield 7, 3) := by decide +kernel
theorem dX12_falls_96 : decode cX12_falls 96 = .ok (.iload_n 1, 1) := by decide +kernel
theorem dX12_falls_97 : decode cX12_falls 97 = .ok (.iload 5, 2) := by decide +kernel
theorem dX12_falls_99 : decode cX12_falls 99 = .ok (.iadd, 1) := by decide +kernel
theorem dX12_falls_100 : decode cX12_falls 100 = .ok (.iaload, 1) := by decide +kernel
theorem dX12_falls_101 : decode cX12_falls 101 = .ok (.aload_n 0, 1) := by decide +kernel
theorem dX12_falls_102 : decode cX12_falls 102 = .ok (.getfield 17, 3) := by decide +kernel
theorem dX12_falls_105 : decode cX12_falls 105 = .ok (.bipush 7, 2) := by decide +kernel
theorem dX12_falls_107 : decode cX12_falls 107 = .ok (.iaload, 1) := by decide +kernel
theorem dX12_falls_108 : decode cX12_falls 108 = .ok (.iadd, 1) := by decide +kernel
theorem dX12_falls_109 : decode cX12_falls 109 = .ok (.if_icmp .gt 26, 3) := by decide +kernel
theorem dX12_falls_112 : decode cX12_falls 112 = .ok (.aload_n 0, 1) := by decide +kernel
theorem dX12_falls_113 : decode cX12_falls 113 = .ok (.iload_n 2, 1) := by decide +kernel
theorem dX12_falls_114 : decode cX12_falls 114 = .ok (.iload 6, 2) := by decide +kernel
theorem dX12_falls_116 : decode cX12_falls 116 = .ok (.isub, 1) := by decide +kernel
theorem dX12_falls_117 : decode cX12_falls 117 = .ok (.putfield 220, 3) := by decide +kernel
theorem dX12_falls_120 : decode cX12_falls 120 = .ok (.aload_n 0, 1) := by decide +kernel
theorem dX12_falls_121 : decode cX12_falls 121 = .ok (.iload 4, 2) := by decide +kernel
theorem dX12_falls_123 : decode cX12_falls 123 = .ok (.putfield 226, 3) := by decide +kernel
theorem dX12_falls_126 : decode cX12_falls 126 = .ok (.aload_n 0, 1) := by decide +kernel
theorem dX12_falls_127 : decode cX12_falls 127 = .ok (.iload 7, 2) := by decide +kernel
theorem dX12_falls_129 : decode cX12_falls 129 = .ok (.putfield 229, 3) := by decide +kernel
theorem dX12_falls_132 : decode cX12_falls 132 = .ok (.goto 16, 3) := by decide +kernel
theorem dX12_falls_135 : decode cX12_falls 135 = .ok (.aload_n 0, 1) := by decide +kernel
theorem dX12_falls_136 : decode cX12_falls 136 = .ok (.dup, 1) := by decide +kernel
theorem dX12_falls_137 : decode cX12_falls 137 = .ok (.getfield 232, 3) := by decide +kernel
theorem dX12_falls_140 : decode cX12_falls 140 = .ok (.iconst 1, 1) := by decide +kernel
theorem dX12_falls_141 : decode cX12_falls 141 = .ok (.iload 4, 2) := by decide +kernel
theorem dX12_falls_143 : decode cX12_falls 143 = .ok (.ishl, 1) := by decide +kernel
theorem dX12_falls_144 : decode cX12_falls 144 = .ok (.ior, 1) := by decide +kernel
theorem dX12_falls_145 : decode cX12_falls 145 = .ok (.putfield 232, 3) := by decide +kernel
theorem dX12_falls_148 : decode cX12_falls 148 = .ok (.iinc 4 (-1), 3) := by decide +kernel
theorem dX12_falls_151 : decode cX12_falls 151 = .ok (.iinc 5 (-1), 3) := by decide +kernel
theorem dX12_falls_154 : decode cX12_falls 154 = .ok (.goto (-120), 3) := by decide +kernel
theorem dX12_falls_157 : decode cX12_falls 157 = .ok (.aload_n 0, 1) := by decide +kernel
theorem dX12_falls_158 : decode cX12_falls 158 = .ok (.iload_n 2, 1) := by decide +kernel
theorem dX12_falls_159 : decode cX12_falls 159 = .ok (.invokevirtual 238, 3) := by decide +kernel
theorem dX12_falls_162 : decode cX12_falls 162 = .ok (.return_, 1) := by decide +kernel
theorem dX12_harmNow_0 : decode cX12_harmNow 0 = .ok (.aload_n 0, 1) := by decide +kernel
theorem dX12_harmNow_1 : decode cX12_harmNow 1 = .ok (.getfield 223, 3) := by decide +kernel
theorem dX12_harmNow_4 : decode cX12_harmNow 4 = .ok (.bipush (-4), 2) := by decide +kernel
theorem dX12_harmNow_6 : decode cX12_harmNow 6 = .ok (.if_icmp .ne 7, 3) := by decide +kernel
theorem dX12_harmNow_9 : decode cX12_harmNow 9 = .ok (.iconst 0, 1) := by decide +kernel
theorem dX12_harmNow_10 : decode cX12_harmNow 10 = .ok (.goto 9, 3) := by decide +kernel
theorem dX12_harmNow_13 : decode cX12_harmNow 13 = .ok (.iload_n 1, 1) := by decide +kernel
theorem dX12_harmNow_14 : decode cX12_harmNow 14 = .ok (.aload_n 0, 1) := by decide +kernel
theorem dX12_harmNow_15 : decode cX12_harmNow 15 = .ok (.getfield 223, 3) := by decide +kernel
theorem dX12_harmNow_18 : decode cX12_harmNow 18 = .ok (.isub, 1) := by decide +kernel
theorem dX12_harmNow_19 : decode cX12_harmNow 19 = .ok (.ireturn, 1) := by decide +kernel
theorem dX12_arePieces_0 : decode cX12_arePieces 0 = .ok (.iload_n 1, 1) := by decide +kernel
theorem dX12_arePieces_1 : decode cX12_arePieces 1 = .ok (.i2l, 1) := by decide +kernel
theorem dX12_arePieces_2 : decode cX12_arePieces 2 = .ok (.lconst 0, 1) := by decide +kernel
theorem dX12_arePieces_3 : decode cX12_arePieces 3 = .ok (.iconst 1, 1) := by decide +kernel
theorem dX12_arePieces_4 : decode cX12_arePieces 4 = .ok (.aload_n 0, 1) := by decide +kernel
theorem dX12_arePieces_5 : decode cX12_arePieces 5 = .ok (.iconst 0, 1) := by decide +kernel
theorem dX12_arePieces_6 : decode cX12_arePieces 6 = .ok (.invokevirtual 192, 3) := by decide +kernel
theorem dX12_arePieces_9 : decode cX12_arePieces 9 = .ok (.ishl, 1) := by decide +kernel
theorem dX12_arePieces_10 : decode cX12_arePieces 10 = .ok (.iconst 1, 1) := by decide +kernel
theorem dX12_arePieces_11 : decode cX12_arePieces 11 = .ok (.isub, 1) := by decide +kernel
theorem dX12_arePieces_12 : decode cX12_arePieces 12 = .ok (.i2l, 1) := by decide +kernel
theorem dX12_arePieces_13 : decode cX12_arePieces 13 = .ok (.invokestatic 82, 3) := by decide +kernel
theorem dX12_arePieces_16 : decode cX12_arePieces 16 = .ok (.ireturn, 1) := by decide +kernel
theorem dX12_hung_0 : decode cX12_hung 0 = .ok (.aload_n 0, 1) := by decide +kernel
theorem dX12_hung_1 : decode cX12_hung 1 = .ok (.getfield 220, 3) := by decide +kernel
theorem dX12_hung_4 : decode cX12_hung 4 = .ok (.ifCond .ge 7, 3) := by decide +kernel
theorem dX12_hung_7 : decode cX12_hung 7 = .ok (.iconst 0, 1) := by decide +kernel
theorem dX12_hung_8 : decode cX12_hung 8 = .ok (.goto 7, 3) := by decide +kernel
theorem dX12_hung_11 : decode cX12_hung 11 = .ok (.aload_n 0, 1) := by decide +kernel
theorem dX12_hung_12 : decode cX12_hung 12 = .ok (.getfield 220, 3) := by decide +kernel
theorem dX12_hung_15 : decode cX12_hung 15 = .ok (.ireturn, 1) := by decide +kernel
theorem dX12_fall_0 : decode cX12_fall 0 = .ok (.aload_n 0, 1) := by decide +kernel
theorem dX12_fall_1 : decode cX12_fall 1 = .ok (.iload_n 1, 1) := by decide +kernel
theorem dX12_fall_2 : decode cX12_fall 2 = .ok (.invokevirtual 175, 3) := by decide +kernel
theorem dX12_fall_5 : decode cX12_fall 5 = .ok (.ifCond .eq 11, 3) := by decide +kernel
theorem dX12_fall_8 : decode cX12_fall 8 = .ok (.aload_n 0, 1) := by decide +kernel
theorem dX12_fall_9 : decode cX12_fall 9 = .ok (.iload_n 2, 1) := by decide +kernel
theorem dX12_fall_10 : decode cX12_fall 10 = .ok (.invokevirtual 242, 3) := by decide +kernel
theorem dX12_fall_13 : decode cX12_fall 13 = .ok (.ifCond .ne 5, 3) := by decide +kernel
theorem dX12_fall_16 : decode cX12_fall 16 = .ok (.iconst (-1), 1) := by decide +kernel
theorem dX12_fall_17 : decode cX12_fall 17 = .ok (.ireturn, 1) := by decide +kernel
theorem dX12_fall_18 : decode cX12_fall 18 = .ok (.aload_n 0, 1) := by decide +kernel
theorem dX12_fall_19 : decode cX12_fall 19 = .ok (.iconst 0, 1) := by decide +kernel
theorem dX12_fall_20 : decode cX12_fall 20 = .ok (.iload_n 1, 1) := by decide +kernel
theorem dX12_fall_21 : decode cX12_fall 21 = .ok (.iload_n 2, 1) := by decide +kernel
theorem dX12_fall_22 : decode cX12_fall 22 = .ok (.invokevirtual 245, 3) := by decide +kernel
theorem dX12_fall_25 : decode cX12_fall 25 = .ok (.iload_n 3, 1) := by decide +kernel
theorem dX12_fall_26 : decode cX12_fall 26 = .ok (.tableswitch 69 0 5 #[38, 43, 48, 53, 58, 63], 38) := by decide +kernel
theorem dX12_fall_64 : decode cX12_fall 64 = .ok (.aload_n 0, 1) := by decide +kernel
theorem dX12_fall_65 : decode cX12_fall 65 = .ok (.invokevirtual 249, 3) := by decide +kernel
theorem dX12_fall_68 : decode cX12_fall 68 = .ok (.ireturn, 1) := by decide +kernel
theorem dX12_fall_69 : decode cX12_fall 69 = .ok (.aload_n 0, 1) := by decide +kernel
theorem dX12_fall_70 : decode cX12_fall 70 = .ok (.getfield 226, 3) := by decide +kernel
theorem dX12_fall_73 : decode cX12_fall 73 = .ok (.ireturn, 1) := by decide +kernel
theorem dX12_fall_74 : decode cX12_fall 74 = .ok (.aload_n 0, 1) := by decide +kernel
theorem dX12_fall_75 : decode cX12_fall 75 = .ok (.getfield 229, 3) := by decide +kernel
theorem dX12_fall_78 : decode cX12_fall 78 = .ok (.ireturn, 1) := by decide +kernel
theorem dX12_fall_79 : decode cX12_fall 79 = .ok (.aload_n 0, 1) := by decide +kernel
theorem dX12_fall_80 : decode cX12_fall 80 = .ok (.getfield 232, 3) := by decide +kernel
theorem dX12_fall_83 : decode cX12_fall 83 = .ok (.ireturn, 1) := by decide +kernel
theorem dX12_fall_84 : decode cX12_fall 84 = .ok (.aload_n 0, 1) := by decide +kernel
theorem dX12_fall_85 : decode cX12_fall 85 = .ok (.getfield 223, 3) := by decide +kernel
theorem dX12_fall_88 : decode cX12_fall 88 = .ok (.ireturn, 1) := by decide +kernel
theorem dX12_fall_89 : decode cX12_fall 89 = .ok (.aload_n 0, 1) := by decide +kernel
theorem dX12_fall_90 : decode cX12_fall 90 = .ok (.iload_n 1, 1) := by decide +kernel
theorem dX12_fall_91 : decode cX12_fall 91 = .ok (.invokevirtual 252, 3) := by decide +kernel
theorem dX12_fall_94 : decode cX12_fall 94 = .ok (.ireturn, 1) := by decide +kernel
theorem dX12_fall_95 : decode cX12_fall 95 = .ok (.iconst (-1), 1) := by decide +kernel
theorem dX12_fall_96 : decode cX12_fall 96 = .ok (.ireturn, 1) := by decide +kernel
abbrev q_X12_in (v : Int) (a : Int) (b : Int) (σ : tw_M) : Option tw_V → tw_M → Prop := fun z τ => ∃ r : Int, z = some (vI r) ∧ (0 ≤ r ∧ r ≤ 1) ∧ σ = τ ∧ ((r = 1 ∧ a ≤ v ∧ v ≤ b) ∨ (r = 0 ∧ ¬ (a ≤ v ∧ v ≤ b)))
set_option maxHeartbeats 4000000 in
set_option maxRecDepth 100000 in
theorem c_X12_in {G : tw_G} (v : Int) (hv : -9223372036854775808 ≤ v ∧ v ≤ 9223372036854775807) (a : Int) (ha : -9223372036854775808 ≤ a ∧ a ≤ 9223372036854775807) (b : Int) (hb : -9223372036854775808 ≤ b ∧ b ≤ 9223372036854775807) (σ : tw_M) (hI : tw_I σ) : tw_C G yX12_in cX12_in 6 (some .boolean) 0 [vL v, vL a, vL b] σ (q_X12_in v a b σ) := by
  refine tw_met [(0, vL v), (2, vL a), (4, vL b)] (by decide +kernel) rfl (Nat.le_of_ble_eq_true rfl) ?_
  refine j_lload_n (pc := 0) dX12_in_0 rfl rfl ?_
  refine j_lload_n (pc := 1) dX12_in_1 rfl rfl ?_
  refine j_lcmp (pc := 2) dX12_in_2 (fun z1 ez1 => ?_)
  have hz1 : (z1 = 1 ∧ a < v) ∨ (z1 = 0 ∧ v = a) ∨ (z1 = -1 ∧ v < a) := by rw [ez1]; exact tw_cmp_eq ⟨by omega, by omega⟩ ⟨by omega, by omega⟩
  refine j_ifR_lt (pc := 3) (tgt := 17) ⟨by omega, by omega⟩ dX12_in_3 rfl (fun h2 => ?_) (fun h2 => ?_)
  · refine j_iconst (pc := 17) dX12_in_17 ?_
    exact j_zret (pc := 18) ⟨rfl, rfl⟩ dX12_in_18 rfl (nar_bool (by omega) (by omega)) ⟨_, rfl, ⟨by omega, by omega⟩, rfl, by omega⟩
  · refine j_lload_n (pc := 6) dX12_in_6 rfl rfl ?_
    refine j_lload (pc := 7) dX12_in_7 rfl ?_
    refine j_lcmp (pc := 9) dX12_in_9 (fun z3 ez3 => ?_)
    have hz3 : (z3 = 1 ∧ b < v) ∨ (z3 = 0 ∧ v = b) ∨ (z3 = -1 ∧ v < b) := by rw [ez3]; exact tw_cmp_eq ⟨by omega, by omega⟩ ⟨by omega, by omega⟩
    refine j_ifR_gt (pc := 10) (tgt := 17) ⟨by omega, by omega⟩ dX12_in_10 rfl (fun h4 => ?_) (fun h4 => ?_)
    · refine j_iconst (pc := 17) dX12_in_17 ?_
      exact j_zret (pc := 18) ⟨rfl, rfl⟩ dX12_in_18 rfl (nar_bool (by omega) (by omega)) ⟨_, rfl, ⟨by omega, by omega⟩, rfl, by omega⟩
    · refine j_iconst (pc := 13) dX12_in_13 ?_
      refine j_goto (pc := 14) (tgt := 18) dX12_in_14 rfl ?_
      exact j_zret (pc := 18) ⟨rfl, rfl⟩ dX12_in_18 rfl (nar_bool (by omega) (by omega)) ⟨_, rfl, ⟨by omega, by omega⟩, rfl, by omega⟩
abbrev q_X12_flag (x : Int) (σ : tw_M) : Option tw_V → tw_M → Prop := fun z τ => ∃ r : Int, z = some (vI r) ∧ (0 ≤ r ∧ r ≤ 1) ∧ σ = τ ∧ (r = x)
set_option maxHeartbeats 4000000 in
set_option maxRecDepth 100000 in
theorem c_X12_flag {G : tw_G} (x : Int) (hx : 0 ≤ x ∧ x ≤ 1) (σ : tw_M) (hI : tw_I σ) : tw_C G yX12_flag cX12_flag 1 (some .int) 0 [vI x] σ (q_X12_flag x σ) := by
  refine tw_met [(0, vI x)] (by decide +kernel) rfl (Nat.le_of_ble_eq_true rfl) ?_
  refine j_iload_n (pc := 0) dX12_flag_0 rfl rfl ?_
  refine j_ifR_eq (pc := 1) (tgt := 8) ⟨by omega, by omega⟩ dX12_flag_1 rfl (fun h1 => ?_) (fun h1 => ?_)
  · refine j_iconst (pc := 8) dX12_flag_8 ?_
    exact j_iret (pc := 9) ⟨rfl, rfl⟩ dX12_flag_9 rfl ⟨_, rfl, ⟨by omega, by omega⟩, rfl, by omega⟩
  · refine j_iconst (pc := 4) dX12_flag_4 ?_
    refine j_goto (pc := 5) (tgt := 9) dX12_flag_5 rfl ?_
    exact j_iret (pc := 9) ⟨rfl, rfl⟩ dX12_flag_9 rfl ⟨_, rfl, ⟨by omega, by omega⟩, rfl, by omega⟩
abbrev q_X12_countOf (v : Int) (σ : tw_M) : Option tw_V → tw_M → Prop := fun z τ => ∃ r : Int, z = some (vI r) ∧ (0 ≤ r ∧ r ≤ 12) ∧ σ = τ ∧ (r = mPop v 12)
set_option maxHeartbeats 4000000 in
set_option maxRecDepth 100000 in
theorem l_X12_countOf {G : tw_G} (v : Int) (hv : -2147483648 ≤ v ∧ v ≤ 2147483647) (σ : tw_M) (hI : tw_I σ) : ∀ N_ : Nat, (∀ (n : Int) (hn : 0 ≤ n ∧ n ≤ 12) (k : Int) (hk : 0 ≤ k ∧ k ≤ 12) (i0 : n ≤ k) (i1 : n = mPop v k.toNat) (hm : (12 - k).toNat < N_), tw_J G (tw_mt RX12 cX12_countOf 3 (some .int) 0) (tw_E G (q_X12_countOf v σ)) 4 [(0, vI v), (1, vI n), (2, vI k)] [] σ) := by
  intro N_
  induction N_ with
  | zero => exact fun n hn k hk i0 i1 hm => absurd hm (Nat.not_lt_zero _)
  | succ N_ ih =>
    intro n hn k hk i0 i1 hm
    refine j_iload_n (pc := 4) dX12_countOf_4 rfl rfl ?_
    refine j_bipush (pc := 5) dX12_countOf_5 rfl ?_
    refine j_icmpR_ge (pc := 7) (tgt := 24) ⟨by omega, by omega⟩ ⟨by omega, by omega⟩ dX12_countOf_7 rfl (fun h1 => ?_) (fun h1 => ?_)
    · refine j_iload_n (pc := 24) dX12_countOf_24 rfl rfl ?_
      exact j_iret (pc := 25) ⟨rfl, rfl⟩ dX12_countOf_25 rfl ⟨_, rfl, ⟨by omega, by omega⟩, rfl, by rw [show (12 : Nat) = k.toNat from by omega]; exact i1⟩
    · refine j_iload_n (pc := 10) dX12_countOf_10 rfl rfl ?_
      refine j_iload_n (pc := 11) dX12_countOf_11 rfl rfl ?_
      refine j_iload_n (pc := 12) dX12_countOf_12 rfl rfl ?_
      refine j_ishr (pc := 13) dX12_countOf_13 (fun z2 ez2 => ?_)
      have hz2 : (-2147483648 : Int) ≤ z2 ∧ z2 ≤ 2147483647 := by rw [ez2]; exact shr_in _ _
      have p9 := mPop_s (s := v) (k := k) (by omega)
      unfold mBit at p9
      rw [← ez2] at p9
      have gz2 : (-2147483648 : Int) ≤ z2 ∧ z2 ≤ 2147483647 := by rw [ez2]; exact shr_in _ _
      refine j_iconst (pc := 14) dX12_countOf_14 ?_
      refine j_iand (pc := 15) dX12_countOf_15 (fun z3 ez3 => ?_)
      have hz3 : (-2147483648 : Int) ≤ z3 ∧ z3 ≤ 2147483647 := by rw [ez3]; exact and_in _ _
      rw [← ez3] at p9
      have gz3 : (0 : Int) ≤ z3 ∧ z3 ≤ 1 := by rw [ez3]; exact and1
      refine j_iadd (pc := 16) dX12_countOf_16 ?_
      refine j_istore_n (pc := 17) (i := 1) (ls' := [(0, vI v), (1, vI (n + z3)), (2, vI k)]) [1, 0, 2] dX12_countOf_17 rfl (Nat.le_of_ble_eq_true rfl) rfl rfl ?_
      refine j_iinc (pc := 18) (i := 2) (n := 1) (ls' := [(0, vI v), (1, vI (n + z3)), (2, vI (k + 1))]) [1, 2, 0] dX12_countOf_18 rfl (Nat.le_of_ble_eq_true rfl) rfl rfl ?_
      refine j_goto (pc := 21) (tgt := 4) dX12_countOf_21 rfl ?_
      refine j_ls (ls' := [(0, vI v), (1, vI (n + z3)), (2, vI (k + 1))]) [0, 1, 2] rfl ?_
      exact ih (n + z3) ⟨by omega, by omega⟩ (k + 1) ⟨by omega, by omega⟩ (show (n + z3) ≤ (k + 1) from by omega) (show (n + z3) = mPop v (k + 1).toNat from by omega) (show (12 - (k + 1)).toNat < N_ from by omega)
set_option maxHeartbeats 4000000 in
set_option maxRecDepth 100000 in
theorem c_X12_countOf {G : tw_G} (v : Int) (hv : -2147483648 ≤ v ∧ v ≤ 2147483647) (σ : tw_M) (hI : tw_I σ) : tw_C G yX12_countOf cX12_countOf 3 (some .int) 0 [vI v] σ (q_X12_countOf v σ) := by
  refine tw_met [(0, vI v)] (by decide +kernel) rfl (Nat.le_of_ble_eq_true rfl) ?_
  refine j_iconst (pc := 0) dX12_countOf_0 ?_
  refine j_istore_n (pc := 1) (i := 1) (ls' := [(0, vI v), (1, vI 0)]) [1, 0] dX12_countOf_1 rfl (Nat.le_of_ble_eq_true rfl) rfl rfl ?_
  refine j_iconst (pc := 2) dX12_countOf_2 ?_
  refine j_istore_n (pc := 3) (i := 2) (ls' := [(0, vI v), (1, vI 0), (2, vI 0)]) [1, 2, 0] dX12_countOf_3 rfl (Nat.le_of_ble_eq_true rfl) rfl rfl ?_
  refine j_ls (ls' := [(0, vI v), (1, vI 0), (2, vI 0)]) [0, 1, 2] rfl ?_
  exact (l_X12_countOf v hv σ hI (((12 - (0 : Int)).toNat) + 1)) 0 (by (first | decide | exact ⟨by omega, by omega⟩)) 0 (by (first | decide | exact ⟨by omega, by omega⟩)) (show (0 : Int) ≤ (0 : Int) from by omega) (show (0 : Int) = mPop v (0 : Int).toNat from rfl) (Nat.lt_succ_self _)
abbrev q_X12_size (v : Int) (σ : tw_M) : Option tw_V → tw_M → Prop := fun z τ => ∃ r : Int, z = some (vI r) ∧ (0 ≤ r ∧ r ≤ 2147483647) ∧ σ = τ ∧ ((0 ≤ v ∧ r = v) ∨ (v < 0 ∧ r = -v))
set_option maxHeartbeats 4000000 in
set_option maxRecDepth 100000 in
theorem c_X12_size {G : tw_G} (v : Int) (hv : -2147483647 ≤ v ∧ v ≤ 2147483647) (σ : tw_M) (hI : tw_I σ) : tw_C G yX12_size cX12_size 1 (some .int) 0 [vI v] σ (q_X12_size v σ) := by
  refine tw_met [(0, vI v)] (by decide +kernel) rfl (Nat.le_of_ble_eq_true rfl) ?_
  refine j_iload_n (pc := 0) dX12_size_0 rfl rfl ?_
  refine j_ifR_ge (pc := 1) (tgt := 9) ⟨by omega, by omega⟩ dX12_size_1 rfl (fun h1 => ?_) (fun h1 => ?_)
  · refine j_iload_n (pc := 9) dX12_size_9 rfl rfl ?_
    exact j_iret (pc := 10) ⟨rfl, rfl⟩ dX12_size_10 rfl ⟨_, rfl, ⟨by omega, by omega⟩, rfl, by omega⟩
  · refine j_iload_n (pc := 4) dX12_size_4 rfl rfl ?_
    refine j_ineg (pc := 5) dX12_size_5 ?_
    refine j_goto (pc := 6) (tgt := 10) dX12_size_6 rfl ?_
    exact j_iret (pc := 10) ⟨rfl, rfl⟩ dX12_size_10 rfl ⟨_, rfl, ⟨by omega, by omega⟩, rfl, by omega⟩
abbrev q_X12_isAt (h : Int) (σ : tw_M) : Option tw_V → tw_M → Prop := fun z τ => ∃ r : Int, z = some (vI r) ∧ (0 ≤ r ∧ r ≤ 1) ∧ σ = τ ∧ ((r = 1 ∧ 1 ≤ h ∧ h ≤ σ 91 0 ∧ h ≤ 40) ∨ (r = 0 ∧ ¬ (1 ≤ h ∧ h ≤ σ 91 0)))
set_option maxHeartbeats 4000000 in
set_option maxRecDepth 100000 in
theorem c_X12_isAt {G : tw_G} (hM : tw_isM G) (h : Int) (hh : -2147483648 ≤ h ∧ h ≤ 2147483647) (σ : tw_M) (hI : tw_I σ) : tw_C G yX12_isAt cX12_isAt 2 (some .boolean) 1 [vR 88, vI h] σ (q_X12_isAt h σ) := by
  refine tw_met [(0, vR 88), (1, vI h)] (by decide +kernel) rfl (Nat.le_of_ble_eq_true rfl) ?_
  refine j_iload_n (pc := 0) dX12_isAt_0 rfl rfl ?_
  refine j_i2l (pc := 1) dX12_isAt_1 ?_
  rw [w32_eq (a := h) (by omega) (by omega)]
  refine j_lconst (pc := 2) (z := 1) dX12_isAt_2 rfl ?_
  refine j_aload_n (pc := 3) dX12_isAt_3 rfl rfl ?_
  refine j_getR (pc := 4) (r := 91) fl_X12_17 dX12_isAt_4 (a_88 hM) rfl ?_
  refine j_iconst (pc := 7) dX12_isAt_7 ?_
  refine j_iald (pc := 8) dX12_isAt_8 (a_91 hM) (by omega) (by omega) (by decide) ?_
  refine j_topV (show σ 91 (Int.toNat 0) = σ 91 0 from rfl) ?_
  have f1 : (1 : Int) ≤ σ 91 0 ∧ σ 91 0 ≤ 40 := hI 91 0
  refine j_i2l (pc := 9) dX12_isAt_9 ?_
  rw [w32_eq (a := σ 91 0) (by omega) (by omega)]
  refine j_callS (pc := 10) (As := [vL h, vL 1, vL (σ 91 0)]) (st := []) (c_X12_in h ⟨by omega, by omega⟩ 1 (by (first | decide | exact ⟨by omega, by omega⟩)) (σ 91 0) ⟨by omega, by omega⟩ σ hI) ms_X12_82 rfl dX12_isAt_10 ⟨Nat.le_of_ble_eq_true rfl, Nat.le_of_ble_eq_true rfl⟩ ⟨Nat.le_refl _, Nat.le_refl _⟩ rfl (Nat.le_of_ble_eq_true rfl) rfl (fun z2 σ3 hz2 => ?_)
  obtain ⟨r5, rfl, hr5, rfl, q4_0⟩ := hz2
  replace q4_0 : (r5 = 1 ∧ (1 : Int) ≤ h ∧ h ≤ (σ 91 0)) ∨ (r5 = 0 ∧ ¬ ((1 : Int) ≤ h ∧ h ≤ (σ 91 0))) := q4_0
  refine j_st (st' := [vI r5]) rfl ?_
  exact j_zret (pc := 13) ⟨rfl, rfl⟩ dX12_isAt_13 rfl (nar_bool (by omega) (by omega)) ⟨_, rfl, ⟨by omega, by omega⟩, rfl, by omega⟩
abbrev q_X12_of (h : Int) (w : Int) (σ : tw_M) : Option tw_V → tw_M → Prop := fun z τ => ∃ r : Int, z = some (vI r) ∧ (0 ≤ r ∧ r ≤ 10) ∧ σ = τ ∧ (r = σ 92 (5 * h + w).toNat)
set_option maxHeartbeats 4000000 in
set_option maxRecDepth 100000 in
theorem c_X12_of {G : tw_G} (hM : tw_isM G) (h : Int) (hh : 0 ≤ h ∧ h ≤ 40) (w : Int) (hw : 0 ≤ w ∧ w ≤ 4) (σ : tw_M) (hI : tw_I σ) : tw_C G yX12_of cX12_of 3 (some .int) 0 [vR 88, vI h, vI w] σ (q_X12_of h w σ) := by
  refine tw_met [(0, vR 88), (1, vI h), (2, vI w)] (by decide +kernel) rfl (Nat.le_of_ble_eq_true rfl) ?_
  refine j_aload_n (pc := 0) dX12_of_0 rfl rfl ?_
  refine j_getR (pc := 1) (r := 92) fl_X12_20 dX12_of_1 (a_88 hM) rfl ?_
  refine j_iconst (pc := 4) dX12_of_4 ?_
  refine j_iload_n (pc := 5) dX12_of_5 rfl rfl ?_
  refine j_imul (pc := 6) dX12_of_6 ?_
  refine j_iload_n (pc := 7) dX12_of_7 rfl rfl ?_
  refine j_iadd (pc := 8) dX12_of_8 ?_
  refine j_iald (pc := 9) dX12_of_9 (a_92 hM) (by omega) (by omega) (by decide) ?_
  have f1 : (0 : Int) ≤ σ 92 (((5 * h) + w).toNat) ∧ σ 92 (((5 * h) + w).toNat) ≤ 10 := mw_10 hI _
  exact j_iret (pc := 10) ⟨rfl, rfl⟩ dX12_of_10 rfl ⟨_, rfl, ⟨by omega, by omega⟩, rfl, by omega⟩
abbrev q_X12_pieces (b : Int) (h : Int) (σ : tw_M) : Option tw_V → tw_M → Prop := fun z τ => ∃ r : Int, z = some (vI r) ∧ (0 ≤ r ∧ r ≤ 40) ∧ σ = τ ∧ (r = mc σ b h.toNat)
set_option maxHeartbeats 4000000 in
set_option maxRecDepth 100000 in
theorem l_X12_pieces {G : tw_G} (hM : tw_isM G) (b : Int) (hb : 0 ≤ b ∧ b ≤ 300) (h : Int) (hh : 0 ≤ h ∧ h ≤ 40) (σ : tw_M) (hI : tw_I σ) : ∀ N_ : Nat, (∀ (n : Int) (hn : 0 ≤ n ∧ n ≤ 40) (f : Int) (hf : 1 ≤ f ∧ f ≤ 41) (i0 : n = mc σ b (f - 1).toNat) (i1 : f ≤ h + 1) (hm : (41 - f).toNat < N_), tw_J G (tw_mt RX12 cX12_pieces 5 (some .int) 1) (tw_E G (q_X12_pieces b h σ)) 5 [(0, vR 88), (1, vI b), (2, vI h), (3, vI n), (4, vI f)] [] σ) := by
  intro N_
  induction N_ with
  | zero => exact fun n hn f hf i0 i1 hm => absurd hm (Nat.not_lt_zero _)
  | succ N_ ih =>
    intro n hn f hf i0 i1 hm
    refine j_iload (pc := 5) dX12_pieces_5 rfl ?_
    refine j_iload_n (pc := 7) dX12_pieces_7 rfl rfl ?_
    refine j_icmpR_gt (pc := 8) (tgt := 40) ⟨by omega, by omega⟩ ⟨by omega, by omega⟩ dX12_pieces_8 rfl (fun h1 => ?_) (fun h1 => ?_)
    · refine j_iload_n (pc := 40) dX12_pieces_40 rfl rfl ?_
      exact j_iret (pc := 41) ⟨rfl, rfl⟩ dX12_pieces_41 rfl ⟨_, rfl, ⟨by omega, by omega⟩, rfl, by rw [show h = f - 1 from by omega]; exact i0⟩
    · have m1 := mc_s (σ := σ) (b := b) (f := f) (by omega)
      have m2 := mc_in σ b f.toNat
      refine j_iload_n (pc := 11) dX12_pieces_11 rfl rfl ?_
      refine j_aload_n (pc := 12) dX12_pieces_12 rfl rfl ?_
      refine j_getR (pc := 13) (r := 89) fl_X12_7 dX12_pieces_13 (a_88 hM) rfl ?_
      refine j_iload_n (pc := 16) dX12_pieces_16 rfl rfl ?_
      refine j_iload (pc := 17) dX12_pieces_17 rfl ?_
      refine j_iadd (pc := 19) dX12_pieces_19 ?_
      refine j_iald (pc := 20) dX12_pieces_20 (a_89 hM) (by omega) (by omega) (by decide) ?_
      have f2 : (-2147483648 : Int) ≤ σ 89 ((b + f).toNat) ∧ σ 89 ((b + f).toNat) ≤ 2147483647 := st_D hI _
      refine j_ifR_le (pc := 21) (tgt := 28) ⟨by omega, by omega⟩ dX12_pieces_21 rfl (fun h3 => ?_) (fun h3 => ?_)
      · refine j_iconst (pc := 28) dX12_pieces_28 ?_
        refine j_callS (pc := 29) (As := [vI 0]) (st := [vI n]) (c_X12_flag 0 (by (first | decide | exact ⟨by omega, by omega⟩)) σ hI) ms_X12_168 rfl dX12_pieces_29 ⟨Nat.le_of_ble_eq_true rfl, Nat.le_of_ble_eq_true rfl⟩ ⟨Nat.le_refl _, Nat.le_refl _⟩ rfl (Nat.le_of_ble_eq_true rfl) rfl (fun z4 σ5 hz4 => ?_)
        obtain ⟨r7, rfl, hr7, rfl, q6_0⟩ := hz4
        replace q6_0 : r7 = (0 : Int) := q6_0
        refine j_st (st' := [vI r7, vI n]) rfl ?_
        refine j_iadd (pc := 32) dX12_pieces_32 ?_
        refine j_istore_n (pc := 33) (i := 3) (ls' := [(0, vR 88), (1, vI b), (2, vI h), (3, vI (n + r7)), (4, vI f)]) [1, 2, 3, 0, 4] dX12_pieces_33 rfl (Nat.le_of_ble_eq_true rfl) rfl rfl ?_
        refine j_iinc (pc := 34) (i := 4) (n := 1) (ls' := [(0, vR 88), (1, vI b), (2, vI h), (3, vI (n + r7)), (4, vI (f + 1))]) [1, 2, 3, 4, 0] dX12_pieces_34 rfl (Nat.le_of_ble_eq_true rfl) rfl rfl ?_
        refine j_goto (pc := 37) (tgt := 5) dX12_pieces_37 rfl ?_
        refine j_ls (ls' := [(0, vR 88), (1, vI b), (2, vI h), (3, vI (n + r7)), (4, vI (f + 1))]) [0, 1, 2, 3, 4] rfl ?_
        exact ih (n + r7) ⟨by omega, by omega⟩ (f + 1) ⟨by omega, by omega⟩ (show (n + r7) = mc σ b ((f + 1) - 1).toNat from by rw [show (f + 1 : Int) - 1 = f from by omega]; omega) (show (f + 1) ≤ h + 1 from by omega) (show (41 - (f + 1)).toNat < N_ from by omega)
      · refine j_iconst (pc := 24) dX12_pieces_24 ?_
        refine j_goto (pc := 25) (tgt := 29) dX12_pieces_25 rfl ?_
        refine j_callS (pc := 29) (As := [vI 1]) (st := [vI n]) (c_X12_flag 1 (by (first | decide | exact ⟨by omega, by omega⟩)) σ hI) ms_X12_168 rfl dX12_pieces_29 ⟨Nat.le_of_ble_eq_true rfl, Nat.le_of_ble_eq_true rfl⟩ ⟨Nat.le_refl _, Nat.le_refl _⟩ rfl (Nat.le_of_ble_eq_true rfl) rfl (fun z8 σ9 hz8 => ?_)
        obtain ⟨r11, rfl, hr11, rfl, q10_0⟩ := hz8
        replace q10_0 : r11 = (1 : Int) := q10_0
        refine j_st (st' := [vI r11, vI n]) rfl ?_
        refine j_iadd (pc := 32) dX12_pieces_32 ?_
        refine j_istore_n (pc := 33) (i := 3) (ls' := [(0, vR 88), (1, vI b), (2, vI h), (3, vI (n + r11)), (4, vI f)]) [1, 2, 3, 0, 4] dX12_pieces_33 rfl (Nat.le_of_ble_eq_true rfl) rfl rfl ?_
        refine j_iinc (pc := 34) (i := 4) (n := 1) (ls' := [(0, vR 88), (1, vI b), (2, vI h), (3, vI (n + r11)), (4, vI (f + 1))]) [1, 2, 3, 4, 0] dX12_pieces_34 rfl (Nat.le_of_ble_eq_true rfl) rfl rfl ?_
        refine j_goto (pc := 37) (tgt := 5) dX12_pieces_37 rfl ?_
        refine j_ls (ls' := [(0, vR 88), (1, vI b), (2, vI h), (3, vI (n + r11)), (4, vI (f + 1))]) [0, 1, 2, 3, 4] rfl ?_
        exact ih (n + r11) ⟨by omega, by omega⟩ (f + 1) ⟨by omega, by omega⟩ (show (n + r11) = mc σ b ((f + 1) - 1).toNat from by rw [show (f + 1 : Int) - 1 = f from by omega]; omega) (show (f + 1) ≤ h + 1 from by omega) (show (41 - (f + 1)).toNat < N_ from by omega)
set_option maxHeartbeats 4000000 in
set_option maxRecDepth 100000 in
theorem c_X12_pieces {G : tw_G} (hM : tw_isM G) (b : Int) (hb : 0 ≤ b ∧ b ≤ 300) (h : Int) (hh : 0 ≤ h ∧ h ≤ 40) (σ : tw_M) (hI : tw_I σ) : tw_C G yX12_pieces cX12_pieces 5 (some .int) 1 [vR 88, vI b, vI h] σ (q_X12_pieces b h σ) := by
  refine tw_met [(0, vR 88), (1, vI b), (2, vI h)] (by decide +kernel) rfl (Nat.le_of_ble_eq_true rfl) ?_
  refine j_iconst (pc := 0) dX12_pieces_0 ?_
  refine j_istore_n (pc := 1) (i := 3) (ls' := [(0, vR 88), (1, vI b), (2, vI h), (3, vI 0)]) [1, 2, 3, 0] dX12_pieces_1 rfl (Nat.le_of_ble_eq_true rfl) rfl rfl ?_
  refine j_iconst (pc := 2) dX12_pieces_2 ?_
  refine j_istore (pc := 3) (i := 4) (ls' := [(0, vR 88), (1, vI b), (2, vI h), (3, vI 0), (4, vI 1)]) [1, 2, 3, 4, 0] dX12_pieces_3 (Nat.le_of_ble_eq_true rfl) rfl rfl ?_
  refine j_ls (ls' := [(0, vR 88), (1, vI b), (2, vI h), (3, vI 0), (4, vI 1)]) [0, 1, 2, 3, 4] rfl ?_
  exact (l_X12_pieces hM b hb h hh σ hI (((41 - (1 : Int)).toNat) + 1)) 0 (by (first | decide | exact ⟨by omega, by omega⟩)) 1 (by (first | decide | exact ⟨by omega, by omega⟩)) (show (0 : Int) = mc σ b ((1 : Int) - 1).toNat from rfl) (show (1 : Int) ≤ h + 1 from by omega) (Nat.lt_succ_self _)
abbrev q_X12_all (b : Int) (σ : tw_M) : Option tw_V → tw_M → Prop := fun z τ => ∃ r : Int, z = some (vI r) ∧ (0 ≤ r ∧ r ≤ 40) ∧ σ = τ ∧ (r = mc σ b (σ 91 0).toNat)
set_option maxHeartbeats 4000000 in
set_option maxRecDepth 100000 in
theorem c_X12_all {G : tw_G} (hM : tw_isM G) (b : Int) (hb : 0 ≤ b ∧ b ≤ 300) (σ : tw_M) (hI : tw_I σ) : tw_C G yX12_all cX12_all 2 (some .int) 2 [vR 88, vI b] σ (q_X12_all b σ) := by
  refine tw_met [(0, vR 88), (1, vI b)] (by decide +kernel) rfl (Nat.le_of_ble_eq_true rfl) ?_
  refine j_aload_n (pc := 0) dX12_all_0 rfl rfl ?_
  refine j_iload_n (pc := 1) dX12_all_1 rfl rfl ?_
  refine j_aload_n (pc := 2) dX12_all_2 rfl rfl ?_
  refine j_getR (pc := 3) (r := 91) fl_X12_17 dX12_all_3 (a_88 hM) rfl ?_
  refine j_iconst (pc := 6) dX12_all_6 ?_
  refine j_iald (pc := 7) dX12_all_7 (a_91 hM) (by omega) (by omega) (by decide) ?_
  refine j_topV (show σ 91 (Int.toNat 0) = σ 91 0 from rfl) ?_
  have f1 : (1 : Int) ≤ σ 91 0 ∧ σ 91 0 ≤ 40 := hI 91 0
  refine j_callV (pc := 8) (As := [vI b, vI (σ 91 0)]) (st := []) (c_X12_pieces hM b ⟨by omega, by omega⟩ (σ 91 0) ⟨by omega, by omega⟩ σ hI) mv_X12_172 rfl rfl rfl (a_88 hM) dX12_all_8 ⟨Nat.le_of_ble_eq_true rfl, Nat.le_of_ble_eq_true rfl⟩ ⟨Nat.le_refl _, Nat.le_refl _⟩ rfl (Nat.le_of_ble_eq_true rfl) rfl (fun z2 σ3 hz2 => ?_)
  obtain ⟨r5, rfl, hr5, rfl, q4_0⟩ := hz2
  replace q4_0 : r5 = mc σ b (σ 91 0).toNat := q4_0
  refine j_st (st' := [vI r5]) rfl ?_
  exact j_iret (pc := 11) ⟨rfl, rfl⟩ dX12_all_11 rfl ⟨_, rfl, ⟨by omega, by omega⟩, rfl, by omega⟩
abbrev q_X12_footOf (b : Int) (k : Int) (σ : tw_M) : Option tw_V → tw_M → Prop := fun z τ => ∃ r : Int, z = some (vI r) ∧ (1 ≤ r ∧ r ≤ 40) ∧ σ = τ ∧ (r ≤ σ 91 0) ∧ (0 < σ 89 (b + r).toNat) ∧ (mc σ b r.toNat = k + 1) ∧ (b = 0 → r = fok (gM 0 σ) k 40)
set_option maxHeartbeats 4000000 in
set_option maxRecDepth 100000 in
theorem l_X12_footOf {G : tw_G} (hM : tw_isM G) (b : Int) (hb : 0 ≤ b ∧ b ≤ 300) (k : Int) (hk : 0 ≤ k ∧ k ≤ 40) (σ : tw_M) (hI : tw_I σ) (hq0 : k < mc σ b (σ 91 0).toNat) : ∀ N_ : Nat, (∀ (f : Int) (hf : 0 ≤ f ∧ f ≤ 40) (n : Int) (hn : -1 ≤ n ∧ n ≤ 40) (i0 : n = mc σ b f.toNat - 1) (i1 : n < k ∨ (n = k ∧ 1 ≤ f ∧ 0 < σ 89 (b + f).toNat)) (i2 : f ≤ σ 91 0) (hm : (41 - f).toNat < N_), tw_J G (tw_mt RX12 cX12_footOf 5 (some .int) 1) (tw_E G (q_X12_footOf b k σ)) 5 [(0, vR 88), (1, vI b), (2, vI k), (3, vI f), (4, vI n)] [] σ) := by
  intro N_
  induction N_ with
  | zero => exact fun f hf n hn i0 i1 i2 hm => absurd hm (Nat.not_lt_zero _)
  | succ N_ ih =>
    intro f hf n hn i0 i1 i2 hm
    have m3 := True.intro
    have m4 := True.intro
    have m1 := True.intro
    refine j_iload (pc := 5) dX12_footOf_5 rfl ?_
    refine j_iload_n (pc := 7) dX12_footOf_7 rfl rfl ?_
    refine j_icmpR_ge (pc := 8) (tgt := 41) ⟨by omega, by omega⟩ ⟨by omega, by omega⟩ dX12_footOf_8 rfl (fun h1 => ?_) (fun h1 => ?_)
    · refine j_iload_n (pc := 41) dX12_footOf_41 rfl rfl ?_
      exact j_iret (pc := 42) ⟨rfl, rfl⟩ dX12_footOf_42 rfl ⟨_, rfl, ⟨by omega, by omega⟩, rfl, by omega, by omega, by omega, (fun hb => by
                                                              subst hb
                                                              have ft : (1 : Int) ≤ σ 91 0 ∧ σ 91 0 ≤ 40 := hI 91 0
                                                              first | skip | skip
                                                              exact FOK_M (σ := σ) (by omega) (by omega) (by omega))⟩
    · have m3 : f ≠ σ 91 0 := by intro e; rw [e] at i0; omega
      have m4 : (1 : Int) ≤ σ 91 0 ∧ σ 91 0 ≤ 40 := hI 91 0
      have m1 := mc_s (σ := σ) (b := b) (f := f + 1) (by omega)
      rw [show (f + 1 : Int) - 1 = f from by omega] at m1
      refine j_iinc (pc := 11) (i := 3) (n := 1) (ls' := [(0, vR 88), (1, vI b), (2, vI k), (3, vI (f + 1)), (4, vI n)]) [1, 2, 3, 0, 4] dX12_footOf_11 rfl (Nat.le_of_ble_eq_true rfl) rfl rfl ?_
      refine j_iload (pc := 14) dX12_footOf_14 rfl ?_
      refine j_aload_n (pc := 16) dX12_footOf_16 rfl rfl ?_
      refine j_getR (pc := 17) (r := 89) fl_X12_7 dX12_footOf_17 (a_88 hM) rfl ?_
      refine j_iload_n (pc := 20) dX12_footOf_20 rfl rfl ?_
      refine j_iload_n (pc := 21) dX12_footOf_21 rfl rfl ?_
      refine j_iadd (pc := 22) dX12_footOf_22 ?_
      refine j_iald (pc := 23) dX12_footOf_23 (a_89 hM) (by omega) (by omega) (by decide) ?_
      have f2 : (-2147483648 : Int) ≤ σ 89 ((b + (f + 1)).toNat) ∧ σ 89 ((b + (f + 1)).toNat) ≤ 2147483647 := st_D hI _
      refine j_ifR_le (pc := 24) (tgt := 31) ⟨by omega, by omega⟩ dX12_footOf_24 rfl (fun h3 => ?_) (fun h3 => ?_)
      · refine j_iconst (pc := 31) dX12_footOf_31 ?_
        refine j_callS (pc := 32) (As := [vI 0]) (st := [vI n]) (c_X12_flag 0 (by (first | decide | exact ⟨by omega, by omega⟩)) σ hI) ms_X12_168 rfl dX12_footOf_32 ⟨Nat.le_of_ble_eq_true rfl, Nat.le_of_ble_eq_true rfl⟩ ⟨Nat.le_refl _, Nat.le_refl _⟩ rfl (Nat.le_of_ble_eq_true rfl) rfl (fun z4 σ5 hz4 => ?_)
        obtain ⟨r7, rfl, hr7, rfl, q6_0⟩ := hz4
        replace q6_0 : r7 = (0 : Int) := q6_0
        refine j_st (st' := [vI r7, vI n]) rfl ?_
        refine j_iadd (pc := 35) dX12_footOf_35 ?_
        refine j_istore (pc := 36) (i := 4) (ls' := [(0, vR 88), (1, vI b), (2, vI k), (3, vI (f + 1)), (4, vI (n + r7))]) [1, 2, 3, 4, 0] dX12_footOf_36 (Nat.le_of_ble_eq_true rfl) rfl rfl ?_
        refine j_goto (pc := 38) (tgt := 5) dX12_footOf_38 rfl ?_
        refine j_ls (ls' := [(0, vR 88), (1, vI b), (2, vI k), (3, vI (f + 1)), (4, vI (n + r7))]) [0, 1, 2, 3, 4] rfl ?_
        exact ih (f + 1) ⟨by omega, by omega⟩ (n + r7) ⟨by omega, by omega⟩ (show (n + r7) = mc σ b (f + 1).toNat - 1 from by omega) (show (n + r7) < k ∨ ((n + r7) = k ∧ 1 ≤ (f + 1) ∧ 0 < σ 89 (b + (f + 1)).toNat) from by omega) (show (f + 1) ≤ σ 91 0 from by omega) (show (41 - (f + 1)).toNat < N_ from by omega)
      · refine j_iconst (pc := 27) dX12_footOf_27 ?_
        refine j_goto (pc := 28) (tgt := 32) dX12_footOf_28 rfl ?_
        refine j_callS (pc := 32) (As := [vI 1]) (st := [vI n]) (c_X12_flag 1 (by (first | decide | exact ⟨by omega, by omega⟩)) σ hI) ms_X12_168 rfl dX12_footOf_32 ⟨Nat.le_of_ble_eq_true rfl, Nat.le_of_ble_eq_true rfl⟩ ⟨Nat.le_refl _, Nat.le_refl _⟩ rfl (Nat.le_of_ble_eq_true rfl) rfl (fun z8 σ9 hz8 => ?_)
        obtain ⟨r11, rfl, hr11, rfl, q10_0⟩ := hz8
        replace q10_0 : r11 = (1 : Int) := q10_0
        refine j_st (st' := [vI r11, vI n]) rfl ?_
        refine j_iadd (pc := 35) dX12_footOf_35 ?_
        refine j_istore (pc := 36) (i := 4) (ls' := [(0, vR 88), (1, vI b), (2, vI k), (3, vI (f + 1)), (4, vI (n + r11))]) [1, 2, 3, 4, 0] dX12_footOf_36 (Nat.le_of_ble_eq_true rfl) rfl rfl ?_
        refine j_goto (pc := 38) (tgt := 5) dX12_footOf_38 rfl ?_
        refine j_ls (ls' := [(0, vR 88), (1, vI b), (2, vI k), (3, vI (f + 1)), (4, vI (n + r11))]) [0, 1, 2, 3, 4] rfl ?_
        exact ih (f + 1) ⟨by omega, by omega⟩ (n + r11) ⟨by omega, by omega⟩ (show (n + r11) = mc σ b (f + 1).toNat - 1 from by omega) (show (n + r11) < k ∨ ((n + r11) = k ∧ 1 ≤ (f + 1) ∧ 0 < σ 89 (b + (f + 1)).toNat) from by omega) (show (f + 1) ≤ σ 91 0 from by omega) (show (41 - (f + 1)).toNat < N_ from by omega)
set_option maxHeartbeats 4000000 in
set_option maxRecDepth 100000 in
theorem c_X12_footOf {G : tw_G} (hM : tw_isM G) (b : Int) (hb : 0 ≤ b ∧ b ≤ 300) (k : Int) (hk : 0 ≤ k ∧ k ≤ 40) (σ : tw_M) (hI : tw_I σ) (hq0 : k < mc σ b (σ 91 0).toNat) : tw_C G yX12_footOf cX12_footOf 5 (some .int) 1 [vR 88, vI b, vI k] σ (q_X12_footOf b k σ) := by
  refine tw_met [(0, vR 88), (1, vI b), (2, vI k)] (by decide +kernel) rfl (Nat.le_of_ble_eq_true rfl) ?_
  have m3 := True.intro
  have m4 := True.intro
  have m1 := True.intro
  have m4 : (1 : Int) ≤ σ 91 0 ∧ σ 91 0 ≤ 40 := hI 91 0
  refine j_iconst (pc := 0) dX12_footOf_0 ?_
  refine j_istore_n (pc := 1) (i := 3) (ls' := [(0, vR 88), (1, vI b), (2, vI k), (3, vI 0)]) [1, 2, 3, 0] dX12_footOf_1 rfl (Nat.le_of_ble_eq_true rfl) rfl rfl ?_
  refine j_iconst (pc := 2) dX12_footOf_2 ?_
  refine j_istore (pc := 3) (i := 4) (ls' := [(0, vR 88), (1, vI b), (2, vI k), (3, vI 0), (4, vI (-1))]) [1, 2, 3, 4, 0] dX12_footOf_3 (Nat.le_of_ble_eq_true rfl) rfl rfl ?_
  refine j_ls (ls' := [(0, vR 88), (1, vI b), (2, vI k), (3, vI 0), (4, vI (-1))]) [0, 1, 2, 3, 4] rfl ?_
  exact (l_X12_footOf hM b hb k hk σ hI hq0 (((41 - (0 : Int)).toNat) + 1)) 0 (by (first | decide | exact ⟨by omega, by omega⟩)) (-1) (by (first | decide | exact ⟨by omega, by omega⟩)) (show (-1 : Int) = mc σ b (0 : Int).toNat - 1 from rfl) (show (-1 : Int) < k ∨ ((-1 : Int) = k ∧ 1 ≤ (0 : Int) ∧ 0 < σ 89 (b + (0 : Int)).toNat) from by omega) (show (0 : Int) ≤ σ 91 0 from by omega) (Nat.lt_succ_self _)
abbrev q_X12_numberAt (h : Int) (σ : tw_M) : Option tw_V → tw_M → Prop := fun z τ => ∃ r : Int, z = some (vI r) ∧ (-4 ≤ r ∧ r ≤ 39) ∧ σ = τ ∧ ((0 < σ 89 h.toNat ∧ r = cnt (gM 0 σ) h.toNat - 1) ∨ (σ 89 h.toNat ≤ 0 ∧ r = -4))
set_option maxHeartbeats 4000000 in
set_option maxRecDepth 100000 in
theorem c_X12_numberAt {G : tw_G} (hM : tw_isM G) (h : Int) (hh : 1 ≤ h ∧ h ≤ 40) (σ : tw_M) (hI : tw_I σ) : tw_C G yX12_numberAt cX12_numberAt 2 (some .int) 2 [vR 88, vI h] σ (q_X12_numberAt h σ) := by
  refine tw_met [(0, vR 88), (1, vI h)] (by decide +kernel) rfl (Nat.le_of_ble_eq_true rfl) ?_
  refine j_aload_n (pc := 0) dX12_numberAt_0 rfl rfl ?_
  refine j_getR (pc := 1) (r := 89) fl_X12_7 dX12_numberAt_1 (a_88 hM) rfl ?_
  refine j_iload_n (pc := 4) dX12_numberAt_4 rfl rfl ?_
  refine j_iald (pc := 5) dX12_numberAt_5 (a_89 hM) (by omega) (by omega) (by decide) ?_
  have f1 : (-2147483648 : Int) ≤ σ 89 (h.toNat) ∧ σ 89 (h.toNat) ≤ 2147483647 := st_D hI _
  refine j_ifR_le (pc := 6) (tgt := 20) ⟨by omega, by omega⟩ dX12_numberAt_6 rfl (fun h2 => ?_) (fun h2 => ?_)
  · refine j_bipush (pc := 20) dX12_numberAt_20 rfl ?_
    exact j_iret (pc := 22) ⟨rfl, rfl⟩ dX12_numberAt_22 rfl ⟨_, rfl, ⟨by omega, by omega⟩, rfl, (by first | exact Or.inr ⟨by omega, rfl⟩ | exact Or.inl ⟨by omega, by (have e := __0); rw [mc_gM (by omega)] at e; omega⟩)⟩
  · refine j_aload_n (pc := 9) dX12_numberAt_9 rfl rfl ?_
    refine j_iconst (pc := 10) dX12_numberAt_10 ?_
    refine j_iload_n (pc := 11) dX12_numberAt_11 rfl rfl ?_
    refine j_callV (pc := 12) (As := [vI 0, vI h]) (st := []) (c_X12_pieces hM 0 (by (first | decide | exact ⟨by omega, by omega⟩)) h ⟨by omega, by omega⟩ σ hI) mv_X12_172 rfl rfl rfl (a_88 hM) dX12_numberAt_12 ⟨Nat.le_of_ble_eq_true rfl, Nat.le_of_ble_eq_true rfl⟩ ⟨Nat.le_refl _, Nat.le_refl _⟩ rfl (Nat.le_of_ble_eq_true rfl) rfl (fun z3 σ4 hz3 => ?_)
    obtain ⟨r6, rfl, hr6, rfl, q5_0⟩ := hz3
    replace q5_0 : r6 = mc σ (0 : Int) h.toNat := q5_0
    refine j_st (st' := [vI r6]) rfl ?_
    refine j_iconst (pc := 15) dX12_numberAt_15 ?_
    refine j_isub (pc := 16) dX12_numberAt_16 ?_
    refine j_goto (pc := 17) (tgt := 22) dX12_numberAt_17 rfl ?_
    exact j_iret (pc := 22) ⟨rfl, rfl⟩ dX12_numberAt_22 rfl ⟨_, rfl, ⟨by omega, by omega⟩, rfl, (by first | exact Or.inr ⟨by omega, rfl⟩ | exact Or.inl ⟨by omega, by (have e := q5_0); rw [mc_gM (by omega)] at e; omega⟩)⟩
abbrev q_X12_foot (h : Int) (w : Int) (σ : tw_M) : Option tw_V → tw_M → Prop := fun z τ => ∃ r : Int, z = some (vI r) ∧ (-2147483648 ≤ r ∧ r ≤ 2147483647) ∧ σ = τ ∧ ((r = -1 ∧ (¬ (1 ≤ h ∧ h ≤ σ 91 0) ∨ ¬ (0 ≤ w ∧ w ≤ 5))) ∨ ((1 ≤ h ∧ h ≤ σ 91 0) ∧ ((0 ≤ w ∧ w ≤ 4 ∧ r = σ 92 (5 * h + w).toNat) ∨ (w = 5 ∧ ((0 < σ 89 h.toNat ∧ r = cnt (gM 0 σ) h.toNat - 1) ∨ (σ 89 h.toNat ≤ 0 ∧ r = -4))))))
set_option maxHeartbeats 4000000 in
set_option maxRecDepth 100000 in
theorem c_X12_foot {G : tw_G} (hM : tw_isM G) (h : Int) (hh : -2147483648 ≤ h ∧ h ≤ 2147483647) (w : Int) (hw : -2147483648 ≤ w ∧ w ≤ 2147483647) (σ : tw_M) (hI : tw_I σ) : tw_C G yX12_foot cX12_foot 3 (some .int) 3 [vR 88, vI h, vI w] σ (q_X12_foot h w σ) := by
  refine tw_met [(0, vR 88), (1, vI h), (2, vI w)] (by decide +kernel) rfl (Nat.le_of_ble_eq_true rfl) ?_
  refine j_aload_n (pc := 0) dX12_foot_0 rfl rfl ?_
  refine j_iload_n (pc := 1) dX12_foot_1 rfl rfl ?_
  refine j_callV (pc := 2) (As := [vI h]) (st := []) (c_X12_isAt hM h ⟨by omega, by omega⟩ σ hI) mv_X12_175 rfl rfl rfl (a_88 hM) dX12_foot_2 ⟨Nat.le_of_ble_eq_true rfl, Nat.le_of_ble_eq_true rfl⟩ ⟨Nat.le_refl _, Nat.le_refl _⟩ rfl (Nat.le_of_ble_eq_true rfl) rfl (fun z1 σ2 hz1 => ?_)
  obtain ⟨r4, rfl, hr4, rfl, q3_0⟩ := hz1
  replace q3_0 : (r4 = 1 ∧ 1 ≤ h ∧ h ≤ σ 91 0 ∧ h ≤ 40) ∨ (r4 = 0 ∧ ¬ (1 ≤ h ∧ h ≤ σ 91 0)) := q3_0
  refine j_st (st' := [vI r4]) rfl ?_
  refine j_ifR_eq (pc := 5) (tgt := 20) ⟨by omega, by omega⟩ dX12_foot_5 rfl (fun h5 => ?_) (fun h5 => ?_)
  · refine j_iconst (pc := 20) dX12_foot_20 ?_
    refine j_goto (pc := 21) (tgt := 43) dX12_foot_21 rfl ?_
    exact j_iret (pc := 43) ⟨rfl, rfl⟩ dX12_foot_43 rfl ⟨_, rfl, ⟨by omega, by omega⟩, rfl, (by first | exact Or.inl ⟨by omega, by omega⟩ | exact Or.inr ⟨by omega, Or.inr ⟨by omega, fa⟩⟩ | exact Or.inr ⟨by omega, Or.inl ⟨by omega, by omega, by omega⟩⟩)⟩
  · refine j_iload_n (pc := 8) dX12_foot_8 rfl rfl ?_
    refine j_i2l (pc := 9) dX12_foot_9 ?_
    rw [w32_eq (a := w) (by omega) (by omega)]
    refine j_lconst (pc := 10) (z := 0) dX12_foot_10 rfl ?_
    refine j_ldc2 (pc := 11) (z := 5) dX12_foot_11 (tw_inc tm_6 (i := 215) rfl rfl) ?_
    refine j_callS (pc := 14) (As := [vL w, vL 0, vL 5]) (st := []) (c_X12_in w ⟨by omega, by omega⟩ 0 (by (first | decide | exact ⟨by omega, by omega⟩)) 5 (by (first | decide | exact ⟨by omega, by omega⟩)) σ hI) ms_X12_82 rfl dX12_foot_14 ⟨Nat.le_of_ble_eq_true rfl, Nat.le_of_ble_eq_true rfl⟩ ⟨Nat.le_refl _, Nat.le_refl _⟩ rfl (Nat.le_of_ble_eq_true rfl) rfl (fun z6 σ7 hz6 => ?_)
    obtain ⟨r9, rfl, hr9, rfl, q8_0⟩ := hz6
    replace q8_0 : (r9 = 1 ∧ (0 : Int) ≤ w ∧ w ≤ (5 : Int)) ∨ (r9 = 0 ∧ ¬ ((0 : Int) ≤ w ∧ w ≤ (5 : Int))) := q8_0
    refine j_st (st' := [vI r9]) rfl ?_
    refine j_ifR_ne (pc := 17) (tgt := 24) ⟨by omega, by omega⟩ dX12_foot_17 rfl (fun h10 => ?_) (fun h10 => ?_)
    · refine j_iload_n (pc := 24) dX12_foot_24 rfl rfl ?_
      refine j_iconst (pc := 25) dX12_foot_25 ?_
      refine j_icmpR_ne (pc := 26) (tgt := 37) ⟨by omega, by omega⟩ ⟨by omega, by omega⟩ dX12_foot_26 rfl (fun h11 => ?_) (fun h11 => ?_)
      · refine j_aload_n (pc := 37) dX12_foot_37 rfl rfl ?_
        refine j_iload_n (pc := 38) dX12_foot_38 rfl rfl ?_
        refine j_iload_n (pc := 39) dX12_foot_39 rfl rfl ?_
        refine j_callV (pc := 40) (As := [vI h, vI w]) (st := []) (c_X12_of hM h ⟨by omega, by omega⟩ w ⟨by omega, by omega⟩ σ hI) mv_X12_184 rfl rfl rfl (a_88 hM) dX12_foot_40 ⟨Nat.le_of_ble_eq_true rfl, Nat.le_of_ble_eq_true rfl⟩ ⟨Nat.le_refl _, Nat.le_refl _⟩ rfl (Nat.le_of_ble_eq_true rfl) rfl (fun z12 σ13 hz12 => ?_)
        obtain ⟨r15, rfl, hr15, rfl, q14_0⟩ := hz12
        replace q14_0 : r15 = σ 92 (5 * h + w).toNat := q14_0
        refine j_st (st' := [vI r15]) rfl ?_
        exact j_iret (pc := 43) ⟨rfl, rfl⟩ dX12_foot_43 rfl ⟨_, rfl, ⟨by omega, by omega⟩, rfl, (by first | exact Or.inl ⟨by omega, by omega⟩ | exact Or.inr ⟨by omega, Or.inr ⟨by omega, fa⟩⟩ | exact Or.inr ⟨by omega, Or.inl ⟨by omega, by omega, by omega⟩⟩)⟩
      · refine j_aload_n (pc := 29) dX12_foot_29 rfl rfl ?_
        refine j_iload_n (pc := 30) dX12_foot_30 rfl rfl ?_
        refine j_callV (pc := 31) (As := [vI h]) (st := []) (c_X12_numberAt hM h ⟨by omega, by omega⟩ σ hI) mv_X12_181 rfl rfl rfl (a_88 hM) dX12_foot_31 ⟨Nat.le_of_ble_eq_true rfl, Nat.le_of_ble_eq_true rfl⟩ ⟨Nat.le_refl _, Nat.le_refl _⟩ rfl (Nat.le_of_ble_eq_true rfl) rfl (fun z16 σ17 hz16 => ?_)
        obtain ⟨r19, rfl, hr19, rfl, q18_0⟩ := hz16
        replace q18_0 : (0 < σ 89 h.toNat ∧ r19 = cnt (gM 0 σ) h.toNat - 1) ∨ (σ 89 h.toNat ≤ 0 ∧ r19 = -4) := q18_0
        refine j_st (st' := [vI r19]) rfl ?_
        have fa := q18_0
        refine j_goto (pc := 34) (tgt := 43) dX12_foot_34 rfl ?_
        exact j_iret (pc := 43) ⟨rfl, rfl⟩ dX12_foot_43 rfl ⟨_, rfl, ⟨by omega, by omega⟩, rfl, (by first | exact Or.inl ⟨by omega, by omega⟩ | exact Or.inr ⟨by omega, Or.inr ⟨by omega, fa⟩⟩ | exact Or.inr ⟨by omega, Or.inl ⟨by omega, by omega, by omega⟩⟩)⟩
    · refine j_iconst (pc := 20) dX12_foot_20 ?_
      refine j_goto (pc := 21) (tgt := 43) dX12_foot_21 rfl ?_
      exact j_iret (pc := 43) ⟨rfl, rfl⟩ dX12_foot_43 rfl ⟨_, rfl, ⟨by omega, by omega⟩, rfl, (by first | exact Or.inl ⟨by omega, by omega⟩ | exact Or.inr ⟨by omega, Or.inr ⟨by omega, fa⟩⟩ | exact Or.inr ⟨by omega, Or.inl ⟨by omega, by omega, by omega⟩⟩)⟩
abbrev q_X12_chanceAt (h : Int) (σ : tw_M) : Option tw_V → tw_M → Prop := fun z τ => ∃ r : Int, z = some (vI r) ∧ (-2147483648 ≤ r ∧ r ≤ 2147483647) ∧ σ = τ ∧ True
set_option maxHeartbeats 4000000 in
set_option maxRecDepth 100000 in
theorem c_X12_chanceAt {G : tw_G} (hM : tw_isM G) (h : Int) (hh : 1 ≤ h ∧ h ≤ 40) (σ : tw_M) (hI : tw_I σ) : tw_C G yX12_chanceAt cX12_chanceAt 2 (some .int) 1 [vR 88, vI h] σ (q_X12_chanceAt h σ) := by
  refine tw_met [(0, vR 88), (1, vI h)] (by decide +kernel) rfl (Nat.le_of_ble_eq_true rfl) ?_
  refine j_aload_n (pc := 0) dX12_chanceAt_0 rfl rfl ?_
  refine j_getR (pc := 1) (r := 89) fl_X12_7 dX12_chanceAt_1 (a_88 hM) rfl ?_
  refine j_iload_n (pc := 4) dX12_chanceAt_4 rfl rfl ?_
  refine j_iald (pc := 5) dX12_chanceAt_5 (a_89 hM) (by omega) (by omega) (by decide) ?_
  have f1 : (-2147483648 : Int) ≤ σ 89 (h.toNat) ∧ σ 89 (h.toNat) ≤ 2147483647 := st_D hI _
  refine j_aload_n (pc := 6) dX12_chanceAt_6 rfl rfl ?_
  refine j_iload_n (pc := 7) dX12_chanceAt_7 rfl rfl ?_
  refine j_iconst (pc := 8) dX12_chanceAt_8 ?_
  refine j_callV (pc := 9) (As := [vI h, vI 1]) (st := [vI (σ 89 (h.toNat))]) (c_X12_of hM h ⟨by omega, by omega⟩ 1 (by (first | decide | exact ⟨by omega, by omega⟩)) σ hI) mv_X12_184 rfl rfl rfl (a_88 hM) dX12_chanceAt_9 ⟨Nat.le_of_ble_eq_true rfl, Nat.le_of_ble_eq_true rfl⟩ ⟨Nat.le_refl _, Nat.le_refl _⟩ rfl (Nat.le_of_ble_eq_true rfl) rfl (fun z2 σ3 hz2 => ?_)
  obtain ⟨r5, rfl, hr5, rfl, q4_0⟩ := hz2
  replace q4_0 : r5 = σ 92 (5 * h + (1 : Int)).toNat := q4_0
  refine j_st (st' := [vI r5, vI (σ 89 (h.toNat))]) rfl ?_
  refine j_icmpR_ne (pc := 12) (tgt := 24) ⟨by omega, by omega⟩ ⟨by omega, by omega⟩ dX12_chanceAt_12 rfl (fun h6 => ?_) (fun h6 => ?_)
  · refine j_aload_n (pc := 24) dX12_chanceAt_24 rfl rfl ?_
    refine j_getR (pc := 25) (r := 91) fl_X12_17 dX12_chanceAt_25 (a_88 hM) rfl ?_
    refine j_bipush (pc := 28) dX12_chanceAt_28 rfl ?_
    refine j_iald (pc := 30) dX12_chanceAt_30 (a_91 hM) (by omega) (by omega) (by decide) ?_
    refine j_topV (show σ 91 (Int.toNat 6) = σ 91 6 from rfl) ?_
    have f7 : (-2147483648 : Int) ≤ σ 91 6 ∧ σ 91 6 ≤ 2147483647 := hI 91 6
    exact j_iret (pc := 31) ⟨rfl, rfl⟩ dX12_chanceAt_31 rfl ⟨_, rfl, ⟨by omega, by omega⟩, rfl, trivial⟩
  · refine j_aload_n (pc := 15) dX12_chanceAt_15 rfl rfl ?_
    refine j_getR (pc := 16) (r := 91) fl_X12_17 dX12_chanceAt_16 (a_88 hM) rfl ?_
    refine j_iconst (pc := 19) dX12_chanceAt_19 ?_
    refine j_iald (pc := 20) dX12_chanceAt_20 (a_91 hM) (by omega) (by omega) (by decide) ?_
    refine j_topV (show σ 91 (Int.toNat 5) = σ 91 5 from rfl) ?_
    have f8 : (-2147483648 : Int) ≤ σ 91 5 ∧ σ 91 5 ≤ 2147483647 := hI 91 5
    refine j_goto (pc := 21) (tgt := 31) dX12_chanceAt_21 rfl ?_
    exact j_iret (pc := 31) ⟨rfl, rfl⟩ dX12_chanceAt_31 rfl ⟨_, rfl, ⟨by omega, by omega⟩, rfl, trivial⟩
abbrev q_X12_sideOf (k : Int) (σ : tw_M) : Option tw_V → tw_M → Prop := fun z τ => ∃ r : Int, z = some (vI r) ∧ (0 ≤ r ∧ r ≤ 10) ∧ σ = τ ∧ (r = SD (wM σ) (gM 0 σ) (cnt (gM 0 σ) (σ 91 0).toNat) k)
set_option maxHeartbeats 4000000 in
set_option maxRecDepth 100000 in
theorem c_X12_sideOf {G : tw_G} (hM : tw_isM G) (k : Int) (hk : -2 ≤ k ∧ k ≤ 41) (σ : tw_M) (hI : tw_I σ) : tw_C G yX12_sideOf cX12_sideOf 2 (some .int) 3 [vR 88, vI k] σ (q_X12_sideOf k σ) := by
  refine tw_met [(0, vR 88), (1, vI k)] (by decide +kernel) rfl (Nat.le_of_ble_eq_true rfl) ?_
  have a9 := True.intro
  have of := True.intro
  have fk := True.intro
  have ft : (1 : Int) ≤ σ 91 0 ∧ σ 91 0 ≤ 40 := hI 91 0
  have r0 : wM σ 100 = σ 91 0 := wM_r (j := 0) (by decide)
  refine j_iload_n (pc := 0) dX12_sideOf_0 rfl rfl ?_
  refine j_ifR_ge (pc := 1) (tgt := 8) ⟨by omega, by omega⟩ dX12_sideOf_1 rfl (fun h1 => ?_) (fun h1 => ?_)
  · refine j_iload_n (pc := 8) dX12_sideOf_8 rfl rfl ?_
    refine j_aload_n (pc := 9) dX12_sideOf_9 rfl rfl ?_
    refine j_iconst (pc := 10) dX12_sideOf_10 ?_
    refine j_callV (pc := 11) (As := [vI 0]) (st := [vI k]) (c_X12_all hM 0 (by (first | decide | exact ⟨by omega, by omega⟩)) σ hI) mv_X12_192 rfl rfl rfl (a_88 hM) dX12_sideOf_11 ⟨Nat.le_of_ble_eq_true rfl, Nat.le_of_ble_eq_true rfl⟩ ⟨Nat.le_refl _, Nat.le_refl _⟩ rfl (Nat.le_of_ble_eq_true rfl) rfl (fun z2 σ3 hz2 => ?_)
    obtain ⟨r5, rfl, hr5, rfl, q4_0⟩ := hz2
    replace q4_0 : r5 = mc σ (0 : Int) (σ 91 0).toNat := q4_0
    refine j_st (st' := [vI r5, vI k]) rfl ?_
    have a9 := q4_0; rw [mc_gM (by omega)] at a9
    refine j_icmpR_lt (pc := 14) (tgt := 31) ⟨by omega, by omega⟩ ⟨by omega, by omega⟩ dX12_sideOf_14 rfl (fun h6 => ?_) (fun h6 => ?_)
    · refine j_aload_n (pc := 31) dX12_sideOf_31 rfl rfl ?_
      refine j_aload_n (pc := 32) dX12_sideOf_32 rfl rfl ?_
      refine j_iconst (pc := 33) dX12_sideOf_33 ?_
      refine j_iload_n (pc := 34) dX12_sideOf_34 rfl rfl ?_
      refine j_callV (pc := 35) (As := [vI 0, vI k]) (st := [vR 88]) (c_X12_footOf hM 0 (by (first | decide | exact ⟨by omega, by omega⟩)) k ⟨by omega, by omega⟩ σ hI (by omega)) mv_X12_198 rfl rfl rfl (a_88 hM) dX12_sideOf_35 ⟨Nat.le_of_ble_eq_true rfl, Nat.le_of_ble_eq_true rfl⟩ ⟨Nat.le_refl _, Nat.le_refl _⟩ rfl (Nat.le_of_ble_eq_true rfl) rfl (fun z7 σ8 hz7 => ?_)
      obtain ⟨r10, rfl, hr10, rfl, q9_0, q9_1, q9_2, q9_3⟩ := hz7
      replace q9_0 : r10 ≤ σ 91 0 := q9_0
      replace q9_1 : 0 < σ 89 ((0 : Int) + r10).toNat := q9_1
      replace q9_2 : mc σ (0 : Int) r10.toNat = k + 1 := q9_2
      replace q9_3 : (0 : Int) = 0 → r10 = fok (gM 0 σ) k 40 := q9_3
      refine j_st (st' := [vI r10, vR 88]) rfl ?_
      have fk := q9_3 rfl
      refine j_iconst (pc := 38) dX12_sideOf_38 ?_
      refine j_callV (pc := 39) (As := [vI r10, vI 4]) (st := []) (c_X12_of hM r10 ⟨by omega, by omega⟩ 4 (by (first | decide | exact ⟨by omega, by omega⟩)) σ hI) mv_X12_184 rfl rfl rfl (a_88 hM) dX12_sideOf_39 ⟨Nat.le_of_ble_eq_true rfl, Nat.le_of_ble_eq_true rfl⟩ ⟨Nat.le_refl _, Nat.le_refl _⟩ rfl (Nat.le_of_ble_eq_true rfl) rfl (fun z11 σ12 hz11 => ?_)
      obtain ⟨r14, rfl, hr14, rfl, q13_0⟩ := hz11
      replace q13_0 : r14 = σ 92 (5 * r10 + (4 : Int)).toNat := q13_0
      refine j_st (st' := [vI r14]) rfl ?_
      have of := q13_0
      exact j_iret (pc := 42) ⟨rfl, rfl⟩ dX12_sideOf_42 rfl ⟨_, rfl, ⟨by omega, by omega⟩, rfl, (by
                                                              first
                                                              | exact (SD_neg (by omega)).symm
                                                              | (rw [SD_mid (by omega) (by omega), ← fk, wM_4 ⟨by omega, by omega⟩]; exact of)
                                                              | (rw [SD_top (by omega) (by omega), r0, wM_4 ⟨by omega, by omega⟩]; exact of))⟩
    · refine j_aload_n (pc := 17) dX12_sideOf_17 rfl rfl ?_
      refine j_aload_n (pc := 18) dX12_sideOf_18 rfl rfl ?_
      refine j_getR (pc := 19) (r := 91) fl_X12_17 dX12_sideOf_19 (a_88 hM) rfl ?_
      refine j_iconst (pc := 22) dX12_sideOf_22 ?_
      refine j_iald (pc := 23) dX12_sideOf_23 (a_91 hM) (by omega) (by omega) (by decide) ?_
      refine j_topV (show σ 91 (Int.toNat 0) = σ 91 0 from rfl) ?_
      have f15 : (1 : Int) ≤ σ 91 0 ∧ σ 91 0 ≤ 40 := hI 91 0
      refine j_iconst (pc := 24) dX12_sideOf_24 ?_
      refine j_callV (pc := 25) (As := [vI (σ 91 0), vI 4]) (st := []) (c_X12_of hM (σ 91 0) ⟨by omega, by omega⟩ 4 (by (first | decide | exact ⟨by omega, by omega⟩)) σ hI) mv_X12_184 rfl rfl rfl (a_88 hM) dX12_sideOf_25 ⟨Nat.le_of_ble_eq_true rfl, Nat.le_of_ble_eq_true rfl⟩ ⟨Nat.le_refl _, Nat.le_refl _⟩ rfl (Nat.le_of_ble_eq_true rfl) rfl (fun z16 σ17 hz16 => ?_)
      obtain ⟨r19, rfl, hr19, rfl, q18_0⟩ := hz16
      replace q18_0 : r19 = σ 92 (5 * (σ 91 0) + (4 : Int)).toNat := q18_0
      refine j_st (st' := [vI r19]) rfl ?_
      have of := q18_0
      refine j_goto (pc := 28) (tgt := 42) dX12_sideOf_28 rfl ?_
      exact j_iret (pc := 42) ⟨rfl, rfl⟩ dX12_sideOf_42 rfl ⟨_, rfl, ⟨by omega, by omega⟩, rfl, (by
                                                              first
                                                              | exact (SD_neg (by omega)).symm
                                                              | (rw [SD_mid (by omega) (by omega), ← fk, wM_4 ⟨by omega, by omega⟩]; exact of)
                                                              | (rw [SD_top (by omega) (by omega), r0, wM_4 ⟨by omega, by omega⟩]; exact of))⟩
  · refine j_iconst (pc := 4) dX12_sideOf_4 ?_
    refine j_goto (pc := 5) (tgt := 42) dX12_sideOf_5 rfl ?_
    exact j_iret (pc := 42) ⟨rfl, rfl⟩ dX12_sideOf_42 rfl ⟨_, rfl, ⟨by omega, by omega⟩, rfl, (by
                                                              first
                                                              | exact (SD_neg (by omega)).symm
                                                              | (rw [SD_mid (by omega) (by omega), ← fk, wM_4 ⟨by omega, by omega⟩]; exact of)
                                                              | (rw [SD_top (by omega) (by omega), r0, wM_4 ⟨by omega, by omega⟩]; exact of))⟩
abbrev q_X12_offOf (k : Int) (s : Int) (σ : tw_M) : Option tw_V → tw_M → Prop := fun z τ => ∃ r : Int, z = some (vI r) ∧ (0 ≤ r ∧ r ≤ 40) ∧ σ = τ ∧ ((s = 1 ∧ r = tw_div (OFS (wM σ) (gM 0 σ) (cnt (gM 0 σ) (σ 91 0).toNat) k) 2) ∨ (¬ s = 1 ∧ r = OFS (wM σ) (gM 0 σ) (cnt (gM 0 σ) (σ 91 0).toNat) k))
set_option maxHeartbeats 4000000 in
set_option maxRecDepth 100000 in
theorem c_X12_offOf {G : tw_G} (hM : tw_isM G) (k : Int) (hk : -1 ≤ k ∧ k ≤ 40) (s : Int) (hs : 0 ≤ s ∧ s ≤ 1) (σ : tw_M) (hI : tw_I σ) : tw_C G yX12_offOf cX12_offOf 4 (some .int) 4 [vR 88, vI k, vI s] σ (q_X12_offOf k s σ) := by
  refine tw_met [(0, vR 88), (1, vI k), (2, vI s)] (by decide +kernel) rfl (Nat.le_of_ble_eq_true rfl) ?_
  have o9 := True.intro
  have dv := True.intro
  refine j_iconst (pc := 0) dX12_offOf_0 ?_
  refine j_aload_n (pc := 1) dX12_offOf_1 rfl rfl ?_
  refine j_iload_n (pc := 2) dX12_offOf_2 rfl rfl ?_
  refine j_callV (pc := 3) (As := [vI k]) (st := [vI 2]) (c_X12_sideOf hM k ⟨by omega, by omega⟩ σ hI) mv_X12_201 rfl rfl rfl (a_88 hM) dX12_offOf_3 ⟨Nat.le_of_ble_eq_true rfl, Nat.le_of_ble_eq_true rfl⟩ ⟨Nat.le_refl _, Nat.le_refl _⟩ rfl (Nat.le_of_ble_eq_true rfl) rfl (fun z1 σ2 hz1 => ?_)
  obtain ⟨r4, rfl, hr4, rfl, q3_0⟩ := hz1
  replace q3_0 : r4 = SD (wM σ) (gM 0 σ) (cnt (gM 0 σ) (σ 91 0).toNat) k := q3_0
  refine j_st (st' := [vI r4, vI 2]) rfl ?_
  refine j_imul (pc := 6) dX12_offOf_6 ?_
  refine j_aload_n (pc := 7) dX12_offOf_7 rfl rfl ?_
  refine j_iload_n (pc := 8) dX12_offOf_8 rfl rfl ?_
  refine j_iconst (pc := 9) dX12_offOf_9 ?_
  refine j_isub (pc := 10) dX12_offOf_10 ?_
  refine j_callV (pc := 11) (As := [vI (k - 1)]) (st := [vI (2 * r4)]) (c_X12_sideOf hM (k - 1) ⟨by omega, by omega⟩ σ hI) mv_X12_201 rfl rfl rfl (a_88 hM) dX12_offOf_11 ⟨Nat.le_of_ble_eq_true rfl, Nat.le_of_ble_eq_true rfl⟩ ⟨Nat.le_refl _, Nat.le_refl _⟩ rfl (Nat.le_of_ble_eq_true rfl) rfl (fun z5 σ6 hz5 => ?_)
  obtain ⟨r8, rfl, hr8, rfl, q7_0⟩ := hz5
  replace q7_0 : r8 = SD (wM σ) (gM 0 σ) (cnt (gM 0 σ) (σ 91 0).toNat) (k - 1) := q7_0
  refine j_st (st' := [vI r8, vI (2 * r4)]) rfl ?_
  refine j_isub (pc := 14) dX12_offOf_14 ?_
  refine j_aload_n (pc := 15) dX12_offOf_15 rfl rfl ?_
  refine j_iload_n (pc := 16) dX12_offOf_16 rfl rfl ?_
  refine j_iconst (pc := 17) dX12_offOf_17 ?_
  refine j_iadd (pc := 18) dX12_offOf_18 ?_
  refine j_callV (pc := 19) (As := [vI (k + 1)]) (st := [vI ((2 * r4) - r8)]) (c_X12_sideOf hM (k + 1) ⟨by omega, by omega⟩ σ hI) mv_X12_201 rfl rfl rfl (a_88 hM) dX12_offOf_19 ⟨Nat.le_of_ble_eq_true rfl, Nat.le_of_ble_eq_true rfl⟩ ⟨Nat.le_refl _, Nat.le_refl _⟩ rfl (Nat.le_of_ble_eq_true rfl) rfl (fun z9 σ10 hz9 => ?_)
  obtain ⟨r12, rfl, hr12, rfl, q11_0⟩ := hz9
  replace q11_0 : r12 = SD (wM σ) (gM 0 σ) (cnt (gM 0 σ) (σ 91 0).toNat) (k + 1) := q11_0
  refine j_st (st' := [vI r12, vI ((2 * r4) - r8)]) rfl ?_
  refine j_isub (pc := 22) dX12_offOf_22 ?_
  refine j_callS (pc := 23) (As := [vI (((2 * r4) - r8) - r12)]) (st := []) (c_X12_size (((2 * r4) - r8) - r12) ⟨by omega, by omega⟩ σ hI) ms_X12_189 rfl dX12_offOf_23 ⟨Nat.le_of_ble_eq_true rfl, Nat.le_of_ble_eq_true rfl⟩ ⟨Nat.le_refl _, Nat.le_refl _⟩ rfl (Nat.le_of_ble_eq_true rfl) rfl (fun z13 σ14 hz13 => ?_)
  obtain ⟨r16, rfl, hr16, rfl, q15_0⟩ := hz13
  replace q15_0 : (0 ≤ (((2 * r4) - r8) - r12) ∧ r16 = (((2 * r4) - r8) - r12)) ∨ ((((2 * r4) - r8) - r12) < 0 ∧ r16 = -(((2 * r4) - r8) - r12)) := q15_0
  refine j_st (st' := [vI r16]) rfl ?_
  have o9 : r16 = OFS (wM σ) (gM 0 σ) (cnt (gM 0 σ) (σ 91 0).toNat) k := OFS_of q3_0 q7_0 q11_0 (by omega)
  refine j_istore_n (pc := 26) (i := 3) (ls' := [(2, vI s), (3, vI r16)]) [3, 0] dX12_offOf_26 rfl (Nat.le_of_ble_eq_true rfl) rfl rfl ?_
  refine j_iload_n (pc := 27) dX12_offOf_27 rfl rfl ?_
  refine j_ifR_eq (pc := 28) (tgt := 37) ⟨by omega, by omega⟩ dX12_offOf_28 rfl (fun h17 => ?_) (fun h17 => ?_)
  · refine j_iload_n (pc := 37) dX12_offOf_37 rfl rfl ?_
    exact j_iret (pc := 38) ⟨rfl, rfl⟩ dX12_offOf_38 rfl ⟨_, rfl, ⟨by omega, by omega⟩, rfl, (by first | exact Or.inl ⟨by omega, by rw [← o9]; exact dv⟩ | exact Or.inr ⟨by omega, o9⟩)⟩
  · refine j_iload_n (pc := 31) dX12_offOf_31 rfl rfl ?_
    refine j_iconst (pc := 32) dX12_offOf_32 ?_
    refine j_idiv (pc := 33) dX12_offOf_33 (tw_nz ⟨by omega, by omega⟩ (by omega)) (fun z18 ez18 => ?_)
    have hz18 : (-2147483648 : Int) ≤ z18 ∧ z18 ≤ 2147483647 := by rw [ez18]; exact div_in _ _
    have gz18 : z18 = r16 / 2 := by rw [ez18]; exact div_pos_eq (by omega) (by omega) (by omega) (by omega)
    have dv := ez18
    refine j_goto (pc := 34) (tgt := 38) dX12_offOf_34 rfl ?_
    exact j_iret (pc := 38) ⟨rfl, rfl⟩ dX12_offOf_38 rfl ⟨_, rfl, ⟨by omega, by omega⟩, rfl, (by first | exact Or.inl ⟨by omega, by rw [← o9]; exact dv⟩ | exact Or.inr ⟨by omega, o9⟩)⟩
abbrev q_X12_hasSling (k : Int) (σ : tw_M) : Option tw_V → tw_M → Prop := fun z τ => ∃ r : Int, z = some (vI r) ∧ (0 ≤ r ∧ r ≤ 1) ∧ σ = τ ∧ ((r = 1 ∧ qM 0 σ (fok (gM 0 σ) k 40).toNat = 1) ∨ (r = 0 ∧ ¬ qM 0 σ (fok (gM 0 σ) k 40).toNat = 1))
set_option maxHeartbeats 4000000 in
set_option maxRecDepth 100000 in
theorem c_X12_hasSling {G : tw_G} (hM : tw_isM G) (k : Int) (hk : 0 ≤ k ∧ k ≤ 40) (σ : tw_M) (hI : tw_I σ) (hq0 : k < mc σ 0 (σ 91 0).toNat) : tw_C G yX12_hasSling cX12_hasSling 2 (some .boolean) 2 [vR 88, vI k] σ (q_X12_hasSling k σ) := by
  refine tw_met [(0, vR 88), (1, vI k)] (by decide +kernel) rfl (Nat.le_of_ble_eq_true rfl) ?_
  have fk := True.intro
  have ft : (1 : Int) ≤ σ 91 0 ∧ σ 91 0 ≤ 40 := hI 91 0
  refine j_aload_n (pc := 0) dX12_hasSling_0 rfl rfl ?_
  refine j_getR (pc := 1) (r := 89) fl_X12_7 dX12_hasSling_1 (a_88 hM) rfl ?_
  refine j_bipush (pc := 4) dX12_hasSling_4 rfl ?_
  refine j_aload_n (pc := 6) dX12_hasSling_6 rfl rfl ?_
  refine j_iconst (pc := 7) dX12_hasSling_7 ?_
  refine j_iload_n (pc := 8) dX12_hasSling_8 rfl rfl ?_
  refine j_callV (pc := 9) (As := [vI 0, vI k]) (st := [vI 41, vR 89]) (c_X12_footOf hM 0 (by (first | decide | exact ⟨by omega, by omega⟩)) k ⟨by omega, by omega⟩ σ hI (by omega)) mv_X12_198 rfl rfl rfl (a_88 hM) dX12_hasSling_9 ⟨Nat.le_of_ble_eq_true rfl, Nat.le_of_ble_eq_true rfl⟩ ⟨Nat.le_refl _, Nat.le_refl _⟩ rfl (Nat.le_of_ble_eq_true rfl) rfl (fun z1 σ2 hz1 => ?_)
  obtain ⟨r4, rfl, hr4, rfl, q3_0, q3_1, q3_2, q3_3⟩ := hz1
  replace q3_0 : r4 ≤ σ 91 0 := q3_0
  replace q3_1 : 0 < σ 89 ((0 : Int) + r4).toNat := q3_1
  replace q3_2 : mc σ (0 : Int) r4.toNat = k + 1 := q3_2
  replace q3_3 : (0 : Int) = 0 → r4 = fok (gM 0 σ) k 40 := q3_3
  refine j_st (st' := [vI r4, vI 41, vR 89]) rfl ?_
  have fk := q3_3 rfl
  refine j_iadd (pc := 12) dX12_hasSling_12 ?_
  refine j_iald (pc := 13) dX12_hasSling_13 (a_89 hM) (by omega) (by omega) (by decide) ?_
  have f5 : (-2147483648 : Int) ≤ σ 89 ((41 + r4).toNat) ∧ σ 89 ((41 + r4).toNat) ≤ 2147483647 := st_D hI _
  refine j_iconst (pc := 14) dX12_hasSling_14 ?_
  refine j_icmpR_ne (pc := 15) (tgt := 22) ⟨by omega, by omega⟩ ⟨by omega, by omega⟩ dX12_hasSling_15 rfl (fun h6 => ?_) (fun h6 => ?_)
  · refine j_iconst (pc := 22) dX12_hasSling_22 ?_
    exact j_zret (pc := 23) ⟨rfl, rfl⟩ dX12_hasSling_23 rfl (nar_bool (by omega) (by omega)) ⟨_, rfl, ⟨by omega, by omega⟩, rfl, (by
                                                              have b9 := fok_in (g := gM 0 σ) (k := k) 40
                                                              rw [qM_at (b := 0) (f := fok (gM 0 σ) k 40) ⟨by omega, by omega⟩, ← fk]
                                                              rw [show ∀ z : Int, (0 + 41 + z).toNat = (41 + z).toNat from fun z => by omega]
                                                              first
                                                              | exact Or.inl ⟨rfl, by omega⟩
                                                              | exact Or.inr ⟨rfl, by omega⟩)⟩
  · refine j_iconst (pc := 18) dX12_hasSling_18 ?_
    refine j_goto (pc := 19) (tgt := 23) dX12_hasSling_19 rfl ?_
    exact j_zret (pc := 23) ⟨rfl, rfl⟩ dX12_hasSling_23 rfl (nar_bool (by omega) (by omega)) ⟨_, rfl, ⟨by omega, by omega⟩, rfl, (by
                                                              have b9 := fok_in (g := gM 0 σ) (k := k) 40
                                                              rw [qM_at (b := 0) (f := fok (gM 0 σ) k 40) ⟨by omega, by omega⟩, ← fk]
                                                              rw [show ∀ z : Int, (0 + 41 + z).toNat = (41 + z).toNat from fun z => by omega]
                                                              first
                                                              | exact Or.inl ⟨rfl, by omega⟩
                                                              | exact Or.inr ⟨rfl, by omega⟩)⟩
abbrev q_X12_isLifted (k : Int) (σ : tw_M) : Option tw_V → tw_M → Prop := fun z τ => ∃ r : Int, z = some (vI r) ∧ (0 ≤ r ∧ r ≤ 1) ∧ σ = τ ∧ (r = LFI (wM σ) (gM 0 σ) (qM 0 σ) (cnt (gM 0 σ) (σ 91 0).toNat) k)
set_option maxHeartbeats 4000000 in
set_option maxRecDepth 100000 in
theorem c_X12_isLifted {G : tw_G} (hM : tw_isM G) (k : Int) (hk : 0 ≤ k ∧ k ≤ 40) (σ : tw_M) (hI : tw_I σ) (hq0 : k < mc σ 0 (σ 91 0).toNat) : tw_C G yX12_isLifted cX12_isLifted 5 (some .boolean) 4 [vR 88, vI k] σ (q_X12_isLifted k σ) := by
  refine tw_met [(0, vR 88), (1, vI k)] (by decide +kernel) rfl (Nat.le_of_ble_eq_true rfl) ?_
  have sa := True.intro
  have sb := True.intro
  have sc := True.intro
  have hs := True.intro
  refine j_aload_n (pc := 0) dX12_isLifted_0 rfl rfl ?_
  refine j_iload_n (pc := 1) dX12_isLifted_1 rfl rfl ?_
  refine j_callV (pc := 2) (As := [vI k]) (st := []) (c_X12_sideOf hM k ⟨by omega, by omega⟩ σ hI) mv_X12_201 rfl rfl rfl (a_88 hM) dX12_isLifted_2 ⟨Nat.le_of_ble_eq_true rfl, Nat.le_of_ble_eq_true rfl⟩ ⟨Nat.le_refl _, Nat.le_refl _⟩ rfl (Nat.le_of_ble_eq_true rfl) rfl (fun z1 σ2 hz1 => ?_)
  obtain ⟨r4, rfl, hr4, rfl, q3_0⟩ := hz1
  replace q3_0 : r4 = SD (wM σ) (gM 0 σ) (cnt (gM 0 σ) (σ 91 0).toNat) k := q3_0
  refine j_st (st' := [vI r4]) rfl ?_
  have sa := q3_0
  refine j_istore_n (pc := 5) (i := 2) (ls' := [(0, vR 88), (1, vI k), (2, vI r4)]) [1, 2, 0] dX12_isLifted_5 rfl (Nat.le_of_ble_eq_true rfl) rfl rfl ?_
  refine j_aload_n (pc := 6) dX12_isLifted_6 rfl rfl ?_
  refine j_iload_n (pc := 7) dX12_isLifted_7 rfl rfl ?_
  refine j_iconst (pc := 8) dX12_isLifted_8 ?_
  refine j_isub (pc := 9) dX12_isLifted_9 ?_
  refine j_callV (pc := 10) (As := [vI (k - 1)]) (st := []) (c_X12_sideOf hM (k - 1) ⟨by omega, by omega⟩ σ hI) mv_X12_201 rfl rfl rfl (a_88 hM) dX12_isLifted_10 ⟨Nat.le_of_ble_eq_true rfl, Nat.le_of_ble_eq_true rfl⟩ ⟨Nat.le_refl _, Nat.le_refl _⟩ rfl (Nat.le_of_ble_eq_true rfl) rfl (fun z5 σ6 hz5 => ?_)
  obtain ⟨r8, rfl, hr8, rfl, q7_0⟩ := hz5
  replace q7_0 : r8 = SD (wM σ) (gM 0 σ) (cnt (gM 0 σ) (σ 91 0).toNat) (k - 1) := q7_0
  refine j_st (st' := [vI r8]) rfl ?_
  have sb := q7_0
  refine j_iload_n (pc := 13) dX12_isLifted_13 rfl rfl ?_
  refine j_isub (pc := 14) dX12_isLifted_14 ?_
  refine j_istore_n (pc := 15) (i := 3) (ls' := [(0, vR 88), (1, vI k), (2, vI r4), (3, vI (r8 - r4))]) [1, 2, 3, 0] dX12_isLifted_15 rfl (Nat.le_of_ble_eq_true rfl) rfl rfl ?_
  refine j_aload_n (pc := 16) dX12_isLifted_16 rfl rfl ?_
  refine j_iload_n (pc := 17) dX12_isLifted_17 rfl rfl ?_
  refine j_iconst (pc := 18) dX12_isLifted_18 ?_
  refine j_iadd (pc := 19) dX12_isLifted_19 ?_
  refine j_callV (pc := 20) (As := [vI (k + 1)]) (st := []) (c_X12_sideOf hM (k + 1) ⟨by omega, by omega⟩ σ hI) mv_X12_201 rfl rfl rfl (a_88 hM) dX12_isLifted_20 ⟨Nat.le_of_ble_eq_true rfl, Nat.le_of_ble_eq_true rfl⟩ ⟨Nat.le_refl _, Nat.le_refl _⟩ rfl (Nat.le_of_ble_eq_true rfl) rfl (fun z9 σ10 hz9 => ?_)
  obtain ⟨r12, rfl, hr12, rfl, q11_0⟩ := hz9
  replace q11_0 : r12 = SD (wM σ) (gM 0 σ) (cnt (gM 0 σ) (σ 91 0).toNat) (k + 1) := q11_0
  refine j_st (st' := [vI r12]) rfl ?_
  have sc := q11_0
  refine j_iload_n (pc := 23) dX12_isLifted_23 rfl rfl ?_
  refine j_isub (pc := 24) dX12_isLifted_24 ?_
  refine j_istore (pc := 25) (i := 4) (ls' := [(0, vR 88), (1, vI k), (3, vI (r8 - r4)), (4, vI (r12 - r4))]) [1, 2, 4, 0] dX12_isLifted_25 (Nat.le_of_ble_eq_true rfl) rfl rfl ?_
  refine j_aload_n (pc := 27) dX12_isLifted_27 rfl rfl ?_
  refine j_iload_n (pc := 28) dX12_isLifted_28 rfl rfl ?_
  refine j_callV (pc := 29) (As := [vI k]) (st := []) (c_X12_hasSling hM k ⟨by omega, by omega⟩ σ hI (by omega)) mv_X12_204 rfl rfl rfl (a_88 hM) dX12_isLifted_29 ⟨Nat.le_of_ble_eq_true rfl, Nat.le_of_ble_eq_true rfl⟩ ⟨Nat.le_refl _, Nat.le_refl _⟩ rfl (Nat.le_of_ble_eq_true rfl) rfl (fun z13 σ14 hz13 => ?_)
  obtain ⟨r16, rfl, hr16, rfl, q15_0⟩ := hz13
  replace q15_0 : (r16 = 1 ∧ qM 0 σ (fok (gM 0 σ) k 40).toNat = 1) ∨ (r16 = 0 ∧ ¬ qM 0 σ (fok (gM 0 σ) k 40).toNat = 1) := q15_0
  refine j_st (st' := [vI r16]) rfl ?_
  have hs := q15_0
  refine j_ifR_ne (pc := 32) (tgt := 63) ⟨by omega, by omega⟩ dX12_isLifted_32 rfl (fun h17 => ?_) (fun h17 => ?_)
  · refine j_iconst (pc := 63) dX12_isLifted_63 ?_
    exact j_zret (pc := 64) ⟨rfl, rfl⟩ dX12_isLifted_64 rfl (nar_bool (by omega) (by omega)) ⟨_, rfl, ⟨by omega, by omega⟩, rfl, (by rcases hs with ⟨h1, h2⟩ | ⟨h1, h2⟩; (exact LFI_of sa sb sc rfl (by omega)); (exact LFI_of sa sb sc rfl (by omega)))⟩
  · refine j_iload_n (pc := 35) dX12_isLifted_35 rfl rfl ?_
    refine j_iconst (pc := 36) dX12_isLifted_36 ?_
    refine j_icmpR_lt (pc := 37) (tgt := 46) ⟨by omega, by omega⟩ ⟨by omega, by omega⟩ dX12_isLifted_37 rfl (fun h18 => ?_) (fun h18 => ?_)
    · refine j_iload_n (pc := 46) dX12_isLifted_46 rfl rfl ?_
      refine j_bipush (pc := 47) dX12_isLifted_47 rfl ?_
      refine j_icmpR_gt (pc := 49) (tgt := 63) ⟨by omega, by omega⟩ ⟨by omega, by omega⟩ dX12_isLifted_49 rfl (fun h19 => ?_) (fun h19 => ?_)
      · refine j_iconst (pc := 63) dX12_isLifted_63 ?_
        exact j_zret (pc := 64) ⟨rfl, rfl⟩ dX12_isLifted_64 rfl (nar_bool (by omega) (by omega)) ⟨_, rfl, ⟨by omega, by omega⟩, rfl, (by rcases hs with ⟨h1, h2⟩ | ⟨h1, h2⟩; (exact LFI_of sa sb sc rfl (by omega)); (exact LFI_of sa sb sc rfl (by omega)))⟩
      · refine j_iload (pc := 52) dX12_isLifted_52 rfl ?_
        refine j_bipush (pc := 54) dX12_isLifted_54 rfl ?_
        refine j_icmpR_gt (pc := 56) (tgt := 63) ⟨by omega, by omega⟩ ⟨by omega, by omega⟩ dX12_isLifted_56 rfl (fun h20 => ?_) (fun h20 => ?_)
        · refine j_iconst (pc := 63) dX12_isLifted_63 ?_
          exact j_zret (pc := 64) ⟨rfl, rfl⟩ dX12_isLifted_64 rfl (nar_bool (by omega) (by omega)) ⟨_, rfl, ⟨by omega, by omega⟩, rfl, (by rcases hs with ⟨h1, h2⟩ | ⟨h1, h2⟩; (exact LFI_of sa sb sc rfl (by omega)); (exact LFI_of sa sb sc rfl (by omega)))⟩
        · refine j_iconst (pc := 59) dX12_isLifted_59 ?_
          refine j_goto (pc := 60) (tgt := 64) dX12_isLifted_60 rfl ?_
          exact j_zret (pc := 64) ⟨rfl, rfl⟩ dX12_isLifted_64 rfl (nar_bool (by omega) (by omega)) ⟨_, rfl, ⟨by omega, by omega⟩, rfl, (by rcases hs with ⟨h1, h2⟩ | ⟨h1, h2⟩; (exact LFI_of sa sb sc rfl (by omega)); (exact LFI_of sa sb sc rfl (by omega)))⟩
    · refine j_iload (pc := 40) dX12_isLifted_40 rfl ?_
      refine j_iconst (pc := 42) dX12_isLifted_42 ?_
      refine j_icmpR_ge (pc := 43) (tgt := 59) ⟨by omega, by omega⟩ ⟨by omega, by omega⟩ dX12_isLifted_43 rfl (fun h21 => ?_) (fun h21 => ?_)
      · refine j_iconst (pc := 59) dX12_isLifted_59 ?_
        refine j_goto (pc := 60) (tgt := 64) dX12_isLifted_60 rfl ?_
        exact j_zret (pc := 64) ⟨rfl, rfl⟩ dX12_isLifted_64 rfl (nar_bool (by omega) (by omega)) ⟨_, rfl, ⟨by omega, by omega⟩, rfl, (by rcases hs with ⟨h1, h2⟩ | ⟨h1, h2⟩; (exact LFI_of sa sb sc rfl (by omega)); (exact LFI_of sa sb sc rfl (by omega)))⟩
      · refine j_iload_n (pc := 46) dX12_isLifted_46 rfl rfl ?_
        refine j_bipush (pc := 47) dX12_isLifted_47 rfl ?_
        refine j_icmpR_gt (pc := 49) (tgt := 63) ⟨by omega, by omega⟩ ⟨by omega, by omega⟩ dX12_isLifted_49 rfl (fun h22 => ?_) (fun h22 => by exfalso; omega)
        refine j_iconst (pc := 63) dX12_isLifted_63 ?_
        exact j_zret (pc := 64) ⟨rfl, rfl⟩ dX12_isLifted_64 rfl (nar_bool (by omega) (by omega)) ⟨_, rfl, ⟨by omega, by omega⟩, rfl, (by rcases hs with ⟨h1, h2⟩ | ⟨h1, h2⟩; (exact LFI_of sa sb sc rfl (by omega)); (exact LFI_of sa sb sc rfl (by omega)))⟩
abbrev q_X12_piece (k : Int) (w : Int) (σ : tw_M) : Option tw_V → tw_M → Prop := fun z τ => ∃ r : Int, z = some (vI r) ∧ (-2147483648 ≤ r ∧ r ≤ 2147483647) ∧ σ = τ ∧ True
set_option maxHeartbeats 4000000 in
set_option maxRecDepth 100000 in
theorem c_X12_piece {G : tw_G} (hM : tw_isM G) (k : Int) (hk : -2147483648 ≤ k ∧ k ≤ 2147483647) (w : Int) (hw : -2147483648 ≤ w ∧ w ≤ 2147483647) (σ : tw_M) (hI : tw_I σ) : tw_C G yX12_piece cX12_piece 4 (some .int) 5 [vR 88, vI k, vI w] σ (q_X12_piece k w σ) := by
  refine tw_met [(0, vR 88), (1, vI k), (2, vI w)] (by decide +kernel) rfl (Nat.le_of_ble_eq_true rfl) ?_
  refine j_iload_n (pc := 0) dX12_piece_0 rfl rfl ?_
  refine j_i2l (pc := 1) dX12_piece_1 ?_
  rw [w32_eq (a := k) (by omega) (by omega)]
  refine j_lconst (pc := 2) (z := 0) dX12_piece_2 rfl ?_
  refine j_aload_n (pc := 3) dX12_piece_3 rfl rfl ?_
  refine j_iconst (pc := 4) dX12_piece_4 ?_
  refine j_callV (pc := 5) (As := [vI 0]) (st := [vL 0, vL k]) (c_X12_all hM 0 (by (first | decide | exact ⟨by omega, by omega⟩)) σ hI) mv_X12_192 rfl rfl rfl (a_88 hM) dX12_piece_5 ⟨Nat.le_of_ble_eq_true rfl, Nat.le_of_ble_eq_true rfl⟩ ⟨Nat.le_refl _, Nat.le_refl _⟩ rfl (Nat.le_of_ble_eq_true rfl) rfl (fun z1 σ2 hz1 => ?_)
  obtain ⟨r4, rfl, hr4, rfl, q3_0⟩ := hz1
  replace q3_0 : r4 = mc σ (0 : Int) (σ 91 0).toNat := q3_0
  refine j_st (st' := [vI r4, vL 0, vL k]) rfl ?_
  refine j_iconst (pc := 8) dX12_piece_8 ?_
  refine j_isub (pc := 9) dX12_piece_9 ?_
  refine j_i2l (pc := 10) dX12_piece_10 ?_
  rw [w32_eq (a := r4 - 1) (by omega) (by omega)]
  refine j_callS (pc := 11) (As := [vL k, vL 0, vL (r4 - 1)]) (st := []) (c_X12_in k ⟨by omega, by omega⟩ 0 (by (first | decide | exact ⟨by omega, by omega⟩)) (r4 - 1) ⟨by omega, by omega⟩ σ hI) ms_X12_82 rfl dX12_piece_11 ⟨Nat.le_of_ble_eq_true rfl, Nat.le_of_ble_eq_true rfl⟩ ⟨Nat.le_refl _, Nat.le_refl _⟩ rfl (Nat.le_of_ble_eq_true rfl) rfl (fun z5 σ6 hz5 => ?_)
  obtain ⟨r8, rfl, hr8, rfl, q7_0⟩ := hz5
  replace q7_0 : (r8 = 1 ∧ (0 : Int) ≤ k ∧ k ≤ (r4 - 1)) ∨ (r8 = 0 ∧ ¬ ((0 : Int) ≤ k ∧ k ≤ (r4 - 1))) := q7_0
  refine j_st (st' := [vI r8]) rfl ?_
  refine j_ifR_ne (pc := 14) (tgt := 19) ⟨by omega, by omega⟩ dX12_piece_14 rfl (fun h9 => ?_) (fun h9 => ?_)
  · refine j_aload_n (pc := 19) dX12_piece_19 rfl rfl ?_
    refine j_iconst (pc := 20) dX12_piece_20 ?_
    refine j_iload_n (pc := 21) dX12_piece_21 rfl rfl ?_
    refine j_callV (pc := 22) (As := [vI 0, vI k]) (st := []) (c_X12_footOf hM 0 (by (first | decide | exact ⟨by omega, by omega⟩)) k ⟨by omega, by omega⟩ σ hI (by omega)) mv_X12_198 rfl rfl rfl (a_88 hM) dX12_piece_22 ⟨Nat.le_of_ble_eq_true rfl, Nat.le_of_ble_eq_true rfl⟩ ⟨Nat.le_refl _, Nat.le_refl _⟩ rfl (Nat.le_of_ble_eq_true rfl) rfl (fun z10 σ11 hz10 => ?_)
    obtain ⟨r13, rfl, hr13, rfl, q12_0, q12_1, q12_2, q12_3⟩ := hz10
    replace q12_0 : r13 ≤ σ 91 0 := q12_0
    replace q12_1 : 0 < σ 89 ((0 : Int) + r13).toNat := q12_1
    replace q12_2 : mc σ (0 : Int) r13.toNat = k + 1 := q12_2
    replace q12_3 : (0 : Int) = 0 → r13 = fok (gM 0 σ) k 40 := q12_3
    refine j_st (st' := [vI r13]) rfl ?_
    refine j_istore_n (pc := 25) (i := 3) (ls' := [(0, vR 88), (1, vI k), (2, vI w), (3, vI r13)]) [1, 2, 3, 0] dX12_piece_25 rfl (Nat.le_of_ble_eq_true rfl) rfl rfl ?_
    refine j_iload_n (pc := 26) dX12_piece_26 rfl rfl ?_
    rcases (show w < 0 ∨ w = 0 ∨ w = 1 ∨ w = 2 ∨ w = 3 ∨ w = 4 ∨ w = 5 ∨ w = 6 ∨ 6 < w from by omega) with h14 | h14 | h14 | h14 | h14 | h14 | h14 | h14 | h14
    · refine j_tsOut (pc := 27) (tgt := 128) dX12_piece_27 ⟨by omega, by omega⟩ (Or.inl h14) rfl ?_
      refine j_iconst (pc := 128) dX12_piece_128 ?_
      exact j_iret (pc := 129) ⟨rfl, rfl⟩ dX12_piece_129 rfl ⟨_, rfl, ⟨by omega, by omega⟩, rfl, trivial⟩
    · refine j_tsIn (pc := 27) (tgt := 68) 0 dX12_piece_27 h14 (by decide) ⟨by decide, by decide⟩ rfl rfl ?_
      refine j_iload_n (pc := 68) dX12_piece_68 rfl rfl ?_
      exact j_iret (pc := 69) ⟨rfl, rfl⟩ dX12_piece_69 rfl ⟨_, rfl, ⟨by omega, by omega⟩, rfl, trivial⟩
    · refine j_tsIn (pc := 27) (tgt := 70) 1 dX12_piece_27 h14 (by decide) ⟨by decide, by decide⟩ rfl rfl ?_
      refine j_aload_n (pc := 70) dX12_piece_70 rfl rfl ?_
      refine j_getR (pc := 71) (r := 89) fl_X12_7 dX12_piece_71 (a_88 hM) rfl ?_
      refine j_iload_n (pc := 74) dX12_piece_74 rfl rfl ?_
      refine j_iald (pc := 75) dX12_piece_75 (a_89 hM) (by omega) (by omega) (by decide) ?_
      have f15 : (-2147483648 : Int) ≤ σ 89 (r13.toNat) ∧ σ 89 (r13.toNat) ≤ 2147483647 := st_D hI _
      exact j_iret (pc := 76) ⟨rfl, rfl⟩ dX12_piece_76 rfl ⟨_, rfl, ⟨by omega, by omega⟩, rfl, trivial⟩
    · refine j_tsIn (pc := 27) (tgt := 77) 2 dX12_piece_27 h14 (by decide) ⟨by decide, by decide⟩ rfl rfl ?_
      refine j_aload_n (pc := 77) dX12_piece_77 rfl rfl ?_
      refine j_iload_n (pc := 78) dX12_piece_78 rfl rfl ?_
      refine j_callV (pc := 79) (As := [vI r13]) (st := []) (c_X12_chanceAt hM r13 ⟨by omega, by omega⟩ σ hI) mv_X12_207 rfl rfl rfl (a_88 hM) dX12_piece_79 ⟨Nat.le_of_ble_eq_true rfl, Nat.le_of_ble_eq_true rfl⟩ ⟨Nat.le_refl _, Nat.le_refl _⟩ rfl (Nat.le_of_ble_eq_true rfl) rfl (fun z16 σ17 hz16 => ?_)
      obtain ⟨r19, rfl, hr19, rfl, -⟩ := hz16
      refine j_st (st' := [vI r19]) rfl ?_
      exact j_iret (pc := 82) ⟨rfl, rfl⟩ dX12_piece_82 rfl ⟨_, rfl, ⟨by omega, by omega⟩, rfl, trivial⟩
    · refine j_tsIn (pc := 27) (tgt := 83) 3 dX12_piece_27 h14 (by decide) ⟨by decide, by decide⟩ rfl rfl ?_
      refine j_aload_n (pc := 83) dX12_piece_83 rfl rfl ?_
      refine j_getR (pc := 84) (r := 89) fl_X12_7 dX12_piece_84 (a_88 hM) rfl ?_
      refine j_iload_n (pc := 87) dX12_piece_87 rfl rfl ?_
      refine j_iald (pc := 88) dX12_piece_88 (a_89 hM) (by omega) (by omega) (by decide) ?_
      have f20 : (-2147483648 : Int) ≤ σ 89 (r13.toNat) ∧ σ 89 (r13.toNat) ≤ 2147483647 := st_D hI _
      refine j_aload_n (pc := 89) dX12_piece_89 rfl rfl ?_
      refine j_getR (pc := 90) (r := 91) fl_X12_17 dX12_piece_90 (a_88 hM) rfl ?_
      refine j_bipush (pc := 93) dX12_piece_93 rfl ?_
      refine j_iald (pc := 95) dX12_piece_95 (a_91 hM) (by omega) (by omega) (by decide) ?_
      refine j_topV (show σ 91 (Int.toNat 7) = σ 91 7 from rfl) ?_
      have f21 : (0 : Int) ≤ σ 91 7 ∧ σ 91 7 ≤ 60 := hI 91 7
      refine j_iadd (pc := 96) dX12_piece_96 ?_
      refine j_top (fun z22 ez22 hz22 => ?_)
      exact j_iret (pc := 97) ⟨rfl, rfl⟩ dX12_piece_97 rfl ⟨_, rfl, ⟨by omega, by omega⟩, rfl, trivial⟩
    · refine j_tsIn (pc := 27) (tgt := 98) 4 dX12_piece_27 h14 (by decide) ⟨by decide, by decide⟩ rfl rfl ?_
      refine j_aload_n (pc := 98) dX12_piece_98 rfl rfl ?_
      refine j_getR (pc := 99) (r := 89) fl_X12_7 dX12_piece_99 (a_88 hM) rfl ?_
      refine j_bipush (pc := 102) dX12_piece_102 rfl ?_
      refine j_iload_n (pc := 104) dX12_piece_104 rfl rfl ?_
      refine j_iadd (pc := 105) dX12_piece_105 ?_
      refine j_iald (pc := 106) dX12_piece_106 (a_89 hM) (by omega) (by omega) (by decide) ?_
      have f23 : (-2147483648 : Int) ≤ σ 89 ((41 + r13).toNat) ∧ σ 89 ((41 + r13).toNat) ≤ 2147483647 := st_D hI _
      exact j_iret (pc := 107) ⟨rfl, rfl⟩ dX12_piece_107 rfl ⟨_, rfl, ⟨by omega, by omega⟩, rfl, trivial⟩
    · refine j_tsIn (pc := 27) (tgt := 108) 5 dX12_piece_27 h14 (by decide) ⟨by decide, by decide⟩ rfl rfl ?_
      refine j_aload_n (pc := 108) dX12_piece_108 rfl rfl ?_
      refine j_iload_n (pc := 109) dX12_piece_109 rfl rfl ?_
      refine j_callV (pc := 110) (As := [vI k]) (st := []) (c_X12_isLifted hM k ⟨by omega, by omega⟩ σ hI (by omega)) mv_X12_210 rfl rfl rfl (a_88 hM) dX12_piece_110 ⟨Nat.le_of_ble_eq_true rfl, Nat.le_of_ble_eq_true rfl⟩ ⟨Nat.le_refl _, Nat.le_refl _⟩ rfl (Nat.le_of_ble_eq_true rfl) rfl (fun z24 σ25 hz24 => ?_)
      obtain ⟨r27, rfl, hr27, rfl, q26_0⟩ := hz24
      replace q26_0 : r27 = LFI (wM σ) (gM 0 σ) (qM 0 σ) (cnt (gM 0 σ) (σ 91 0).toNat) k := q26_0
      refine j_st (st' := [vI r27]) rfl ?_
      refine j_callS (pc := 113) (As := [vI r27]) (st := []) (c_X12_flag r27 ⟨by omega, by omega⟩ σ hI) ms_X12_168 rfl dX12_piece_113 ⟨Nat.le_of_ble_eq_true rfl, Nat.le_of_ble_eq_true rfl⟩ ⟨Nat.le_refl _, Nat.le_refl _⟩ rfl (Nat.le_of_ble_eq_true rfl) rfl (fun z28 σ29 hz28 => ?_)
      obtain ⟨r31, rfl, hr31, rfl, q30_0⟩ := hz28
      replace q30_0 : r31 = r27 := q30_0
      refine j_st (st' := [vI r31]) rfl ?_
      exact j_iret (pc := 116) ⟨rfl, rfl⟩ dX12_piece_116 rfl ⟨_, rfl, ⟨by omega, by omega⟩, rfl, trivial⟩
    · refine j_tsIn (pc := 27) (tgt := 117) 6 dX12_piece_27 h14 (by decide) ⟨by decide, by decide⟩ rfl rfl ?_
      refine j_aload_n (pc := 117) dX12_piece_117 rfl rfl ?_
      refine j_iload_n (pc := 118) dX12_piece_118 rfl rfl ?_
      refine j_aload_n (pc := 119) dX12_piece_119 rfl rfl ?_
      refine j_iload_n (pc := 120) dX12_piece_120 rfl rfl ?_
      refine j_callV (pc := 121) (As := [vI k]) (st := [vI k, vR 88]) (c_X12_hasSling hM k ⟨by omega, by omega⟩ σ hI (by omega)) mv_X12_204 rfl rfl rfl (a_88 hM) dX12_piece_121 ⟨Nat.le_of_ble_eq_true rfl, Nat.le_of_ble_eq_true rfl⟩ ⟨Nat.le_refl _, Nat.le_refl _⟩ rfl (Nat.le_of_ble_eq_true rfl) rfl (fun z32 σ33 hz32 => ?_)
      obtain ⟨r35, rfl, hr35, rfl, q34_0⟩ := hz32
      replace q34_0 : (r35 = 1 ∧ qM 0 σ (fok (gM 0 σ) k 40).toNat = 1) ∨ (r35 = 0 ∧ ¬ qM 0 σ (fok (gM 0 σ) k 40).toNat = 1) := q34_0
      refine j_st (st' := [vI r35, vI k, vR 88]) rfl ?_
      refine j_callV (pc := 124) (As := [vI k, vI r35]) (st := []) (c_X12_offOf hM k ⟨by omega, by omega⟩ r35 ⟨by omega, by omega⟩ σ hI) mv_X12_213 rfl rfl rfl (a_88 hM) dX12_piece_124 ⟨Nat.le_of_ble_eq_true rfl, Nat.le_of_ble_eq_true rfl⟩ ⟨Nat.le_refl _, Nat.le_refl _⟩ rfl (Nat.le_of_ble_eq_true rfl) rfl (fun z36 σ37 hz36 => ?_)
      obtain ⟨r39, rfl, hr39, rfl, q38_0⟩ := hz36
      replace q38_0 : (r35 = 1 ∧ r39 = tw_div (OFS (wM σ) (gM 0 σ) (cnt (gM 0 σ) (σ 91 0).toNat) k) 2) ∨ (¬ r35 = 1 ∧ r39 = OFS (wM σ) (gM 0 σ) (cnt (gM 0 σ) (σ 91 0).toNat) k) := q38_0
      refine j_st (st' := [vI r39]) rfl ?_
      exact j_iret (pc := 127) ⟨rfl, rfl⟩ dX12_piece_127 rfl ⟨_, rfl, ⟨by omega, by omega⟩, rfl, trivial⟩
    · refine j_tsOut (pc := 27) (tgt := 128) dX12_piece_27 ⟨by omega, by omega⟩ (Or.inr h14) rfl ?_
      refine j_iconst (pc := 128) dX12_piece_128 ?_
      exact j_iret (pc := 129) ⟨rfl, rfl⟩ dX12_piece_129 rfl ⟨_, rfl, ⟨by omega, by omega⟩, rfl, trivial⟩
  · refine j_iconst (pc := 17) dX12_piece_17 ?_
    exact j_iret (pc := 18) ⟨rfl, rfl⟩ dX12_piece_18 rfl ⟨_, rfl, ⟨by omega, by omega⟩, rfl, trivial⟩
abbrev q_X12_dropOf (h : Int) (f : Int) (σ : tw_M) : Option tw_V → tw_M → Prop := fun z τ => ∃ r : Int, z = some (vI r) ∧ (-2147483648 ≤ r ∧ r ≤ 2147483647) ∧ σ = τ ∧ (r = mD σ h f)
set_option maxHeartbeats 4000000 in
set_option maxRecDepth 100000 in
theorem c_X12_dropOf {G : tw_G} (hM : tw_isM G) (h : Int) (hh : 0 ≤ h ∧ h ≤ 41) (f : Int) (hf : 0 ≤ f ∧ f ≤ 41) (σ : tw_M) (hI : tw_I σ) : tw_C G yX12_dropOf cX12_dropOf 3 (some .int) 0 [vR 88, vI h, vI f] σ (q_X12_dropOf h f σ) := by
  refine tw_met [(0, vR 88), (1, vI h), (2, vI f)] (by decide +kernel) rfl (Nat.le_of_ble_eq_true rfl) ?_
  refine j_iconst (pc := 0) dX12_dropOf_0 ?_
  refine j_iload_n (pc := 1) dX12_dropOf_1 rfl rfl ?_
  refine j_iload_n (pc := 2) dX12_dropOf_2 rfl rfl ?_
  refine j_isub (pc := 3) dX12_dropOf_3 ?_
  refine j_imul (pc := 4) dX12_dropOf_4 ?_
  refine j_aload_n (pc := 5) dX12_dropOf_5 rfl rfl ?_
  refine j_getR (pc := 6) (r := 91) fl_X12_17 dX12_dropOf_6 (a_88 hM) rfl ?_
  refine j_iconst (pc := 9) dX12_dropOf_9 ?_
  refine j_iald (pc := 10) dX12_dropOf_10 (a_91 hM) (by omega) (by omega) (by decide) ?_
  refine j_topV (show σ 91 (Int.toNat 4) = σ 91 4 from rfl) ?_
  have f1 : (0 : Int) ≤ σ 91 4 ∧ σ 91 4 ≤ 50 := hI 91 4
  refine j_iload_n (pc := 11) dX12_dropOf_11 rfl rfl ?_
  refine j_imul (pc := 12) dX12_dropOf_12 ?_
  refine j_top (fun z2 ez2 hz2 => ?_)
  refine j_bipush (pc := 13) dX12_dropOf_13 rfl ?_
  refine j_idiv (pc := 15) dX12_dropOf_15 (tw_nz ⟨by omega, by omega⟩ (by omega)) (fun z3 ez3 => ?_)
  have hz3 : (-2147483648 : Int) ≤ z3 ∧ z3 ≤ 2147483647 := by rw [ez3]; exact div_in _ _
  refine j_iadd (pc := 16) dX12_dropOf_16 ?_
  refine j_top (fun z4 ez4 hz4 => ?_)
  exact j_iret (pc := 17) ⟨rfl, rfl⟩ dX12_dropOf_17 rfl ⟨_, rfl, ⟨by omega, by omega⟩, rfl, by unfold mD; rw [ez4, ez3, ez2]⟩
abbrev q_X12_findStruck (h : Int) (σ : tw_M) : Option tw_V → tw_M → Prop := fun z τ => z = none ∧ tw_I τ ∧ tw_F (fun c j => (c = 88 ∧ (j = 23))) σ τ ∧ (SI σ (σ 88 19) (τ 88 23) h) ∧ (τ 88 23 = strS (wM σ) h (σ 88 19))
set_option maxHeartbeats 4000000 in
set_option maxRecDepth 100000 in
theorem l_X12_findStruck {G : tw_G} (hM : tw_isM G) (h : Int) (hh : 1 ≤ h ∧ h ≤ 40) (σ : tw_M) (hI : tw_I σ) : ∀ N_ : Nat, (∀ (f : Int) (hf : 1 ≤ f ∧ f ≤ 40) (τ : tw_M) (hIτ : tw_I τ) (hFτ : tw_F (fun c j => (c = 88 ∧ (j = 23))) σ τ) (i0 : SI σ (σ 88 19) (τ 88 23) f) (i1 : f ≤ h) (i2 : τ 88 23 = (if σ 88 19 ≤ hiL (mLg σ) f.toNat then hiL (mLg σ) f.toNat else -4)) (hm : (41 - f).toNat < N_), tw_J G (tw_mt RX12 cX12_findStruck 3 none 1) (tw_E G (q_X12_findStruck h σ)) 19 [(0, vR 88), (1, vI h), (2, vI f)] [] τ) := by
  intro N_
  induction N_ with
  | zero => exact fun f hf τ hIτ hFτ i0 i1 i2 hm => absurd hm (Nat.not_lt_zero _)
  | succ N_ ih =>
    intro f hf τ hIτ hFτ i0 i1 i2 hm
    have t9 := hFτ 88 19 (show ¬ ((88 = 88 ∧ (19 = 23))) from by decide)
    have t8 := hFτ 92 (5 * f + 2).toNat (show ¬ ((92 = 88 ∧ ((5 * f + 2).toNat = 23))) from fun h => absurd h.1 (by decide))
    have l9 : mLg σ f.toNat = σ 92 (5 * f + 2).toNat := mL_at (by omega)
    have b9 := mw_01 (j := (5 * f + 2).toNat) hI (by omega)
    refine j_iload_n (pc := 19) dX12_findStruck_19 rfl rfl ?_
    refine j_iload_n (pc := 20) dX12_findStruck_20 rfl rfl ?_
    refine j_icmpR_ge (pc := 21) (tgt := 60) ⟨by omega, by omega⟩ ⟨by omega, by omega⟩ dX12_findStruck_21 rfl (fun h1 => ?_) (fun h1 => ?_)
    · exact j_vret (pc := 60) ⟨rfl, rfl⟩ dX12_findStruck_60 rfl ⟨rfl, hIτ, hFτ, (by have e : f = h := (by omega); rw [e] at i0; exact i0), (by (have e : f = h := by omega); rw [e] at i2; unfold strS; rw [wM_b ⟨by omega, by omega⟩]; exact i2)⟩
    · refine j_aload_n (pc := 24) dX12_findStruck_24 rfl rfl ?_
      refine j_iload_n (pc := 25) dX12_findStruck_25 rfl rfl ?_
      refine j_aload_n (pc := 26) dX12_findStruck_26 rfl rfl ?_
      refine j_getI (pc := 27) fl_X12_220 dX12_findStruck_27 (a_88 hM) rfl ?_
      have f2 : (-2147483648 : Int) ≤ τ 88 19 ∧ τ 88 19 ≤ 2147483647 := hIτ 88 19
      refine j_icmpR_lt (pc := 30) (tgt := 47) ⟨by omega, by omega⟩ ⟨by omega, by omega⟩ dX12_findStruck_30 rfl (fun h3 => ?_) (fun h3 => ?_)
      · refine j_aload_n (pc := 47) dX12_findStruck_47 rfl rfl ?_
        refine j_getI (pc := 48) fl_X12_223 dX12_findStruck_48 (a_88 hM) rfl ?_
        have f4 : (-2147483648 : Int) ≤ τ 88 23 ∧ τ 88 23 ≤ 2147483647 := hIτ 88 23
        refine j_putI (pc := 51) fl_X12_223 fp_X12_23 dX12_findStruck_51 (a_88 hM) rfl (j_nm (fun σ5 (eσ5 : σ5 = tw_up τ 88 23 (τ 88 23)) => ?_))
        have hIσ5 : tw_I σ5 := tw_I_up hIτ eσ5 (show (-2147483648 : Int) ≤ τ 88 23 ∧ τ 88 23 ≤ 2147483647 from ⟨by omega, by omega⟩)
        have hFσ5 : tw_F (fun c j => (c = 88 ∧ (j = 23))) σ σ5 := tw_F_up hFτ eσ5 (show (88 = 88 ∧ (23 = 23)) from ⟨rfl, rfl⟩)
        refine j_iinc (pc := 54) (i := 2) (n := 1) (ls' := [(0, vR 88), (1, vI h), (2, vI (f + 1))]) [1, 2, 0] dX12_findStruck_54 rfl (Nat.le_of_ble_eq_true rfl) rfl rfl ?_
        refine j_goto (pc := 57) (tgt := 19) dX12_findStruck_57 rfl ?_
        refine j_ls (ls' := [(0, vR 88), (1, vI h), (2, vI (f + 1))]) [0, 1, 2] rfl ?_
        have y6 : σ5 88 23 = τ 88 23 := (tw_eq1 eσ5)
        have y7 : σ5 88 23 = τ 88 23 := (tw_eq1 eσ5)
        exact ih (f + 1) ⟨by omega, by omega⟩ σ5 hIσ5 hFσ5 (show SI σ (σ 88 19) (σ5 88 23) (f + 1) from (by first | exact SI_keep i0 (by omega) (by omega) (by assumption) | exact SI_keep i0 (by omega) (by omega) (by rfl) | exact SI_hit (by omega) (by omega) (by omega) (by assumption))) (show (f + 1) ≤ h from by omega) (show σ5 88 23 = (if σ 88 19 ≤ hiL (mLg σ) (f + 1).toNat then hiL (mLg σ) (f + 1).toNat else -4) from (ST_s i2 (by omega) ⟨by omega, by omega⟩ (by omega))) (show (41 - (f + 1)).toNat < N_ from by omega)
      · refine j_aload_n (pc := 33) dX12_findStruck_33 rfl rfl ?_
        refine j_iload_n (pc := 34) dX12_findStruck_34 rfl rfl ?_
        refine j_iconst (pc := 35) dX12_findStruck_35 ?_
        refine j_callV (pc := 36) (As := [vI f, vI 2]) (st := [vR 88]) (c_X12_of hM f ⟨by omega, by omega⟩ 2 (by (first | decide | exact ⟨by omega, by omega⟩)) τ hIτ) mv_X12_184 rfl rfl rfl (a_88 hM) dX12_findStruck_36 ⟨Nat.le_of_ble_eq_true rfl, Nat.le_of_ble_eq_true rfl⟩ ⟨Nat.le_refl _, Nat.le_refl _⟩ rfl (Nat.le_of_ble_eq_true rfl) rfl (fun z8 σ9 hz8 => ?_)
        obtain ⟨r11, rfl, hr11, rfl, q10_0⟩ := hz8
        replace q10_0 : r11 = τ 92 (5 * f + (2 : Int)).toNat := q10_0
        refine j_st (st' := [vI r11, vR 88]) rfl ?_
        refine j_iconst (pc := 39) dX12_findStruck_39 ?_
        refine j_icmpR_ne (pc := 40) (tgt := 47) ⟨by omega, by omega⟩ ⟨by omega, by omega⟩ dX12_findStruck_40 rfl (fun h12 => ?_) (fun h12 => ?_)
        · refine j_aload_n (pc := 47) dX12_findStruck_47 rfl rfl ?_
          refine j_getI (pc := 48) fl_X12_223 dX12_findStruck_48 (a_88 hM) rfl ?_
          have f13 : (-2147483648 : Int) ≤ τ 88 23 ∧ τ 88 23 ≤ 2147483647 := hIτ 88 23
          refine j_putI (pc := 51) fl_X12_223 fp_X12_23 dX12_findStruck_51 (a_88 hM) rfl (j_nm (fun σ14 (eσ14 : σ14 = tw_up τ 88 23 (τ 88 23)) => ?_))
          have hIσ14 : tw_I σ14 := tw_I_up hIτ eσ14 (show (-2147483648 : Int) ≤ τ 88 23 ∧ τ 88 23 ≤ 2147483647 from ⟨by omega, by omega⟩)
          have hFσ14 : tw_F (fun c j => (c = 88 ∧ (j = 23))) σ σ14 := tw_F_up hFτ eσ14 (show (88 = 88 ∧ (23 = 23)) from ⟨rfl, rfl⟩)
          refine j_iinc (pc := 54) (i := 2) (n := 1) (ls' := [(0, vR 88), (1, vI h), (2, vI (f + 1))]) [1, 2, 0] dX12_findStruck_54 rfl (Nat.le_of_ble_eq_true rfl) rfl rfl ?_
          refine j_goto (pc := 57) (tgt := 19) dX12_findStruck_57 rfl ?_
          refine j_ls (ls' := [(0, vR 88), (1, vI h), (2, vI (f + 1))]) [0, 1, 2] rfl ?_
          have y15 : σ14 88 23 = τ 88 23 := (tw_eq1 eσ14)
          have y16 : σ14 88 23 = τ 88 23 := (tw_eq1 eσ14)
          exact ih (f + 1) ⟨by omega, by omega⟩ σ14 hIσ14 hFσ14 (show SI σ (σ 88 19) (σ14 88 23) (f + 1) from (by first | exact SI_keep i0 (by omega) (by omega) (by assumption) | exact SI_keep i0 (by omega) (by omega) (by rfl) | exact SI_hit (by omega) (by omega) (by omega) (by assumption))) (show (f + 1) ≤ h from by omega) (show σ14 88 23 = (if σ 88 19 ≤ hiL (mLg σ) (f + 1).toNat then hiL (mLg σ) (f + 1).toNat else -4) from (ST_s i2 (by omega) ⟨by omega, by omega⟩ (by omega))) (show (41 - (f + 1)).toNat < N_ from by omega)
        · refine j_iload_n (pc := 43) dX12_findStruck_43 rfl rfl ?_
          refine j_goto (pc := 44) (tgt := 51) dX12_findStruck_44 rfl ?_
          refine j_putI (pc := 51) fl_X12_223 fp_X12_23 dX12_findStruck_51 (a_88 hM) rfl (j_nm (fun σ17 (eσ17 : σ17 = tw_up τ 88 23 f) => ?_))
          have hIσ17 : tw_I σ17 := tw_I_up hIτ eσ17 (show (-2147483648 : Int) ≤ f ∧ f ≤ 2147483647 from ⟨by omega, by omega⟩)
          have hFσ17 : tw_F (fun c j => (c = 88 ∧ (j = 23))) σ σ17 := tw_F_up hFτ eσ17 (show (88 = 88 ∧ (23 = 23)) from ⟨rfl, rfl⟩)
          refine j_iinc (pc := 54) (i := 2) (n := 1) (ls' := [(0, vR 88), (1, vI h), (2, vI (f + 1))]) [1, 2, 0] dX12_findStruck_54 rfl (Nat.le_of_ble_eq_true rfl) rfl rfl ?_
          refine j_goto (pc := 57) (tgt := 19) dX12_findStruck_57 rfl ?_
          refine j_ls (ls' := [(0, vR 88), (1, vI h), (2, vI (f + 1))]) [0, 1, 2] rfl ?_
          have y18 : σ17 88 23 = f := (tw_eq1 eσ17)
          have y19 : σ17 88 23 = f := (tw_eq1 eσ17)
          exact ih (f + 1) ⟨by omega, by omega⟩ σ17 hIσ17 hFσ17 (show SI σ (σ 88 19) (σ17 88 23) (f + 1) from (by first | exact SI_keep i0 (by omega) (by omega) (by assumption) | exact SI_keep i0 (by omega) (by omega) (by rfl) | exact SI_hit (by omega) (by omega) (by omega) (by assumption))) (show (f + 1) ≤ h from by omega) (show σ17 88 23 = (if σ 88 19 ≤ hiL (mLg σ) (f + 1).toNat then hiL (mLg σ) (f + 1).toNat else -4) from (ST_s i2 (by omega) ⟨by omega, by omega⟩ (by omega))) (show (41 - (f + 1)).toNat < N_ from by omega)
set_option maxHeartbeats 4000000 in
set_option maxRecDepth 100000 in
theorem c_X12_findStruck {G : tw_G} (hM : tw_isM G) (h : Int) (hh : 1 ≤ h ∧ h ≤ 40) (σ : tw_M) (hI : tw_I σ) : tw_C G yX12_findStruck cX12_findStruck 3 none 1 [vR 88, vI h] σ (q_X12_findStruck h σ) := by
  refine tw_met [(0, vR 88), (1, vI h)] (by decide +kernel) rfl (Nat.le_of_ble_eq_true rfl) ?_
  refine j_aload_n (pc := 0) dX12_findStruck_0 rfl rfl ?_
  refine j_aload_n (pc := 1) dX12_findStruck_1 rfl rfl ?_
  refine j_getI (pc := 2) fl_X12_220 dX12_findStruck_2 (a_88 hM) rfl ?_
  have f20 : (-2147483648 : Int) ≤ σ 88 19 ∧ σ 88 19 ≤ 2147483647 := hI 88 19
  refine j_ifR_gt (pc := 5) (tgt := 12) ⟨by omega, by omega⟩ dX12_findStruck_5 rfl (fun h21 => ?_) (fun h21 => ?_)
  · refine j_bipush (pc := 12) dX12_findStruck_12 rfl ?_
    refine j_putI (pc := 14) fl_X12_223 fp_X12_23 dX12_findStruck_14 (a_88 hM) rfl (j_nm (fun σ22 (eσ22 : σ22 = tw_up σ 88 23 (-4)) => ?_))
    have hIσ22 : tw_I σ22 := tw_I_up hI eσ22 (show (-2147483648 : Int) ≤ -4 ∧ -4 ≤ 2147483647 from by decide)
    have hFσ22 : tw_F (fun c j => (c = 88 ∧ (j = 23))) σ σ22 := tw_F_up (tw_F_rf) eσ22 (show (88 = 88 ∧ (23 = 23)) from ⟨rfl, rfl⟩)
    refine j_iconst (pc := 17) dX12_findStruck_17 ?_
    refine j_istore_n (pc := 18) (i := 2) (ls' := [(0, vR 88), (1, vI h), (2, vI 1)]) [1, 2, 0] dX12_findStruck_18 rfl (Nat.le_of_ble_eq_true rfl) rfl rfl ?_
    refine j_ls (ls' := [(0, vR 88), (1, vI h), (2, vI 1)]) [0, 1, 2] rfl ?_
    have y23 : σ22 88 23 = -4 := (tw_eq1 eσ22)
    have y24 : σ22 88 23 = -4 := (tw_eq1 eσ22)
    exact (l_X12_findStruck hM h hh σ hI (((41 - (1 : Int)).toNat) + 1)) 1 (by (first | decide | exact ⟨by omega, by omega⟩)) σ22 hIσ22 hFσ22 (show SI σ (σ 88 19) (σ22 88 23) (1 : Int) from SI_0 (by omega)) (show (1 : Int) ≤ h from by omega) (show σ22 88 23 = (if σ 88 19 ≤ hiL (mLg σ) (1 : Int).toNat then hiL (mLg σ) (1 : Int).toNat else -4) from (ST_0 (by omega))) (Nat.lt_succ_self _)
  · refine j_iconst (pc := 8) dX12_findStruck_8 ?_
    refine j_goto (pc := 9) (tgt := 14) dX12_findStruck_9 rfl ?_
    refine j_putI (pc := 14) fl_X12_223 fp_X12_23 dX12_findStruck_14 (a_88 hM) rfl (j_nm (fun σ25 (eσ25 : σ25 = tw_up σ 88 23 0) => ?_))
    have hIσ25 : tw_I σ25 := tw_I_up hI eσ25 (show (-2147483648 : Int) ≤ 0 ∧ 0 ≤ 2147483647 from by decide)
    have hFσ25 : tw_F (fun c j => (c = 88 ∧ (j = 23))) σ σ25 := tw_F_up (tw_F_rf) eσ25 (show (88 = 88 ∧ (23 = 23)) from ⟨rfl, rfl⟩)
    refine j_iconst (pc := 17) dX12_findStruck_17 ?_
    refine j_istore_n (pc := 18) (i := 2) (ls' := [(0, vR 88), (1, vI h), (2, vI 1)]) [1, 2, 0] dX12_findStruck_18 rfl (Nat.le_of_ble_eq_true rfl) rfl rfl ?_
    refine j_ls (ls' := [(0, vR 88), (1, vI h), (2, vI 1)]) [0, 1, 2] rfl ?_
    have y26 : σ25 88 23 = 0 := (tw_eq1 eσ25)
    have y27 : σ25 88 23 = 0 := (tw_eq1 eσ25)
    exact (l_X12_findStruck hM h hh σ hI (((41 - (1 : Int)).toNat) + 1)) 1 (by (first | decide | exact ⟨by omega, by omega⟩)) σ25 hIσ25 hFσ25 (show SI σ (σ 88 19) (σ25 88 23) (1 : Int) from SI_0 (by omega)) (show (1 : Int) ≤ h from by omega) (show σ25 88 23 = (if σ 88 19 ≤ hiL (mLg σ) (1 : Int).toNat then hiL (mLg σ) (1 : Int).toNat else -4) from (ST_0 (by omega))) (Nat.lt_succ_self _)
abbrev q_X12_falls (b : Int) (h : Int) (g : Int) (σ : tw_M) : Option tw_V → tw_M → Prop := fun z τ => z = none ∧ tw_I τ ∧ tw_F (fun c j => (c = 88 ∧ (j = 19 ∨ j = 20 ∨ j = 21 ∨ j = 22 ∨ j = 23))) σ τ ∧ ((τ 88 19, τ 88 20, τ 88 21, τ 88 22) = fallG (wM σ) (gM b σ) h g h.toNat 0) ∧ (τ 88 23 = strS (wM σ) h (τ 88 19))
set_option maxHeartbeats 4000000 in
set_option maxRecDepth 100000 in
theorem l_X12_falls {G : tw_G} (hM : tw_isM G) (b : Int) (hb : 0 ≤ b ∧ b ≤ 300) (h : Int) (hh : 1 ≤ h ∧ h ≤ 40) (g : Int) (hg : -2147483648 ≤ g ∧ g ≤ 2147483647) (σ : tw_M) (hI : tw_I σ) (hq0 : b % 100 = 0) : ∀ N_ : Nat, (∀ (k : Int) (hk : -41 ≤ k ∧ k ≤ 39) (f : Int) (hf : 0 ≤ f ∧ f ≤ 40) (τ : tw_M) (hIτ : tw_I τ) (hFτ : tw_F (fun c j => (c = 88 ∧ (j = 19 ∨ j = 20 ∨ j = 21 ∨ j = 22 ∨ j = 23))) σ τ) (i0 : f - 41 ≤ k) (i1 : f ≤ h) (i2 : FM (wM σ) (gM b σ) h g f k (τ 88 19) (τ 88 20) (τ 88 21) (τ 88 22)) (hm : f.toNat < N_), tw_J G (tw_mt RX12 cX12_falls 8 none 2) (tw_E G (q_X12_falls b h g σ)) 34 [(0, vR 88), (1, vI b), (2, vI h), (3, vI g), (4, vI k), (5, vI f)] [] τ) := by
  intro N_
  induction N_ with
  | zero => exact fun k hk f hf τ hIτ hFτ i0 i1 i2 hm => absurd hm (Nat.not_lt_zero _)
  | succ N_ ih =>
    intro k hk f hf τ hIτ hFτ i0 i1 i2 hm
    have MT : wM τ = wM σ := wM_F (fun j a b => hFτ 91 j (show ¬ ((91 = 88 ∧ (j = 19 ∨ j = 20 ∨ j = 21 ∨ j = 22 ∨ j = 23))) from fun h => absurd h.1 (by decide))) (fun j => hFτ 92 j (show ¬ ((92 = 88 ∧ (j = 19 ∨ j = 20 ∨ j = 21 ∨ j = 22 ∨ j = 23))) from fun h => absurd h.1 (by decide)))
    have M7 : wM σ 107 = τ 91 7 := (wM_r (j := 7) (by decide)).trans (hFτ 91 7 (show ¬ ((91 = 88 ∧ (7 = 19 ∨ 7 = 20 ∨ 7 = 21 ∨ 7 = 22 ∨ 7 = 23))) from by decide)).symm
    refine j_iload (pc := 34) dX12_falls_34 rfl ?_
    refine j_ifR_le (pc := 36) (tgt := 157) ⟨by omega, by omega⟩ dX12_falls_36 rfl (fun h1 => ?_) (fun h1 => ?_)
    · refine j_aload_n (pc := 157) dX12_falls_157 rfl rfl ?_
      refine j_iload_n (pc := 158) dX12_falls_158 rfl rfl ?_
      refine j_callV (pc := 159) (As := [vI h]) (st := []) (c_X12_findStruck hM h ⟨by omega, by omega⟩ τ hIτ) mv_X12_238 rfl rfl rfl (a_88 hM) dX12_falls_159 ⟨Nat.le_of_ble_eq_true rfl, Nat.le_of_ble_eq_true rfl⟩ ⟨Nat.le_refl _, Nat.le_refl _⟩ rfl (Nat.le_of_ble_eq_true rfl) rfl (fun z2 σ3 hz2 => ?_)
      obtain ⟨rfl, hIσ3, hGσ3, q4_0, q4_1⟩ := hz2
      replace q4_0 : SI τ (τ 88 19) (σ3 88 23) h := q4_0
      replace q4_1 : σ3 88 23 = strS (wM τ) h (τ 88 19) := q4_1
      have hFσ3 : tw_F (fun c j => (c = 88 ∧ (j = 19 ∨ j = 20 ∨ j = 21 ∨ j = 22 ∨ j = 23))) σ σ3 := tw_F_tr hFτ hGσ3 (fun c j q => (show (c = 88 ∧ (j = 19 ∨ j = 20 ∨ j = 21 ∨ j = 22 ∨ j = 23)) from by replace q : (c = 88 ∧ (j = 23)) := q; exact ⟨q.1, (Or.inr (Or.inr (Or.inr (Or.inr q.2))))⟩))
      refine j_st (st' := []) rfl ?_
      have y6 : σ3 88 19 = τ 88 19 := (hGσ3 88 19 (show ¬ ((88 = 88 ∧ (19 = 23))) from by decide))
      have f7 : (-2147483648 : Int) ≤ τ 88 19 ∧ τ 88 19 ≤ 2147483647 := hIτ 88 19
      have y8 : σ3 88 20 = τ 88 20 := (hGσ3 88 20 (show ¬ ((88 = 88 ∧ (20 = 23))) from by decide))
      have f9 : (-2147483648 : Int) ≤ τ 88 20 ∧ τ 88 20 ≤ 2147483647 := hIτ 88 20
      have y10 : σ3 88 21 = τ 88 21 := (hGσ3 88 21 (show ¬ ((88 = 88 ∧ (21 = 23))) from by decide))
      have f11 : (-2147483648 : Int) ≤ τ 88 21 ∧ τ 88 21 ≤ 2147483647 := hIτ 88 21
      have y12 : σ3 88 22 = τ 88 22 := (hGσ3 88 22 (show ¬ ((88 = 88 ∧ (22 = 23))) from by decide))
      have f13 : (-2147483648 : Int) ≤ τ 88 22 ∧ τ 88 22 ≤ 2147483647 := hIτ 88 22
      have y14 : σ3 88 19 = τ 88 19 := (hGσ3 88 19 (show ¬ ((88 = 88 ∧ (19 = 23))) from by decide))
      exact j_vret (pc := 162) ⟨rfl, rfl⟩ dX12_falls_162 rfl ⟨rfl, hIσ3, hFσ3, (by rw [show σ3 88 19 = _ from (hGσ3 88 19 (show ¬ ((88 = 88 ∧ (19 = 23))) from by decide)), show σ3 88 20 = _ from (hGσ3 88 20 (show ¬ ((88 = 88 ∧ (20 = 23))) from by decide)), show σ3 88 21 = _ from (hGσ3 88 21 (show ¬ ((88 = 88 ∧ (21 = 23))) from by decide)), show σ3 88 22 = _ from (hGσ3 88 22 (show ¬ ((88 = 88 ∧ (22 = 23))) from by decide))]; exact FM_end i2 (by omega)), (by rw [show σ3 88 19 = _ from (hGσ3 88 19 (show ¬ ((88 = 88 ∧ (19 = 23))) from by decide)), ← MT]; exact q4_1)⟩
    · refine j_aload_n (pc := 39) dX12_falls_39 rfl rfl ?_
      refine j_getI (pc := 40) fl_X12_226 dX12_falls_40 (a_88 hM) rfl ?_
      have f15 : (-2147483648 : Int) ≤ τ 88 20 ∧ τ 88 20 ≤ 2147483647 := hIτ 88 20
      refine j_bipush (pc := 43) dX12_falls_43 rfl ?_
      refine j_icmpR_ne (pc := 45) (tgt := 157) ⟨by omega, by omega⟩ ⟨by omega, by omega⟩ dX12_falls_45 rfl (fun h16 => ?_) (fun h16 => ?_)
      · refine j_aload_n (pc := 157) dX12_falls_157 rfl rfl ?_
        refine j_iload_n (pc := 158) dX12_falls_158 rfl rfl ?_
        refine j_callV (pc := 159) (As := [vI h]) (st := []) (c_X12_findStruck hM h ⟨by omega, by omega⟩ τ hIτ) mv_X12_238 rfl rfl rfl (a_88 hM) dX12_falls_159 ⟨Nat.le_of_ble_eq_true rfl, Nat.le_of_ble_eq_true rfl⟩ ⟨Nat.le_refl _, Nat.le_refl _⟩ rfl (Nat.le_of_ble_eq_true rfl) rfl (fun z17 σ18 hz17 => ?_)
        obtain ⟨rfl, hIσ18, hGσ18, q19_0, q19_1⟩ := hz17
        replace q19_0 : SI τ (τ 88 19) (σ18 88 23) h := q19_0
        replace q19_1 : σ18 88 23 = strS (wM τ) h (τ 88 19) := q19_1
        have hFσ18 : tw_F (fun c j => (c = 88 ∧ (j = 19 ∨ j = 20 ∨ j = 21 ∨ j = 22 ∨ j = 23))) σ σ18 := tw_F_tr hFτ hGσ18 (fun c j q => (show (c = 88 ∧ (j = 19 ∨ j = 20 ∨ j = 21 ∨ j = 22 ∨ j = 23)) from by replace q : (c = 88 ∧ (j = 23)) := q; exact ⟨q.1, (Or.inr (Or.inr (Or.inr (Or.inr q.2))))⟩))
        refine j_st (st' := []) rfl ?_
        have y21 : σ18 88 19 = τ 88 19 := (hGσ18 88 19 (show ¬ ((88 = 88 ∧ (19 = 23))) from by decide))
        have f22 : (-2147483648 : Int) ≤ τ 88 19 ∧ τ 88 19 ≤ 2147483647 := hIτ 88 19
        have y23 : σ18 88 20 = τ 88 20 := (hGσ18 88 20 (show ¬ ((88 = 88 ∧ (20 = 23))) from by decide))
        have y24 : σ18 88 21 = τ 88 21 := (hGσ18 88 21 (show ¬ ((88 = 88 ∧ (21 = 23))) from by decide))
        have f25 : (-2147483648 : Int) ≤ τ 88 21 ∧ τ 88 21 ≤ 2147483647 := hIτ 88 21
        have y26 : σ18 88 22 = τ 88 22 := (hGσ18 88 22 (show ¬ ((88 = 88 ∧ (22 = 23))) from by decide))
        have f27 : (-2147483648 : Int) ≤ τ 88 22 ∧ τ 88 22 ≤ 2147483647 := hIτ 88 22
        have y28 : σ18 88 19 = τ 88 19 := (hGσ18 88 19 (show ¬ ((88 = 88 ∧ (19 = 23))) from by decide))
        exact j_vret (pc := 162) ⟨rfl, rfl⟩ dX12_falls_162 rfl ⟨rfl, hIσ18, hFσ18, (by rw [show σ18 88 19 = _ from (hGσ18 88 19 (show ¬ ((88 = 88 ∧ (19 = 23))) from by decide)), show σ18 88 20 = _ from (hGσ18 88 20 (show ¬ ((88 = 88 ∧ (20 = 23))) from by decide)), show σ18 88 21 = _ from (hGσ18 88 21 (show ¬ ((88 = 88 ∧ (21 = 23))) from by decide)), show σ18 88 22 = _ from (hGσ18 88 22 (show ¬ ((88 = 88 ∧ (22 = 23))) from by decide))]; exact FM_end i2 (by omega)), (by rw [show σ18 88 19 = _ from (hGσ18 88 19 (show ¬ ((88 = 88 ∧ (19 = 23))) from by decide)), ← MT]; exact q19_1)⟩
      · have g9 : gM b σ f.toNat = τ 89 (b + f).toNat := (gM_at ⟨by omega, by omega⟩).trans (hFτ 89 _ (show ¬ ((89 = 88 ∧ ((b + f).toNat = 19 ∨ (b + f).toNat = 20 ∨ (b + f).toNat = 21 ∨ (b + f).toNat = 22 ∨ (b + f).toNat = 23))) from fun h => absurd h.1 (by decide))).symm
        refine j_aload_n (pc := 48) dX12_falls_48 rfl rfl ?_
        refine j_getR (pc := 49) (r := 89) fl_X12_7 dX12_falls_49 (a_88 hM) rfl ?_
        refine j_iload_n (pc := 52) dX12_falls_52 rfl rfl ?_
        refine j_iload (pc := 53) dX12_falls_53 rfl ?_
        refine j_iadd (pc := 55) dX12_falls_55 ?_
        refine j_iald (pc := 56) dX12_falls_56 (a_89 hM) (by omega) (by omega) (by decide) ?_
        have f29 : (-2147483648 : Int) ≤ τ 89 ((b + f).toNat) ∧ τ 89 ((b + f).toNat) ≤ 2147483647 := st_D hIτ _
        have g30 : (0 : Int) ≤ τ 89 ((b + f).toNat) ∧ τ 89 ((b + f).toNat) ≤ 10 := st_p hIτ (by omega)
        refine j_ifR_le (pc := 57) (tgt := 151) ⟨by omega, by omega⟩ dX12_falls_57 rfl (fun h31 => ?_) (fun h31 => ?_)
        · refine j_iinc (pc := 151) (i := 5) (n := -1) (ls' := [(0, vR 88), (1, vI b), (2, vI h), (3, vI g), (4, vI k), (5, vI (f + (-1)))]) [1, 2, 3, 4, 5, 0] dX12_falls_151 rfl (Nat.le_of_ble_eq_true rfl) rfl rfl ?_
          refine j_goto (pc := 154) (tgt := 34) dX12_falls_154 rfl ?_
          refine j_ls (ls' := [(0, vR 88), (1, vI b), (2, vI h), (3, vI g), (4, vI k), (5, vI (f + (-1)))]) [0, 1, 2, 3, 4, 5] rfl ?_
          exact ih k ⟨by omega, by omega⟩ (f + (-1)) ⟨by omega, by omega⟩ τ hIτ hFτ (show (f + (-1)) - 41 ≤ k from by omega) (show (f + (-1)) ≤ h from by omega) (show FM (wM σ) (gM b σ) h g (f + (-1)) k (τ 88 19) (τ 88 20) (τ 88 21) (τ 88 22) from (by rw [show f + (-1) = f - 1 from by omega]; first | exact FM_n i2 (by omega) (by omega) | (rw [show τ 88 19 = _ from rfl, show τ 88 20 = _ from rfl, show τ 88 21 = _ from rfl, show τ 88 22 = _ from rfl]; first | exact FM_h i2 (by omega) (by omega) (by omega) hd hu (by unfold bt; omega) (by rw [M7]; omega) hs _ _ | (rw [show k + (-1) = k - 1 from by omega]; exact FM_p i2 (by omega) (by omega) (by omega) hd hu (by first | exact Or.inl (by unfold bt; omega) | exact Or.inr (by rw [M7]; omega)) s2)))) (show (f + (-1)).toNat < N_ from by omega)
        · refine j_aload_n (pc := 60) dX12_falls_60 rfl rfl ?_
          refine j_iload_n (pc := 61) dX12_falls_61 rfl rfl ?_
          refine j_iload (pc := 62) dX12_falls_62 rfl ?_
          refine j_callV (pc := 64) (As := [vI h, vI f]) (st := []) (c_X12_dropOf hM h ⟨by omega, by omega⟩ f ⟨by omega, by omega⟩ τ hIτ) mv_X12_235 rfl rfl rfl (a_88 hM) dX12_falls_64 ⟨Nat.le_of_ble_eq_true rfl, Nat.le_of_ble_eq_true rfl⟩ ⟨Nat.le_refl _, Nat.le_refl _⟩ rfl (Nat.le_of_ble_eq_true rfl) rfl (fun z32 σ33 hz32 => ?_)
          obtain ⟨r35, rfl, hr35, rfl, q34_0⟩ := hz32
          replace q34_0 : r35 = mD τ h f := q34_0
          refine j_st (st' := [vI r35]) rfl ?_
          have hd := q34_0; rw [mD_S, MT] at hd
          refine j_istore (pc := 67) (i := 6) (ls' := [(0, vR 88), (1, vI b), (2, vI h), (3, vI g), (4, vI k), (5, vI f), (6, vI r35)]) [1, 2, 3, 4, 5, 6, 0] dX12_falls_67 (Nat.le_of_ble_eq_true rfl) rfl rfl ?_
          refine j_iconst (pc := 69) dX12_falls_69 ?_
          refine j_bipush (pc := 70) dX12_falls_70 rfl ?_
          refine j_iload (pc := 72) dX12_falls_72 rfl ?_
          refine j_imul (pc := 74) dX12_falls_74 ?_
          refine j_top (fun z36 ez36 hz36 => ?_)
          have t1 := ez36
          refine j_iload_n (pc := 75) dX12_falls_75 rfl rfl ?_
          refine j_idiv (pc := 76) dX12_falls_76 (tw_nz ⟨by omega, by omega⟩ (by omega)) (fun z37 ez37 => ?_)
          have hz37 : (-2147483648 : Int) ≤ z37 ∧ z37 ≤ 2147483647 := by rw [ez37]; exact div_in _ _
          have t2 := ez37
          refine j_iadd (pc := 77) dX12_falls_77 ?_
          refine j_top (fun z38 ez38 hz38 => ?_)
          have hu : z38 = pullS h r35 := by unfold pullS; rw [if_neg (by omega), ← t1, ← t2]; exact ez38
          refine j_istore (pc := 78) (i := 7) (ls' := [(0, vR 88), (1, vI b), (2, vI h), (3, vI g), (4, vI k), (5, vI f), (6, vI r35), (7, vI z38)]) [1, 2, 3, 4, 5, 6, 7, 0] dX12_falls_78 (Nat.le_of_ble_eq_true rfl) rfl rfl ?_
          refine j_iload_n (pc := 80) dX12_falls_80 rfl rfl ?_
          refine j_iload (pc := 81) dX12_falls_81 rfl ?_
          refine j_ishr (pc := 83) dX12_falls_83 (fun z39 ez39 => ?_)
          have hz39 : (-2147483648 : Int) ≤ z39 ∧ z39 ≤ 2147483647 := by rw [ez39]; exact shr_in _ _
          have b1 := ez39
          refine j_iconst (pc := 84) dX12_falls_84 ?_
          refine j_iand (pc := 85) dX12_falls_85 (fun z40 ez40 => ?_)
          have hz40 : (-2147483648 : Int) ≤ z40 ∧ z40 ≤ 2147483647 := by rw [ez40]; exact and_in _ _
          have b2 := ez40; rw [b1] at b2
          have b3 : 0 ≤ z40 ∧ z40 ≤ 1 := by rw [b2]; exact and1
          refine j_iconst (pc := 86) dX12_falls_86 ?_
          refine j_icmpR_ne (pc := 87) (tgt := 135) ⟨by omega, by omega⟩ ⟨by omega, by omega⟩ dX12_falls_87 rfl (fun h41 => ?_) (fun h41 => ?_)
          · refine j_aload_n (pc := 135) dX12_falls_135 rfl rfl ?_
            refine j_dup (pc := 136) dX12_falls_136 rfl ?_
            refine j_getI (pc := 137) fl_X12_232 dX12_falls_137 (a_88 hM) rfl ?_
            have f42 : (-2147483648 : Int) ≤ τ 88 22 ∧ τ 88 22 ≤ 2147483647 := hIτ 88 22
            refine j_iconst (pc := 140) dX12_falls_140 ?_
            refine j_iload (pc := 141) dX12_falls_141 rfl ?_
            refine j_ishl (pc := 143) dX12_falls_143 (fun z43 ez43 => ?_)
            have hz43 : (-2147483648 : Int) ≤ z43 ∧ z43 ≤ 2147483647 := by rw [ez43]; exact shl_in _ _
            have s1 := ez43
            refine j_ior (pc := 144) dX12_falls_144 (fun z44 ez44 => ?_)
            have hz44 : (-2147483648 : Int) ≤ z44 ∧ z44 ≤ 2147483647 := by rw [ez44]; exact or_in _ _
            have s2 := ez44; rw [s1] at s2
            refine j_putI (pc := 145) fl_X12_232 fp_X12_22 dX12_falls_145 (a_88 hM) rfl (j_nm (fun σ45 (eσ45 : σ45 = tw_up τ 88 22 z44) => ?_))
            have hIσ45 : tw_I σ45 := tw_I_up hIτ eσ45 (show (-2147483648 : Int) ≤ z44 ∧ z44 ≤ 2147483647 from ⟨by omega, by omega⟩)
            have hFσ45 : tw_F (fun c j => (c = 88 ∧ (j = 19 ∨ j = 20 ∨ j = 21 ∨ j = 22 ∨ j = 23))) σ σ45 := tw_F_up hFτ eσ45 (show (88 = 88 ∧ (22 = 19 ∨ 22 = 20 ∨ 22 = 21 ∨ 22 = 22 ∨ 22 = 23)) from ⟨rfl, (Or.inr (Or.inr (Or.inr (Or.inl rfl))))⟩)
            refine j_iinc (pc := 148) (i := 4) (n := -1) (ls' := [(0, vR 88), (1, vI b), (2, vI h), (3, vI g), (4, vI (k + (-1))), (5, vI f)]) [1, 2, 3, 4, 0, 5] dX12_falls_148 rfl (Nat.le_of_ble_eq_true rfl) rfl rfl ?_
            refine j_iinc (pc := 151) (i := 5) (n := -1) (ls' := [(0, vR 88), (1, vI b), (2, vI h), (3, vI g), (4, vI (k + (-1))), (5, vI (f + (-1)))]) [1, 2, 3, 4, 5, 0] dX12_falls_151 rfl (Nat.le_of_ble_eq_true rfl) rfl rfl ?_
            refine j_goto (pc := 154) (tgt := 34) dX12_falls_154 rfl ?_
            refine j_ls (ls' := [(0, vR 88), (1, vI b), (2, vI h), (3, vI g), (4, vI (k + (-1))), (5, vI (f + (-1)))]) [0, 1, 2, 3, 4, 5] rfl ?_
            have y46 : σ45 88 19 = τ 88 19 := (tw_ne1 eσ45 (by (first | decide | omega)))
            have f47 : (-2147483648 : Int) ≤ τ 88 19 ∧ τ 88 19 ≤ 2147483647 := hIτ 88 19
            have y48 : σ45 88 20 = τ 88 20 := (tw_ne1 eσ45 (by (first | decide | omega)))
            have y49 : σ45 88 21 = τ 88 21 := (tw_ne1 eσ45 (by (first | decide | omega)))
            have f50 : (-2147483648 : Int) ≤ τ 88 21 ∧ τ 88 21 ≤ 2147483647 := hIτ 88 21
            have y51 : σ45 88 22 = z44 := (tw_eq1 eσ45)
            exact ih (k + (-1)) ⟨by omega, by omega⟩ (f + (-1)) ⟨by omega, by omega⟩ σ45 hIσ45 hFσ45 (show (f + (-1)) - 41 ≤ (k + (-1)) from by omega) (show (f + (-1)) ≤ h from by omega) (show FM (wM σ) (gM b σ) h g (f + (-1)) (k + (-1)) (σ45 88 19) (σ45 88 20) (σ45 88 21) (σ45 88 22) from (by rw [show f + (-1) = f - 1 from by omega]; first | exact FM_n i2 (by omega) (by omega) | (rw [show σ45 88 19 = _ from (tw_ne1 eσ45 (by (first | decide | omega))), show σ45 88 20 = _ from (tw_ne1 eσ45 (by (first | decide | omega))), show σ45 88 21 = _ from (tw_ne1 eσ45 (by (first | decide | omega))), show σ45 88 22 = _ from (tw_eq1 eσ45)]; first | exact FM_h i2 (by omega) (by omega) (by omega) hd hu (by unfold bt; omega) (by rw [M7]; omega) hs _ _ | (rw [show k + (-1) = k - 1 from by omega]; exact FM_p i2 (by omega) (by omega) (by omega) hd hu (by first | exact Or.inl (by unfold bt; omega) | exact Or.inr (by rw [M7]; omega)) s2)))) (show (f + (-1)).toNat < N_ from by omega)
          · refine j_iload (pc := 90) dX12_falls_90 rfl ?_
            refine j_aload_n (pc := 92) dX12_falls_92 rfl rfl ?_
            refine j_getR (pc := 93) (r := 89) fl_X12_7 dX12_falls_93 (a_88 hM) rfl ?_
            refine j_iload_n (pc := 96) dX12_falls_96 rfl rfl ?_
            refine j_iload (pc := 97) dX12_falls_97 rfl ?_
            refine j_iadd (pc := 99) dX12_falls_99 ?_
            refine j_iald (pc := 100) dX12_falls_100 (a_89 hM) (by omega) (by omega) (by decide) ?_
            have g52 : (0 : Int) ≤ τ 89 ((b + f).toNat) ∧ τ 89 ((b + f).toNat) ≤ 10 := st_p hIτ (by omega)
            refine j_aload_n (pc := 101) dX12_falls_101 rfl rfl ?_
            refine j_getR (pc := 102) (r := 91) fl_X12_17 dX12_falls_102 (a_88 hM) rfl ?_
            refine j_bipush (pc := 105) dX12_falls_105 rfl ?_
            refine j_iald (pc := 107) dX12_falls_107 (a_91 hM) (by omega) (by omega) (by decide) ?_
            refine j_topV (show τ 91 (Int.toNat 7) = τ 91 7 from rfl) ?_
            have f53 : (0 : Int) ≤ τ 91 7 ∧ τ 91 7 ≤ 60 := hIτ 91 7
            refine j_iadd (pc := 108) dX12_falls_108 ?_
            refine j_icmpR_gt (pc := 109) (tgt := 135) ⟨by omega, by omega⟩ ⟨by omega, by omega⟩ dX12_falls_109 rfl (fun h54 => ?_) (fun h54 => ?_)
            · refine j_aload_n (pc := 135) dX12_falls_135 rfl rfl ?_
              refine j_dup (pc := 136) dX12_falls_136 rfl ?_
              refine j_getI (pc := 137) fl_X12_232 dX12_falls_137 (a_88 hM) rfl ?_
              have f55 : (-2147483648 : Int) ≤ τ 88 22 ∧ τ 88 22 ≤ 2147483647 := hIτ 88 22
              refine j_iconst (pc := 140) dX12_falls_140 ?_
              refine j_iload (pc := 141) dX12_falls_141 rfl ?_
              refine j_ishl (pc := 143) dX12_falls_143 (fun z56 ez56 => ?_)
              have hz56 : (-2147483648 : Int) ≤ z56 ∧ z56 ≤ 2147483647 := by rw [ez56]; exact shl_in _ _
              have s1 := ez56
              refine j_ior (pc := 144) dX12_falls_144 (fun z57 ez57 => ?_)
              have hz57 : (-2147483648 : Int) ≤ z57 ∧ z57 ≤ 2147483647 := by rw [ez57]; exact or_in _ _
              have s2 := ez57; rw [s1] at s2
              refine j_putI (pc := 145) fl_X12_232 fp_X12_22 dX12_falls_145 (a_88 hM) rfl (j_nm (fun σ58 (eσ58 : σ58 = tw_up τ 88 22 z57) => ?_))
              have hIσ58 : tw_I σ58 := tw_I_up hIτ eσ58 (show (-2147483648 : Int) ≤ z57 ∧ z57 ≤ 2147483647 from ⟨by omega, by omega⟩)
              have hFσ58 : tw_F (fun c j => (c = 88 ∧ (j = 19 ∨ j = 20 ∨ j = 21 ∨ j = 22 ∨ j = 23))) σ σ58 := tw_F_up hFτ eσ58 (show (88 = 88 ∧ (22 = 19 ∨ 22 = 20 ∨ 22 = 21 ∨ 22 = 22 ∨ 22 = 23)) from ⟨rfl, (Or.inr (Or.inr (Or.inr (Or.inl rfl))))⟩)
              refine j_iinc (pc := 148) (i := 4) (n := -1) (ls' := [(0, vR 88), (1, vI b), (2, vI h), (3, vI g), (4, vI (k + (-1))), (5, vI f)]) [1, 2, 3, 4, 0, 5] dX12_falls_148 rfl (Nat.le_of_ble_eq_true rfl) rfl rfl ?_
              refine j_iinc (pc := 151) (i := 5) (n := -1) (ls' := [(0, vR 88), (1, vI b), (2, vI h), (3, vI g), (4, vI (k + (-1))), (5, vI (f + (-1)))]) [1, 2, 3, 4, 5, 0] dX12_falls_151 rfl (Nat.le_of_ble_eq_true rfl) rfl rfl ?_
              refine j_goto (pc := 154) (tgt := 34) dX12_falls_154 rfl ?_
              refine j_ls (ls' := [(0, vR 88), (1, vI b), (2, vI h), (3, vI g), (4, vI (k + (-1))), (5, vI (f + (-1)))]) [0, 1, 2, 3, 4, 5] rfl ?_
              have y59 : σ58 88 19 = τ 88 19 := (tw_ne1 eσ58 (by (first | decide | omega)))
              have f60 : (-2147483648 : Int) ≤ τ 88 19 ∧ τ 88 19 ≤ 2147483647 := hIτ 88 19
              have y61 : σ58 88 20 = τ 88 20 := (tw_ne1 eσ58 (by (first | decide | omega)))
              have y62 : σ58 88 21 = τ 88 21 := (tw_ne1 eσ58 (by (first | decide | omega)))
              have f63 : (-2147483648 : Int) ≤ τ 88 21 ∧ τ 88 21 ≤ 2147483647 := hIτ 88 21
              have y64 : σ58 88 22 = z57 := (tw_eq1 eσ58)
              exact ih (k + (-1)) ⟨by omega, by omega⟩ (f + (-1)) ⟨by omega, by omega⟩ σ58 hIσ58 hFσ58 (show (f + (-1)) - 41 ≤ (k + (-1)) from by omega) (show (f + (-1)) ≤ h from by omega) (show FM (wM σ) (gM b σ) h g (f + (-1)) (k + (-1)) (σ58 88 19) (σ58 88 20) (σ58 88 21) (σ58 88 22) from (by rw [show f + (-1) = f - 1 from by omega]; first | exact FM_n i2 (by omega) (by omega) | (rw [show σ58 88 19 = _ from (tw_ne1 eσ58 (by (first | decide | omega))), show σ58 88 20 = _ from (tw_ne1 eσ58 (by (first | decide | omega))), show σ58 88 21 = _ from (tw_ne1 eσ58 (by (first | decide | omega))), show σ58 88 22 = _ from (tw_eq1 eσ58)]; first | exact FM_h i2 (by omega) (by omega) (by omega) hd hu (by unfold bt; omega) (by rw [M7]; omega) hs _ _ | (rw [show k + (-1) = k - 1 from by omega]; exact FM_p i2 (by omega) (by omega) (by omega) hd hu (by first | exact Or.inl (by unfold bt; omega) | exact Or.inr (by rw [M7]; omega)) s2)))) (show (f + (-1)).toNat < N_ from by omega)
            · refine j_aload_n (pc := 112) dX12_falls_112 rfl rfl ?_
              refine j_iload_n (pc := 113) dX12_falls_113 rfl rfl ?_
              refine j_iload (pc := 114) dX12_falls_114 rfl ?_
              refine j_isub (pc := 116) dX12_falls_116 ?_
              refine j_top (fun z65 ez65 hz65 => ?_)
              have hs := ez65
              refine j_putI (pc := 117) fl_X12_220 fp_X12_19 dX12_falls_117 (a_88 hM) rfl (j_nm (fun σ66 (eσ66 : σ66 = tw_up τ 88 19 z65) => ?_))
              have hIσ66 : tw_I σ66 := tw_I_up hIτ eσ66 (show (-2147483648 : Int) ≤ z65 ∧ z65 ≤ 2147483647 from ⟨by omega, by omega⟩)
              have hFσ66 : tw_F (fun c j => (c = 88 ∧ (j = 19 ∨ j = 20 ∨ j = 21 ∨ j = 22 ∨ j = 23))) σ σ66 := tw_F_up hFτ eσ66 (show (88 = 88 ∧ (19 = 19 ∨ 19 = 20 ∨ 19 = 21 ∨ 19 = 22 ∨ 19 = 23)) from ⟨rfl, (Or.inl rfl)⟩)
              refine j_aload_n (pc := 120) dX12_falls_120 rfl rfl ?_
              refine j_iload (pc := 121) dX12_falls_121 rfl ?_
              refine j_putI (pc := 123) fl_X12_226 fp_X12_20 dX12_falls_123 (a_88 hM) rfl (j_nm (fun σ67 (eσ67 : σ67 = tw_up σ66 88 20 k) => ?_))
              have hIσ67 : tw_I σ67 := tw_I_up hIσ66 eσ67 (show (-2147483648 : Int) ≤ k ∧ k ≤ 2147483647 from ⟨by omega, by omega⟩)
              have hFσ67 : tw_F (fun c j => (c = 88 ∧ (j = 19 ∨ j = 20 ∨ j = 21 ∨ j = 22 ∨ j = 23))) σ σ67 := tw_F_up hFσ66 eσ67 (show (88 = 88 ∧ (20 = 19 ∨ 20 = 20 ∨ 20 = 21 ∨ 20 = 22 ∨ 20 = 23)) from ⟨rfl, (Or.inr (Or.inl rfl))⟩)
              refine j_aload_n (pc := 126) dX12_falls_126 rfl rfl ?_
              refine j_iload (pc := 127) dX12_falls_127 rfl ?_
              refine j_putI (pc := 129) fl_X12_229 fp_X12_21 dX12_falls_129 (a_88 hM) rfl (j_nm (fun σ68 (eσ68 : σ68 = tw_up σ67 88 21 z38) => ?_))
              have hIσ68 : tw_I σ68 := tw_I_up hIσ67 eσ68 (show (-2147483648 : Int) ≤ z38 ∧ z38 ≤ 2147483647 from ⟨by omega, by omega⟩)
              have hFσ68 : tw_F (fun c j => (c = 88 ∧ (j = 19 ∨ j = 20 ∨ j = 21 ∨ j = 22 ∨ j = 23))) σ σ68 := tw_F_up hFσ67 eσ68 (show (88 = 88 ∧ (21 = 19 ∨ 21 = 20 ∨ 21 = 21 ∨ 21 = 22 ∨ 21 = 23)) from ⟨rfl, (Or.inr (Or.inr (Or.inl rfl)))⟩)
              refine j_goto (pc := 132) (tgt := 148) dX12_falls_132 rfl ?_
              refine j_iinc (pc := 148) (i := 4) (n := -1) (ls' := [(0, vR 88), (1, vI b), (2, vI h), (3, vI g), (4, vI (k + (-1))), (5, vI f)]) [1, 2, 3, 4, 0, 5] dX12_falls_148 rfl (Nat.le_of_ble_eq_true rfl) rfl rfl ?_
              refine j_iinc (pc := 151) (i := 5) (n := -1) (ls' := [(0, vR 88), (1, vI b), (2, vI h), (3, vI g), (4, vI (k + (-1))), (5, vI (f + (-1)))]) [1, 2, 3, 4, 5, 0] dX12_falls_151 rfl (Nat.le_of_ble_eq_true rfl) rfl rfl ?_
              refine j_goto (pc := 154) (tgt := 34) dX12_falls_154 rfl ?_
              refine j_ls (ls' := [(0, vR 88), (1, vI b), (2, vI h), (3, vI g), (4, vI (k + (-1))), (5, vI (f + (-1)))]) [0, 1, 2, 3, 4, 5] rfl ?_
              have y69 : σ68 88 19 = z65 := (((tw_ne1 eσ68 (by (first | decide | omega)))).trans (tw_ne1 eσ67 (by (first | decide | omega)))).trans (tw_eq1 eσ66)
              have y70 : σ68 88 20 = k := ((tw_ne1 eσ68 (by (first | decide | omega)))).trans (tw_eq1 eσ67)
              have y71 : σ68 88 21 = z38 := (tw_eq1 eσ68)
              have y72 : σ68 88 22 = τ 88 22 := (((tw_ne1 eσ68 (by (first | decide | omega)))).trans (tw_ne1 eσ67 (by (first | decide | omega)))).trans (tw_ne1 eσ66 (by (first | decide | omega)))
              have f73 : (-2147483648 : Int) ≤ τ 88 22 ∧ τ 88 22 ≤ 2147483647 := hIτ 88 22
              exact ih (k + (-1)) ⟨by omega, by omega⟩ (f + (-1)) ⟨by omega, by omega⟩ σ68 hIσ68 hFσ68 (show (f + (-1)) - 41 ≤ (k + (-1)) from by omega) (show (f + (-1)) ≤ h from by omega) (show FM (wM σ) (gM b σ) h g (f + (-1)) (k + (-1)) (σ68 88 19) (σ68 88 20) (σ68 88 21) (σ68 88 22) from (by rw [show f + (-1) = f - 1 from by omega]; first | exact FM_n i2 (by omega) (by omega) | (rw [show σ68 88 19 = _ from (((tw_ne1 eσ68 (by (first | decide | omega)))).trans (tw_ne1 eσ67 (by (first | decide | omega)))).trans (tw_eq1 eσ66), show σ68 88 20 = _ from ((tw_ne1 eσ68 (by (first | decide | omega)))).trans (tw_eq1 eσ67), show σ68 88 21 = _ from (tw_eq1 eσ68), show σ68 88 22 = _ from (((tw_ne1 eσ68 (by (first | decide | omega)))).trans (tw_ne1 eσ67 (by (first | decide | omega)))).trans (tw_ne1 eσ66 (by (first | decide | omega)))]; first | exact FM_h i2 (by omega) (by omega) (by omega) hd hu (by unfold bt; omega) (by rw [M7]; omega) hs _ _ | (rw [show k + (-1) = k - 1 from by omega]; exact FM_p i2 (by omega) (by omega) (by omega) hd hu (by first | exact Or.inl (by unfold bt; omega) | exact Or.inr (by rw [M7]; omega)) s2)))) (show (f + (-1)).toNat < N_ from by omega)
set_option maxHeartbeats 4000000 in
set_option maxRecDepth 100000 in
theorem c_X12_falls {G : tw_G} (hM : tw_isM G) (b : Int) (hb : 0 ≤ b ∧ b ≤ 300) (h : Int) (hh : 1 ≤ h ∧ h ≤ 40) (g : Int) (hg : -2147483648 ≤ g ∧ g ≤ 2147483647) (σ : tw_M) (hI : tw_I σ) (hq0 : b % 100 = 0) : tw_C G yX12_falls cX12_falls 8 none 2 [vR 88, vI b, vI h, vI g] σ (q_X12_falls b h g σ) := by
  refine tw_met [(0, vR 88), (1, vI b), (2, vI h), (3, vI g)] (by decide +kernel) rfl (Nat.le_of_ble_eq_true rfl) ?_
  refine j_aload_n (pc := 0) dX12_falls_0 rfl rfl ?_
  refine j_iconst (pc := 1) dX12_falls_1 ?_
  refine j_putI (pc := 2) fl_X12_220 fp_X12_19 dX12_falls_2 (a_88 hM) rfl (j_nm (fun σ74 (eσ74 : σ74 = tw_up σ 88 19 0) => ?_))
  have hIσ74 : tw_I σ74 := tw_I_up hI eσ74 (show (-2147483648 : Int) ≤ 0 ∧ 0 ≤ 2147483647 from by decide)
  have hFσ74 : tw_F (fun c j => (c = 88 ∧ (j = 19 ∨ j = 20 ∨ j = 21 ∨ j = 22 ∨ j = 23))) σ σ74 := tw_F_up (tw_F_rf) eσ74 (show (88 = 88 ∧ (19 = 19 ∨ 19 = 20 ∨ 19 = 21 ∨ 19 = 22 ∨ 19 = 23)) from ⟨rfl, (Or.inl rfl)⟩)
  refine j_aload_n (pc := 5) dX12_falls_5 rfl rfl ?_
  refine j_bipush (pc := 6) dX12_falls_6 rfl ?_
  refine j_putI (pc := 8) fl_X12_226 fp_X12_20 dX12_falls_8 (a_88 hM) rfl (j_nm (fun σ75 (eσ75 : σ75 = tw_up σ74 88 20 (-4)) => ?_))
  have hIσ75 : tw_I σ75 := tw_I_up hIσ74 eσ75 (show (-2147483648 : Int) ≤ -4 ∧ -4 ≤ 2147483647 from by decide)
  have hFσ75 : tw_F (fun c j => (c = 88 ∧ (j = 19 ∨ j = 20 ∨ j = 21 ∨ j = 22 ∨ j = 23))) σ σ75 := tw_F_up hFσ74 eσ75 (show (88 = 88 ∧ (20 = 19 ∨ 20 = 20 ∨ 20 = 21 ∨ 20 = 22 ∨ 20 = 23)) from ⟨rfl, (Or.inr (Or.inl rfl))⟩)
  refine j_aload_n (pc := 11) dX12_falls_11 rfl rfl ?_
  refine j_iconst (pc := 12) dX12_falls_12 ?_
  refine j_putI (pc := 13) fl_X12_229 fp_X12_21 dX12_falls_13 (a_88 hM) rfl (j_nm (fun σ76 (eσ76 : σ76 = tw_up σ75 88 21 0) => ?_))
  have hIσ76 : tw_I σ76 := tw_I_up hIσ75 eσ76 (show (-2147483648 : Int) ≤ 0 ∧ 0 ≤ 2147483647 from by decide)
  have hFσ76 : tw_F (fun c j => (c = 88 ∧ (j = 19 ∨ j = 20 ∨ j = 21 ∨ j = 22 ∨ j = 23))) σ σ76 := tw_F_up hFσ75 eσ76 (show (88 = 88 ∧ (21 = 19 ∨ 21 = 20 ∨ 21 = 21 ∨ 21 = 22 ∨ 21 = 23)) from ⟨rfl, (Or.inr (Or.inr (Or.inl rfl)))⟩)
  refine j_aload_n (pc := 16) dX12_falls_16 rfl rfl ?_
  refine j_iconst (pc := 17) dX12_falls_17 ?_
  refine j_putI (pc := 18) fl_X12_232 fp_X12_22 dX12_falls_18 (a_88 hM) rfl (j_nm (fun σ77 (eσ77 : σ77 = tw_up σ76 88 22 0) => ?_))
  have hIσ77 : tw_I σ77 := tw_I_up hIσ76 eσ77 (show (-2147483648 : Int) ≤ 0 ∧ 0 ≤ 2147483647 from by decide)
  have hFσ77 : tw_F (fun c j => (c = 88 ∧ (j = 19 ∨ j = 20 ∨ j = 21 ∨ j = 22 ∨ j = 23))) σ σ77 := tw_F_up hFσ76 eσ77 (show (88 = 88 ∧ (22 = 19 ∨ 22 = 20 ∨ 22 = 21 ∨ 22 = 22 ∨ 22 = 23)) from ⟨rfl, (Or.inr (Or.inr (Or.inr (Or.inl rfl))))⟩)
  refine j_aload_n (pc := 21) dX12_falls_21 rfl rfl ?_
  refine j_iload_n (pc := 22) dX12_falls_22 rfl rfl ?_
  refine j_iload_n (pc := 23) dX12_falls_23 rfl rfl ?_
  refine j_callV (pc := 24) (As := [vI b, vI h]) (st := []) (c_X12_pieces hM b ⟨by omega, by omega⟩ h ⟨by omega, by omega⟩ σ77 hIσ77) mv_X12_172 rfl rfl rfl (a_88 hM) dX12_falls_24 ⟨Nat.le_of_ble_eq_true rfl, Nat.le_of_ble_eq_true rfl⟩ ⟨Nat.le_refl _, Nat.le_refl _⟩ rfl (Nat.le_of_ble_eq_true rfl) rfl (fun z78 σ79 hz78 => ?_)
  obtain ⟨r81, rfl, hr81, rfl, q80_0⟩ := hz78
  replace q80_0 : r81 = mc σ77 b h.toNat := q80_0
  refine j_st (st' := [vI r81]) rfl ?_
  have k9 := q80_0; rw [mc_congr (σ := σ) (b := b) (b' := b) (fun x x1 x2 => hFσ77 89 _ (show ¬ ((89 = 88 ∧ ((b + x).toNat = 19 ∨ (b + x).toNat = 20 ∨ (b + x).toNat = 21 ∨ (b + x).toNat = 22 ∨ (b + x).toNat = 23))) from fun h => absurd h.1 (by decide))), mc_gM (by omega)] at k9
  refine j_iconst (pc := 27) dX12_falls_27 ?_
  refine j_isub (pc := 28) dX12_falls_28 ?_
  refine j_istore (pc := 29) (i := 4) (ls' := [(0, vR 88), (1, vI b), (2, vI h), (3, vI g), (4, vI (r81 - 1))]) [1, 2, 3, 4, 0] dX12_falls_29 (Nat.le_of_ble_eq_true rfl) rfl rfl ?_
  refine j_iload_n (pc := 31) dX12_falls_31 rfl rfl ?_
  refine j_istore (pc := 32) (i := 5) (ls' := [(0, vR 88), (1, vI b), (2, vI h), (3, vI g), (4, vI (r81 - 1)), (5, vI h)]) [1, 2, 3, 4, 5, 0] dX12_falls_32 (Nat.le_of_ble_eq_true rfl) rfl rfl ?_
  refine j_ls (ls' := [(0, vR 88), (1, vI b), (2, vI h), (3, vI g), (4, vI (r81 - 1)), (5, vI h)]) [0, 1, 2, 3, 4, 5] rfl ?_
  have y82 : σ77 88 19 = 0 := ((((tw_ne1 eσ77 (by (first | decide | omega)))).trans (tw_ne1 eσ76 (by (first | decide | omega)))).trans (tw_ne1 eσ75 (by (first | decide | omega)))).trans (tw_eq1 eσ74)
  have y83 : σ77 88 20 = -4 := (((tw_ne1 eσ77 (by (first | decide | omega)))).trans (tw_ne1 eσ76 (by (first | decide | omega)))).trans (tw_eq1 eσ75)
  have y84 : σ77 88 21 = 0 := ((tw_ne1 eσ77 (by (first | decide | omega)))).trans (tw_eq1 eσ76)
  have y85 : σ77 88 22 = 0 := (tw_eq1 eσ77)
  exact (l_X12_falls hM b hb h hh g hg σ hI hq0 ((h.toNat) + 1)) (r81 - 1) ⟨by omega, by omega⟩ h ⟨by omega, by omega⟩ σ77 hIσ77 hFσ77 (show h - 41 ≤ (r81 - 1) from by omega) (show h ≤ h from by omega) (show FM (wM σ) (gM b σ) h g h (r81 - 1) (σ77 88 19) (σ77 88 20) (σ77 88 21) (σ77 88 22) from (by rw [show σ77 88 19 = _ from ((((tw_ne1 eσ77 (by (first | decide | omega)))).trans (tw_ne1 eσ76 (by (first | decide | omega)))).trans (tw_ne1 eσ75 (by (first | decide | omega)))).trans (tw_eq1 eσ74), show σ77 88 20 = _ from (((tw_ne1 eσ77 (by (first | decide | omega)))).trans (tw_ne1 eσ76 (by (first | decide | omega)))).trans (tw_eq1 eσ75), show σ77 88 21 = _ from ((tw_ne1 eσ77 (by (first | decide | omega)))).trans (tw_eq1 eσ76), show σ77 88 22 = _ from (tw_eq1 eσ77)]; exact Or.inl ⟨rfl, rfl, rfl, by omega, rfl⟩)) (Nat.lt_succ_self _)
abbrev q_X12_harmNow (h : Int) (σ : tw_M) : Option tw_V → tw_M → Prop := fun z τ => ∃ r : Int, z = some (vI r) ∧ (-2147483648 ≤ r ∧ r ≤ 2147483647) ∧ σ = τ ∧ ((σ 88 23 = -4 ∧ r = 0) ∨ (¬ σ 88 23 = -4 ∧ (r = h - σ 88 23 ∨ σ 88 23 < -4 ∨ 40 < σ 88 23)))
set_option maxHeartbeats 4000000 in
set_option maxRecDepth 100000 in
theorem c_X12_harmNow {G : tw_G} (hM : tw_isM G) (h : Int) (hh : 1 ≤ h ∧ h ≤ 40) (σ : tw_M) (hI : tw_I σ) : tw_C G yX12_harmNow cX12_harmNow 2 (some .int) 0 [vR 88, vI h] σ (q_X12_harmNow h σ) := by
  refine tw_met [(0, vR 88), (1, vI h)] (by decide +kernel) rfl (Nat.le_of_ble_eq_true rfl) ?_
  refine j_aload_n (pc := 0) dX12_harmNow_0 rfl rfl ?_
  refine j_getI (pc := 1) fl_X12_223 dX12_harmNow_1 (a_88 hM) rfl ?_
  have f1 : (-2147483648 : Int) ≤ σ 88 23 ∧ σ 88 23 ≤ 2147483647 := hI 88 23
  refine j_bipush (pc := 4) dX12_harmNow_4 rfl ?_
  refine j_icmpR_ne (pc := 6) (tgt := 13) ⟨by omega, by omega⟩ ⟨by omega, by omega⟩ dX12_harmNow_6 rfl (fun h2 => ?_) (fun h2 => ?_)
  · refine j_iload_n (pc := 13) dX12_harmNow_13 rfl rfl ?_
    refine j_aload_n (pc := 14) dX12_harmNow_14 rfl rfl ?_
    refine j_getI (pc := 15) fl_X12_223 dX12_harmNow_15 (a_88 hM) rfl ?_
    refine j_isub (pc := 18) dX12_harmNow_18 ?_
    refine j_top (fun z3 ez3 hz3 => ?_)
    have gz3 : h - (σ 88 23) < -2147483648 ∨ 2147483647 < h - (σ 88 23) ∨ z3 = h - (σ 88 23) := by rw [ez3]; exact w32_or _
    exact j_iret (pc := 19) ⟨rfl, rfl⟩ dX12_harmNow_19 rfl ⟨_, rfl, ⟨by omega, by omega⟩, rfl, by omega⟩
  · refine j_iconst (pc := 9) dX12_harmNow_9 ?_
    refine j_goto (pc := 10) (tgt := 19) dX12_harmNow_10 rfl ?_
    exact j_iret (pc := 19) ⟨rfl, rfl⟩ dX12_harmNow_19 rfl ⟨_, rfl, ⟨by omega, by omega⟩, rfl, by omega⟩
abbrev q_X12_arePieces (s : Int) (σ : tw_M) : Option tw_V → tw_M → Prop := fun z τ => ∃ r : Int, z = some (vI r) ∧ (0 ≤ r ∧ r ≤ 1) ∧ σ = τ ∧ True
set_option maxHeartbeats 4000000 in
set_option maxRecDepth 100000 in
theorem c_X12_arePieces {G : tw_G} (hM : tw_isM G) (s : Int) (hs : -2147483648 ≤ s ∧ s ≤ 2147483647) (σ : tw_M) (hI : tw_I σ) (hq0 : mc σ 0 (σ 91 0).toNat ≤ 10) : tw_C G yX12_arePieces cX12_arePieces 2 (some .boolean) 3 [vR 88, vI s] σ (q_X12_arePieces s σ) := by
  refine tw_met [(0, vR 88), (1, vI s)] (by decide +kernel) rfl (Nat.le_of_ble_eq_true rfl) ?_
  refine j_iload_n (pc := 0) dX12_arePieces_0 rfl rfl ?_
  refine j_i2l (pc := 1) dX12_arePieces_1 ?_
  rw [w32_eq (a := s) (by omega) (by omega)]
  refine j_lconst (pc := 2) (z := 0) dX12_arePieces_2 rfl ?_
  refine j_iconst (pc := 3) dX12_arePieces_3 ?_
  refine j_aload_n (pc := 4) dX12_arePieces_4 rfl rfl ?_
  refine j_iconst (pc := 5) dX12_arePieces_5 ?_
  refine j_callV (pc := 6) (As := [vI 0]) (st := [vI 1, vL 0, vL s]) (c_X12_all hM 0 (by (first | decide | exact ⟨by omega, by omega⟩)) σ hI) mv_X12_192 rfl rfl rfl (a_88 hM) dX12_arePieces_6 ⟨Nat.le_of_ble_eq_true rfl, Nat.le_of_ble_eq_true rfl⟩ ⟨Nat.le_refl _, Nat.le_refl _⟩ rfl (Nat.le_of_ble_eq_true rfl) rfl (fun z1 σ2 hz1 => ?_)
  obtain ⟨r4, rfl, hr4, rfl, q3_0⟩ := hz1
  replace q3_0 : r4 = mc σ (0 : Int) (σ 91 0).toNat := q3_0
  refine j_st (st' := [vI r4, vI 1, vL 0, vL s]) rfl ?_
  refine j_ishl (pc := 9) dX12_arePieces_9 (fun z5 ez5 => ?_)
  have hz5 : (-2147483648 : Int) ≤ z5 ∧ z5 ≤ 2147483647 := by rw [ez5]; exact shl_in _ _
  refine j_iconst (pc := 10) dX12_arePieces_10 ?_
  refine j_isub (pc := 11) dX12_arePieces_11 ?_
  refine j_top (fun z6 ez6 hz6 => ?_)
  refine j_i2l (pc := 12) dX12_arePieces_12 ?_
  rw [w32_eq (a := z6) (by omega) (by omega)]
  refine j_callS (pc := 13) (As := [vL s, vL 0, vL z6]) (st := []) (c_X12_in s ⟨by omega, by omega⟩ 0 (by (first | decide | exact ⟨by omega, by omega⟩)) z6 ⟨by omega, by omega⟩ σ hI) ms_X12_82 rfl dX12_arePieces_13 ⟨Nat.le_of_ble_eq_true rfl, Nat.le_of_ble_eq_true rfl⟩ ⟨Nat.le_refl _, Nat.le_refl _⟩ rfl (Nat.le_of_ble_eq_true rfl) rfl (fun z7 σ8 hz7 => ?_)
  obtain ⟨r10, rfl, hr10, rfl, q9_0⟩ := hz7
  replace q9_0 : (r10 = 1 ∧ (0 : Int) ≤ s ∧ s ≤ z6) ∨ (r10 = 0 ∧ ¬ ((0 : Int) ≤ s ∧ s ≤ z6)) := q9_0
  refine j_st (st' := [vI r10]) rfl ?_
  exact j_zret (pc := 16) ⟨rfl, rfl⟩ dX12_arePieces_16 rfl (nar_bool (by omega) (by omega)) ⟨_, rfl, ⟨by omega, by omega⟩, rfl, trivial⟩
abbrev q_X12_hung  (σ : tw_M) : Option tw_V → tw_M → Prop := fun z τ => ∃ r : Int, z = some (vI r) ∧ (-2147483648 ≤ r ∧ r ≤ 2147483647) ∧ σ = τ ∧ True
set_option maxHeartbeats 4000000 in
set_option maxRecDepth 100000 in
theorem c_X12_hung {G : tw_G} (hM : tw_isM G) (σ : tw_M) (hI : tw_I σ) : tw_C G yX12_hung cX12_hung 1 (some .int) 0 [vR 88] σ (q_X12_hung σ) := by
  refine tw_met [(0, vR 88)] (by decide +kernel) rfl (Nat.le_of_ble_eq_true rfl) ?_
  refine j_aload_n (pc := 0) dX12_hung_0 rfl rfl ?_
  refine j_getI (pc := 1) fl_X12_220 dX12_hung_1 (a_88 hM) rfl ?_
  have f1 : (-2147483648 : Int) ≤ σ 88 19 ∧ σ 88 19 ≤ 2147483647 := hI 88 19
  refine j_ifR_ge (pc := 4) (tgt := 11) ⟨by omega, by omega⟩ dX12_hung_4 rfl (fun h2 => ?_) (fun h2 => ?_)
  · refine j_aload_n (pc := 11) dX12_hung_11 rfl rfl ?_
    refine j_getI (pc := 12) fl_X12_220 dX12_hung_12 (a_88 hM) rfl ?_
    exact j_iret (pc := 15) ⟨rfl, rfl⟩ dX12_hung_15 rfl ⟨_, rfl, ⟨by omega, by omega⟩, rfl, trivial⟩
  · refine j_iconst (pc := 7) dX12_hung_7 ?_
    refine j_goto (pc := 8) (tgt := 15) dX12_hung_8 rfl ?_
    exact j_iret (pc := 15) ⟨rfl, rfl⟩ dX12_hung_15 rfl ⟨_, rfl, ⟨by omega, by omega⟩, rfl, trivial⟩
abbrev q_X12_fall (h : Int) (g : Int) (w : Int) (σ : tw_M) : Option tw_V → tw_M → Prop := fun z τ => ∃ r : Int, z = some (vI r) ∧ (-2147483648 ≤ r ∧ r ≤ 2147483647) ∧ tw_I τ ∧ tw_F (fun c j => (c = 88 ∧ (j = 19 ∨ j = 20 ∨ j = 21 ∨ j = 22 ∨ j = 23))) σ τ ∧ True
set_option maxHeartbeats 4000000 in
set_option maxRecDepth 100000 in
theorem c_X12_fall {G : tw_G} (hM : tw_isM G) (h : Int) (hh : -2147483648 ≤ h ∧ h ≤ 2147483647) (g : Int) (hg : -2147483648 ≤ g ∧ g ≤ 2147483647) (w : Int) (hw : -2147483648 ≤ w ∧ w ≤ 2147483647) (σ : tw_M) (hI : tw_I σ) (hq0 : mc σ 0 (σ 91 0).toNat ≤ 10) : tw_C G yX12_fall cX12_fall 4 (some .int) 4 [vR 88, vI h, vI g, vI w] σ (q_X12_fall h g w σ) := by
  refine tw_met [(0, vR 88), (1, vI h), (2, vI g), (3, vI w)] (by decide +kernel) rfl (Nat.le_of_ble_eq_true rfl) ?_
  refine j_aload_n (pc := 0) dX12_fall_0 rfl rfl ?_
  refine j_iload_n (pc := 1) dX12_fall_1 rfl rfl ?_
  refine j_callV (pc := 2) (As := [vI h]) (st := []) (c_X12_isAt hM h ⟨by omega, by omega⟩ σ hI) mv_X12_175 rfl rfl rfl (a_88 hM) dX12_fall_2 ⟨Nat.le_of_ble_eq_true rfl, Nat.le_of_ble_eq_true rfl⟩ ⟨Nat.le_refl _, Nat.le_refl _⟩ rfl (Nat.le_of_ble_eq_true rfl) rfl (fun z1 σ2 hz1 => ?_)
  obtain ⟨r4, rfl, hr4, rfl, q3_0⟩ := hz1
  replace q3_0 : (r4 = 1 ∧ 1 ≤ h ∧ h ≤ σ 91 0 ∧ h ≤ 40) ∨ (r4 = 0 ∧ ¬ (1 ≤ h ∧ h ≤ σ 91 0)) := q3_0
  refine j_st (st' := [vI r4]) rfl ?_
  refine j_ifR_eq (pc := 5) (tgt := 16) ⟨by omega, by omega⟩ dX12_fall_5 rfl (fun h5 => ?_) (fun h5 => ?_)
  · refine j_iconst (pc := 16) dX12_fall_16 ?_
    exact j_iret (pc := 17) ⟨rfl, rfl⟩ dX12_fall_17 rfl ⟨_, rfl, ⟨by omega, by omega⟩, hI, (tw_F_rf), trivial⟩
  · refine j_aload_n (pc := 8) dX12_fall_8 rfl rfl ?_
    refine j_iload_n (pc := 9) dX12_fall_9 rfl rfl ?_
    refine j_callV (pc := 10) (As := [vI g]) (st := []) (c_X12_arePieces hM g ⟨by omega, by omega⟩ σ hI (by omega)) mv_X12_242 rfl rfl rfl (a_88 hM) dX12_fall_10 ⟨Nat.le_of_ble_eq_true rfl, Nat.le_of_ble_eq_true rfl⟩ ⟨Nat.le_refl _, Nat.le_refl _⟩ rfl (Nat.le_of_ble_eq_true rfl) rfl (fun z6 σ7 hz6 => ?_)
    obtain ⟨r9, rfl, hr9, rfl, -⟩ := hz6
    refine j_st (st' := [vI r9]) rfl ?_
    refine j_ifR_ne (pc := 13) (tgt := 18) ⟨by omega, by omega⟩ dX12_fall_13 rfl (fun h10 => ?_) (fun h10 => ?_)
    · refine j_aload_n (pc := 18) dX12_fall_18 rfl rfl ?_
      refine j_iconst (pc := 19) dX12_fall_19 ?_
      refine j_iload_n (pc := 20) dX12_fall_20 rfl rfl ?_
      refine j_iload_n (pc := 21) dX12_fall_21 rfl rfl ?_
      refine j_callV (pc := 22) (As := [vI 0, vI h, vI g]) (st := []) (c_X12_falls hM 0 (by (first | decide | exact ⟨by omega, by omega⟩)) h ⟨by omega, by omega⟩ g ⟨by omega, by omega⟩ σ hI (by omega)) mv_X12_245 rfl rfl rfl (a_88 hM) dX12_fall_22 ⟨Nat.le_of_ble_eq_true rfl, Nat.le_of_ble_eq_true rfl⟩ ⟨Nat.le_refl _, Nat.le_refl _⟩ rfl (Nat.le_of_ble_eq_true rfl) rfl (fun z11 σ12 hz11 => ?_)
      obtain ⟨rfl, hIσ12, hGσ12, q13_0, q13_1⟩ := hz11
      replace q13_0 : (σ12 88 19, σ12 88 20, σ12 88 21, σ12 88 22) = fallG (wM σ) (gM (0 : Int) σ) h g h.toNat 0 := q13_0
      replace q13_1 : σ12 88 23 = strS (wM σ) h (σ12 88 19) := q13_1
      have hFσ12 : tw_F (fun c j => (c = 88 ∧ (j = 19 ∨ j = 20 ∨ j = 21 ∨ j = 22 ∨ j = 23))) σ σ12 := tw_F_tr (tw_F_rf) hGσ12 (fun c j q => (show (c = 88 ∧ (j = 19 ∨ j = 20 ∨ j = 21 ∨ j = 22 ∨ j = 23)) from by replace q : (c = 88 ∧ (j = 19 ∨ j = 20 ∨ j = 21 ∨ j = 22 ∨ j = 23)) := q; exact q))
      refine j_st (st' := []) rfl ?_
      refine j_iload_n (pc := 25) dX12_fall_25 rfl rfl ?_
      rcases (show w < 0 ∨ w = 0 ∨ w = 1 ∨ w = 2 ∨ w = 3 ∨ w = 4 ∨ w = 5 ∨ 5 < w from by omega) with h15 | h15 | h15 | h15 | h15 | h15 | h15 | h15
      · refine j_tsOut (pc := 26) (tgt := 95) dX12_fall_26 ⟨by omega, by omega⟩ (Or.inl h15) rfl ?_
        refine j_iconst (pc := 95) dX12_fall_95 ?_
        exact j_iret (pc := 96) ⟨rfl, rfl⟩ dX12_fall_96 rfl ⟨_, rfl, ⟨by omega, by omega⟩, hIσ12, hFσ12, trivial⟩
      · refine j_tsIn (pc := 26) (tgt := 64) 0 dX12_fall_26 h15 (by decide) ⟨by decide, by decide⟩ rfl rfl ?_
        refine j_aload_n (pc := 64) dX12_fall_64 rfl rfl ?_
        refine j_callV (pc := 65) (As := []) (st := []) (c_X12_hung hM σ12 hIσ12) mv_X12_249 rfl rfl rfl (a_88 hM) dX12_fall_65 ⟨Nat.le_of_ble_eq_true rfl, Nat.le_of_ble_eq_true rfl⟩ ⟨Nat.le_refl _, Nat.le_refl _⟩ rfl (Nat.le_of_ble_eq_true rfl) rfl (fun z16 σ17 hz16 => ?_)
        obtain ⟨r19, rfl, hr19, rfl, -⟩ := hz16
        refine j_st (st' := [vI r19]) rfl ?_
        exact j_iret (pc := 68) ⟨rfl, rfl⟩ dX12_fall_68 rfl ⟨_, rfl, ⟨by omega, by omega⟩, hIσ12, hFσ12, trivial⟩
      · refine j_tsIn (pc := 26) (tgt := 69) 1 dX12_fall_26 h15 (by decide) ⟨by decide, by decide⟩ rfl rfl ?_
        refine j_aload_n (pc := 69) dX12_fall_69 rfl rfl ?_
        refine j_getI (pc := 70) fl_X12_226 dX12_fall_70 (a_88 hM) rfl ?_
        have f20 : (-2147483648 : Int) ≤ σ12 88 20 ∧ σ12 88 20 ≤ 2147483647 := hIσ12 88 20
        exact j_iret (pc := 73) ⟨rfl, rfl⟩ dX12_fall_73 rfl ⟨_, rfl, ⟨by omega, by omega⟩, hIσ12, hFσ12, trivial⟩
      · refine j_tsIn (pc := 26) (tgt := 74) 2 dX12_fall_26 h15 (by decide) ⟨by decide, by decide⟩ rfl rfl ?_
        refine j_aload_n (pc := 74) dX12_fall_74 rfl rfl ?_
        refine j_getI (pc := 75) fl_X12_229 dX12_fall_75 (a_88 hM) rfl ?_
        have f21 : (-2147483648 : Int) ≤ σ12 88 21 ∧ σ12 88 21 ≤ 2147483647 := hIσ12 88 21
        exact j_iret (pc := 78) ⟨rfl, rfl⟩ dX12_fall_78 rfl ⟨_, rfl, ⟨by omega, by omega⟩, hIσ12, hFσ12, trivial⟩
      · refine j_tsIn (pc := 26) (tgt := 79) 3 dX12_fall_26 h15 (by decide) ⟨by decide, by decide⟩ rfl rfl ?_
        refine j_aload_n (pc := 79) dX12_fall_79 rfl rfl ?_
        refine j_getI (pc := 80) fl_X12_232 dX12_fall_80 (a_88 hM) rfl ?_
        have f22 : (-2147483648 : Int) ≤ σ12 88 22 ∧ σ12 88 22 ≤ 2147483647 := hIσ12 88 22
        exact j_iret (pc := 83) ⟨rfl, rfl⟩ dX12_fall_83 rfl ⟨_, rfl, ⟨by omega, by omega⟩, hIσ12, hFσ12, trivial⟩
      · refine j_tsIn (pc := 26) (tgt := 84) 4 dX12_fall_26 h15 (by decide) ⟨by decide, by decide⟩ rfl rfl ?_
        refine j_aload_n (pc := 84) dX12_fall_84 rfl rfl ?_
        refine j_getI (pc := 85) fl_X12_223 dX12_fall_85 (a_88 hM) rfl ?_
        have f23 : (-2147483648 : Int) ≤ σ12 88 23 ∧ σ12 88 23 ≤ 2147483647 := hIσ12 88 23
        exact j_iret (pc := 88) ⟨rfl, rfl⟩ dX12_fall_88 rfl ⟨_, rfl, ⟨by omega, by omega⟩, hIσ12, hFσ12, trivial⟩
      · refine j_tsIn (pc := 26) (tgt := 89) 5 dX12_fall_26 h15 (by decide) ⟨by decide, by decide⟩ rfl rfl ?_
        refine j_aload_n (pc := 89) dX12_fall_89 rfl rfl ?_
        refine j_iload_n (pc := 90) dX12_fall_90 rfl rfl ?_
        refine j_callV (pc := 91) (As := [vI h]) (st := []) (c_X12_harmNow hM h ⟨by omega, by omega⟩ σ12 hIσ12) mv_X12_252 rfl rfl rfl (a_88 hM) dX12_fall_91 ⟨Nat.le_of_ble_eq_true rfl, Nat.le_of_ble_eq_true rfl⟩ ⟨Nat.le_refl _, Nat.le_refl _⟩ rfl (Nat.le_of_ble_eq_true rfl) rfl (fun z24 σ25 hz24 => ?_)
        obtain ⟨r27, rfl, hr27, rfl, q26_0⟩ := hz24
        replace q26_0 : (σ12 88 23 = -4 ∧ r27 = 0) ∨ (¬ σ12 88 23 = -4 ∧ (r27 = h - σ12 88 23 ∨ σ12 88 23 < -4 ∨ 40 < σ12 88 23)) := q26_0
        refine j_st (st' := [vI r27]) rfl ?_
        exact j_iret (pc := 94) ⟨rfl, rfl⟩ dX12_fall_94 rfl ⟨_, rfl, ⟨by omega, by omega⟩, hIσ12, hFσ12, trivial⟩
      · refine j_tsOut (pc := 26) (tgt := 95) dX12_fall_26 ⟨by omega, by omega⟩ (Or.inr h15) rfl ?_
        refine j_iconst (pc := 95) dX12_fall_95 ?_
        exact j_iret (pc := 96) ⟨rfl, rfl⟩ dX12_fall_96 rfl ⟨_, rfl, ⟨by omega, by omega⟩, hIσ12, hFσ12, trivial⟩
    · refine j_iconst (pc := 16) dX12_fall_16 ?_
      exact j_iret (pc := 17) ⟨rfl, rfl⟩ dX12_fall_17 rfl ⟨_, rfl, ⟨by omega, by omega⟩, hI, (tw_F_rf), trivial⟩
