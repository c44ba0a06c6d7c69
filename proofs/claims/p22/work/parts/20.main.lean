/-! 20.main -/
theorem dX11_isPart_0 : decode cX11_isPart 0 = .ok (.iload_n 0, 1) := by decide +kernel
theorem dX11_isPart_1 : decode cX11_isPart 1 = .ok (.ifCond .eq 8, 3) := by decide +kernel
theorem dX11_isPart_4 : decode cX11_isPart 4 = .ok (.iload_n 0, 1) := by decide +kernel
theorem dX11_isPart_5 : decode cX11_isPart 5 = .ok (.iconst 1, 1) := by decide +kernel
theorem dX11_isPart_6 : decode cX11_isPart 6 = .ok (.if_icmp .ne 7, 3) := by decide +kernel
theorem dX11_isPart_9 : decode cX11_isPart 9 = .ok (.iconst 1, 1) := by decide +kernel
theorem dX11_isPart_10 : decode cX11_isPart 10 = .ok (.goto 4, 3) := by decide +kernel
theorem dX11_isPart_13 : decode cX11_isPart 13 = .ok (.iconst 0, 1) := by decide +kernel
theorem dX11_isPart_14 : decode cX11_isPart 14 = .ok (.ireturn, 1) := by decide +kernel
theorem dX11_isOf_0 : decode cX11_isOf 0 = .ok (.iload_n 0, 1) := by decide +kernel
theorem dX11_isOf_1 : decode cX11_isOf 1 = .ok (.ifCond .lt 8, 3) := by decide +kernel
theorem dX11_isOf_4 : decode cX11_isOf 4 = .ok (.iload_n 0, 1) := by decide +kernel
theorem dX11_isOf_5 : decode cX11_isOf 5 = .ok (.iload_n 1, 1) := by decide +kernel
theorem dX11_isOf_6 : decode cX11_isOf 6 = .ok (.if_icmp .lt 17, 3) := by decide +kernel
theorem dX11_isOf_9 : decode cX11_isOf 9 = .ok (.iload_n 0, 1) := by decide +kernel
theorem dX11_isOf_10 : decode cX11_isOf 10 = .ok (.bipush 10, 2) := by decide +kernel
theorem dX11_isOf_12 : decode cX11_isOf 12 = .ok (.if_icmp .lt 15, 3) := by decide +kernel
theorem dX11_isOf_15 : decode cX11_isOf 15 = .ok (.iload_n 0, 1) := by decide +kernel
theorem dX11_isOf_16 : decode cX11_isOf 16 = .ok (.bipush 10, 2) := by decide +kernel
theorem dX11_isOf_18 : decode cX11_isOf 18 = .ok (.isub, 1) := by decide +kernel
theorem dX11_isOf_19 : decode cX11_isOf 19 = .ok (.iload_n 2, 1) := by decide +kernel
theorem dX11_isOf_20 : decode cX11_isOf 20 = .ok (.if_icmp .ge 7, 3) := by decide +kernel
theorem dX11_isOf_23 : decode cX11_isOf 23 = .ok (.iconst 1, 1) := by decide +kernel
theorem dX11_isOf_24 : decode cX11_isOf 24 = .ok (.goto 4, 3) := by decide +kernel
theorem dX11_isOf_27 : decode cX11_isOf 27 = .ok (.iconst 0, 1) := by decide +kernel
theorem dX11_isOf_28 : decode cX11_isOf 28 = .ok (.ireturn, 1) := by decide +kernel
theorem dX11_isStory_0 : decode cX11_isStory 0 = .ok (.aload_n 0, 1) := by decide +kernel
theorem dX11_isStory_1 : decode cX11_isStory 1 = .ok (.getfield 26, 3) := by decide +kernel
theorem dX11_isStory_4 : decode cX11_isStory 4 = .ok (.getfield 168, 3) := by decide +kernel
theorem dX11_isStory_7 : decode cX11_isStory 7 = .ok (.iload_n 1, 1) := by decide +kernel
theorem dX11_isStory_8 : decode cX11_isStory 8 = .ok (.invokevirtual 211, 3) := by decide +kernel
theorem dX11_isStory_11 : decode cX11_isStory 11 = .ok (.ifCond .eq 22, 3) := by decide +kernel
theorem dX11_isStory_14 : decode cX11_isStory 14 = .ok (.iload_n 2, 1) := by decide +kernel
theorem dX11_isStory_15 : decode cX11_isStory 15 = .ok (.ifCond .eq 14, 3) := by decide +kernel
theorem dX11_isStory_18 : decode cX11_isStory 18 = .ok (.aload_n 0, 1) := by decide +kernel
theorem dX11_isStory_19 : decode cX11_isStory 19 = .ok (.getfield 10, 3) := by decide +kernel
theorem dX11_isStory_22 : decode cX11_isStory 22 = .ok (.iload_n 2, 1) := by decide +kernel
theorem dX11_isStory_23 : decode cX11_isStory 23 = .ok (.invokevirtual 149, 3) := by decide +kernel
theorem dX11_isStory_26 : decode cX11_isStory 26 = .ok (.ifCond .eq 7, 3) := by decide +kernel
theorem dX11_isStory_29 : decode cX11_isStory 29 = .ok (.iconst 1, 1) := by decide +kernel
theorem dX11_isStory_30 : decode cX11_isStory 30 = .ok (.goto 4, 3) := by decide +kernel
theorem dX11_isStory_33 : decode cX11_isStory 33 = .ok (.iconst 0, 1) := by decide +kernel
theorem dX11_isStory_34 : decode cX11_isStory 34 = .ok (.ireturn, 1) := by decide +kernel
theorem dX11_isSheet_0 : decode cX11_isSheet 0 = .ok (.iload_n 1, 1) := by decide +kernel
theorem dX11_isSheet_1 : decode cX11_isSheet 1 = .ok (.ifCond .lt 16, 3) := by decide +kernel
theorem dX11_isSheet_4 : decode cX11_isSheet 4 = .ok (.iload_n 1, 1) := by decide +kernel
theorem dX11_isSheet_5 : decode cX11_isSheet 5 = .ok (.aload_n 0, 1) := by decide +kernel
theorem dX11_isSheet_6 : decode cX11_isSheet 6 = .ok (.getfield 87, 3) := by decide +kernel
theorem dX11_isSheet_9 : decode cX11_isSheet 9 = .ok (.arraylength, 1) := by decide +kernel
theorem dX11_isSheet_10 : decode cX11_isSheet 10 = .ok (.if_icmp .ge 7, 3) := by decide +kernel
theorem dX11_isSheet_13 : decode cX11_isSheet 13 = .ok (.iconst 1, 1) := by decide +kernel
theorem dX11_isSheet_14 : decode cX11_isSheet 14 = .ok (.goto 4, 3) := by decide +kernel
theorem dX11_isSheet_17 : decode cX11_isSheet 17 = .ok (.iconst 0, 1) := by decide +kernel
theorem dX11_isSheet_18 : decode cX11_isSheet 18 = .ok (.ireturn, 1) := by decide +kernel
theorem dX11_isLane_0 : decode cX11_isLane 0 = .ok (.iload_n 0, 1) := by decide +kernel
theorem dX11_isLane_1 : decode cX11_isLane 1 = .ok (.ifCond .lt 12, 3) := by decide +kernel
theorem dX11_isLane_4 : decode cX11_isLane 4 = .ok (.iload_n 0, 1) := by decide +kernel
theorem dX11_isLane_5 : decode cX11_isLane 5 = .ok (.iconst 2, 1) := by decide +kernel
theorem dX11_isLane_6 : decode cX11_isLane 6 = .ok (.if_icmp .gt 7, 3) := by decide +kernel
theorem dX11_isLane_9 : decode cX11_isLane 9 = .ok (.iconst 1, 1) := by decide +kernel
theorem dX11_isLane_10 : decode cX11_isLane 10 = .ok (.goto 4, 3) := by decide +kernel
theorem dX11_isLane_13 : decode cX11_isLane 13 = .ok (.iconst 0, 1) := by decide +kernel
theorem dX11_isLane_14 : decode cX11_isLane 14 = .ok (.ireturn, 1) := by decide +kernel
theorem dX11_feed_0 : decode cX11_feed 0 = .ok (.aload_n 0, 1) := by decide +kernel
theorem dX11_feed_1 : decode cX11_feed 1 = .ok (.getfield 19, 3) := by decide +kernel
theorem dX11_feed_4 : decode cX11_feed 4 = .ok (.lload_n 1, 1) := by decide +kernel
theorem dX11_feed_5 : decode cX11_feed 5 = .ok (.invokevirtual 102, 3) := by decide +kernel
theorem dX11_feed_8 : decode cX11_feed 8 = .ok (.ifCond .eq 13, 3) := by decide +kernel
theorem dX11_feed_11 : decode cX11_feed 11 = .ok (.aload_n 0, 1) := by decide +kernel
theorem dX11_feed_12 : decode cX11_feed 12 = .ok (.getfield 19, 3) := by decide +kernel
theorem dX11_feed_15 : decode cX11_feed 15 = .ok (.getfield 106, 3) := by decide +kernel
theorem dX11_feed_18 : decode cX11_feed 18 = .ok (.goto 5, 3) := by decide +kernel
theorem dX11_feed_21 : decode cX11_feed 21 = .ok (.bipush (-3), 2) := by decide +kernel
theorem dX11_feed_23 : decode cX11_feed 23 = .ok (.ireturn, 1) := by decide +kernel
theorem dX11_end_0 : decode cX11_end 0 = .ok (.iload_n 1, 1) := by decide +kernel
theorem dX11_end_1 : decode cX11_end 1 = .ok (.ifCond .lt 14, 3) := by decide +kernel
theorem dX11_end_4 : decode cX11_end 4 = .ok (.iload_n 1, 1) := by decide +kernel
theorem dX11_end_5 : decode cX11_end 5 = .ok (.aload_n 0, 1) := by decide +kernel
theorem dX11_end_6 : decode cX11_end 6 = .ok (.getfield 19, 3) := by decide +kernel
theorem dX11_end_9 : decode cX11_end 9 = .ok (.getfield 106, 3) := by decide +kernel
theorem dX11_end_12 : decode cX11_end 12 = .ok (.if_icmp .le 5, 3) := by decide +kernel
theorem dX11_end_15 : decode cX11_end 15 = .ok (.iconst (-1), 1) := by decide +kernel
theorem dX11_end_16 : decode cX11_end 16 = .ok (.ireturn, 1) := by decide +kernel
theorem dX11_end_17 : decode cX11_end 17 = .ok (.aload_n 0, 1) := by decide +kernel
theorem dX11_end_18 : decode cX11_end 18 = .ok (.getfield 19, 3) := by decide +kernel
theorem dX11_end_21 : decode cX11_end 21 = .ok (.getfield 106, 3) := by decide +kernel
theorem dX11_end_24 : decode cX11_end 24 = .ok (.istore_n 2, 1) := by decide +kernel
theorem dX11_end_25 : decode cX11_end 25 = .ok (.aload_n 0, 1) := by decide +kernel
theorem dX11_end_26 : decode cX11_end 26 = .ok (.getfield 19, 3) := by decide +kernel
theorem dX11_end_29 : decode cX11_end 29 = .ok (.iload_n 1, 1) := by decide +kernel
theorem dX11_end_30 : decode cX11_end 30 = .ok (.putfield 106, 3) := by decide +kernel
theorem dX11_end_33 : decode cX11_end 33 = .ok (.iload_n 2, 1) := by decide +kernel
theorem dX11_end_34 : decode cX11_end 34 = .ok (.ireturn, 1) := by decide +kernel
theorem dX11_text_0 : decode cX11_text 0 = .ok (.aload_n 0, 1) := by decide +kernel
theorem dX11_text_1 : decode cX11_text 1 = .ok (.getfield 19, 3) := by decide +kernel
theorem dX11_text_4 : decode cX11_text 4 = .ok (.invokevirtual 109, 3) := by decide +kernel
theorem dX11_text_7 : decode cX11_text 7 = .ok (.aload_n 0, 1) := by decide +kernel
theorem dX11_text_8 : decode cX11_text 8 = .ok (.getfield 19, 3) := by decide +kernel
theorem dX11_text_11 : decode cX11_text 11 = .ok (.iconst 0, 1) := by decide +kernel
theorem dX11_text_12 : decode cX11_text 12 = .ok (.putfield 106, 3) := by decide +kernel
theorem dX11_text_15 : decode cX11_text 15 = .ok (.aload_n 0, 1) := by decide +kernel
theorem dX11_text_16 : decode cX11_text 16 = .ok (.aload_n 0, 1) := by decide +kernel
theorem dX11_text_17 : decode cX11_text 17 = .ok (.getfield 19, 3) := by decide +kernel
theorem dX11_text_20 : decode cX11_text 20 = .ok (.getfield 112, 3) := by decide +kernel
theorem dX11_text_23 : decode cX11_text 23 = .ok (.putfield 91, 3) := by decide +kernel
theorem dX11_text_26 : decode cX11_text 26 = .ok (.aload_n 0, 1) := by decide +kernel
theorem dX11_text_27 : decode cX11_text 27 = .ok (.getfield 91, 3) := by decide +kernel
theorem dX11_text_30 : decode cX11_text 30 = .ok (.ifCond .eq 14, 3) := by decide +kernel
theorem dX11_text_33 : decode cX11_text 33 = .ok (.bipush (-10), 2) := by decide +kernel
theorem dX11_text_35 : decode cX11_text 35 = .ok (.aload_n 0, 1) := by decide +kernel
theorem dX11_text_36 : decode cX11_text 36 = .ok (.getfield 19, 3) := by decide +kernel
theorem dX11_text_39 : decode cX11_text 39 = .ok (.getfield 115, 3) := by decide +kernel
theorem dX11_text_42 : decode cX11_text 42 = .ok (.isub, 1) := by decide +kernel
theorem dX11_text_43 : decode cX11_text 43 = .ok (.ireturn, 1) := by decide +kernel
theorem dX11_text_44 : decode cX11_text 44 = .ok (.aload_n 0, 1) := by decide +kernel
theorem dX11_text_45 : decode cX11_text 45 = .ok (.getfield 10, 3) := by decide +kernel
theorem dX11_text_48 : decode cX11_text 48 = .ok (.aload_n 0, 1) := by decide +kernel
theorem dX11_text_49 : decode cX11_text 49 = .ok (.getfield 19, 3) := by decide +kernel
theorem dX11_text_52 : decode cX11_text 52 = .ok (.getfield 118, 3) := by decide +kernel
theorem dX11_text_55 : decode cX11_text 55 = .ok (.invokevirtual 121, 3) := by decide +kernel
theorem dX11_text_58 : decode cX11_text 58 = .ok (.aload_n 0, 1) := by decide +kernel
theorem dX11_text_59 : decode cX11_text 59 = .ok (.getfield 26, 3) := by decide +kernel
theorem dX11_text_62 : decode cX11_text 62 = .ok (.aload_n 0, 1) := by decide +kernel
theorem dX11_text_63 : decode cX11_text 63 = .ok (.getfield 10, 3) := by decide +kernel
theorem dX11_text_66 : decode cX11_text 66 = .ok (.invokevirtual 99, 3) := by decide +kernel
theorem dX11_text_69 : decode cX11_text 69 = .ok (.aload_n 0, 1) := by decide +kernel
theorem dX11_text_70 : decode cX11_text 70 = .ok (.getfield 30, 3) := by decide +kernel
theorem dX11_text_73 : decode cX11_text 73 = .ok (.iconst 0, 1) := by decide +kernel
theorem dX11_text_74 : decode cX11_text 74 = .ok (.putfield 124, 3) := by decide +kernel
theorem dX11_text_77 : decode cX11_text 77 = .ok (.aload_n 0, 1) := by decide +kernel
theorem dX11_text_78 : decode cX11_text 78 = .ok (.getfield 33, 3) := by decide +kernel
theorem dX11_text_81 : decode cX11_text 81 = .ok (.iconst 0, 1) := by decide +kernel
theorem dX11_text_82 : decode cX11_text 82 = .ok (.putfield 124, 3) := by decide +kernel
theorem dX11_text_85 : decode cX11_text 85 = .ok (.aload_n 0, 1) := by decide +kernel
theorem dX11_text_86 : decode cX11_text 86 = .ok (.getfield 67, 3) := by decide +kernel
theorem dX11_text_89 : decode cX11_text 89 = .ok (.invokevirtual 128, 3) := by decide +kernel
theorem dX11_text_92 : decode cX11_text 92 = .ok (.aload_n 0, 1) := by decide +kernel
theorem dX11_text_93 : decode cX11_text 93 = .ok (.getfield 74, 3) := by decide +kernel
theorem dX11_text_96 : decode cX11_text 96 = .ok (.invokevirtual 131, 3) := by decide +kernel
theorem dX11_text_99 : decode cX11_text 99 = .ok (.aload_n 0, 1) := by decide +kernel
theorem dX11_text_100 : decode cX11_text 100 = .ok (.getfield 81, 3) := by decide +kernel
theorem dX11_text_103 : decode cX11_text 103 = .ok (.invokevirtual 132, 3) := by decide +kernel
theorem dX11_text_106 : decode cX11_text 106 = .ok (.aload_n 0, 1) := by decide +kernel
theorem dX11_text_107 : decode cX11_text 107 = .ok (.getfield 19, 3) := by decide +kernel
theorem dX11_text_110 : decode cX11_text 110 = .ok (.getfield 133, 3) := by decide +kernel
theorem dX11_text_113 : decode cX11_text 113 = .ok (.ireturn, 1) := by decide +kernel
theorem dX11_fault_0 : decode cX11_fault 0 = .ok (.aload_n 0, 1) := by decide +kernel
theorem dX11_fault_1 : decode cX11_fault 1 = .ok (.getfield 91, 3) := by decide +kernel
theorem dX11_fault_4 : decode cX11_fault 4 = .ok (.ireturn, 1) := by decide +kernel
theorem dX11_rule_0 : decode cX11_rule 0 = .ok (.iload_n 1, 1) := by decide +kernel
theorem dX11_rule_1 : decode cX11_rule 1 = .ok (.iconst 5, 1) := by decide +kernel
theorem dX11_rule_2 : decode cX11_rule 2 = .ok (.if_icmp .ne 11, 3) := by decide +kernel
theorem dX11_rule_5 : decode cX11_rule 5 = .ok (.aload_n 0, 1) := by decide +kernel
theorem dX11_rule_6 : decode cX11_rule 6 = .ok (.getfield 26, 3) := by decide +kernel
theorem dX11_rule_9 : decode cX11_rule 9 = .ok (.getfield 136, 3) := by decide +kernel
theorem dX11_rule_12 : decode cX11_rule 12 = .ok (.ireturn, 1) := by decide +kernel
theorem dX11_rule_13 : decode cX11_rule 13 = .ok (.iload_n 1, 1) := by decide +kernel
theorem dX11_rule_14 : decode cX11_rule 14 = .ok (.bipush 6, 2) := by decide +kernel
theorem dX11_rule_16 : decode cX11_rule 16 = .ok (.if_icmp .ne 11, 3) := by decide +kernel
theorem dX11_rule_19 : decode cX11_rule 19 = .ok (.aload_n 0, 1) := by decide +kernel
theorem dX11_rule_20 : decode cX11_rule 20 = .ok (.getfield 26, 3) := by decide +kernel
theorem dX11_rule_23 : decode cX11_rule 23 = .ok (.getfield 139, 3) := by decide +kernel
theorem dX11_rule_26 : decode cX11_rule 26 = .ok (.ireturn, 1) := by decide +kernel
theorem dX11_rule_27 : decode cX11_rule 27 = .ok (.iload_n 1, 1) := by decide +kernel
theorem dX11_rule_28 : decode cX11_rule 28 = .ok (.ifCond .lt 19, 3) := by decide +kernel
theorem dX11_rule_31 : decode cX11_rule 31 = .ok (.iload_n 1, 1) := by decide +kernel
theorem dX11_rule_32 : decode cX11_rule 32 = .ok (.bipush 9, 2) := by decide +kernel
theorem dX11_rule_34 : decode cX11_rule 34 = .ok (.if_icmp .ge 13, 3) := by decide +kernel
theorem dX11_rule_37 : decode cX11_rule 37 = .ok (.aload_n 0, 1) := by decide +kernel
theorem dX11_rule_38 : decode cX11_rule 38 = .ok (.getfield 10, 3) := by decide +kernel
theorem dX11_rule_41 : decode cX11_rule 41 = .ok (.getfield 142, 3) := by decide +kernel
theorem dX11_rule_44 : decode cX11_rule 44 = .ok (.iload_n 1, 1) := by decide +kernel
theorem dX11_rule_45 : decode cX11_rule 45 = .ok (.iaload, 1) := by decide +kernel
theorem dX11_rule_46 : decode cX11_rule 46 = .ok (.ireturn, 1) := by decide +kernel
theorem dX11_rule_47 : decode cX11_rule 47 = .ok (.iload_n 1, 1) := by decide +kernel
theorem dX11_rule_48 : decode cX11_rule 48 = .ok (.bipush 10, 2) := by decide +kernel
theorem dX11_rule_50 : decode cX11_rule 50 = .ok (.isub, 1) := by decide +kernel
theorem dX11_rule_51 : decode cX11_rule 51 = .ok (.istore_n 2, 1) := by decide +kernel
theorem dX11_rule_52 : decode cX11_rule 52 = .ok (.iload_n 1, 1) := by decide +kernel
theorem dX11_rule_53 : decode cX11_rule 53 = .ok (.bipush 10, 2) := by decide +kernel
theorem dX11_rule_55 : decode cX11_rule 55 = .ok (.if_icmp .le 21, 3) := by decide +kernel
theorem dX11_rule_58 : decode cX11_rule 58 = .ok (.iload_n 2, 1) := by decide +kernel
theorem dX11_rule_59 : decode cX11_rule 59 = .ok (.bipush 10, 2) := by decide +kernel
theorem dX11_rule_61 : decode cX11_rule 61 = .ok (.if_icmp .gt 15, 3) := by decide +kernel
theorem dX11_rule_64 : decode cX11_rule 64 = .ok (.aload_n 0, 1) := by decide +kernel
theorem dX11_rule_65 : decode cX11_rule 65 = .ok (.getfield 26, 3) := by decide +kernel
theorem dX11_rule_68 : decode cX11_rule 68 = .ok (.getfield 146, 3) := by decide +kernel
theorem dX11_rule_71 : decode cX11_rule 71 = .ok (.iload_n 2, 1) := by decide +kernel
theorem dX11_rule_72 : decode cX11_rule 72 = .ok (.iaload, 1) := by decide +kernel
theorem dX11_rule_73 : decode cX11_rule 73 = .ok (.goto 4, 3) := by decide +kernel
theorem dX11_rule_76 : decode cX11_rule 76 = .ok (.iconst (-1), 1) := by decide +kernel
theorem dX11_rule_77 : decode cX11_rule 77 = .ok (.ireturn, 1) := by decide +kernel
theorem dX11_foot_0 : decode cX11_foot 0 = .ok (.aload_n 0, 1) := by decide +kernel
theorem dX11_foot_1 : decode cX11_foot 1 = .ok (.getfield 10, 3) := by decide +kernel
theorem dX11_foot_4 : decode cX11_foot 4 = .ok (.iload_n 1, 1) := by decide +kernel
theorem dX11_foot_5 : decode cX11_foot 5 = .ok (.invokevirtual 149, 3) := by decide +kernel
theorem dX11_foot_8 : decode cX11_foot 8 = .ok (.ifCond .ne 5, 3) := by decide +kernel
theorem dX11_foot_11 : decode cX11_foot 11 = .ok (.iconst (-1), 1) := by decide +kernel
theorem dX11_foot_12 : decode cX11_foot 12 = .ok (.ireturn, 1) := by decide +kernel
theorem dX11_foot_13 : decode cX11_foot 13 = .ok (.iload_n 2, 1) := by decide +kernel
theorem dX11_foot_14 : decode cX11_foot 14 = .ok (.tableswitch 100 0 5 #[38, 48, 58, 68, 78, 88], 38) := by decide +kernel
theorem dX11_foot_52 : decode cX11_foot 52 = .ok (.aload_n 0, 1) := by decide +kernel
theorem dX11_foot_53 : decode cX11_foot 53 = .ok (.getfield 10, 3) := by decide +kernel
theorem dX11_foot_56 : decode cX11_foot 56 = .ok (.getfield 153, 3) := by decide +kernel
theorem dX11_foot_59 : decode cX11_foot 59 = .ok (.iload_n 1, 1) := by decide +kernel
theorem dX11_foot_60 : decode cX11_foot 60 = .ok (.iaload, 1) := by decide +kernel
theorem dX11_foot_61 : decode cX11_foot 61 = .ok (.ireturn, 1) := by decide +kernel
theorem dX11_foot_62 : decode cX11_foot 62 = .ok (.aload_n 0, 1) := by decide +kernel
theorem dX11_foot_63 : decode cX11_foot 63 = .ok (.getfield 10, 3) := by decide +kernel
theorem dX11_foot_66 : decode cX11_foot 66 = .ok (.getfield 156, 3) := by decide +kernel
theorem dX11_foot_69 : decode cX11_foot 69 = .ok (.iload_n 1, 1) := by decide +kernel
theorem dX11_foot_70 : decode cX11_foot 70 = .ok (.iaload, 1) := by decide +kernel
theorem dX11_foot_71 : decode cX11_foot 71 = .ok (.ireturn, 1) := by decide +kernel
theorem dX11_foot_72 : decode cX11_foot 72 = .ok (.aload_n 0, 1) := by decide +kernel
theorem dX11_foot_73 : decode cX11_foot 73 = .ok (.getfield 10, 3) := by decide +kernel
theorem dX11_foot_76 : decode cX11_foot 76 = .ok (.getfield 159, 3) := by decide +kernel
theorem dX11_foot_79 : decode cX11_foot 79 = .ok (.iload_n 1, 1) := by decide +kernel
theorem dX11_foot_80 : decode cX11_foot 80 = .ok (.iaload, 1) := by decide +kernel
theorem dX11_foot_81 : decode cX11_foot 81 = .ok (.ireturn, 1) := by decide +kernel
theorem dX11_foot_82 : decode cX11_foot 82 = .ok (.aload_n 0, 1) := by decide +kernel
theorem dX11_foot_83 : decode cX11_foot 83 = .ok (.getfield 10, 3) := by decide +kernel
theorem dX11_foot_86 : decode cX11_foot 86 = .ok (.getfield 162, 3) := by decide +kernel
theorem dX11_foot_89 : decode cX11_foot 89 = .ok (.iload_n 1, 1) := by decide +kernel
theorem dX11_foot_90 : decode cX11_foot 90 = .ok (.iaload, 1) := by decide +kernel
theorem dX11_foot_91 : decode cX11_foot 91 = .ok (.ireturn, 1) := by decide +kernel
theorem dX11_foot_92 : decode cX11_foot 92 = .ok (.aload_n 0, 1) := by decide +kernel
theorem dX11_foot_93 : decode cX11_foot 93 = .ok (.getfield 10, 3) := by decide +kernel
theorem dX11_foot_96 : decode cX11_foot 96 = .ok (.getfield 165, 3) := by decide +kernel
theorem dX11_foot_99 : decode cX11_foot 99 = .ok (.iload_n 1, 1) := by decide +kernel
theorem dX11_foot_100 : decode cX11_foot 100 = .ok (.iaload, 1) := by decide +kernel
theorem dX11_foot_101 : decode cX11_foot 101 = .ok (.ireturn, 1) := by decide +kernel
theorem dX11_foot_102 : decode cX11_foot 102 = .ok (.aload_n 0, 1) := by decide +kernel
theorem dX11_foot_103 : decode cX11_foot 103 = .ok (.getfield 26, 3) := by decide +kernel
theorem dX11_foot_106 : decode cX11_foot 106 = .ok (.getfield 168, 3) := by decide +kernel
theorem dX11_foot_109 : decode cX11_foot 109 = .ok (.iload_n 1, 1) := by decide +kernel
theorem dX11_foot_110 : decode cX11_foot 110 = .ok (.invokevirtual 172, 3) := by decide +kernel
theorem dX11_foot_113 : decode cX11_foot 113 = .ok (.ireturn, 1) := by decide +kernel
theorem dX11_foot_114 : decode cX11_foot 114 = .ok (.iconst (-1), 1) := by decide +kernel
theorem dX11_foot_115 : decode cX11_foot 115 = .ok (.ireturn, 1) := by decide +kernel
theorem dX11_put_0 : decode cX11_put 0 = .ok (.aload_n 0, 1) := by decide +kernel
theorem dX11_put_1 : decode cX11_put 1 = .ok (.getfield 26, 3) := by decide +kernel
theorem dX11_put_4 : decode cX11_put 4 = .ok (.aload_n 0, 1) := by decide +kernel
theorem dX11_put_5 : decode cX11_put 5 = .ok (.getfield 10, 3) := by decide +kernel
theorem dX11_put_8 : decode cX11_put 8 = .ok (.iload_n 1, 1) := by decide +kernel
theorem dX11_put_9 : decode cX11_put 9 = .ok (.iload_n 2, 1) := by decide +kernel
theorem dX11_put_10 : decode cX11_put 10 = .ok (.invokevirtual 178, 3) := by decide +kernel
theorem dX11_put_13 : decode cX11_put 13 = .ok (.ireturn, 1) := by decide +kernel
theorem dX11_take_0 : decode cX11_take 0 = .ok (.aload_n 0, 1) := by decide +kernel
theorem dX11_take_1 : decode cX11_take 1 = .ok (.getfield 10, 3) := by decide +kernel
theorem dX11_take_4 : decode cX11_take 4 = .ok (.iload_n 1, 1) := by decide +kernel
theorem dX11_take_5 : decode cX11_take 5 = .ok (.invokevirtual 149, 3) := by decide +kernel
theorem dX11_take_8 : decode cX11_take 8 = .ok (.ifCond .ne 5, 3) := by decide +kernel
theorem dX11_take_11 : decode cX11_take 11 = .ok (.iconst (-1), 1) := by decide +kernel
theorem dX11_take_12 : decode cX11_take 12 = .ok (.ireturn, 1) := by decide +kernel
theorem dX11_take_13 : decode cX11_take 13 = .ok (.aload_n 0, 1) := by decide +kernel
theorem dX11_take_14 : decode cX11_take 14 = .ok (.getfield 26, 3) := by decide +kernel
theorem dX11_take_17 : decode cX11_take 17 = .ok (.getfield 168, 3) := by decide +kernel
theorem dX11_take_20 : decode cX11_take 20 = .ok (.iload_n 1, 1) := by decide +kernel
theorem dX11_take_21 : decode cX11_take 21 = .ok (.invokevirtual 172, 3) := by decide +kernel
theorem dX11_take_24 : decode cX11_take 24 = .ok (.istore_n 2, 1) := by decide +kernel
theorem dX11_take_25 : decode cX11_take 25 = .ok (.iload_n 2, 1) := by decide +kernel
theorem dX11_take_26 : decode cX11_take 26 = .ok (.ifCond .ge 8, 3) := by decide +kernel
theorem dX11_take_29 : decode cX11_take 29 = .ok (.bipush (-4), 2) := by decide +kernel
theorem dX11_take_31 : decode cX11_take 31 = .ok (.goto 11, 3) := by decide +kernel
theorem dX11_take_34 : decode cX11_take 34 = .ok (.aload_n 0, 1) := by decide +kernel
theorem dX11_take_35 : decode cX11_take 35 = .ok (.getfield 26, 3) := by decide +kernel
theorem dX11_take_38 : decode cX11_take 38 = .ok (.iload_n 2, 1) := by decide +kernel
theorem dX11_take_39 : decode cX11_take 39 = .ok (.invokevirtual 181, 3) := by decide +kernel
theorem dX11_take_42 : decode cX11_take 42 = .ok (.ireturn, 1) := by decide +kernel
theorem dX11_sling_0 : decode cX11_sling 0 = .ok (.aload_n 0, 1) := by decide +kernel
theorem dX11_sling_1 : decode cX11_sling 1 = .ok (.getfield 10, 3) := by decide +kernel
theorem dX11_sling_4 : decode cX11_sling 4 = .ok (.iload_n 1, 1) := by decide +kernel
theorem dX11_sling_5 : decode cX11_sling 5 = .ok (.invokevirtual 149, 3) := by decide +kernel
theorem dX11_sling_8 : decode cX11_sling 8 = .ok (.ifCond .ne 5, 3) := by decide +kernel
theorem dX11_sling_11 : decode cX11_sling 11 = .ok (.iconst (-1), 1) := by decide +kernel
theorem dX11_sling_12 : decode cX11_sling 12 = .ok (.ireturn, 1) := by decide +kernel
theorem dX11_sling_13 : decode cX11_sling 13 = .ok (.aload_n 0, 1) := by decide +kernel
theorem dX11_sling_14 : decode cX11_sling 14 = .ok (.getfield 26, 3) := by decide +kernel
theorem dX11_sling_17 : decode cX11_sling 17 = .ok (.getfield 168, 3) := by decide +kernel
theorem dX11_sling_20 : decode cX11_sling 20 = .ok (.iload_n 1, 1) := by decide +kernel
theorem dX11_sling_21 : decode cX11_sling 21 = .ok (.invokevirtual 172, 3) := by decide +kernel
theorem dX11_sling_24 : decode cX11_sling 24 = .ok (.istore_n 3, 1) := by decide +kernel
theorem dX11_sling_25 : decode cX11_sling 25 = .ok (.iload_n 3, 1) := by decide +kernel
theorem dX11_sling_26 : decode cX11_sling 26 = .ok (.ifCond .ge 6, 3) := by decide +kernel
theorem dX11_sling_29 : decode cX11_sling 29 = .ok (.bipush (-4), 2) := by decide +kernel
theorem dX11_sling_31 : decode cX11_sling 31 = .ok (.ireturn, 1) := by decide +kernel
theorem dX11_sling_32 : decode cX11_sling 32 = .ok (.aload_n 0, 1) := by decide +kernel
theorem dX11_sling_33 : decode cX11_sling 33 = .ok (.getfield 26, 3) := by decide +kernel
theorem dX11_sling_36 : decode cX11_sling 36 = .ok (.getfield 168, 3) := by decide +kernel
theorem dX11_sling_39 : decode cX11_sling 39 = .ok (.getfield 184, 3) := by decide +kernel
theorem dX11_sling_42 : decode cX11_sling 42 = .ok (.iload_n 3, 1) := by decide +kernel
theorem dX11_sling_43 : decode cX11_sling 43 = .ok (.iaload, 1) := by decide +kernel
theorem dX11_sling_44 : decode cX11_sling 44 = .ok (.istore 4, 2) := by decide +kernel
theorem dX11_sling_46 : decode cX11_sling 46 = .ok (.aload_n 0, 1) := by decide +kernel
theorem dX11_sling_47 : decode cX11_sling 47 = .ok (.getfield 26, 3) := by decide +kernel
theorem dX11_sling_50 : decode cX11_sling 50 = .ok (.getfield 168, 3) := by decide +kernel
theorem dX11_sling_53 : decode cX11_sling 53 = .ok (.getfield 184, 3) := by decide +kernel
theorem dX11_sling_56 : decode cX11_sling 56 = .ok (.iload_n 3, 1) := by decide +kernel
theorem dX11_sling_57 : decode cX11_sling 57 = .ok (.iload_n 2, 1) := by decide +kernel
theorem dX11_sling_58 : decode cX11_sling 58 = .ok (.ifCond .eq 7, 3) := by decide +kernel
theorem dX11_sling_61 : decode cX11_sling 61 = .ok (.iconst 1, 1) := by decide +kernel
theorem dX11_sling_62 : decode cX11_sling 62 = .ok (.goto 4, 3) := by decide +kernel
theorem dX11_sling_65 : decode cX11_sling 65 = .ok (.iconst 0, 1) := by decide +kernel
theorem dX11_sling_66 : decode cX11_sling 66 = .ok (.iastore, 1) := by decide +kernel
theorem dX11_sling_67 : decode cX11_sling 67 = .ok (.iload 4, 2) := by decide +kernel
theorem dX11_sling_69 : decode cX11_sling 69 = .ok (.ireturn, 1) := by decide +kernel
theorem dX11_piece_0 : decode cX11_piece 0 = .ok (.aload_n 0, 1) := by decide +kernel
theorem dX11_piece_1 : decode cX11_piece 1 = .ok (.getfield 26, 3) := by decide +kernel
theorem dX11_piece_4 : decode cX11_piece 4 = .ok (.getfield 168, 3) := by decide +kernel
theorem dX11_piece_7 : decode cX11_piece 7 = .ok (.astore_n 3, 1) := by decide +kernel
theorem dX11_piece_8 : decode cX11_piece 8 = .ok (.iload_n 1, 1) := by decide +kernel
theorem dX11_piece_9 : decode cX11_piece 9 = .ok (.ifCond .lt 11, 3) := by decide +kernel
theorem dX11_piece_12 : decode cX11_piece 12 = .ok (.iload_n 1, 1) := by decide +kernel
theorem dX11_piece_13 : decode cX11_piece 13 = .ok (.aload_n 3, 1) := by decide +kernel
theorem dX11_piece_14 : decode cX11_piece 14 = .ok (.getfield 187, 3) := by decide +kernel
theorem dX11_piece_17 : decode cX11_piece 17 = .ok (.if_icmp .lt 5, 3) := by decide +kernel
theorem dX11_piece_20 : decode cX11_piece 20 = .ok (.iconst (-1), 1) := by decide +kernel
theorem dX11_piece_21 : decode cX11_piece 21 = .ok (.ireturn, 1) := by decide +kernel
theorem dX11_piece_22 : decode cX11_piece 22 = .ok (.iload_n 2, 1) := by decide +kernel
theorem dX11_piece_23 : decode cX11_piece 23 = .ok (.tableswitch 121 0 6 #[41, 48, 55, 68, 86, 93, 111], 41) := by decide +kernel
theorem dX11_piece_64 : decode cX11_piece 64 = .ok (.aload_n 3, 1) := by decide +kernel
theorem dX11_piece_65 : decode cX11_piece 65 = .ok (.getfield 190, 3) := by decide +kernel
theorem dX11_piece_68 : decode cX11_piece 68 = .ok (.iload_n 1, 1) := by decide +kernel
theorem dX11_piece_69 : decode cX11_piece 69 = .ok (.iaload, 1) := by decide +kernel
theorem dX11_piece_70 : decode cX11_piece 70 = .ok (.ireturn, 1) := by decide +kernel
theorem dX11_piece_71 : decode cX11_piece 71 = .ok (.aload_n 3, 1) := by decide +kernel
theorem dX11_piece_72 : decode cX11_piece 72 = .ok (.getfield 193, 3) := by decide +kernel
theorem dX11_piece_75 : decode cX11_piece 75 = .ok (.iload_n 1, 1) := by decide +kernel
theorem dX11_piece_76 : decode cX11_piece 76 = .ok (.iaload, 1) := by decide +kernel
theorem dX11_piece_77 : decode cX11_piece 77 = .ok (.ireturn, 1) := by decide +kernel
theorem dX11_piece_78 : decode cX11_piece 78 = .ok (.aload_n 0, 1) := by decide +kernel
theorem dX11_piece_79 : decode cX11_piece 79 = .ok (.getfield 26, 3) := by decide +kernel
theorem dX11_piece_82 : decode cX11_piece 82 = .ok (.aload_n 0, 1) := by decide +kernel
theorem dX11_piece_83 : decode cX11_piece 83 = .ok (.getfield 10, 3) := by decide +kernel
theorem dX11_piece_86 : decode cX11_piece 86 = .ok (.iload_n 1, 1) := by decide +kernel
theorem dX11_piece_87 : decode cX11_piece 87 = .ok (.invokevirtual 196, 3) := by decide +kernel
theorem dX11_piece_90 : decode cX11_piece 90 = .ok (.ireturn, 1) := by decide +kernel
theorem dX11_piece_91 : decode cX11_piece 91 = .ok (.aload_n 3, 1) := by decide +kernel
theorem dX11_piece_92 : decode cX11_piece 92 = .ok (.getfield 193, 3) := by decide +kernel
theorem dX11_piece_95 : decode cX11_piece 95 = .ok (.iload_n 1, 1) := by decide +kernel
theorem dX11_piece_96 : decode cX11_piece 96 = .ok (.iaload, 1) := by decide +kernel
theorem dX11_piece_97 : decode cX11_piece 97 = .ok (.aload_n 0, 1) := by decide +kernel
theorem dX11_piece_98 : decode cX11_piece 98 = .ok (.getfield 10, 3) := by decide +kernel
theorem dX11_piece_101 : decode cX11_piece 101 = .ok (.getfield 142, 3) := by decide +kernel
theorem dX11_piece_104 : decode cX11_piece 104 = .ok (.bipush 7, 2) := by decide +kernel
theorem dX11_piece_106 : decode cX11_piece 106 = .ok (.iaload, 1) := by decide +kernel
theorem dX11_piece_107 : decode cX11_piece 107 = .ok (.iadd, 1) := by decide +kernel
theorem dX11_piece_108 : decode cX11_piece 108 = .ok (.ireturn, 1) := by decide +kernel
theorem dX11_piece_109 : decode cX11_piece 109 = .ok (.aload_n 3, 1) := by decide +kernel
theorem dX11_piece_110 : decode cX11_piece 110 = .ok (.getfield 184, 3) := by decide +kernel
theorem dX11_piece_113 : decode cX11_piece 113 = .ok (.iload_n 1, 1) := by decide +kernel
theorem dX11_piece_114 : decode cX11_piece 114 = .ok (.iaload, 1) := by decide +kernel
theorem dX11_piece_115 : decode cX11_piece 115 = .ok (.ireturn, 1) := by decide +kernel
theorem dX11_piece_116 : decode cX11_piece 116 = .ok (.aload_n 3, 1) := by decide +kernel
theorem dX11_piece_117 : decode cX11_piece 117 = .ok (.aload_n 0, 1) := by decide +kernel
theorem dX11_piece_118 : decode cX11_piece 118 = .ok (.getfield 10, 3) := by decide +kernel
theorem dX11_piece_121 : decode cX11_piece 121 = .ok (.iload_n 1, 1) := by decide +kernel
theorem dX11_piece_122 : decode cX11_piece 122 = .ok (.invokevirtual 200, 3) := by decide +kernel
theorem dX11_piece_125 : decode cX11_piece 125 = .ok (.ifCond .eq 7, 3) := by decide +kernel
theorem dX11_piece_128 : decode cX11_piece 128 = .ok (.iconst 1, 1) := by decide +kernel
theorem dX11_piece_129 : decode cX11_piece 129 = .ok (.goto 4, 3) := by decide +kernel
theorem dX11_piece_132 : decode cX11_piece 132 = .ok (.iconst 0, 1) := by decide +kernel
theorem dX11_piece_133 : decode cX11_piece 133 = .ok (.ireturn, 1) := by decide +kernel
theorem dX11_piece_134 : decode cX11_piece 134 = .ok (.aload_n 3, 1) := by decide +kernel
theorem dX11_piece_135 : decode cX11_piece 135 = .ok (.aload_n 0, 1) := by decide +kernel
theorem dX11_piece_136 : decode cX11_piece 136 = .ok (.getfield 10, 3) := by decide +kernel
theorem dX11_piece_139 : decode cX11_piece 139 = .ok (.iload_n 1, 1) := by decide +kernel
theorem dX11_piece_140 : decode cX11_piece 140 = .ok (.invokevirtual 204, 3) := by decide +kernel
theorem dX11_piece_143 : decode cX11_piece 143 = .ok (.ireturn, 1) := by decide +kernel
theorem dX11_piece_144 : decode cX11_piece 144 = .ok (.iconst (-1), 1) := by decide +kernel
theorem dX11_piece_145 : decode cX11_piece 145 = .ok (.ireturn, 1) := by decide +kernel
theorem dX11_strip_0 : decode cX11_strip 0 = .ok (.aload_n 0, 1) := by decide +kernel
theorem dX11_strip_1 : decode cX11_strip 1 = .ok (.getfield 26, 3) := by decide +kernel
theorem dX11_strip_4 : decode cX11_strip 4 = .ok (.invokevirtual 207, 3) := by decide +kernel
theorem dX11_strip_7 : decode cX11_strip 7 = .ok (.ireturn, 1) := by decide +kernel
theorem dX11_fall_0 : decode cX11_fall 0 = .ok (.aload_n 0, 1) := by decide +kernel
theorem dX11_fall_1 : decode cX11_fall 1 = .ok (.getfield 10, 3) := by decide +kernel
theorem dX11_fall_4 : decode cX11_fall 4 = .ok (.iload_n 1, 1) := by decide +kernel
theorem dX11_fall_5 : decode cX11_fall 5 = .ok (.invokevirtual 149, 3) := by decide +kernel
theorem dX11_fall_8 : decode cX11_fall 8 = .ok (.ifCond .eq 17, 3) := by decide +kernel
theorem dX11_fall_11 : decode cX11_fall 11 = .ok (.aload_n 0, 1) := by decide +kernel
theorem dX11_fall_12 : decode cX11_fall 12 = .ok (.getfield 26, 3) := by decide +kernel
theorem dX11_fall_15 : decode cX11_fall 15 = .ok (.getfield 168, 3) := by decide +kernel
theorem dX11_fall_18 : decode cX11_fall 18 = .ok (.iload_n 2, 1) := by decide +kernel
theorem dX11_fall_19 : decode cX11_fall 19 = .ok (.invokevirtual 211, 3) := by decide +kernel
theorem dX11_fall_22 : decode cX11_fall 22 = .ok (.ifCond .ne 5, 3) := by decide +kernel
theorem dX11_fall_25 : decode cX11_fall 25 = .ok (.iconst (-1), 1) := by decide +kernel
theorem dX11_fall_26 : decode cX11_fall 26 = .ok (.ireturn, 1) := by decide +kernel
theorem dX11_fall_27 : decode cX11_fall 27 = .ok (.aload_n 0, 1) := by decide +kernel
theorem dX11_fall_28 : decode cX11_fall 28 = .ok (.getfield 42, 3) := by decide +kernel
theorem dX11_fall_31 : decode cX11_fall 31 = .ok (.aload_n 0, 1) := by decide +kernel
theorem dX11_fall_32 : decode cX11_fall 32 = .ok (.getfield 10, 3) := by decide +kernel
theorem dX11_fall_35 : decode cX11_fall 35 = .ok (.aload_n 0, 1) := by decide +kernel
theorem dX11_fall_36 : decode cX11_fall 36 = .ok (.getfield 26, 3) := by decide +kernel
theorem dX11_fall_39 : decode cX11_fall 39 = .ok (.getfield 168, 3) := by decide +kernel
theorem dX11_fall_42 : decode cX11_fall 42 = .ok (.iload_n 1, 1) := by decide +kernel
theorem dX11_fall_43 : decode cX11_fall 43 = .ok (.iload_n 2, 1) := by decide +kernel
theorem dX11_fall_44 : decode cX11_fall 44 = .ok (.invokevirtual 214, 3) := by decide +kernel
theorem dX11_fall_47 : decode cX11_fall 47 = .ok (.iload_n 3, 1) := by decide +kernel
theorem dX11_fall_48 : decode cX11_fall 48 = .ok (.tableswitch 92 0 5 #[40, 52, 60, 68, 76, 84], 40) := by decide +kernel
theorem dX11_fall_88 : decode cX11_fall 88 = .ok (.iconst 0, 1) := by decide +kernel
theorem dX11_fall_89 : decode cX11_fall 89 = .ok (.aload_n 0, 1) := by decide +kernel
theorem dX11_fall_90 : decode cX11_fall 90 = .ok (.getfield 42, 3) := by decide +kernel
theorem dX11_fall_93 : decode cX11_fall 93 = .ok (.getfield 218, 3) := by decide +kernel
theorem dX11_fall_96 : decode cX11_fall 96 = .ok (.invokestatic 221, 3) := by decide +kernel
theorem dX11_fall_99 : decode cX11_fall 99 = .ok (.ireturn, 1) := by decide +kernel
theorem dX11_fall_100 : decode cX11_fall 100 = .ok (.aload_n 0, 1) := by decide +kernel
theorem dX11_fall_101 : decode cX11_fall 101 = .ok (.getfield 42, 3) := by decide +kernel
theorem dX11_fall_104 : decode cX11_fall 104 = .ok (.getfield 227, 3) := by decide +kernel
theorem dX11_fall_107 : decode cX11_fall 107 = .ok (.ireturn, 1) := by decide +kernel
theorem dX11_fall_108 : decode cX11_fall 108 = .ok (.aload_n 0, 1) := by decide +kernel
theorem dX11_fall_109 : decode cX11_fall 109 = .ok (.getfield 42, 3) := by decide +kernel
theorem dX11_fall_112 : decode cX11_fall 112 = .ok (.getfield 230, 3) := by decide +kernel
theorem dX11_fall_115 : decode cX11_fall 115 = .ok (.ireturn, 1) := by decide +kernel
theorem dX11_fall_116 : decode cX11_fall 116 = .ok (.aload_n 0, 1) := by decide +kernel
theorem dX11_fall_117 : decode cX11_fall 117 = .ok (.getfield 42, 3) := by decide +kernel
theorem dX11_fall_120 : decode cX11_fall 120 = .ok (.getfield 233, 3) := by decide +kernel
theorem dX11_fall_123 : decode cX11_fall 123 = .ok (.ireturn, 1) := by decide +kernel
theorem dX11_fall_124 : decode cX11_fall 124 = .ok (.aload_n 0, 1) := by decide +kernel
theorem dX11_fall_125 : decode cX11_fall 125 = .ok (.getfield 42, 3) := by decide +kernel
theorem dX11_fall_128 : decode cX11_fall 128 = .ok (.getfield 236, 3) := by decide +kernel
theorem dX11_fall_131 : decode cX11_fall 131 = .ok (.ireturn, 1) := by decide +kernel
theorem dX11_fall_132 : decode cX11_fall 132 = .ok (.aload_n 0, 1) := by decide +kernel
theorem dX11_fall_133 : decode cX11_fall 133 = .ok (.getfield 42, 3) := by decide +kernel
theorem dX11_fall_136 : decode cX11_fall 136 = .ok (.getfield 239, 3) := by decide +kernel
theorem dX11_fall_139 : decode cX11_fall 139 = .ok (.ireturn, 1) := by decide +kernel
theorem dX11_fall_140 : decode cX11_fall 140 = .ok (.iconst (-1), 1) := by decide +kernel
theorem dX11_fall_141 : decode cX11_fall 141 = .ok (.ireturn, 1) := by decide +kernel
theorem dX11_harm_0 : decode cX11_harm 0 = .ok (.aload_n 0, 1) := by decide +kernel
theorem dX11_harm_1 : decode cX11_harm 1 = .ok (.getfield 10, 3) := by decide +kernel
theorem dX11_harm_4 : decode cX11_harm 4 = .ok (.iload_n 1, 1) := by decide +kernel
theorem dX11_harm_5 : decode cX11_harm 5 = .ok (.invokevirtual 149, 3) := by decide +kernel
theorem dX11_harm_8 : decode cX11_harm 8 = .ok (.ifCond .eq 21, 3) := by decide +kernel
theorem dX11_harm_11 : decode cX11_harm 11 = .ok (.iload_n 2, 1) := by decide +kernel
theorem dX11_harm_12 : decode cX11_harm 12 = .ok (.iconst 1, 1) := by decide +kernel
theorem dX11_harm_13 : decode cX11_harm 13 = .ok (.if_icmp .lt 16, 3) := by decide +kernel
theorem dX11_harm_16 : decode cX11_harm 16 = .ok (.iload_n 2, 1) := by decide +kernel
theorem dX11_harm_17 : decode cX11_harm 17 = .ok (.bipush 40, 2) := by decide +kernel
theorem dX11_harm_19 : decode cX11_harm 19 = .ok (.if_icmp .gt 10, 3) := by decide +kernel
theorem dX11_harm_22 : decode cX11_harm 22 = .ok (.iload_n 3, 1) := by decide +kernel
theorem dX11_harm_23 : decode cX11_harm 23 = .ok (.invokestatic 242, 3) := by decide +kernel
theorem dX11_harm_26 : decode cX11_harm 26 = .ok (.ifCond .ne 7, 3) := by decide +kernel
theorem dX11_harm_29 : decode cX11_harm 29 = .ok (.ldc2_w 245, 3) := by decide +kernel
theorem dX11_harm_32 : decode cX11_harm 32 = .ok (.lreturn, 1) := by decide +kernel
theorem dX11_harm_33 : decode cX11_harm 33 = .ok (.aload_n 0, 1) := by decide +kernel
theorem dX11_harm_34 : decode cX11_harm 34 = .ok (.getfield 58, 3) := by decide +kernel
theorem dX11_harm_37 : decode cX11_harm 37 = .ok (.aload_n 0, 1) := by decide +kernel
theorem dX11_harm_38 : decode cX11_harm 38 = .ok (.getfield 26, 3) := by decide +kernel
theorem dX11_harm_41 : decode cX11_harm 41 = .ok (.iload_n 1, 1) := by decide +kernel
theorem dX11_harm_42 : decode cX11_harm 42 = .ok (.iload_n 2, 1) := by decide +kernel
theorem dX11_harm_43 : decode cX11_harm 43 = .ok (.invokevirtual 247, 3) := by decide +kernel
theorem dX11_harm_46 : decode cX11_harm 46 = .ok (.aload_n 0, 1) := by decide +kernel
theorem dX11_harm_47 : decode cX11_harm 47 = .ok (.getfield 58, 3) := by decide +kernel
theorem dX11_harm_50 : decode cX11_harm 50 = .ok (.iload_n 3, 1) := by decide +kernel
theorem dX11_harm_51 : decode cX11_harm 51 = .ok (.invokevirtual 251, 3) := by decide +kernel
theorem dX11_harm_54 : decode cX11_harm 54 = .ok (.lreturn, 1) := by decide +kernel
theorem dX11_mean_0 : decode cX11_mean 0 = .ok (.aload_n 0, 1) := by decide +kernel
theorem dX11_mean_1 : decode cX11_mean 1 = .ok (.getfield 10, 3) := by decide +kernel
theorem dX11_mean_4 : decode cX11_mean 4 = .ok (.iload_n 1, 1) := by decide +kernel
theorem dX11_mean_5 : decode cX11_mean 5 = .ok (.invokevirtual 149, 3) := by decide +kernel
theorem dX11_mean_8 : decode cX11_mean 8 = .ok (.ifCond .eq 10, 3) := by decide +kernel
theorem dX11_mean_11 : decode cX11_mean 11 = .ok (.iload_n 2, 1) := by decide +kernel
theorem dX11_mean_12 : decode cX11_mean 12 = .ok (.invokestatic 242, 3) := by decide +kernel
theorem dX11_mean_15 : decode cX11_mean 15 = .ok (.ifCond .ne 7, 3) := by decide +kernel
theorem dX11_mean_18 : decode cX11_mean 18 = .ok (.ldc2_w 245, 3) := by decide +kernel
theorem dX11_mean_21 : decode cX11_mean 21 = .ok (.lreturn, 1) := by decide +kernel
theorem dX11_mean_22 : decode cX11_mean 22 = .ok (.aload_n 0, 1) := by decide +kernel
theorem dX11_mean_23 : decode cX11_mean 23 = .ok (.getfield 58, 3) := by decide +kernel
theorem dX11_mean_26 : decode cX11_mean 26 = .ok (.aload_n 0, 1) := by decide +kernel
theorem dX11_mean_27 : decode cX11_mean 27 = .ok (.getfield 26, 3) := by decide +kernel
theorem dX11_mean_30 : decode cX11_mean 30 = .ok (.iload_n 1, 1) := by decide +kernel
theorem dX11_mean_31 : decode cX11_mean 31 = .ok (.iconst 0, 1) := by decide +kernel
theorem dX11_mean_32 : decode cX11_mean 32 = .ok (.invokevirtual 247, 3) := by decide +kernel
theorem dX11_mean_35 : decode cX11_mean 35 = .ok (.aload_n 0, 1) := by decide +kernel
theorem dX11_mean_36 : decode cX11_mean 36 = .ok (.getfield 58, 3) := by decide +kernel
theorem dX11_mean_39 : decode cX11_mean 39 = .ok (.iload_n 2, 1) := by decide +kernel
theorem dX11_mean_40 : decode cX11_mean 40 = .ok (.invokevirtual 251, 3) := by decide +kernel
theorem dX11_mean_43 : decode cX11_mean 43 = .ok (.lreturn, 1) := by decide +kernel
theorem dX11_risk_0 : decode cX11_risk 0 = .ok (.iload_n 1, 1) := by decide +kernel
theorem dX11_risk_1 : decode cX11_risk 1 = .ok (.ifCond .lt 8, 3) := by decide +kernel
theorem dX11_risk_4 : decode cX11_risk 4 = .ok (.iload_n 1, 1) := by decide +kernel
theorem dX11_risk_5 : decode cX11_risk 5 = .ok (.iconst 4, 1) := by decide +kernel
theorem dX11_risk_6 : decode cX11_risk 6 = .ok (.if_icmp .le 5, 3) := by decide +kernel
theorem dX11_risk_9 : decode cX11_risk 9 = .ok (.iconst (-1), 1) := by decide +kernel
theorem dX11_risk_10 : decode cX11_risk 10 = .ok (.ireturn, 1) := by decide +kernel
theorem dX11_risk_11 : decode cX11_risk 11 = .ok (.aload_n 0, 1) := by decide +kernel
theorem dX11_risk_12 : decode cX11_risk 12 = .ok (.getfield 26, 3) := by decide +kernel
theorem dX11_risk_15 : decode cX11_risk 15 = .ok (.getfield 168, 3) := by decide +kernel
theorem dX11_risk_18 : decode cX11_risk 18 = .ok (.astore_n 2, 1) := by decide +kernel
theorem dX11_risk_19 : decode cX11_risk 19 = .ok (.iload_n 1, 1) := by decide +kernel
theorem dX11_risk_20 : decode cX11_risk 20 = .ok (.ifCond .ne 16, 3) := by decide +kernel
theorem dX11_risk_23 : decode cX11_risk 23 = .ok (.aload_n 0, 1) := by decide +kernel
theorem dX11_risk_24 : decode cX11_risk 24 = .ok (.getfield 51, 3) := by decide +kernel
theorem dX11_risk_27 : decode cX11_risk 27 = .ok (.aload_n 2, 1) := by decide +kernel
theorem dX11_risk_28 : decode cX11_risk 28 = .ok (.aload_n 2, 1) := by decide +kernel
theorem dX11_risk_29 : decode cX11_risk 29 = .ok (.invokevirtual 255, 3) := by decide +kernel
theorem dX11_risk_32 : decode cX11_risk 32 = .ok (.invokevirtual 258, 3) := by decide +kernel
theorem dX11_risk_35 : decode cX11_risk 35 = .ok (.ireturn, 1) := by decide +kernel
theorem dX11_risk_36 : decode cX11_risk 36 = .ok (.iload_n 1, 1) := by decide +kernel
theorem dX11_risk_37 : decode cX11_risk 37 = .ok (.iconst 2, 1) := by decide +kernel
theorem dX11_risk_38 : decode cX11_risk 38 = .ok (.if_icmp .gt 47, 3) := by decide +kernel
theorem dX11_risk_41 : decode cX11_risk 41 = .ok (.aload_n 0, 1) := by decide +kernel
theorem dX11_risk_42 : decode cX11_risk 42 = .ok (.getfield 51, 3) := by decide +kernel
theorem dX11_risk_45 : decode cX11_risk 45 = .ok (.aload_n 2, 1) := by decide +kernel
theorem dX11_risk_46 : decode cX11_risk 46 = .ok (.invokevirtual 262, 3) := by decide +kernel
theorem dX11_risk_49 : decode cX11_risk 49 = .ok (.iload_n 1, 1) := by decide +kernel
theorem dX11_risk_50 : decode cX11_risk 50 = .ok (.iconst 1, 1) := by decide +kernel
theorem dX11_risk_51 : decode cX11_risk 51 = .ok (.if_icmp .ne 11, 3) := by decide +kernel
theorem dX11_risk_54 : decode cX11_risk 54 = .ok (.aload_n 0, 1) := by decide +kernel
theorem dX11_risk_55 : decode cX11_risk 55 = .ok (.getfield 51, 3) := by decide +kernel
theorem dX11_risk_58 : decode cX11_risk 58 = .ok (.getfield 266, 3) := by decide +kernel
theorem dX11_risk_61 : decode cX11_risk 61 = .ok (.ireturn, 1) := by decide +kernel
theorem dX11_risk_62 : decode cX11_risk 62 = .ok (.aload_n 0, 1) := by decide +kernel
theorem dX11_risk_63 : decode cX11_risk 63 = .ok (.getfield 51, 3) := by decide +kernel
theorem dX11_risk_66 : decode cX11_risk 66 = .ok (.getfield 269, 3) := by decide +kernel
theorem dX11_risk_69 : decode cX11_risk 69 = .ok (.ifCond .le 13, 3) := by decide +kernel
theorem dX11_risk_72 : decode cX11_risk 72 = .ok (.aload_n 0, 1) := by decide +kernel
theorem dX11_risk_73 : decode cX11_risk 73 = .ok (.getfield 51, 3) := by decide +kernel
theorem dX11_risk_76 : decode cX11_risk 76 = .ok (.getfield 269, 3) := by decide +kernel
theorem dX11_risk_79 : decode cX11_risk 79 = .ok (.goto 5, 3) := by decide +kernel
theorem dX11_risk_82 : decode cX11_risk 82 = .ok (.bipush (-4), 2) := by decide +kernel
theorem dX11_risk_84 : decode cX11_risk 84 = .ok (.ireturn, 1) := by decide +kernel
theorem dX11_risk_85 : decode cX11_risk 85 = .ok (.aload_n 0, 1) := by decide +kernel
theorem dX11_risk_86 : decode cX11_risk 86 = .ok (.getfield 51, 3) := by decide +kernel
theorem dX11_risk_89 : decode cX11_risk 89 = .ok (.aload_n 2, 1) := by decide +kernel
theorem dX11_risk_90 : decode cX11_risk 90 = .ok (.invokevirtual 272, 3) := by decide +kernel
theorem dX11_risk_93 : decode cX11_risk 93 = .ok (.iload_n 1, 1) := by decide +kernel
theorem dX11_risk_94 : decode cX11_risk 94 = .ok (.iconst 4, 1) := by decide +kernel
theorem dX11_risk_95 : decode cX11_risk 95 = .ok (.if_icmp .ne 11, 3) := by decide +kernel
theorem dX11_risk_98 : decode cX11_risk 98 = .ok (.aload_n 0, 1) := by decide +kernel
theorem dX11_risk_99 : decode cX11_risk 99 = .ok (.getfield 51, 3) := by decide +kernel
theorem dX11_risk_102 : decode cX11_risk 102 = .ok (.getfield 275, 3) := by decide +kernel
theorem dX11_risk_105 : decode cX11_risk 105 = .ok (.ireturn, 1) := by decide +kernel
theorem dX11_risk_106 : decode cX11_risk 106 = .ok (.aload_n 0, 1) := by decide +kernel
theorem dX11_risk_107 : decode cX11_risk 107 = .ok (.getfield 51, 3) := by decide +kernel
theorem dX11_risk_110 : decode cX11_risk 110 = .ok (.getfield 278, 3) := by decide +kernel
theorem dX11_risk_113 : decode cX11_risk 113 = .ok (.ifCond .le 13, 3) := by decide +kernel
theorem dX11_risk_116 : decode cX11_risk 116 = .ok (.aload_n 0, 1) := by decide +kernel
theorem dX11_risk_117 : decode cX11_risk 117 = .ok (.getfield 51, 3) := by decide +kernel
theorem dX11_risk_120 : decode cX11_risk 120 = .ok (.getfield 278, 3) := by decide +kernel
theorem dX11_risk_123 : decode cX11_risk 123 = .ok (.goto 5, 3) := by decide +kernel
theorem dX11_risk_126 : decode cX11_risk 126 = .ok (.bipush (-4), 2) := by decide +kernel
theorem dX11_risk_128 : decode cX11_risk 128 = .ok (.ireturn, 1) := by decide +kernel
theorem dX11_needless_0 : decode cX11_needless 0 = .ok (.aload_n 0, 1) := by decide +kernel
theorem dX11_needless_1 : decode cX11_needless 1 = .ok (.getfield 26, 3) := by decide +kernel
theorem dX11_needless_4 : decode cX11_needless 4 = .ok (.getfield 168, 3) := by decide +kernel
theorem dX11_needless_7 : decode cX11_needless 7 = .ok (.astore_n 1, 1) := by decide +kernel
theorem dX11_needless_8 : decode cX11_needless 8 = .ok (.aload_n 0, 1) := by decide +kernel
theorem dX11_needless_9 : decode cX11_needless 9 = .ok (.getfield 51, 3) := by decide +kernel
theorem dX11_needless_12 : decode cX11_needless 12 = .ok (.aload_n 1, 1) := by decide +kernel
theorem dX11_needless_13 : decode cX11_needless 13 = .ok (.aload_n 1, 1) := by decide +kernel
theorem dX11_needless_14 : decode cX11_needless 14 = .ok (.invokevirtual 255, 3) := by decide +kernel
theorem dX11_needless_17 : decode cX11_needless 17 = .ok (.invokevirtual 258, 3) := by decide +kernel
theorem dX11_needless_20 : decode cX11_needless 20 = .ok (.istore_n 2, 1) := by decide +kernel
theorem dX11_needless_21 : decode cX11_needless 21 = .ok (.iconst 0, 1) := by decide +kernel
theorem dX11_needless_22 : decode cX11_needless 22 = .ok (.istore_n 3, 1) := by decide +kernel
theorem dX11_needless_23 : decode cX11_needless 23 = .ok (.iconst 0, 1) := by decide +kernel
theorem dX11_needless_24 : decode cX11_needless 24 = .ok (.istore 4, 2) := by decide +kernel
theorem dX11_needless_26 : decode cX11_needless 26 = .ok (.iload 4, 2) := by decide +kernel
theorem dX11_needless_28 : decode cX11_needless 28 = .ok (.aload_n 1, 1) := by decide +kernel
theorem dX11_needless_29 : decode cX11_needless 29 = .ok (.getfield 187, 3) := by decide +kernel
theorem dX11_needless_32 : decode cX11_needless 32 = .ok (.if_icmp .ge 39, 3) := by decide +kernel
theorem dX11_needless_35 : decode cX11_needless 35 = .ok (.aload_n 0, 1) := by decide +kernel
theorem dX11_needless_36 : decode cX11_needless 36 = .ok (.getfield 51, 3) := by decide +kernel
theorem dX11_needless_39 : decode cX11_needless 39 = .ok (.aload_n 1, 1) := by decide +kernel
theorem dX11_needless_40 : decode cX11_needless 40 = .ok (.aload_n 1, 1) := by decide +kernel
theorem dX11_needless_41 : decode cX11_needless 41 = .ok (.invokevirtual 255, 3) := by decide +kernel
theorem dX11_needless_44 : decode cX11_needless 44 = .ok (.iconst 1, 1) := by decide +kernel
theorem dX11_needless_45 : decode cX11_needless 45 = .ok (.iload 4, 2) := by decide +kernel
theorem dX11_needless_47 : decode cX11_needless 47 = .ok (.ishl, 1) := by decide +kernel
theorem dX11_needless_48 : decode cX11_needless 48 = .ok (.iconst (-1), 1) := by decide +kernel
theorem dX11_needless_49 : decode cX11_needless 49 = .ok (.ixor, 1) := by decide +kernel
theorem dX11_needless_50 : decode cX11_needless 50 = .ok (.iand, 1) := by decide +kernel
theorem dX11_needless_51 : decode cX11_needless 51 = .ok (.invokevirtual 258, 3) := by decide +kernel
theorem dX11_needless_54 : decode cX11_needless 54 = .ok (.iload_n 2, 1) := by decide +kernel
theorem dX11_needless_55 : decode cX11_needless 55 = .ok (.if_icmp .gt 10, 3) := by decide +kernel
theorem dX11_needless_58 : decode cX11_needless 58 = .ok (.iload_n 3, 1) := by decide +kernel
theorem dX11_needless_59 : decode cX11_needless 59 = .ok (.iconst 1, 1) := by decide +kernel
theorem dX11_needless_60 : decode cX11_needless 60 = .ok (.iload 4, 2) := by decide +kernel
theorem dX11_needless_62 : decode cX11_needless 62 = .ok (.ishl, 1) := by decide +kernel
theorem dX11_needless_63 : decode cX11_needless 63 = .ok (.ior, 1) := by decide +kernel
theorem dX11_needless_64 : decode cX11_needless 64 = .ok (.istore_n 3, 1) := by decide +kernel
theorem dX11_needless_65 : decode cX11_needless 65 = .ok (.iinc 4 1, 3) := by decide +kernel
theorem dX11_needless_68 : decode cX11_needless 68 = .ok (.goto (-42), 3) := by decide +kernel
theorem dX11_needless_71 : decode cX11_needless 71 = .ok (.iload_n 3, 1) := by decide +kernel
theorem dX11_needless_72 : decode cX11_needless 72 = .ok (.ireturn, 1) := by decide +kernel
abbrev q_X11_isPart (x : Int) (σ : tw_M) : Option tw_V → tw_M → Prop := fun z τ => ∃ r : Int, z = some (vI r) ∧ (0 ≤ r ∧ r ≤ 1) ∧ σ = τ ∧ ((r = 1 ∧ (x = 0 ∨ x = 1)) ∨ (r = 0 ∧ ¬ x = 0 ∧ ¬ x = 1))
set_option maxHeartbeats 4000000 in
set_option maxRecDepth 100000 in
theorem c_X11_isPart {G : tw_G} (x : Int) (hx : -2147483648 ≤ x ∧ x ≤ 2147483647) (σ : tw_M) (hI : tw_I σ) : tw_C G yX11_isPart cX11_isPart 1 (some .boolean) 0 [vI x] σ (q_X11_isPart x σ) := by
  refine tw_met [(0, vI x)] (by decide +kernel) rfl (Nat.le_of_ble_eq_true rfl) ?_
  refine j_iload_n (pc := 0) dX11_isPart_0 rfl rfl ?_
  refine j_ifR_eq (pc := 1) (tgt := 9) ⟨by omega, by omega⟩ dX11_isPart_1 rfl (fun h1 => ?_) (fun h1 => ?_)
  · refine j_iconst (pc := 9) dX11_isPart_9 ?_
    refine j_goto (pc := 10) (tgt := 14) dX11_isPart_10 rfl ?_
    exact j_zret (pc := 14) ⟨rfl, rfl⟩ dX11_isPart_14 rfl (nar_bool (by omega) (by omega)) ⟨_, rfl, ⟨by omega, by omega⟩, rfl, by omega⟩
  · refine j_iload_n (pc := 4) dX11_isPart_4 rfl rfl ?_
    refine j_iconst (pc := 5) dX11_isPart_5 ?_
    refine j_icmpR_ne (pc := 6) (tgt := 13) ⟨by omega, by omega⟩ ⟨by omega, by omega⟩ dX11_isPart_6 rfl (fun h2 => ?_) (fun h2 => ?_)
    · refine j_iconst (pc := 13) dX11_isPart_13 ?_
      exact j_zret (pc := 14) ⟨rfl, rfl⟩ dX11_isPart_14 rfl (nar_bool (by omega) (by omega)) ⟨_, rfl, ⟨by omega, by omega⟩, rfl, by omega⟩
    · refine j_iconst (pc := 9) dX11_isPart_9 ?_
      refine j_goto (pc := 10) (tgt := 14) dX11_isPart_10 rfl ?_
      exact j_zret (pc := 14) ⟨rfl, rfl⟩ dX11_isPart_14 rfl (nar_bool (by omega) (by omega)) ⟨_, rfl, ⟨by omega, by omega⟩, rfl, by omega⟩
abbrev q_X11_isOf (x : Int) (f : Int) (m : Int) (σ : tw_M) : Option tw_V → tw_M → Prop := fun z τ => ∃ r : Int, z = some (vI r) ∧ (0 ≤ r ∧ r ≤ 1) ∧ σ = τ ∧ ((r = 1 ∧ ((0 ≤ x ∧ x < f) ∨ (10 ≤ x ∧ x - 10 < m))) ∨ (r = 0 ∧ ¬ ((0 ≤ x ∧ x < f) ∨ (10 ≤ x ∧ x - 10 < m))))
set_option maxHeartbeats 4000000 in
set_option maxRecDepth 100000 in
theorem c_X11_isOf {G : tw_G} (x : Int) (hx : -2147483648 ≤ x ∧ x ≤ 2147483647) (f : Int) (hf : -2147483648 ≤ f ∧ f ≤ 2147483647) (m : Int) (hm : -2147483648 ≤ m ∧ m ≤ 2147483647) (σ : tw_M) (hI : tw_I σ) : tw_C G yX11_isOf cX11_isOf 3 (some .boolean) 0 [vI x, vI f, vI m] σ (q_X11_isOf x f m σ) := by
  refine tw_met [(0, vI x), (1, vI f), (2, vI m)] (by decide +kernel) rfl (Nat.le_of_ble_eq_true rfl) ?_
  refine j_iload_n (pc := 0) dX11_isOf_0 rfl rfl ?_
  refine j_ifR_lt (pc := 1) (tgt := 9) ⟨by omega, by omega⟩ dX11_isOf_1 rfl (fun h1 => ?_) (fun h1 => ?_)
  · refine j_iload_n (pc := 9) dX11_isOf_9 rfl rfl ?_
    refine j_bipush (pc := 10) dX11_isOf_10 rfl ?_
    refine j_icmpR_lt (pc := 12) (tgt := 27) ⟨by omega, by omega⟩ ⟨by omega, by omega⟩ dX11_isOf_12 rfl (fun h2 => ?_) (fun h2 => by exfalso; omega)
    refine j_iconst (pc := 27) dX11_isOf_27 ?_
    exact j_zret (pc := 28) ⟨rfl, rfl⟩ dX11_isOf_28 rfl (nar_bool (by omega) (by omega)) ⟨_, rfl, ⟨by omega, by omega⟩, rfl, by omega⟩
  · refine j_iload_n (pc := 4) dX11_isOf_4 rfl rfl ?_
    refine j_iload_n (pc := 5) dX11_isOf_5 rfl rfl ?_
    refine j_icmpR_lt (pc := 6) (tgt := 23) ⟨by omega, by omega⟩ ⟨by omega, by omega⟩ dX11_isOf_6 rfl (fun h3 => ?_) (fun h3 => ?_)
    · refine j_iconst (pc := 23) dX11_isOf_23 ?_
      refine j_goto (pc := 24) (tgt := 28) dX11_isOf_24 rfl ?_
      exact j_zret (pc := 28) ⟨rfl, rfl⟩ dX11_isOf_28 rfl (nar_bool (by omega) (by omega)) ⟨_, rfl, ⟨by omega, by omega⟩, rfl, by omega⟩
    · refine j_iload_n (pc := 9) dX11_isOf_9 rfl rfl ?_
      refine j_bipush (pc := 10) dX11_isOf_10 rfl ?_
      refine j_icmpR_lt (pc := 12) (tgt := 27) ⟨by omega, by omega⟩ ⟨by omega, by omega⟩ dX11_isOf_12 rfl (fun h4 => ?_) (fun h4 => ?_)
      · refine j_iconst (pc := 27) dX11_isOf_27 ?_
        exact j_zret (pc := 28) ⟨rfl, rfl⟩ dX11_isOf_28 rfl (nar_bool (by omega) (by omega)) ⟨_, rfl, ⟨by omega, by omega⟩, rfl, by omega⟩
      · refine j_iload_n (pc := 15) dX11_isOf_15 rfl rfl ?_
        refine j_bipush (pc := 16) dX11_isOf_16 rfl ?_
        refine j_isub (pc := 18) dX11_isOf_18 ?_
        refine j_iload_n (pc := 19) dX11_isOf_19 rfl rfl ?_
        refine j_icmpR_ge (pc := 20) (tgt := 27) ⟨by omega, by omega⟩ ⟨by omega, by omega⟩ dX11_isOf_20 rfl (fun h5 => ?_) (fun h5 => ?_)
        · refine j_iconst (pc := 27) dX11_isOf_27 ?_
          exact j_zret (pc := 28) ⟨rfl, rfl⟩ dX11_isOf_28 rfl (nar_bool (by omega) (by omega)) ⟨_, rfl, ⟨by omega, by omega⟩, rfl, by omega⟩
        · refine j_iconst (pc := 23) dX11_isOf_23 ?_
          refine j_goto (pc := 24) (tgt := 28) dX11_isOf_24 rfl ?_
          exact j_zret (pc := 28) ⟨rfl, rfl⟩ dX11_isOf_28 rfl (nar_bool (by omega) (by omega)) ⟨_, rfl, ⟨by omega, by omega⟩, rfl, by omega⟩
abbrev q_X11_isStory (p : Int) (q : Int) (σ : tw_M) : Option tw_V → tw_M → Prop := fun z τ => ∃ r : Int, z = some (vI r) ∧ (0 ≤ r ∧ r ≤ 1) ∧ σ = τ ∧ True
set_option maxHeartbeats 4000000 in
set_option maxRecDepth 100000 in
theorem c_X11_isStory {G : tw_G} (hX : tw_isX G) (p : Int) (hp : -2147483648 ≤ p ∧ p ≤ 2147483647) (q : Int) (hq : -2147483648 ≤ q ∧ q ≤ 2147483647) (σ : tw_M) (hI : tw_I σ) : tw_C G yX11_isStory cX11_isStory 3 (some .boolean) 2 [vR 0, vI p, vI q] σ (q_X11_isStory p q σ) := by
  refine tw_met [(0, vR 0), (1, vI p), (2, vI q)] (by decide +kernel) rfl (Nat.le_of_ble_eq_true rfl) ?_
  refine j_aload_n (pc := 0) dX11_isStory_0 rfl rfl ?_
  refine j_getR (pc := 1) (r := 23) fl_X11_26 dX11_isStory_1 (a_0 hX) rfl ?_
  refine j_getR (pc := 4) (r := 24) fl_X11_168 dX11_isStory_4 (a_23 hX) rfl ?_
  refine j_iload_n (pc := 7) dX11_isStory_7 rfl rfl ?_
  refine j_callV (pc := 8) (As := [vI p]) (st := []) (c_X7_has 24 (s_Row_24 hX) p ⟨by omega, by omega⟩ σ hI) mv_X11_211 rfl rfl rfl (a_24 hX) dX11_isStory_8 ⟨Nat.le_of_ble_eq_true rfl, Nat.le_of_ble_eq_true rfl⟩ ⟨Nat.le_refl _, Nat.le_refl _⟩ rfl (Nat.le_of_ble_eq_true rfl) rfl (fun z1 σ2 hz1 => ?_)
  obtain ⟨r4, rfl, hr4, rfl, -⟩ := hz1
  refine j_st (st' := [vI r4]) rfl ?_
  refine j_ifR_eq (pc := 11) (tgt := 33) ⟨by omega, by omega⟩ dX11_isStory_11 rfl (fun h5 => ?_) (fun h5 => ?_)
  · refine j_iconst (pc := 33) dX11_isStory_33 ?_
    exact j_zret (pc := 34) ⟨rfl, rfl⟩ dX11_isStory_34 rfl (nar_bool (by omega) (by omega)) ⟨_, rfl, ⟨by omega, by omega⟩, rfl, trivial⟩
  · refine j_iload_n (pc := 14) dX11_isStory_14 rfl rfl ?_
    refine j_ifR_eq (pc := 15) (tgt := 29) ⟨by omega, by omega⟩ dX11_isStory_15 rfl (fun h6 => ?_) (fun h6 => ?_)
    · refine j_iconst (pc := 29) dX11_isStory_29 ?_
      refine j_goto (pc := 30) (tgt := 34) dX11_isStory_30 rfl ?_
      exact j_zret (pc := 34) ⟨rfl, rfl⟩ dX11_isStory_34 rfl (nar_bool (by omega) (by omega)) ⟨_, rfl, ⟨by omega, by omega⟩, rfl, trivial⟩
    · refine j_aload_n (pc := 18) dX11_isStory_18 rfl rfl ?_
      refine j_getR (pc := 19) (r := 1) fl_X11_10 dX11_isStory_19 (a_0 hX) rfl ?_
      refine j_iload_n (pc := 22) dX11_isStory_22 rfl rfl ?_
      refine j_callV (pc := 23) (As := [vI q]) (st := []) (c_X10_isFoot 1 (s_Wall_1 hX) q ⟨by omega, by omega⟩ σ hI) mv_X11_149 rfl rfl rfl (a_1 hX) dX11_isStory_23 ⟨Nat.le_of_ble_eq_true rfl, Nat.le_of_ble_eq_true rfl⟩ ⟨Nat.le_refl _, Nat.le_refl _⟩ rfl (Nat.le_of_ble_eq_true rfl) rfl (fun z7 σ8 hz7 => ?_)
      obtain ⟨r10, rfl, hr10, rfl, q9_0⟩ := hz7
      replace q9_0 : (r10 = 1 ∧ 1 ≤ q ∧ q ≤ σ 2 0 ∧ q ≤ 40) ∨ (r10 = 0 ∧ ¬ (1 ≤ q ∧ q ≤ σ 2 0)) := q9_0
      refine j_st (st' := [vI r10]) rfl ?_
      refine j_ifR_eq (pc := 26) (tgt := 33) ⟨by omega, by omega⟩ dX11_isStory_26 rfl (fun h11 => ?_) (fun h11 => ?_)
      · refine j_iconst (pc := 33) dX11_isStory_33 ?_
        exact j_zret (pc := 34) ⟨rfl, rfl⟩ dX11_isStory_34 rfl (nar_bool (by omega) (by omega)) ⟨_, rfl, ⟨by omega, by omega⟩, rfl, trivial⟩
      · refine j_iconst (pc := 29) dX11_isStory_29 ?_
        refine j_goto (pc := 30) (tgt := 34) dX11_isStory_30 rfl ?_
        exact j_zret (pc := 34) ⟨rfl, rfl⟩ dX11_isStory_34 rfl (nar_bool (by omega) (by omega)) ⟨_, rfl, ⟨by omega, by omega⟩, rfl, trivial⟩
abbrev q_X11_isSheet (k : Int) (σ : tw_M) : Option tw_V → tw_M → Prop := fun z τ => ∃ r : Int, z = some (vI r) ∧ (0 ≤ r ∧ r ≤ 1) ∧ σ = τ ∧ ((r = 1 ∧ 0 ≤ k ∧ k < 4) ∨ (r = 0 ∧ ¬ (0 ≤ k ∧ k < 4)))
set_option maxHeartbeats 4000000 in
set_option maxRecDepth 100000 in
theorem c_X11_isSheet {G : tw_G} (hX : tw_isX G) (k : Int) (hk : -2147483648 ≤ k ∧ k ≤ 2147483647) (σ : tw_M) (hI : tw_I σ) : tw_C G yX11_isSheet cX11_isSheet 2 (some .boolean) 0 [vR 0, vI k] σ (q_X11_isSheet k σ) := by
  refine tw_met [(0, vR 0), (1, vI k)] (by decide +kernel) rfl (Nat.le_of_ble_eq_true rfl) ?_
  refine j_iload_n (pc := 0) dX11_isSheet_0 rfl rfl ?_
  refine j_ifR_lt (pc := 1) (tgt := 17) ⟨by omega, by omega⟩ dX11_isSheet_1 rfl (fun h1 => ?_) (fun h1 => ?_)
  · refine j_iconst (pc := 17) dX11_isSheet_17 ?_
    exact j_zret (pc := 18) ⟨rfl, rfl⟩ dX11_isSheet_18 rfl (nar_bool (by omega) (by omega)) ⟨_, rfl, ⟨by omega, by omega⟩, rfl, by omega⟩
  · refine j_iload_n (pc := 4) dX11_isSheet_4 rfl rfl ?_
    refine j_aload_n (pc := 5) dX11_isSheet_5 rfl rfl ?_
    refine j_getR (pc := 6) (r := 79) fl_X11_87 dX11_isSheet_6 (a_0 hX) rfl ?_
    refine j_alenS (pc := 9) dX11_isSheet_9 (a_79 hX) ?_
    refine j_topV (show _ = (4 : Int) from rfl) ?_
    refine j_icmpR_ge (pc := 10) (tgt := 17) ⟨by omega, by omega⟩ ⟨by omega, by omega⟩ dX11_isSheet_10 rfl (fun h2 => ?_) (fun h2 => ?_)
    · refine j_iconst (pc := 17) dX11_isSheet_17 ?_
      exact j_zret (pc := 18) ⟨rfl, rfl⟩ dX11_isSheet_18 rfl (nar_bool (by omega) (by omega)) ⟨_, rfl, ⟨by omega, by omega⟩, rfl, by omega⟩
    · refine j_iconst (pc := 13) dX11_isSheet_13 ?_
      refine j_goto (pc := 14) (tgt := 18) dX11_isSheet_14 rfl ?_
      exact j_zret (pc := 18) ⟨rfl, rfl⟩ dX11_isSheet_18 rfl (nar_bool (by omega) (by omega)) ⟨_, rfl, ⟨by omega, by omega⟩, rfl, by omega⟩
abbrev q_X11_isLane (l : Int) (σ : tw_M) : Option tw_V → tw_M → Prop := fun z τ => ∃ r : Int, z = some (vI r) ∧ (0 ≤ r ∧ r ≤ 1) ∧ σ = τ ∧ ((r = 1 ∧ 0 ≤ l ∧ l ≤ 2) ∨ (r = 0 ∧ ¬ (0 ≤ l ∧ l ≤ 2)))
set_option maxHeartbeats 4000000 in
set_option maxRecDepth 100000 in
theorem c_X11_isLane {G : tw_G} (l : Int) (hl : -2147483648 ≤ l ∧ l ≤ 2147483647) (σ : tw_M) (hI : tw_I σ) : tw_C G yX11_isLane cX11_isLane 1 (some .boolean) 0 [vI l] σ (q_X11_isLane l σ) := by
  refine tw_met [(0, vI l)] (by decide +kernel) rfl (Nat.le_of_ble_eq_true rfl) ?_
  refine j_iload_n (pc := 0) dX11_isLane_0 rfl rfl ?_
  refine j_ifR_lt (pc := 1) (tgt := 13) ⟨by omega, by omega⟩ dX11_isLane_1 rfl (fun h1 => ?_) (fun h1 => ?_)
  · refine j_iconst (pc := 13) dX11_isLane_13 ?_
    exact j_zret (pc := 14) ⟨rfl, rfl⟩ dX11_isLane_14 rfl (nar_bool (by omega) (by omega)) ⟨_, rfl, ⟨by omega, by omega⟩, rfl, by omega⟩
  · refine j_iload_n (pc := 4) dX11_isLane_4 rfl rfl ?_
    refine j_iconst (pc := 5) dX11_isLane_5 ?_
    refine j_icmpR_gt (pc := 6) (tgt := 13) ⟨by omega, by omega⟩ ⟨by omega, by omega⟩ dX11_isLane_6 rfl (fun h2 => ?_) (fun h2 => ?_)
    · refine j_iconst (pc := 13) dX11_isLane_13 ?_
      exact j_zret (pc := 14) ⟨rfl, rfl⟩ dX11_isLane_14 rfl (nar_bool (by omega) (by omega)) ⟨_, rfl, ⟨by omega, by omega⟩, rfl, by omega⟩
    · refine j_iconst (pc := 9) dX11_isLane_9 ?_
      refine j_goto (pc := 10) (tgt := 14) dX11_isLane_10 rfl ?_
      exact j_zret (pc := 14) ⟨rfl, rfl⟩ dX11_isLane_14 rfl (nar_bool (by omega) (by omega)) ⟨_, rfl, ⟨by omega, by omega⟩, rfl, by omega⟩
abbrev q_X11_feed (v : Int) (σ : tw_M) : Option tw_V → tw_M → Prop := fun z τ => ∃ r : Int, z = some (vI r) ∧ (-2147483648 ≤ r ∧ r ≤ 2147483647) ∧ tw_I τ ∧ tw_F (fun c j => (c = 10 ∧ (j = 10)) ∨ c = 11) σ τ ∧ ((r = -3 ∧ 392 < σ 10 10 ∧ τ 10 10 = σ 10 10) ∨ (r = σ 10 10 + 8 ∧ σ 10 10 ≤ 392 ∧ τ 10 10 = σ 10 10 + 8)) ∧ (∀ j : Nat, (j : Int) < σ 10 10 → τ 11 j = σ 11 j) ∧ (r = -3 ∨ ∀ k : Nat, (k : Int) < 8 → tw_and (τ 11 ((σ 10 10).toNat + k)) 255 = byt v k)
set_option maxHeartbeats 4000000 in
set_option maxRecDepth 100000 in
theorem c_X11_feed {G : tw_G} (hX : tw_isX G) (v : Int) (hv : -9223372036854775808 ≤ v ∧ v ≤ 9223372036854775807) (σ : tw_M) (hI : tw_I σ) : tw_C G yX11_feed cX11_feed 3 (some .int) 1 [vR 0, vL v] σ (q_X11_feed v σ) := by
  refine tw_met [(0, vR 0), (1, vL v)] (by decide +kernel) rfl (Nat.le_of_ble_eq_true rfl) ?_
  refine j_aload_n (pc := 0) dX11_feed_0 rfl rfl ?_
  refine j_getR (pc := 1) (r := 10) fl_X11_19 dX11_feed_1 (a_0 hX) rfl ?_
  refine j_lload_n (pc := 4) dX11_feed_4 rfl rfl ?_
  refine j_callV (pc := 5) (As := [vL v]) (st := []) (c_X9_append hX v ⟨by omega, by omega⟩ σ hI) mv_X11_102 rfl rfl rfl (a_10 hX) dX11_feed_5 ⟨Nat.le_of_ble_eq_true rfl, Nat.le_of_ble_eq_true rfl⟩ ⟨Nat.le_refl _, Nat.le_refl _⟩ rfl (Nat.le_of_ble_eq_true rfl) rfl (fun z1 σ2 hz1 => ?_)
  obtain ⟨r4, rfl, hr4, hIσ2, hGσ2, q3_0, q3_1, q3_2⟩ := hz1
  replace q3_0 : (r4 = 0 ∧ 392 < σ 10 10 ∧ σ2 10 10 = σ 10 10) ∨ (r4 = 1 ∧ σ 10 10 ≤ 392 ∧ σ2 10 10 = σ 10 10 + 8) := q3_0
  replace q3_1 : ∀ j : Nat, (j : Int) < σ 10 10 → σ2 11 j = σ 11 j := q3_1
  replace q3_2 : r4 = 0 ∨ ∀ k : Nat, (k : Int) < 8 → tw_and (σ2 11 ((σ 10 10).toNat + k)) 255 = byt v k := q3_2
  have hFσ2 : tw_F (fun c j => (c = 10 ∧ (j = 10)) ∨ c = 11) σ σ2 := tw_F_tr (tw_F_rf) hGσ2 (fun c j q => (show (c = 10 ∧ (j = 10)) ∨ c = 11 from by replace q : (c = 10 ∧ (j = 10)) ∨ c = 11 := q; exact q))
  refine j_st (st' := [vI r4]) rfl ?_
  refine j_ifR_eq (pc := 8) (tgt := 21) ⟨by omega, by omega⟩ dX11_feed_8 rfl (fun h5 => ?_) (fun h5 => ?_)
  · refine j_bipush (pc := 21) dX11_feed_21 rfl ?_
    exact j_iret (pc := 23) ⟨rfl, rfl⟩ dX11_feed_23 rfl ⟨_, rfl, ⟨by omega, by omega⟩, hIσ2, hFσ2, by omega, q3_1, (by first | exact Or.inl rfl | exact Or.inr (q3_2.resolve_left (by omega)))⟩
  · refine j_aload_n (pc := 11) dX11_feed_11 rfl rfl ?_
    refine j_getR (pc := 12) (r := 10) fl_X11_19 dX11_feed_12 (a_0 hX) rfl ?_
    refine j_getI (pc := 15) fl_X11_106 dX11_feed_15 (a_10 hX) rfl ?_
    have f6 : (0 : Int) ≤ σ2 10 10 ∧ σ2 10 10 ≤ 400 := hIσ2 10 10
    refine j_goto (pc := 18) (tgt := 23) dX11_feed_18 rfl ?_
    exact j_iret (pc := 23) ⟨rfl, rfl⟩ dX11_feed_23 rfl ⟨_, rfl, ⟨by omega, by omega⟩, hIσ2, hFσ2, by omega, q3_1, (by first | exact Or.inl rfl | exact Or.inr (q3_2.resolve_left (by omega)))⟩
abbrev q_X11_end (n : Int) (σ : tw_M) : Option tw_V → tw_M → Prop := fun z τ => ∃ r : Int, z = some (vI r) ∧ (-2147483648 ≤ r ∧ r ≤ 2147483647) ∧ tw_I τ ∧ tw_F (fun c j => (c = 10 ∧ (j = 10))) σ τ ∧ ((r = -1 ∧ ¬ (0 ≤ n ∧ n ≤ σ 10 10) ∧ τ 10 10 = σ 10 10) ∨ (r = σ 10 10 ∧ 0 ≤ n ∧ n ≤ σ 10 10 ∧ τ 10 10 = n))
set_option maxHeartbeats 4000000 in
set_option maxRecDepth 100000 in
theorem c_X11_end {G : tw_G} (hX : tw_isX G) (n : Int) (hn : -2147483648 ≤ n ∧ n ≤ 2147483647) (σ : tw_M) (hI : tw_I σ) : tw_C G yX11_end cX11_end 3 (some .int) 0 [vR 0, vI n] σ (q_X11_end n σ) := by
  refine tw_met [(0, vR 0), (1, vI n)] (by decide +kernel) rfl (Nat.le_of_ble_eq_true rfl) ?_
  refine j_iload_n (pc := 0) dX11_end_0 rfl rfl ?_
  refine j_ifR_lt (pc := 1) (tgt := 15) ⟨by omega, by omega⟩ dX11_end_1 rfl (fun h1 => ?_) (fun h1 => ?_)
  · refine j_iconst (pc := 15) dX11_end_15 ?_
    exact j_iret (pc := 16) ⟨rfl, rfl⟩ dX11_end_16 rfl ⟨_, rfl, ⟨by omega, by omega⟩, hI, (tw_F_rf), by omega⟩
  · refine j_iload_n (pc := 4) dX11_end_4 rfl rfl ?_
    refine j_aload_n (pc := 5) dX11_end_5 rfl rfl ?_
    refine j_getR (pc := 6) (r := 10) fl_X11_19 dX11_end_6 (a_0 hX) rfl ?_
    refine j_getI (pc := 9) fl_X11_106 dX11_end_9 (a_10 hX) rfl ?_
    have f2 : (0 : Int) ≤ σ 10 10 ∧ σ 10 10 ≤ 400 := hI 10 10
    refine j_icmpR_le (pc := 12) (tgt := 17) ⟨by omega, by omega⟩ ⟨by omega, by omega⟩ dX11_end_12 rfl (fun h3 => ?_) (fun h3 => ?_)
    · refine j_aload_n (pc := 17) dX11_end_17 rfl rfl ?_
      refine j_getR (pc := 18) (r := 10) fl_X11_19 dX11_end_18 (a_0 hX) rfl ?_
      refine j_getI (pc := 21) fl_X11_106 dX11_end_21 (a_10 hX) rfl ?_
      refine j_istore_n (pc := 24) (i := 2) (ls' := [(0, vR 0), (1, vI n), (2, vI (σ 10 10))]) [1, 2, 0] dX11_end_24 rfl (Nat.le_of_ble_eq_true rfl) rfl rfl ?_
      refine j_aload_n (pc := 25) dX11_end_25 rfl rfl ?_
      refine j_getR (pc := 26) (r := 10) fl_X11_19 dX11_end_26 (a_0 hX) rfl ?_
      refine j_iload_n (pc := 29) dX11_end_29 rfl rfl ?_
      refine j_putI (pc := 30) fl_X11_106 fp_X9_10 dX11_end_30 (a_10 hX) rfl (j_nm (fun σ4 (eσ4 : σ4 = tw_up σ 10 10 n) => ?_))
      have hIσ4 : tw_I σ4 := tw_I_up hI eσ4 (show (0 : Int) ≤ n ∧ n ≤ 400 from ⟨by omega, by omega⟩)
      have hFσ4 : tw_F (fun c j => (c = 10 ∧ (j = 10))) σ σ4 := tw_F_up (tw_F_rf) eσ4 (show (10 = 10 ∧ (10 = 10)) from ⟨rfl, rfl⟩)
      refine j_iload_n (pc := 33) dX11_end_33 rfl rfl ?_
      have y5 : σ4 10 10 = n := (tw_eq1 eσ4)
      exact j_iret (pc := 34) ⟨rfl, rfl⟩ dX11_end_34 rfl ⟨_, rfl, ⟨by omega, by omega⟩, hIσ4, hFσ4, by omega⟩
    · refine j_iconst (pc := 15) dX11_end_15 ?_
      exact j_iret (pc := 16) ⟨rfl, rfl⟩ dX11_end_16 rfl ⟨_, rfl, ⟨by omega, by omega⟩, hI, (tw_F_rf), by omega⟩
abbrev q_X11_text  (σ : tw_M) : Option tw_V → tw_M → Prop := fun z τ => ∃ r : Int, z = some (vI r) ∧ (-2147483648 ≤ r ∧ r ≤ 2147483647) ∧ tw_I τ ∧ tw_F (fun c j => (c = 10 ∧ (j = 3 ∨ j = 4 ∨ j = 5 ∨ j = 6 ∨ j = 7 ∨ j = 8 ∨ j = 10 ∨ j = 11 ∨ j = 12 ∨ j = 13)) ∨ (12 ≤ c ∧ c < 14) ∨ (14 ≤ c ∧ c < 23) ∨ (1 ≤ c ∧ c < 10) ∨ (23 ≤ c ∧ c < 31) ∨ (c = 31 ∧ (j = 6)) ∨ (c = 39 ∧ (j = 6)) ∨ (c = 60 ∧ (j = 6 ∨ j = 7)) ∨ (c = 71 ∧ (j = 1)) ∨ (c = 76 ∧ (j = 1)) ∨ (c = 0 ∧ (j = 13))) σ τ ∧ (τ 10 10 = 0) ∧ (r = txt (parse (fX σ))) ∧ (τ 0 13 = (parse (fX σ)).1 4) ∧ ((τ 0 13 = 0 ∧ τ 31 6 = 0 ∧ τ 39 6 = 0) ∨ (¬ τ 0 13 = 0 ∧ τ 31 6 = σ 31 6 ∧ τ 39 6 = σ 39 6)) ∧ ((τ 0 13 = 0 ∧ τ 29 0 = 0) ∨ (¬ τ 0 13 = 0 ∧ τ 29 0 = σ 29 0)) ∧ ((τ 0 13 = 0 ∧ τ 30 0 = 0) ∨ (¬ τ 0 13 = 0 ∧ τ 30 0 = σ 30 0)) ∧ ((τ 0 13 = 0 ∧ τ 29 1 = 0) ∨ (¬ τ 0 13 = 0 ∧ τ 29 1 = σ 29 1)) ∧ ((τ 0 13 = 0 ∧ τ 30 1 = 0) ∨ (¬ τ 0 13 = 0 ∧ τ 30 1 = σ 30 1)) ∧ ((τ 0 13 = 0 ∧ wW 1 τ = pwB (parse (fX σ)).1 ∧ (∀ j : Nat, j < 11 → τ 3 j = (parse (fX σ)).1 (200 + j)) ∧ τ 24 0 = 0 ∧ (∀ j : Nat, j < 11 → τ 28 j = (parse (fX σ)).1 (200 + j)) ∧ τ 23 4 = (parse (fX σ)).1 105 ∧ τ 23 5 = (parse (fX σ)).1 106 ∧ τ 60 6 = 0) ∨ (¬ τ 0 13 = 0 ∧ ∀ c j : Nat, ((0 < c ∧ c < 10) ∨ (23 ≤ c ∧ c < 88)) → τ c j = σ c j))
set_option maxHeartbeats 4000000 in
set_option maxRecDepth 100000 in
theorem c_X11_text {G : tw_G} (hX : tw_isX G) (σ : tw_M) (hI : tw_I σ) : tw_C G yX11_text cX11_text 1 (some .int) 9 [vR 0] σ (q_X11_text σ) := by
  refine tw_met [(0, vR 0)] (by decide +kernel) rfl (Nat.le_of_ble_eq_true rfl) ?_
  refine j_aload_n (pc := 0) dX11_text_0 rfl rfl ?_
  refine j_getR (pc := 1) (r := 10) fl_X11_19 dX11_text_1 (a_0 hX) rfl ?_
  refine j_callV (pc := 4) (As := []) (st := []) (c_X9_readAll hX σ hI) mv_X11_109 rfl rfl rfl (a_10 hX) dX11_text_4 ⟨Nat.le_of_ble_eq_true rfl, Nat.le_of_ble_eq_true rfl⟩ ⟨Nat.le_refl _, Nat.le_refl _⟩ rfl (Nat.le_of_ble_eq_true rfl) rfl (fun z1 σ2 hz1 => ?_)
  obtain ⟨rfl, hIσ2, hGσ2, q3_0⟩ := hz1
  replace q3_0 : (aX σ2, σ2 10 13) = parse (fX σ) := q3_0
  have hFσ2 : tw_F (fun c j => (c = 10 ∧ (j = 3 ∨ j = 4 ∨ j = 5 ∨ j = 6 ∨ j = 7 ∨ j = 8 ∨ j = 10 ∨ j = 11 ∨ j = 12 ∨ j = 13)) ∨ (12 ≤ c ∧ c < 14) ∨ (14 ≤ c ∧ c < 23) ∨ (1 ≤ c ∧ c < 10) ∨ (23 ≤ c ∧ c < 31) ∨ (c = 31 ∧ (j = 6)) ∨ (c = 39 ∧ (j = 6)) ∨ (c = 60 ∧ (j = 6 ∨ j = 7)) ∨ (c = 71 ∧ (j = 1)) ∨ (c = 76 ∧ (j = 1)) ∨ (c = 0 ∧ (j = 13))) σ σ2 := tw_F_tr (tw_F_rf) hGσ2 (fun c j q => (show (c = 10 ∧ (j = 3 ∨ j = 4 ∨ j = 5 ∨ j = 6 ∨ j = 7 ∨ j = 8 ∨ j = 10 ∨ j = 11 ∨ j = 12 ∨ j = 13)) ∨ (12 ≤ c ∧ c < 14) ∨ (14 ≤ c ∧ c < 23) ∨ (1 ≤ c ∧ c < 10) ∨ (23 ≤ c ∧ c < 31) ∨ (c = 31 ∧ (j = 6)) ∨ (c = 39 ∧ (j = 6)) ∨ (c = 60 ∧ (j = 6 ∨ j = 7)) ∨ (c = 71 ∧ (j = 1)) ∨ (c = 76 ∧ (j = 1)) ∨ (c = 0 ∧ (j = 13)) from by replace q : (c = 10 ∧ (j = 3 ∨ j = 4 ∨ j = 5 ∨ j = 6 ∨ j = 7 ∨ j = 8 ∨ j = 11 ∨ j = 12 ∨ j = 13)) ∨ (12 ≤ c ∧ c < 14) ∨ (14 ≤ c ∧ c < 23) := q; exact (q.elim (fun q => (Or.inl ⟨q.1, (q.2.elim (fun z => (Or.inl z)) (fun z => (z.elim (fun z => (Or.inr (Or.inl z))) (fun z => (z.elim (fun z => (Or.inr (Or.inr (Or.inl z)))) (fun z => (z.elim (fun z => (Or.inr (Or.inr (Or.inr (Or.inl z))))) (fun z => (z.elim (fun z => (Or.inr (Or.inr (Or.inr (Or.inr (Or.inl z)))))) (fun z => (z.elim (fun z => (Or.inr (Or.inr (Or.inr (Or.inr (Or.inr (Or.inl z))))))) (fun z => (z.elim (fun z => (Or.inr (Or.inr (Or.inr (Or.inr (Or.inr (Or.inr (Or.inr (Or.inl z))))))))) (fun z => (z.elim (fun z => (Or.inr (Or.inr (Or.inr (Or.inr (Or.inr (Or.inr (Or.inr (Or.inr (Or.inl z)))))))))) (fun z => (Or.inr (Or.inr (Or.inr (Or.inr (Or.inr (Or.inr (Or.inr (Or.inr (Or.inr z)))))))))))))))))))))))))⟩)) (fun q => (q.elim (fun q => (Or.inr (Or.inl q))) (fun q => (Or.inr (Or.inr (Or.inl q)))))))))
  refine j_st (st' := []) rfl ?_
  have pm := q3_0
  refine j_aload_n (pc := 7) dX11_text_7 rfl rfl ?_
  refine j_getR (pc := 8) (r := 10) fl_X11_19 dX11_text_8 (a_0 hX) rfl ?_
  refine j_iconst (pc := 11) dX11_text_11 ?_
  refine j_putI (pc := 12) fl_X11_106 fp_X9_10 dX11_text_12 (a_10 hX) rfl (j_nm (fun σ5 (eσ5 : σ5 = tw_up σ2 10 10 0) => ?_))
  have hIσ5 : tw_I σ5 := tw_I_up hIσ2 eσ5 (show (0 : Int) ≤ 0 ∧ 0 ≤ 400 from by decide)
  have hFσ5 : tw_F (fun c j => (c = 10 ∧ (j = 3 ∨ j = 4 ∨ j = 5 ∨ j = 6 ∨ j = 7 ∨ j = 8 ∨ j = 10 ∨ j = 11 ∨ j = 12 ∨ j = 13)) ∨ (12 ≤ c ∧ c < 14) ∨ (14 ≤ c ∧ c < 23) ∨ (1 ≤ c ∧ c < 10) ∨ (23 ≤ c ∧ c < 31) ∨ (c = 31 ∧ (j = 6)) ∨ (c = 39 ∧ (j = 6)) ∨ (c = 60 ∧ (j = 6 ∨ j = 7)) ∨ (c = 71 ∧ (j = 1)) ∨ (c = 76 ∧ (j = 1)) ∨ (c = 0 ∧ (j = 13))) σ σ5 := tw_F_up hFσ2 eσ5 (show (10 = 10 ∧ (10 = 3 ∨ 10 = 4 ∨ 10 = 5 ∨ 10 = 6 ∨ 10 = 7 ∨ 10 = 8 ∨ 10 = 10 ∨ 10 = 11 ∨ 10 = 12 ∨ 10 = 13)) ∨ (12 ≤ 10 ∧ 10 < 14) ∨ (14 ≤ 10 ∧ 10 < 23) ∨ (1 ≤ 10 ∧ 10 < 10) ∨ (23 ≤ 10 ∧ 10 < 31) ∨ (10 = 31 ∧ (10 = 6)) ∨ (10 = 39 ∧ (10 = 6)) ∨ (10 = 60 ∧ (10 = 6 ∨ 10 = 7)) ∨ (10 = 71 ∧ (10 = 1)) ∨ (10 = 76 ∧ (10 = 1)) ∨ (10 = 0 ∧ (10 = 13)) from (Or.inl ⟨rfl, (Or.inr (Or.inr (Or.inr (Or.inr (Or.inr (Or.inr (Or.inl rfl)))))))⟩))
  refine j_aload_n (pc := 15) dX11_text_15 rfl rfl ?_
  refine j_aload_n (pc := 16) dX11_text_16 rfl rfl ?_
  refine j_getR (pc := 17) (r := 10) fl_X11_19 dX11_text_17 (a_0 hX) rfl ?_
  refine j_getI (pc := 20) fl_X11_112 dX11_text_20 (a_10 hX) rfl ?_
  refine j_topV (show σ5 10 11 = σ2 10 11 from (tw_ne1 eσ5 (by (first | decide | omega)))) ?_
  have f6 : (0 : Int) ≤ σ2 10 11 ∧ σ2 10 11 ≤ 5 := hIσ2 10 11
  refine j_putI (pc := 23) fl_X11_91 fp_X11_13 dX11_text_23 (a_0 hX) rfl (j_nm (fun σ7 (eσ7 : σ7 = tw_up σ5 0 13 (σ2 10 11)) => ?_))
  have hIσ7 : tw_I σ7 := tw_I_up hIσ5 eσ7 (show (-2147483648 : Int) ≤ σ2 10 11 ∧ σ2 10 11 ≤ 2147483647 from ⟨by omega, by omega⟩)
  have hFσ7 : tw_F (fun c j => (c = 10 ∧ (j = 3 ∨ j = 4 ∨ j = 5 ∨ j = 6 ∨ j = 7 ∨ j = 8 ∨ j = 10 ∨ j = 11 ∨ j = 12 ∨ j = 13)) ∨ (12 ≤ c ∧ c < 14) ∨ (14 ≤ c ∧ c < 23) ∨ (1 ≤ c ∧ c < 10) ∨ (23 ≤ c ∧ c < 31) ∨ (c = 31 ∧ (j = 6)) ∨ (c = 39 ∧ (j = 6)) ∨ (c = 60 ∧ (j = 6 ∨ j = 7)) ∨ (c = 71 ∧ (j = 1)) ∨ (c = 76 ∧ (j = 1)) ∨ (c = 0 ∧ (j = 13))) σ σ7 := tw_F_up hFσ5 eσ7 (show (0 = 10 ∧ (13 = 3 ∨ 13 = 4 ∨ 13 = 5 ∨ 13 = 6 ∨ 13 = 7 ∨ 13 = 8 ∨ 13 = 10 ∨ 13 = 11 ∨ 13 = 12 ∨ 13 = 13)) ∨ (12 ≤ 0 ∧ 0 < 14) ∨ (14 ≤ 0 ∧ 0 < 23) ∨ (1 ≤ 0 ∧ 0 < 10) ∨ (23 ≤ 0 ∧ 0 < 31) ∨ (0 = 31 ∧ (13 = 6)) ∨ (0 = 39 ∧ (13 = 6)) ∨ (0 = 60 ∧ (13 = 6 ∨ 13 = 7)) ∨ (0 = 71 ∧ (13 = 1)) ∨ (0 = 76 ∧ (13 = 1)) ∨ (0 = 0 ∧ (13 = 13)) from (Or.inr (Or.inr (Or.inr (Or.inr (Or.inr (Or.inr (Or.inr (Or.inr (Or.inr (Or.inr ⟨rfl, rfl⟩)))))))))))
  refine j_aload_n (pc := 26) dX11_text_26 rfl rfl ?_
  refine j_getI (pc := 27) fl_X11_91 dX11_text_27 (a_0 hX) rfl ?_
  refine j_topV (show σ7 0 13 = σ2 10 11 from (tw_eq1 eσ7)) ?_
  refine j_ifR_eq (pc := 30) (tgt := 44) ⟨by omega, by omega⟩ dX11_text_30 rfl (fun h8 => ?_) (fun h8 => ?_)
  · have dB : drX σ7 = drX σ2 := drX_F ((tw_ne1 eσ7 (by decide)).trans (tw_ne1 eσ5 (by decide))) ((tw_ne1 eσ7 (by decide)).trans (tw_ne1 eσ5 (by decide))) (fun c j h => (tw_ne1 eσ7 (by (first | decide | omega))).trans (tw_ne1 eσ5 (by (first | decide | omega))))
    have f11 : σ2 10 11 = 0 := by omega
    have pw := pwB_X pm f11
    refine j_aload_n (pc := 44) dX11_text_44 rfl rfl ?_
    refine j_getR (pc := 45) (r := 1) fl_X11_10 dX11_text_45 (a_0 hX) rfl ?_
    refine j_aload_n (pc := 48) dX11_text_48 rfl rfl ?_
    refine j_getR (pc := 49) (r := 10) fl_X11_19 dX11_text_49 (a_0 hX) rfl ?_
    refine j_getR (pc := 52) (r := 14) fl_X11_118 dX11_text_52 (a_10 hX) rfl ?_
    refine j_callV (pc := 55) (As := [vR 14]) (st := []) (c_X10_copyOf 1 (s_Wall_1 hX) 14 (s_Wall_14 hX) σ7 hIσ7 (by omega)) mv_X11_121 rfl rfl rfl (a_1 hX) dX11_text_55 ⟨Nat.le_of_ble_eq_true rfl, Nat.le_of_ble_eq_true rfl⟩ ⟨Nat.le_refl _, Nat.le_refl _⟩ rfl (Nat.le_of_ble_eq_true rfl) rfl (fun z9 σ10 hz9 => ?_)
    obtain ⟨rfl, hIσ10, hGσ10, q11_0, q11_1, q11_2, q11_3, q11_4, q11_5, q11_6, q11_7⟩ := hz9
    replace q11_0 : Cn 2 (σ7 15) σ10 9 := q11_0
    replace q11_1 : Cn 3 (σ7 16) σ10 11 := q11_1
    replace q11_2 : Cn 4 (σ7 17) σ10 41 := q11_2
    replace q11_3 : Cn 5 (σ7 18) σ10 41 := q11_3
    replace q11_4 : Cn 6 (σ7 19) σ10 41 := q11_4
    replace q11_5 : Cn 7 (σ7 20) σ10 41 := q11_5
    replace q11_6 : Cn 8 (σ7 21) σ10 41 := q11_6
    replace q11_7 : Cn 9 (hiL (σ7 19)) σ10 41 := q11_7
    have hFσ10 : tw_F (fun c j => (c = 10 ∧ (j = 3 ∨ j = 4 ∨ j = 5 ∨ j = 6 ∨ j = 7 ∨ j = 8 ∨ j = 10 ∨ j = 11 ∨ j = 12 ∨ j = 13)) ∨ (12 ≤ c ∧ c < 14) ∨ (14 ≤ c ∧ c < 23) ∨ (1 ≤ c ∧ c < 10) ∨ (23 ≤ c ∧ c < 31) ∨ (c = 31 ∧ (j = 6)) ∨ (c = 39 ∧ (j = 6)) ∨ (c = 60 ∧ (j = 6 ∨ j = 7)) ∨ (c = 71 ∧ (j = 1)) ∨ (c = 76 ∧ (j = 1)) ∨ (c = 0 ∧ (j = 13))) σ σ10 := tw_F_tr hFσ7 hGσ10 (fun c j q => (show (c = 10 ∧ (j = 3 ∨ j = 4 ∨ j = 5 ∨ j = 6 ∨ j = 7 ∨ j = 8 ∨ j = 10 ∨ j = 11 ∨ j = 12 ∨ j = 13)) ∨ (12 ≤ c ∧ c < 14) ∨ (14 ≤ c ∧ c < 23) ∨ (1 ≤ c ∧ c < 10) ∨ (23 ≤ c ∧ c < 31) ∨ (c = 31 ∧ (j = 6)) ∨ (c = 39 ∧ (j = 6)) ∨ (c = 60 ∧ (j = 6 ∨ j = 7)) ∨ (c = 71 ∧ (j = 1)) ∨ (c = 76 ∧ (j = 1)) ∨ (c = 0 ∧ (j = 13)) from by replace q : (2 ≤ c ∧ c < 10) := q; exact (Or.inr (Or.inr (Or.inr (Or.inl ⟨Nat.le_trans (by decide) q.1, Nat.lt_of_lt_of_le q.2 (by decide)⟩))))))
    refine j_st (st' := []) rfl ?_
    have w2 := q11_0
    have w3 := q11_1
    have ww : wW 1 σ10 = pwB (parse (fX σ)).1 := by
      rw [← pw.1, ← dB]
      exact wW_of q11_0 q11_2 q11_3 q11_4 q11_5 q11_6 q11_7
    refine j_aload_n (pc := 58) dX11_text_58 rfl rfl ?_
    refine j_getR (pc := 59) (r := 23) fl_X11_26 dX11_text_59 (a_0 hX) rfl ?_
    refine j_aload_n (pc := 62) dX11_text_62 rfl rfl ?_
    refine j_getR (pc := 63) (r := 1) fl_X11_10 dX11_text_63 (a_0 hX) rfl ?_
    refine j_callV (pc := 66) (As := [vR 1]) (st := []) (c_X3_begin 23 (s_Hand_23 hX) 1 (s_Wall_1 hX) σ10 hIσ10 (by omega)) mv_X11_99 rfl rfl rfl (a_23 hX) dX11_text_66 ⟨Nat.le_of_ble_eq_true rfl, Nat.le_of_ble_eq_true rfl⟩ ⟨Nat.le_refl _, Nat.le_refl _⟩ rfl (Nat.le_of_ble_eq_true rfl) rfl (fun z13 σ14 hz13 => ?_)
    obtain ⟨rfl, hIσ14, hGσ14, q15_0, q15_1, q15_2, q15_3, q15_4, q15_5, q15_6, q15_7⟩ := hz13
    replace q15_0 : σ14 29 0 = 0 := q15_0
    replace q15_1 : σ14 30 0 = 0 := q15_1
    replace q15_2 : σ14 29 1 = 0 := q15_2
    replace q15_3 : σ14 30 1 = 0 := q15_3
    replace q15_4 : σ14 24 0 = 0 := q15_4
    replace q15_5 : ∀ j : Nat, j < 11 → σ14 28 j = σ10 3 j := q15_5
    replace q15_6 : σ14 23 4 = σ10 2 5 := q15_6
    replace q15_7 : σ14 23 5 = σ10 2 6 := q15_7
    have hFσ14 : tw_F (fun c j => (c = 10 ∧ (j = 3 ∨ j = 4 ∨ j = 5 ∨ j = 6 ∨ j = 7 ∨ j = 8 ∨ j = 10 ∨ j = 11 ∨ j = 12 ∨ j = 13)) ∨ (12 ≤ c ∧ c < 14) ∨ (14 ≤ c ∧ c < 23) ∨ (1 ≤ c ∧ c < 10) ∨ (23 ≤ c ∧ c < 31) ∨ (c = 31 ∧ (j = 6)) ∨ (c = 39 ∧ (j = 6)) ∨ (c = 60 ∧ (j = 6 ∨ j = 7)) ∨ (c = 71 ∧ (j = 1)) ∨ (c = 76 ∧ (j = 1)) ∨ (c = 0 ∧ (j = 13))) σ σ14 := tw_F_tr hFσ10 hGσ14 (fun c j q => (show (c = 10 ∧ (j = 3 ∨ j = 4 ∨ j = 5 ∨ j = 6 ∨ j = 7 ∨ j = 8 ∨ j = 10 ∨ j = 11 ∨ j = 12 ∨ j = 13)) ∨ (12 ≤ c ∧ c < 14) ∨ (14 ≤ c ∧ c < 23) ∨ (1 ≤ c ∧ c < 10) ∨ (23 ≤ c ∧ c < 31) ∨ (c = 31 ∧ (j = 6)) ∨ (c = 39 ∧ (j = 6)) ∨ (c = 60 ∧ (j = 6 ∨ j = 7)) ∨ (c = 71 ∧ (j = 1)) ∨ (c = 76 ∧ (j = 1)) ∨ (c = 0 ∧ (j = 13)) from by replace q : (23 ≤ c ∧ c < 31) := q; exact (Or.inr (Or.inr (Or.inr (Or.inr (Or.inl q)))))))
    refine j_st (st' := []) rfl ?_
    have hb1 := q15_4
    have hb2 := q15_5
    have hb3 := q15_6
    have hb4 := q15_7
    have fC : ∀ c j : Nat, c < 10 → σ14 c j = σ10 c j := fun c j h => hGσ14 c j (show ¬ ((23 ≤ c ∧ c < 31)) from by omega)
    refine j_aload_n (pc := 69) dX11_text_69 rfl rfl ?_
    refine j_getR (pc := 70) (r := 31) fl_X11_30 dX11_text_70 (a_0 hX) rfl ?_
    refine j_iconst (pc := 73) dX11_text_73 ?_
    refine j_putZ (pc := 74) (by omega) fl_X11_124 fp_X3_6 dX11_text_74 (a_31 hX) rfl (j_nm (fun σ17 (eσ17 : σ17 = tw_up σ14 31 6 0) => ?_))
    have hIσ17 : tw_I σ17 := tw_I_up hIσ14 eσ17 (show (0 : Int) ≤ 0 ∧ 0 ≤ 1 from by decide)
    have hFσ17 : tw_F (fun c j => (c = 10 ∧ (j = 3 ∨ j = 4 ∨ j = 5 ∨ j = 6 ∨ j = 7 ∨ j = 8 ∨ j = 10 ∨ j = 11 ∨ j = 12 ∨ j = 13)) ∨ (12 ≤ c ∧ c < 14) ∨ (14 ≤ c ∧ c < 23) ∨ (1 ≤ c ∧ c < 10) ∨ (23 ≤ c ∧ c < 31) ∨ (c = 31 ∧ (j = 6)) ∨ (c = 39 ∧ (j = 6)) ∨ (c = 60 ∧ (j = 6 ∨ j = 7)) ∨ (c = 71 ∧ (j = 1)) ∨ (c = 76 ∧ (j = 1)) ∨ (c = 0 ∧ (j = 13))) σ σ17 := tw_F_up hFσ14 eσ17 (show (31 = 10 ∧ (6 = 3 ∨ 6 = 4 ∨ 6 = 5 ∨ 6 = 6 ∨ 6 = 7 ∨ 6 = 8 ∨ 6 = 10 ∨ 6 = 11 ∨ 6 = 12 ∨ 6 = 13)) ∨ (12 ≤ 31 ∧ 31 < 14) ∨ (14 ≤ 31 ∧ 31 < 23) ∨ (1 ≤ 31 ∧ 31 < 10) ∨ (23 ≤ 31 ∧ 31 < 31) ∨ (31 = 31 ∧ (6 = 6)) ∨ (31 = 39 ∧ (6 = 6)) ∨ (31 = 60 ∧ (6 = 6 ∨ 6 = 7)) ∨ (31 = 71 ∧ (6 = 1)) ∨ (31 = 76 ∧ (6 = 1)) ∨ (31 = 0 ∧ (6 = 13)) from (Or.inr (Or.inr (Or.inr (Or.inr (Or.inr (Or.inl ⟨rfl, rfl⟩)))))))
    refine j_aload_n (pc := 77) dX11_text_77 rfl rfl ?_
    refine j_getR (pc := 78) (r := 39) fl_X11_33 dX11_text_78 (a_0 hX) rfl ?_
    refine j_iconst (pc := 81) dX11_text_81 ?_
    refine j_putZ (pc := 82) (by omega) fl_X11_124 fp_X3_6 dX11_text_82 (a_39 hX) rfl (j_nm (fun σ18 (eσ18 : σ18 = tw_up σ17 39 6 0) => ?_))
    have hIσ18 : tw_I σ18 := tw_I_up hIσ17 eσ18 (show (0 : Int) ≤ 0 ∧ 0 ≤ 1 from by decide)
    have hFσ18 : tw_F (fun c j => (c = 10 ∧ (j = 3 ∨ j = 4 ∨ j = 5 ∨ j = 6 ∨ j = 7 ∨ j = 8 ∨ j = 10 ∨ j = 11 ∨ j = 12 ∨ j = 13)) ∨ (12 ≤ c ∧ c < 14) ∨ (14 ≤ c ∧ c < 23) ∨ (1 ≤ c ∧ c < 10) ∨ (23 ≤ c ∧ c < 31) ∨ (c = 31 ∧ (j = 6)) ∨ (c = 39 ∧ (j = 6)) ∨ (c = 60 ∧ (j = 6 ∨ j = 7)) ∨ (c = 71 ∧ (j = 1)) ∨ (c = 76 ∧ (j = 1)) ∨ (c = 0 ∧ (j = 13))) σ σ18 := tw_F_up hFσ17 eσ18 (show (39 = 10 ∧ (6 = 3 ∨ 6 = 4 ∨ 6 = 5 ∨ 6 = 6 ∨ 6 = 7 ∨ 6 = 8 ∨ 6 = 10 ∨ 6 = 11 ∨ 6 = 12 ∨ 6 = 13)) ∨ (12 ≤ 39 ∧ 39 < 14) ∨ (14 ≤ 39 ∧ 39 < 23) ∨ (1 ≤ 39 ∧ 39 < 10) ∨ (23 ≤ 39 ∧ 39 < 31) ∨ (39 = 31 ∧ (6 = 6)) ∨ (39 = 39 ∧ (6 = 6)) ∨ (39 = 60 ∧ (6 = 6 ∨ 6 = 7)) ∨ (39 = 71 ∧ (6 = 1)) ∨ (39 = 76 ∧ (6 = 1)) ∨ (39 = 0 ∧ (6 = 13)) from (Or.inr (Or.inr (Or.inr (Or.inr (Or.inr (Or.inr (Or.inl ⟨rfl, rfl⟩))))))))
    refine j_aload_n (pc := 85) dX11_text_85 rfl rfl ?_
    refine j_getR (pc := 86) (r := 60) fl_X11_67 dX11_text_86 (a_0 hX) rfl ?_
    refine j_callV (pc := 89) (As := []) (st := []) (c_X5_forget hX σ18 hIσ18) mv_X11_128 rfl rfl rfl (a_60 hX) dX11_text_89 ⟨Nat.le_of_ble_eq_true rfl, Nat.le_of_ble_eq_true rfl⟩ ⟨Nat.le_refl _, Nat.le_refl _⟩ rfl (Nat.le_of_ble_eq_true rfl) rfl (fun z19 σ20 hz19 => ?_)
    obtain ⟨rfl, hIσ20, hGσ20, q21_0⟩ := hz19
    replace q21_0 : σ20 60 6 = 0 := q21_0
    have hFσ20 : tw_F (fun c j => (c = 10 ∧ (j = 3 ∨ j = 4 ∨ j = 5 ∨ j = 6 ∨ j = 7 ∨ j = 8 ∨ j = 10 ∨ j = 11 ∨ j = 12 ∨ j = 13)) ∨ (12 ≤ c ∧ c < 14) ∨ (14 ≤ c ∧ c < 23) ∨ (1 ≤ c ∧ c < 10) ∨ (23 ≤ c ∧ c < 31) ∨ (c = 31 ∧ (j = 6)) ∨ (c = 39 ∧ (j = 6)) ∨ (c = 60 ∧ (j = 6 ∨ j = 7)) ∨ (c = 71 ∧ (j = 1)) ∨ (c = 76 ∧ (j = 1)) ∨ (c = 0 ∧ (j = 13))) σ σ20 := tw_F_tr hFσ18 hGσ20 (fun c j q => (show (c = 10 ∧ (j = 3 ∨ j = 4 ∨ j = 5 ∨ j = 6 ∨ j = 7 ∨ j = 8 ∨ j = 10 ∨ j = 11 ∨ j = 12 ∨ j = 13)) ∨ (12 ≤ c ∧ c < 14) ∨ (14 ≤ c ∧ c < 23) ∨ (1 ≤ c ∧ c < 10) ∨ (23 ≤ c ∧ c < 31) ∨ (c = 31 ∧ (j = 6)) ∨ (c = 39 ∧ (j = 6)) ∨ (c = 60 ∧ (j = 6 ∨ j = 7)) ∨ (c = 71 ∧ (j = 1)) ∨ (c = 76 ∧ (j = 1)) ∨ (c = 0 ∧ (j = 13)) from by replace q : (c = 60 ∧ (j = 6 ∨ j = 7)) := q; exact (Or.inr (Or.inr (Or.inr (Or.inr (Or.inr (Or.inr (Or.inr (Or.inl q))))))))))
    refine j_st (st' := []) rfl ?_
    refine j_aload_n (pc := 92) dX11_text_92 rfl rfl ?_
    refine j_getR (pc := 93) (r := 71) fl_X11_74 dX11_text_93 (a_0 hX) rfl ?_
    refine j_callV (pc := 96) (As := []) (st := []) (c_X6_forget hX σ20 hIσ20) mv_X11_131 rfl rfl rfl (a_71 hX) dX11_text_96 ⟨Nat.le_of_ble_eq_true rfl, Nat.le_of_ble_eq_true rfl⟩ ⟨Nat.le_refl _, Nat.le_refl _⟩ rfl (Nat.le_of_ble_eq_true rfl) rfl (fun z23 σ24 hz23 => ?_)
    obtain ⟨rfl, hIσ24, hGσ24, -⟩ := hz23
    have hFσ24 : tw_F (fun c j => (c = 10 ∧ (j = 3 ∨ j = 4 ∨ j = 5 ∨ j = 6 ∨ j = 7 ∨ j = 8 ∨ j = 10 ∨ j = 11 ∨ j = 12 ∨ j = 13)) ∨ (12 ≤ c ∧ c < 14) ∨ (14 ≤ c ∧ c < 23) ∨ (1 ≤ c ∧ c < 10) ∨ (23 ≤ c ∧ c < 31) ∨ (c = 31 ∧ (j = 6)) ∨ (c = 39 ∧ (j = 6)) ∨ (c = 60 ∧ (j = 6 ∨ j = 7)) ∨ (c = 71 ∧ (j = 1)) ∨ (c = 76 ∧ (j = 1)) ∨ (c = 0 ∧ (j = 13))) σ σ24 := tw_F_tr hFσ20 hGσ24 (fun c j q => (show (c = 10 ∧ (j = 3 ∨ j = 4 ∨ j = 5 ∨ j = 6 ∨ j = 7 ∨ j = 8 ∨ j = 10 ∨ j = 11 ∨ j = 12 ∨ j = 13)) ∨ (12 ≤ c ∧ c < 14) ∨ (14 ≤ c ∧ c < 23) ∨ (1 ≤ c ∧ c < 10) ∨ (23 ≤ c ∧ c < 31) ∨ (c = 31 ∧ (j = 6)) ∨ (c = 39 ∧ (j = 6)) ∨ (c = 60 ∧ (j = 6 ∨ j = 7)) ∨ (c = 71 ∧ (j = 1)) ∨ (c = 76 ∧ (j = 1)) ∨ (c = 0 ∧ (j = 13)) from by replace q : (c = 71 ∧ (j = 1)) := q; exact (Or.inr (Or.inr (Or.inr (Or.inr (Or.inr (Or.inr (Or.inr (Or.inr (Or.inl q)))))))))))
    refine j_st (st' := []) rfl ?_
    refine j_aload_n (pc := 99) dX11_text_99 rfl rfl ?_
    refine j_getR (pc := 100) (r := 76) fl_X11_81 dX11_text_100 (a_0 hX) rfl ?_
    refine j_callV (pc := 103) (As := []) (st := []) (c_X0_forget hX σ24 hIσ24) mv_X11_132 rfl rfl rfl (a_76 hX) dX11_text_103 ⟨Nat.le_of_ble_eq_true rfl, Nat.le_of_ble_eq_true rfl⟩ ⟨Nat.le_refl _, Nat.le_refl _⟩ rfl (Nat.le_of_ble_eq_true rfl) rfl (fun z27 σ28 hz27 => ?_)
    obtain ⟨rfl, hIσ28, hGσ28, -⟩ := hz27
    have hFσ28 : tw_F (fun c j => (c = 10 ∧ (j = 3 ∨ j = 4 ∨ j = 5 ∨ j = 6 ∨ j = 7 ∨ j = 8 ∨ j = 10 ∨ j = 11 ∨ j = 12 ∨ j = 13)) ∨ (12 ≤ c ∧ c < 14) ∨ (14 ≤ c ∧ c < 23) ∨ (1 ≤ c ∧ c < 10) ∨ (23 ≤ c ∧ c < 31) ∨ (c = 31 ∧ (j = 6)) ∨ (c = 39 ∧ (j = 6)) ∨ (c = 60 ∧ (j = 6 ∨ j = 7)) ∨ (c = 71 ∧ (j = 1)) ∨ (c = 76 ∧ (j = 1)) ∨ (c = 0 ∧ (j = 13))) σ σ28 := tw_F_tr hFσ24 hGσ28 (fun c j q => (show (c = 10 ∧ (j = 3 ∨ j = 4 ∨ j = 5 ∨ j = 6 ∨ j = 7 ∨ j = 8 ∨ j = 10 ∨ j = 11 ∨ j = 12 ∨ j = 13)) ∨ (12 ≤ c ∧ c < 14) ∨ (14 ≤ c ∧ c < 23) ∨ (1 ≤ c ∧ c < 10) ∨ (23 ≤ c ∧ c < 31) ∨ (c = 31 ∧ (j = 6)) ∨ (c = 39 ∧ (j = 6)) ∨ (c = 60 ∧ (j = 6 ∨ j = 7)) ∨ (c = 71 ∧ (j = 1)) ∨ (c = 76 ∧ (j = 1)) ∨ (c = 0 ∧ (j = 13)) from by replace q : (c = 76 ∧ (j = 1)) := q; exact (Or.inr (Or.inr (Or.inr (Or.inr (Or.inr (Or.inr (Or.inr (Or.inr (Or.inr (Or.inl q))))))))))))
    refine j_st (st' := []) rfl ?_
    refine j_aload_n (pc := 106) dX11_text_106 rfl rfl ?_
    refine j_getR (pc := 107) (r := 10) fl_X11_19 dX11_text_107 (a_0 hX) rfl ?_
    refine j_getI (pc := 110) fl_X11_133 dX11_text_110 (a_10 hX) rfl ?_
    refine j_topV (show σ28 10 13 = σ2 10 13 from (((((((((hGσ28 10 13 (show ¬ ((10 = 76 ∧ (13 = 1))) from by decide))).trans (hGσ24 10 13 (show ¬ ((10 = 71 ∧ (13 = 1))) from by decide))).trans (hGσ20 10 13 (show ¬ ((10 = 60 ∧ (13 = 6 ∨ 13 = 7))) from by decide))).trans (tw_ne1 eσ18 (by (first | decide | omega)))).trans (tw_ne1 eσ17 (by (first | decide | omega)))).trans (hGσ14 10 13 (show ¬ ((23 ≤ 10 ∧ 10 < 31)) from by decide))).trans (hGσ10 10 13 (show ¬ ((2 ≤ 10 ∧ 10 < 10)) from by decide))).trans (tw_ne1 eσ7 (by (first | decide | omega)))).trans (tw_ne1 eσ5 (by (first | decide | omega)))) ?_
    have f31 : (0 : Int) ≤ σ2 10 13 ∧ σ2 10 13 ≤ 400 := hIσ2 10 13
    have fin : (σ28 0 13 = 0 ∧ wW 1 σ28 = pwB (parse (fX σ)).1 ∧ (∀ j : Nat, j < 11 → σ28 3 j = (parse (fX σ)).1 (200 + j)) ∧ σ28 24 0 = 0 ∧ (∀ j : Nat, j < 11 → σ28 28 j = (parse (fX σ)).1 (200 + j)) ∧ σ28 23 4 = (parse (fX σ)).1 105 ∧ σ28 23 5 = (parse (fX σ)).1 106 ∧ σ28 60 6 = 0) ∨ (¬ σ28 0 13 = 0 ∧ ∀ c j : Nat, ((0 < c ∧ c < 10) ∨ (23 ≤ c ∧ c < 88)) → σ28 c j = σ c j) := by
      have fD : ∀ c j : Nat, (0 < c ∧ c < 31) → ¬ c = 10 → σ28 c j = σ14 c j := fun c j h h2 => ((((((hGσ28 c j (show ¬ ((c = 76 ∧ (j = 1))) from by omega))).trans (hGσ24 c j (show ¬ ((c = 71 ∧ (j = 1))) from by omega))).trans (hGσ20 c j (show ¬ ((c = 60 ∧ (j = 6 ∨ j = 7))) from by omega))).trans (tw_ne1 eσ18 (by (first | decide | omega)))).trans (tw_ne1 eσ17 (by (first | decide | omega))))
      have k3 : ∀ j : Nat, j < 11 → σ10 3 j = (parse (fX σ)).1 (200 + j) := fun j hj => by
        rw [w3 j (by omega), ← pw.2 (200 + j) (by omega), ← dB, drX_k hj]
      have k2 : ∀ j : Nat, j < 9 → σ10 2 j = (parse (fX σ)).1 (100 + j) := fun j hj => by
        rw [w2 j (by omega), ← pw.2 (100 + j) (by omega), ← dB, drX_r hj]
      refine Or.inl ⟨(((((((((hGσ28 0 13 (show ¬ ((0 = 76 ∧ (13 = 1))) from by decide))).trans (hGσ24 0 13 (show ¬ ((0 = 71 ∧ (13 = 1))) from by decide))).trans (hGσ20 0 13 (show ¬ ((0 = 60 ∧ (13 = 6 ∨ 13 = 7))) from by decide))).trans (tw_ne1 eσ18 (by (first | decide | omega)))).trans (tw_ne1 eσ17 (by (first | decide | omega)))).trans (hGσ14 0 13 (show ¬ ((23 ≤ 0 ∧ 0 < 31)) from by decide))).trans (hGσ10 0 13 (show ¬ ((2 ≤ 0 ∧ 0 < 10)) from by decide))).trans (tw_eq1 eσ7)).trans f11, ?_, fun j hj => ?_, ?_, fun j hj => ?_, ?_, ?_, ?_⟩
      · rw [← ww]; exact wW_F (fun c j a b => (fD c j (by omega) (by omega)).trans (fC c j (by omega)))
      · rw [fD 3 j (by omega) (by omega), fC 3 j (by omega)]; exact k3 j hj
      · rw [fD 24 0 (by omega) (by omega)]; exact hb1
      · rw [fD 28 j (by omega) (by omega), hb2 j hj]; exact k3 j hj
      · rw [fD 23 4 (by omega) (by omega), hb3]; exact k2 5 (by omega)
      · rw [fD 23 5 (by omega) (by omega), hb4]; exact k2 6 (by omega)
      · exact (((hGσ28 60 6 (show ¬ ((60 = 76 ∧ (6 = 1))) from by decide))).trans (hGσ24 60 6 (show ¬ ((60 = 71 ∧ (6 = 1))) from by decide))).trans (by omega)
    have y32 : σ28 10 10 = 0 := (((((((((hGσ28 10 10 (show ¬ ((10 = 76 ∧ (10 = 1))) from by decide))).trans (hGσ24 10 10 (show ¬ ((10 = 71 ∧ (10 = 1))) from by decide))).trans (hGσ20 10 10 (show ¬ ((10 = 60 ∧ (10 = 6 ∨ 10 = 7))) from by decide))).trans (tw_ne1 eσ18 (by (first | decide | omega)))).trans (tw_ne1 eσ17 (by (first | decide | omega)))).trans (hGσ14 10 10 (show ¬ ((23 ≤ 10 ∧ 10 < 31)) from by decide))).trans (hGσ10 10 10 (show ¬ ((2 ≤ 10 ∧ 10 < 10)) from by decide))).trans (tw_ne1 eσ7 (by (first | decide | omega)))).trans (tw_eq1 eσ5)
    have y33 : σ28 0 13 = σ2 10 11 := ((((((((hGσ28 0 13 (show ¬ ((0 = 76 ∧ (13 = 1))) from by decide))).trans (hGσ24 0 13 (show ¬ ((0 = 71 ∧ (13 = 1))) from by decide))).trans (hGσ20 0 13 (show ¬ ((0 = 60 ∧ (13 = 6 ∨ 13 = 7))) from by decide))).trans (tw_ne1 eσ18 (by (first | decide | omega)))).trans (tw_ne1 eσ17 (by (first | decide | omega)))).trans (hGσ14 0 13 (show ¬ ((23 ≤ 0 ∧ 0 < 31)) from by decide))).trans (hGσ10 0 13 (show ¬ ((2 ≤ 0 ∧ 0 < 10)) from by decide))).trans (tw_eq1 eσ7)
    have y34 : σ28 0 13 = σ2 10 11 := ((((((((hGσ28 0 13 (show ¬ ((0 = 76 ∧ (13 = 1))) from by decide))).trans (hGσ24 0 13 (show ¬ ((0 = 71 ∧ (13 = 1))) from by decide))).trans (hGσ20 0 13 (show ¬ ((0 = 60 ∧ (13 = 6 ∨ 13 = 7))) from by decide))).trans (tw_ne1 eσ18 (by (first | decide | omega)))).trans (tw_ne1 eσ17 (by (first | decide | omega)))).trans (hGσ14 0 13 (show ¬ ((23 ≤ 0 ∧ 0 < 31)) from by decide))).trans (hGσ10 0 13 (show ¬ ((2 ≤ 0 ∧ 0 < 10)) from by decide))).trans (tw_eq1 eσ7)
    have y35 : σ28 31 6 = 0 := (((((hGσ28 31 6 (show ¬ ((31 = 76 ∧ (6 = 1))) from by decide))).trans (hGσ24 31 6 (show ¬ ((31 = 71 ∧ (6 = 1))) from by decide))).trans (hGσ20 31 6 (show ¬ ((31 = 60 ∧ (6 = 6 ∨ 6 = 7))) from by decide))).trans (tw_ne1 eσ18 (by (first | decide | omega)))).trans (tw_eq1 eσ17)
    have y36 : σ28 39 6 = 0 := ((((hGσ28 39 6 (show ¬ ((39 = 76 ∧ (6 = 1))) from by decide))).trans (hGσ24 39 6 (show ¬ ((39 = 71 ∧ (6 = 1))) from by decide))).trans (hGσ20 39 6 (show ¬ ((39 = 60 ∧ (6 = 6 ∨ 6 = 7))) from by decide))).trans (tw_eq1 eσ18)
    have y37 : σ28 0 13 = σ2 10 11 := ((((((((hGσ28 0 13 (show ¬ ((0 = 76 ∧ (13 = 1))) from by decide))).trans (hGσ24 0 13 (show ¬ ((0 = 71 ∧ (13 = 1))) from by decide))).trans (hGσ20 0 13 (show ¬ ((0 = 60 ∧ (13 = 6 ∨ 13 = 7))) from by decide))).trans (tw_ne1 eσ18 (by (first | decide | omega)))).trans (tw_ne1 eσ17 (by (first | decide | omega)))).trans (hGσ14 0 13 (show ¬ ((23 ≤ 0 ∧ 0 < 31)) from by decide))).trans (hGσ10 0 13 (show ¬ ((2 ≤ 0 ∧ 0 < 10)) from by decide))).trans (tw_eq1 eσ7)
    have y38 : σ28 29 0 = σ14 29 0 := (((((hGσ28 29 0 (show ¬ ((29 = 76 ∧ (0 = 1))) from by decide))).trans (hGσ24 29 0 (show ¬ ((29 = 71 ∧ (0 = 1))) from by decide))).trans (hGσ20 29 0 (show ¬ ((29 = 60 ∧ (0 = 6 ∨ 0 = 7))) from by decide))).trans (tw_ne1 eσ18 (by (first | decide | omega)))).trans (tw_ne1 eσ17 (by (first | decide | omega)))
    have f39 : (0 : Int) ≤ σ14 29 0 ∧ σ14 29 0 ≤ 999 := hIσ14 29 0
    have y40 : σ28 0 13 = σ2 10 11 := ((((((((hGσ28 0 13 (show ¬ ((0 = 76 ∧ (13 = 1))) from by decide))).trans (hGσ24 0 13 (show ¬ ((0 = 71 ∧ (13 = 1))) from by decide))).trans (hGσ20 0 13 (show ¬ ((0 = 60 ∧ (13 = 6 ∨ 13 = 7))) from by decide))).trans (tw_ne1 eσ18 (by (first | decide | omega)))).trans (tw_ne1 eσ17 (by (first | decide | omega)))).trans (hGσ14 0 13 (show ¬ ((23 ≤ 0 ∧ 0 < 31)) from by decide))).trans (hGσ10 0 13 (show ¬ ((2 ≤ 0 ∧ 0 < 10)) from by decide))).trans (tw_eq1 eσ7)
    have y41 : σ28 30 0 = σ14 30 0 := (((((hGσ28 30 0 (show ¬ ((30 = 76 ∧ (0 = 1))) from by decide))).trans (hGσ24 30 0 (show ¬ ((30 = 71 ∧ (0 = 1))) from by decide))).trans (hGσ20 30 0 (show ¬ ((30 = 60 ∧ (0 = 6 ∨ 0 = 7))) from by decide))).trans (tw_ne1 eσ18 (by (first | decide | omega)))).trans (tw_ne1 eσ17 (by (first | decide | omega)))
    have f42 : (-2147483648 : Int) ≤ σ14 30 0 ∧ σ14 30 0 ≤ 2147483647 := hIσ14 30 0
    have y43 : σ28 0 13 = σ2 10 11 := ((((((((hGσ28 0 13 (show ¬ ((0 = 76 ∧ (13 = 1))) from by decide))).trans (hGσ24 0 13 (show ¬ ((0 = 71 ∧ (13 = 1))) from by decide))).trans (hGσ20 0 13 (show ¬ ((0 = 60 ∧ (13 = 6 ∨ 13 = 7))) from by decide))).trans (tw_ne1 eσ18 (by (first | decide | omega)))).trans (tw_ne1 eσ17 (by (first | decide | omega)))).trans (hGσ14 0 13 (show ¬ ((23 ≤ 0 ∧ 0 < 31)) from by decide))).trans (hGσ10 0 13 (show ¬ ((2 ≤ 0 ∧ 0 < 10)) from by decide))).trans (tw_eq1 eσ7)
    have y44 : σ28 29 1 = σ14 29 1 := (((((hGσ28 29 1 (show ¬ ((29 = 76 ∧ (1 = 1))) from by decide))).trans (hGσ24 29 1 (show ¬ ((29 = 71 ∧ (1 = 1))) from by decide))).trans (hGσ20 29 1 (show ¬ ((29 = 60 ∧ (1 = 6 ∨ 1 = 7))) from by decide))).trans (tw_ne1 eσ18 (by (first | decide | omega)))).trans (tw_ne1 eσ17 (by (first | decide | omega)))
    have f45 : (0 : Int) ≤ σ14 29 1 ∧ σ14 29 1 ≤ 999 := hIσ14 29 1
    have y46 : σ28 0 13 = σ2 10 11 := ((((((((hGσ28 0 13 (show ¬ ((0 = 76 ∧ (13 = 1))) from by decide))).trans (hGσ24 0 13 (show ¬ ((0 = 71 ∧ (13 = 1))) from by decide))).trans (hGσ20 0 13 (show ¬ ((0 = 60 ∧ (13 = 6 ∨ 13 = 7))) from by decide))).trans (tw_ne1 eσ18 (by (first | decide | omega)))).trans (tw_ne1 eσ17 (by (first | decide | omega)))).trans (hGσ14 0 13 (show ¬ ((23 ≤ 0 ∧ 0 < 31)) from by decide))).trans (hGσ10 0 13 (show ¬ ((2 ≤ 0 ∧ 0 < 10)) from by decide))).trans (tw_eq1 eσ7)
    have y47 : σ28 30 1 = σ14 30 1 := (((((hGσ28 30 1 (show ¬ ((30 = 76 ∧ (1 = 1))) from by decide))).trans (hGσ24 30 1 (show ¬ ((30 = 71 ∧ (1 = 1))) from by decide))).trans (hGσ20 30 1 (show ¬ ((30 = 60 ∧ (1 = 6 ∨ 1 = 7))) from by decide))).trans (tw_ne1 eσ18 (by (first | decide | omega)))).trans (tw_ne1 eσ17 (by (first | decide | omega)))
    have f48 : (-2147483648 : Int) ≤ σ14 30 1 ∧ σ14 30 1 ≤ 2147483647 := hIσ14 30 1
    have y49 : σ28 0 13 = σ2 10 11 := ((((((((hGσ28 0 13 (show ¬ ((0 = 76 ∧ (13 = 1))) from by decide))).trans (hGσ24 0 13 (show ¬ ((0 = 71 ∧ (13 = 1))) from by decide))).trans (hGσ20 0 13 (show ¬ ((0 = 60 ∧ (13 = 6 ∨ 13 = 7))) from by decide))).trans (tw_ne1 eσ18 (by (first | decide | omega)))).trans (tw_ne1 eσ17 (by (first | decide | omega)))).trans (hGσ14 0 13 (show ¬ ((23 ≤ 0 ∧ 0 < 31)) from by decide))).trans (hGσ10 0 13 (show ¬ ((2 ≤ 0 ∧ 0 < 10)) from by decide))).trans (tw_eq1 eσ7)
    have y50 : σ28 24 0 = σ14 24 0 := (((((hGσ28 24 0 (show ¬ ((24 = 76 ∧ (0 = 1))) from by decide))).trans (hGσ24 24 0 (show ¬ ((24 = 71 ∧ (0 = 1))) from by decide))).trans (hGσ20 24 0 (show ¬ ((24 = 60 ∧ (0 = 6 ∨ 0 = 7))) from by decide))).trans (tw_ne1 eσ18 (by (first | decide | omega)))).trans (tw_ne1 eσ17 (by (first | decide | omega)))
    have f51 : (0 : Int) ≤ σ14 24 0 ∧ σ14 24 0 ≤ 10 := hIσ14 24 0
    have y52 : σ28 23 4 = σ14 23 4 := (((((hGσ28 23 4 (show ¬ ((23 = 76 ∧ (4 = 1))) from by decide))).trans (hGσ24 23 4 (show ¬ ((23 = 71 ∧ (4 = 1))) from by decide))).trans (hGσ20 23 4 (show ¬ ((23 = 60 ∧ (4 = 6 ∨ 4 = 7))) from by decide))).trans (tw_ne1 eσ18 (by (first | decide | omega)))).trans (tw_ne1 eσ17 (by (first | decide | omega)))
    have f53 : (-2147483648 : Int) ≤ σ14 23 4 ∧ σ14 23 4 ≤ 2147483647 := hIσ14 23 4
    have y54 : σ28 23 5 = σ14 23 5 := (((((hGσ28 23 5 (show ¬ ((23 = 76 ∧ (5 = 1))) from by decide))).trans (hGσ24 23 5 (show ¬ ((23 = 71 ∧ (5 = 1))) from by decide))).trans (hGσ20 23 5 (show ¬ ((23 = 60 ∧ (5 = 6 ∨ 5 = 7))) from by decide))).trans (tw_ne1 eσ18 (by (first | decide | omega)))).trans (tw_ne1 eσ17 (by (first | decide | omega)))
    have f55 : (-2147483648 : Int) ≤ σ14 23 5 ∧ σ14 23 5 ≤ 2147483647 := hIσ14 23 5
    have y56 : σ28 60 6 = σ20 60 6 := ((hGσ28 60 6 (show ¬ ((60 = 76 ∧ (6 = 1))) from by decide))).trans (hGσ24 60 6 (show ¬ ((60 = 71 ∧ (6 = 1))) from by decide))
    have f57 : (0 : Int) ≤ σ20 60 6 ∧ σ20 60 6 ≤ 1 := hIσ20 60 6
    exact j_iret (pc := 113) ⟨rfl, rfl⟩ dX11_text_113 rfl ⟨_, rfl, ⟨by omega, by omega⟩, hIσ28, hFσ28, by omega, (by rw [← pm]; first | exact (txt_f (by omega)).symm | exact (txt_t (by omega)).symm | (rw [txt_f (by omega)]; omega) | (rw [txt_t (by omega)]; omega)), (by rw [← pm]; show _ = (aX _) 4; rw [aX_4]; omega), by omega, by omega, by omega, by omega, by omega, fin⟩
  · refine j_bipush (pc := 33) dX11_text_33 rfl ?_
    refine j_aload_n (pc := 35) dX11_text_35 rfl rfl ?_
    refine j_getR (pc := 36) (r := 10) fl_X11_19 dX11_text_36 (a_0 hX) rfl ?_
    refine j_getI (pc := 39) fl_X11_115 dX11_text_39 (a_10 hX) rfl ?_
    refine j_topV (show σ7 10 12 = σ2 10 12 from ((tw_ne1 eσ7 (by (first | decide | omega)))).trans (tw_ne1 eσ5 (by (first | decide | omega)))) ?_
    have f58 : (0 : Int) ≤ σ2 10 12 ∧ σ2 10 12 ≤ 400 := hIσ2 10 12
    refine j_isub (pc := 42) dX11_text_42 ?_
    have fin : (σ7 0 13 = 0 ∧ wW 1 σ7 = pwB (parse (fX σ)).1 ∧ (∀ j : Nat, j < 11 → σ7 3 j = (parse (fX σ)).1 (200 + j)) ∧ σ7 24 0 = 0 ∧ (∀ j : Nat, j < 11 → σ7 28 j = (parse (fX σ)).1 (200 + j)) ∧ σ7 23 4 = (parse (fX σ)).1 105 ∧ σ7 23 5 = (parse (fX σ)).1 106 ∧ σ7 60 6 = 0) ∨ (¬ σ7 0 13 = 0 ∧ ∀ c j : Nat, ((0 < c ∧ c < 10) ∨ (23 ≤ c ∧ c < 88)) → σ7 c j = σ c j) := Or.inr ⟨fun z => absurd (((tw_eq1 eσ7)).symm.trans z) (by omega), fun c j h => (tw_ne1 eσ7 (by (first | decide | omega))).trans ((tw_ne1 eσ5 (by (first | decide | omega))).trans (hGσ2 c j (show ¬ ((c = 10 ∧ (j = 3 ∨ j = 4 ∨ j = 5 ∨ j = 6 ∨ j = 7 ∨ j = 8 ∨ j = 11 ∨ j = 12 ∨ j = 13)) ∨ (12 ≤ c ∧ c < 14) ∨ (14 ≤ c ∧ c < 23)) from by omega)))⟩
    have y59 : σ7 10 10 = 0 := ((tw_ne1 eσ7 (by (first | decide | omega)))).trans (tw_eq1 eσ5)
    have y60 : σ7 0 13 = σ2 10 11 := (tw_eq1 eσ7)
    have y61 : σ7 0 13 = σ2 10 11 := (tw_eq1 eσ7)
    have y62 : σ7 31 6 = σ 31 6 := (((tw_ne1 eσ7 (by (first | decide | omega)))).trans (tw_ne1 eσ5 (by (first | decide | omega)))).trans (hGσ2 31 6 (show ¬ ((31 = 10 ∧ (6 = 3 ∨ 6 = 4 ∨ 6 = 5 ∨ 6 = 6 ∨ 6 = 7 ∨ 6 = 8 ∨ 6 = 11 ∨ 6 = 12 ∨ 6 = 13)) ∨ (12 ≤ 31 ∧ 31 < 14) ∨ (14 ≤ 31 ∧ 31 < 23)) from by decide))
    have f63 : (0 : Int) ≤ σ 31 6 ∧ σ 31 6 ≤ 1 := hI 31 6
    have y64 : σ7 39 6 = σ 39 6 := (((tw_ne1 eσ7 (by (first | decide | omega)))).trans (tw_ne1 eσ5 (by (first | decide | omega)))).trans (hGσ2 39 6 (show ¬ ((39 = 10 ∧ (6 = 3 ∨ 6 = 4 ∨ 6 = 5 ∨ 6 = 6 ∨ 6 = 7 ∨ 6 = 8 ∨ 6 = 11 ∨ 6 = 12 ∨ 6 = 13)) ∨ (12 ≤ 39 ∧ 39 < 14) ∨ (14 ≤ 39 ∧ 39 < 23)) from by decide))
    have f65 : (0 : Int) ≤ σ 39 6 ∧ σ 39 6 ≤ 1 := hI 39 6
    have y66 : σ7 0 13 = σ2 10 11 := (tw_eq1 eσ7)
    have y67 : σ7 29 0 = σ 29 0 := (((tw_ne1 eσ7 (by (first | decide | omega)))).trans (tw_ne1 eσ5 (by (first | decide | omega)))).trans (hGσ2 29 0 (show ¬ ((29 = 10 ∧ (0 = 3 ∨ 0 = 4 ∨ 0 = 5 ∨ 0 = 6 ∨ 0 = 7 ∨ 0 = 8 ∨ 0 = 11 ∨ 0 = 12 ∨ 0 = 13)) ∨ (12 ≤ 29 ∧ 29 < 14) ∨ (14 ≤ 29 ∧ 29 < 23)) from by decide))
    have f68 : (0 : Int) ≤ σ 29 0 ∧ σ 29 0 ≤ 999 := hI 29 0
    have y69 : σ7 0 13 = σ2 10 11 := (tw_eq1 eσ7)
    have y70 : σ7 30 0 = σ 30 0 := (((tw_ne1 eσ7 (by (first | decide | omega)))).trans (tw_ne1 eσ5 (by (first | decide | omega)))).trans (hGσ2 30 0 (show ¬ ((30 = 10 ∧ (0 = 3 ∨ 0 = 4 ∨ 0 = 5 ∨ 0 = 6 ∨ 0 = 7 ∨ 0 = 8 ∨ 0 = 11 ∨ 0 = 12 ∨ 0 = 13)) ∨ (12 ≤ 30 ∧ 30 < 14) ∨ (14 ≤ 30 ∧ 30 < 23)) from by decide))
    have f71 : (-2147483648 : Int) ≤ σ 30 0 ∧ σ 30 0 ≤ 2147483647 := hI 30 0
    have y72 : σ7 0 13 = σ2 10 11 := (tw_eq1 eσ7)
    have y73 : σ7 29 1 = σ 29 1 := (((tw_ne1 eσ7 (by (first | decide | omega)))).trans (tw_ne1 eσ5 (by (first | decide | omega)))).trans (hGσ2 29 1 (show ¬ ((29 = 10 ∧ (1 = 3 ∨ 1 = 4 ∨ 1 = 5 ∨ 1 = 6 ∨ 1 = 7 ∨ 1 = 8 ∨ 1 = 11 ∨ 1 = 12 ∨ 1 = 13)) ∨ (12 ≤ 29 ∧ 29 < 14) ∨ (14 ≤ 29 ∧ 29 < 23)) from by decide))
    have f74 : (0 : Int) ≤ σ 29 1 ∧ σ 29 1 ≤ 999 := hI 29 1
    have y75 : σ7 0 13 = σ2 10 11 := (tw_eq1 eσ7)
    have y76 : σ7 30 1 = σ 30 1 := (((tw_ne1 eσ7 (by (first | decide | omega)))).trans (tw_ne1 eσ5 (by (first | decide | omega)))).trans (hGσ2 30 1 (show ¬ ((30 = 10 ∧ (1 = 3 ∨ 1 = 4 ∨ 1 = 5 ∨ 1 = 6 ∨ 1 = 7 ∨ 1 = 8 ∨ 1 = 11 ∨ 1 = 12 ∨ 1 = 13)) ∨ (12 ≤ 30 ∧ 30 < 14) ∨ (14 ≤ 30 ∧ 30 < 23)) from by decide))
    have f77 : (-2147483648 : Int) ≤ σ 30 1 ∧ σ 30 1 ≤ 2147483647 := hI 30 1
    have y78 : σ7 0 13 = σ2 10 11 := (tw_eq1 eσ7)
    have y79 : σ7 24 0 = σ 24 0 := (((tw_ne1 eσ7 (by (first | decide | omega)))).trans (tw_ne1 eσ5 (by (first | decide | omega)))).trans (hGσ2 24 0 (show ¬ ((24 = 10 ∧ (0 = 3 ∨ 0 = 4 ∨ 0 = 5 ∨ 0 = 6 ∨ 0 = 7 ∨ 0 = 8 ∨ 0 = 11 ∨ 0 = 12 ∨ 0 = 13)) ∨ (12 ≤ 24 ∧ 24 < 14) ∨ (14 ≤ 24 ∧ 24 < 23)) from by decide))
    have f80 : (0 : Int) ≤ σ 24 0 ∧ σ 24 0 ≤ 10 := hI 24 0
    have y81 : σ7 23 4 = σ 23 4 := (((tw_ne1 eσ7 (by (first | decide | omega)))).trans (tw_ne1 eσ5 (by (first | decide | omega)))).trans (hGσ2 23 4 (show ¬ ((23 = 10 ∧ (4 = 3 ∨ 4 = 4 ∨ 4 = 5 ∨ 4 = 6 ∨ 4 = 7 ∨ 4 = 8 ∨ 4 = 11 ∨ 4 = 12 ∨ 4 = 13)) ∨ (12 ≤ 23 ∧ 23 < 14) ∨ (14 ≤ 23 ∧ 23 < 23)) from by decide))
    have f82 : (-2147483648 : Int) ≤ σ 23 4 ∧ σ 23 4 ≤ 2147483647 := hI 23 4
    have y83 : σ7 23 5 = σ 23 5 := (((tw_ne1 eσ7 (by (first | decide | omega)))).trans (tw_ne1 eσ5 (by (first | decide | omega)))).trans (hGσ2 23 5 (show ¬ ((23 = 10 ∧ (5 = 3 ∨ 5 = 4 ∨ 5 = 5 ∨ 5 = 6 ∨ 5 = 7 ∨ 5 = 8 ∨ 5 = 11 ∨ 5 = 12 ∨ 5 = 13)) ∨ (12 ≤ 23 ∧ 23 < 14) ∨ (14 ≤ 23 ∧ 23 < 23)) from by decide))
    have f84 : (-2147483648 : Int) ≤ σ 23 5 ∧ σ 23 5 ≤ 2147483647 := hI 23 5
    have y85 : σ7 60 6 = σ 60 6 := (((tw_ne1 eσ7 (by (first | decide | omega)))).trans (tw_ne1 eσ5 (by (first | decide | omega)))).trans (hGσ2 60 6 (show ¬ ((60 = 10 ∧ (6 = 3 ∨ 6 = 4 ∨ 6 = 5 ∨ 6 = 6 ∨ 6 = 7 ∨ 6 = 8 ∨ 6 = 11 ∨ 6 = 12 ∨ 6 = 13)) ∨ (12 ≤ 60 ∧ 60 < 14) ∨ (14 ≤ 60 ∧ 60 < 23)) from by decide))
    have f86 : (0 : Int) ≤ σ 60 6 ∧ σ 60 6 ≤ 1 := hI 60 6
    exact j_iret (pc := 43) ⟨rfl, rfl⟩ dX11_text_43 rfl ⟨_, rfl, ⟨by omega, by omega⟩, hIσ7, hFσ7, by omega, (by rw [← pm]; first | exact (txt_f (by omega)).symm | exact (txt_t (by omega)).symm | (rw [txt_f (by omega)]; omega) | (rw [txt_t (by omega)]; omega)), (by rw [← pm]; show _ = (aX _) 4; rw [aX_4]; omega), by omega, by omega, by omega, by omega, by omega, fin⟩
abbrev q_X11_fault  (σ : tw_M) : Option tw_V → tw_M → Prop := fun z τ => ∃ r : Int, z = some (vI r) ∧ (-2147483648 ≤ r ∧ r ≤ 2147483647) ∧ σ = τ ∧ (r = σ 0 13)
set_option maxHeartbeats 4000000 in
set_option maxRecDepth 100000 in
theorem c_X11_fault {G : tw_G} (hX : tw_isX G) (σ : tw_M) (hI : tw_I σ) : tw_C G yX11_fault cX11_fault 1 (some .int) 0 [vR 0] σ (q_X11_fault σ) := by
  refine tw_met [(0, vR 0)] (by decide +kernel) rfl (Nat.le_of_ble_eq_true rfl) ?_
  refine j_aload_n (pc := 0) dX11_fault_0 rfl rfl ?_
  refine j_getI (pc := 1) fl_X11_91 dX11_fault_1 (a_0 hX) rfl ?_
  have f1 : (-2147483648 : Int) ≤ σ 0 13 ∧ σ 0 13 ≤ 2147483647 := hI 0 13
  exact j_iret (pc := 4) ⟨rfl, rfl⟩ dX11_fault_4 rfl ⟨_, rfl, ⟨by omega, by omega⟩, rfl, by omega⟩
abbrev q_X11_rule (w : Int) (σ : tw_M) : Option tw_V → tw_M → Prop := fun z τ => ∃ r : Int, z = some (vI r) ∧ (-2147483648 ≤ r ∧ r ≤ 2147483647) ∧ σ = τ ∧ ((w = 5 ∧ r = σ 23 4) ∨ (w = 6 ∧ r = σ 23 5) ∨ ((0 ≤ w ∧ w < 9 ∧ ¬ w = 5 ∧ ¬ w = 6) ∧ r = σ 2 w.toNat) ∨ ((11 ≤ w ∧ w ≤ 20) ∧ r = σ 28 (w - 10).toNat) ∨ (r = -1 ∧ ¬ (0 ≤ w ∧ w < 9) ∧ ¬ (11 ≤ w ∧ w ≤ 20)))
set_option maxHeartbeats 4000000 in
set_option maxRecDepth 100000 in
theorem c_X11_rule {G : tw_G} (hX : tw_isX G) (w : Int) (hw : -2147483648 ≤ w ∧ w ≤ 2147483647) (σ : tw_M) (hI : tw_I σ) : tw_C G yX11_rule cX11_rule 3 (some .int) 0 [vR 0, vI w] σ (q_X11_rule w σ) := by
  refine tw_met [(0, vR 0), (1, vI w)] (by decide +kernel) rfl (Nat.le_of_ble_eq_true rfl) ?_
  refine j_iload_n (pc := 0) dX11_rule_0 rfl rfl ?_
  refine j_iconst (pc := 1) dX11_rule_1 ?_
  refine j_icmpR_ne (pc := 2) (tgt := 13) ⟨by omega, by omega⟩ ⟨by omega, by omega⟩ dX11_rule_2 rfl (fun h1 => ?_) (fun h1 => ?_)
  · refine j_iload_n (pc := 13) dX11_rule_13 rfl rfl ?_
    refine j_bipush (pc := 14) dX11_rule_14 rfl ?_
    refine j_icmpR_ne (pc := 16) (tgt := 27) ⟨by omega, by omega⟩ ⟨by omega, by omega⟩ dX11_rule_16 rfl (fun h2 => ?_) (fun h2 => ?_)
    · refine j_iload_n (pc := 27) dX11_rule_27 rfl rfl ?_
      refine j_ifR_lt (pc := 28) (tgt := 47) ⟨by omega, by omega⟩ dX11_rule_28 rfl (fun h3 => ?_) (fun h3 => ?_)
      · refine j_iload_n (pc := 47) dX11_rule_47 rfl rfl ?_
        refine j_bipush (pc := 48) dX11_rule_48 rfl ?_
        refine j_isub (pc := 50) dX11_rule_50 ?_
        refine j_top (fun z4 ez4 hz4 => ?_)
        have gz4 : w - 10 < -2147483648 ∨ 2147483647 < w - 10 ∨ z4 = w - 10 := by rw [ez4]; exact w32_or _
        refine j_istore_n (pc := 51) (i := 2) (ls' := [(0, vR 0), (1, vI w), (2, vI z4)]) [1, 2, 0] dX11_rule_51 rfl (Nat.le_of_ble_eq_true rfl) rfl rfl ?_
        refine j_iload_n (pc := 52) dX11_rule_52 rfl rfl ?_
        refine j_bipush (pc := 53) dX11_rule_53 rfl ?_
        refine j_icmpR_le (pc := 55) (tgt := 76) ⟨by omega, by omega⟩ ⟨by omega, by omega⟩ dX11_rule_55 rfl (fun h5 => ?_) (fun h5 => by exfalso; omega)
        refine j_iconst (pc := 76) dX11_rule_76 ?_
        exact j_iret (pc := 77) ⟨rfl, rfl⟩ dX11_rule_77 rfl ⟨_, rfl, ⟨by omega, by omega⟩, rfl, (by first | exact Or.inl ⟨by omega, rfl⟩ | exact Or.inr (Or.inl ⟨by omega, rfl⟩) | exact Or.inr (Or.inr (Or.inl ⟨by omega, rfl⟩)) | exact Or.inr (Or.inr (Or.inr (Or.inl ⟨by omega, congrArg (fun x => σ 28 (Int.toNat x)) (by omega)⟩))) | exact Or.inr (Or.inr (Or.inr (Or.inr ⟨rfl, by omega, by omega⟩))))⟩
      · refine j_iload_n (pc := 31) dX11_rule_31 rfl rfl ?_
        refine j_bipush (pc := 32) dX11_rule_32 rfl ?_
        refine j_icmpR_ge (pc := 34) (tgt := 47) ⟨by omega, by omega⟩ ⟨by omega, by omega⟩ dX11_rule_34 rfl (fun h6 => ?_) (fun h6 => ?_)
        · refine j_iload_n (pc := 47) dX11_rule_47 rfl rfl ?_
          refine j_bipush (pc := 48) dX11_rule_48 rfl ?_
          refine j_isub (pc := 50) dX11_rule_50 ?_
          refine j_istore_n (pc := 51) (i := 2) (ls' := [(0, vR 0), (1, vI w), (2, vI (w - 10))]) [1, 2, 0] dX11_rule_51 rfl (Nat.le_of_ble_eq_true rfl) rfl rfl ?_
          refine j_iload_n (pc := 52) dX11_rule_52 rfl rfl ?_
          refine j_bipush (pc := 53) dX11_rule_53 rfl ?_
          refine j_icmpR_le (pc := 55) (tgt := 76) ⟨by omega, by omega⟩ ⟨by omega, by omega⟩ dX11_rule_55 rfl (fun h7 => ?_) (fun h7 => ?_)
          · refine j_iconst (pc := 76) dX11_rule_76 ?_
            exact j_iret (pc := 77) ⟨rfl, rfl⟩ dX11_rule_77 rfl ⟨_, rfl, ⟨by omega, by omega⟩, rfl, (by first | exact Or.inl ⟨by omega, rfl⟩ | exact Or.inr (Or.inl ⟨by omega, rfl⟩) | exact Or.inr (Or.inr (Or.inl ⟨by omega, rfl⟩)) | exact Or.inr (Or.inr (Or.inr (Or.inl ⟨by omega, congrArg (fun x => σ 28 (Int.toNat x)) (by omega)⟩))) | exact Or.inr (Or.inr (Or.inr (Or.inr ⟨rfl, by omega, by omega⟩))))⟩
          · refine j_iload_n (pc := 58) dX11_rule_58 rfl rfl ?_
            refine j_bipush (pc := 59) dX11_rule_59 rfl ?_
            refine j_icmpR_gt (pc := 61) (tgt := 76) ⟨by omega, by omega⟩ ⟨by omega, by omega⟩ dX11_rule_61 rfl (fun h8 => ?_) (fun h8 => ?_)
            · refine j_iconst (pc := 76) dX11_rule_76 ?_
              exact j_iret (pc := 77) ⟨rfl, rfl⟩ dX11_rule_77 rfl ⟨_, rfl, ⟨by omega, by omega⟩, rfl, (by first | exact Or.inl ⟨by omega, rfl⟩ | exact Or.inr (Or.inl ⟨by omega, rfl⟩) | exact Or.inr (Or.inr (Or.inl ⟨by omega, rfl⟩)) | exact Or.inr (Or.inr (Or.inr (Or.inl ⟨by omega, congrArg (fun x => σ 28 (Int.toNat x)) (by omega)⟩))) | exact Or.inr (Or.inr (Or.inr (Or.inr ⟨rfl, by omega, by omega⟩))))⟩
            · refine j_aload_n (pc := 64) dX11_rule_64 rfl rfl ?_
              refine j_getR (pc := 65) (r := 23) fl_X11_26 dX11_rule_65 (a_0 hX) rfl ?_
              refine j_getR (pc := 68) (r := 28) fl_X11_146 dX11_rule_68 (a_23 hX) rfl ?_
              refine j_iload_n (pc := 71) dX11_rule_71 rfl rfl ?_
              refine j_iald (pc := 72) dX11_rule_72 (a_28 hX) (by omega) (by omega) (by decide) ?_
              have f9 : (-2147483648 : Int) ≤ σ 28 ((w - 10).toNat) ∧ σ 28 ((w - 10).toNat) ≤ 2147483647 := hI 28 ((w - 10).toNat)
              refine j_goto (pc := 73) (tgt := 77) dX11_rule_73 rfl ?_
              exact j_iret (pc := 77) ⟨rfl, rfl⟩ dX11_rule_77 rfl ⟨_, rfl, ⟨by omega, by omega⟩, rfl, (by first | exact Or.inl ⟨by omega, rfl⟩ | exact Or.inr (Or.inl ⟨by omega, rfl⟩) | exact Or.inr (Or.inr (Or.inl ⟨by omega, rfl⟩)) | exact Or.inr (Or.inr (Or.inr (Or.inl ⟨by omega, congrArg (fun x => σ 28 (Int.toNat x)) (by omega)⟩))) | exact Or.inr (Or.inr (Or.inr (Or.inr ⟨rfl, by omega, by omega⟩))))⟩
        · refine j_aload_n (pc := 37) dX11_rule_37 rfl rfl ?_
          refine j_getR (pc := 38) (r := 1) fl_X11_10 dX11_rule_38 (a_0 hX) rfl ?_
          refine j_getR (pc := 41) (r := 2) fl_X11_142 dX11_rule_41 (a_1 hX) rfl ?_
          refine j_iload_n (pc := 44) dX11_rule_44 rfl rfl ?_
          refine j_iald (pc := 45) dX11_rule_45 (a_2 hX) (by omega) (by omega) (by decide) ?_
          have f10 : (-2147483648 : Int) ≤ σ 2 (w.toNat) ∧ σ 2 (w.toNat) ≤ 2147483647 := rb_D (hI 2 (w.toNat))
          exact j_iret (pc := 46) ⟨rfl, rfl⟩ dX11_rule_46 rfl ⟨_, rfl, ⟨by omega, by omega⟩, rfl, (by first | exact Or.inl ⟨by omega, rfl⟩ | exact Or.inr (Or.inl ⟨by omega, rfl⟩) | exact Or.inr (Or.inr (Or.inl ⟨by omega, rfl⟩)) | exact Or.inr (Or.inr (Or.inr (Or.inl ⟨by omega, congrArg (fun x => σ 28 (Int.toNat x)) (by omega)⟩))) | exact Or.inr (Or.inr (Or.inr (Or.inr ⟨rfl, by omega, by omega⟩))))⟩
    · refine j_aload_n (pc := 19) dX11_rule_19 rfl rfl ?_
      refine j_getR (pc := 20) (r := 23) fl_X11_26 dX11_rule_20 (a_0 hX) rfl ?_
      refine j_getI (pc := 23) fl_X11_139 dX11_rule_23 (a_23 hX) rfl ?_
      have f11 : (-2147483648 : Int) ≤ σ 23 5 ∧ σ 23 5 ≤ 2147483647 := hI 23 5
      exact j_iret (pc := 26) ⟨rfl, rfl⟩ dX11_rule_26 rfl ⟨_, rfl, ⟨by omega, by omega⟩, rfl, (by first | exact Or.inl ⟨by omega, rfl⟩ | exact Or.inr (Or.inl ⟨by omega, rfl⟩) | exact Or.inr (Or.inr (Or.inl ⟨by omega, rfl⟩)) | exact Or.inr (Or.inr (Or.inr (Or.inl ⟨by omega, congrArg (fun x => σ 28 (Int.toNat x)) (by omega)⟩))) | exact Or.inr (Or.inr (Or.inr (Or.inr ⟨rfl, by omega, by omega⟩))))⟩
  · refine j_aload_n (pc := 5) dX11_rule_5 rfl rfl ?_
    refine j_getR (pc := 6) (r := 23) fl_X11_26 dX11_rule_6 (a_0 hX) rfl ?_
    refine j_getI (pc := 9) fl_X11_136 dX11_rule_9 (a_23 hX) rfl ?_
    have f12 : (-2147483648 : Int) ≤ σ 23 4 ∧ σ 23 4 ≤ 2147483647 := hI 23 4
    exact j_iret (pc := 12) ⟨rfl, rfl⟩ dX11_rule_12 rfl ⟨_, rfl, ⟨by omega, by omega⟩, rfl, (by first | exact Or.inl ⟨by omega, rfl⟩ | exact Or.inr (Or.inl ⟨by omega, rfl⟩) | exact Or.inr (Or.inr (Or.inl ⟨by omega, rfl⟩)) | exact Or.inr (Or.inr (Or.inr (Or.inl ⟨by omega, congrArg (fun x => σ 28 (Int.toNat x)) (by omega)⟩))) | exact Or.inr (Or.inr (Or.inr (Or.inr ⟨rfl, by omega, by omega⟩))))⟩
abbrev q_X11_foot (h : Int) (w : Int) (σ : tw_M) : Option tw_V → tw_M → Prop := fun z τ => ∃ r : Int, z = some (vI r) ∧ (-2147483648 ≤ r ∧ r ≤ 2147483647) ∧ σ = τ ∧ ((r = -1 ∧ (¬ (1 ≤ h ∧ h ≤ σ 2 0) ∨ ¬ (0 ≤ w ∧ w ≤ 5))) ∨ ((1 ≤ h ∧ h ≤ σ 2 0) ∧ ((w = 0 ∧ r = σ 4 h.toNat) ∨ (w = 1 ∧ r = σ 5 h.toNat) ∨ (w = 2 ∧ r = σ 6 h.toNat) ∨ (w = 3 ∧ r = σ 7 h.toNat) ∨ (w = 4 ∧ r = σ 8 h.toNat) ∨ (w = 5 ∧ ((0 ≤ r ∧ r < σ 24 0 ∧ σ 25 r.toNat = h) ∨ (r = -4 ∧ ∀ k : Nat, (k : Int) < σ 24 0 → ¬ σ 25 k = h))))))
set_option maxHeartbeats 4000000 in
set_option maxRecDepth 100000 in
theorem c_X11_foot {G : tw_G} (hX : tw_isX G) (h : Int) (hh : -2147483648 ≤ h ∧ h ≤ 2147483647) (w : Int) (hw : -2147483648 ≤ w ∧ w ≤ 2147483647) (σ : tw_M) (hI : tw_I σ) : tw_C G yX11_foot cX11_foot 3 (some .int) 1 [vR 0, vI h, vI w] σ (q_X11_foot h w σ) := by
  refine tw_met [(0, vR 0), (1, vI h), (2, vI w)] (by decide +kernel) rfl (Nat.le_of_ble_eq_true rfl) ?_
  refine j_aload_n (pc := 0) dX11_foot_0 rfl rfl ?_
  refine j_getR (pc := 1) (r := 1) fl_X11_10 dX11_foot_1 (a_0 hX) rfl ?_
  refine j_iload_n (pc := 4) dX11_foot_4 rfl rfl ?_
  refine j_callV (pc := 5) (As := [vI h]) (st := []) (c_X10_isFoot 1 (s_Wall_1 hX) h ⟨by omega, by omega⟩ σ hI) mv_X11_149 rfl rfl rfl (a_1 hX) dX11_foot_5 ⟨Nat.le_of_ble_eq_true rfl, Nat.le_of_ble_eq_true rfl⟩ ⟨Nat.le_refl _, Nat.le_refl _⟩ rfl (Nat.le_of_ble_eq_true rfl) rfl (fun z1 σ2 hz1 => ?_)
  obtain ⟨r4, rfl, hr4, rfl, q3_0⟩ := hz1
  replace q3_0 : (r4 = 1 ∧ 1 ≤ h ∧ h ≤ σ 2 0 ∧ h ≤ 40) ∨ (r4 = 0 ∧ ¬ (1 ≤ h ∧ h ≤ σ 2 0)) := q3_0
  refine j_st (st' := [vI r4]) rfl ?_
  refine j_ifR_ne (pc := 8) (tgt := 13) ⟨by omega, by omega⟩ dX11_foot_8 rfl (fun h5 => ?_) (fun h5 => ?_)
  · refine j_iload_n (pc := 13) dX11_foot_13 rfl rfl ?_
    rcases (show w < 0 ∨ w = 0 ∨ w = 1 ∨ w = 2 ∨ w = 3 ∨ w = 4 ∨ w = 5 ∨ 5 < w from by omega) with h6 | h6 | h6 | h6 | h6 | h6 | h6 | h6
    · refine j_tsOut (pc := 14) (tgt := 114) dX11_foot_14 ⟨by omega, by omega⟩ (Or.inl h6) rfl ?_
      refine j_iconst (pc := 114) dX11_foot_114 ?_
      exact j_iret (pc := 115) ⟨rfl, rfl⟩ dX11_foot_115 rfl ⟨_, rfl, ⟨by omega, by omega⟩, rfl, (by first | exact Or.inl ⟨rfl, by omega⟩ | exact Or.inr ⟨by omega, Or.inl ⟨by omega, rfl⟩⟩ | exact Or.inr ⟨by omega, Or.inr (Or.inl ⟨by omega, rfl⟩)⟩ | exact Or.inr ⟨by omega, Or.inr (Or.inr (Or.inl ⟨by omega, rfl⟩))⟩ | exact Or.inr ⟨by omega, Or.inr (Or.inr (Or.inr (Or.inl ⟨by omega, rfl⟩)))⟩ | exact Or.inr ⟨by omega, Or.inr (Or.inr (Or.inr (Or.inr (Or.inl ⟨by omega, rfl⟩))))⟩ | exact Or.inr ⟨by omega, Or.inr (Or.inr (Or.inr (Or.inr (Or.inr (⟨by omega, fa⟩)))))⟩)⟩
    · refine j_tsIn (pc := 14) (tgt := 52) 0 dX11_foot_14 h6 (by decide) ⟨by decide, by decide⟩ rfl rfl ?_
      refine j_aload_n (pc := 52) dX11_foot_52 rfl rfl ?_
      refine j_getR (pc := 53) (r := 1) fl_X11_10 dX11_foot_53 (a_0 hX) rfl ?_
      refine j_getR (pc := 56) (r := 4) fl_X11_153 dX11_foot_56 (a_1 hX) rfl ?_
      refine j_iload_n (pc := 59) dX11_foot_59 rfl rfl ?_
      refine j_iald (pc := 60) dX11_foot_60 (a_4 hX) (by omega) (by omega) (by decide) ?_
      have f7 : (0 : Int) ≤ σ 4 (h.toNat) ∧ σ 4 (h.toNat) ≤ 9 := hI 4 (h.toNat)
      exact j_iret (pc := 61) ⟨rfl, rfl⟩ dX11_foot_61 rfl ⟨_, rfl, ⟨by omega, by omega⟩, rfl, (by first | exact Or.inl ⟨rfl, by omega⟩ | exact Or.inr ⟨by omega, Or.inl ⟨by omega, rfl⟩⟩ | exact Or.inr ⟨by omega, Or.inr (Or.inl ⟨by omega, rfl⟩)⟩ | exact Or.inr ⟨by omega, Or.inr (Or.inr (Or.inl ⟨by omega, rfl⟩))⟩ | exact Or.inr ⟨by omega, Or.inr (Or.inr (Or.inr (Or.inl ⟨by omega, rfl⟩)))⟩ | exact Or.inr ⟨by omega, Or.inr (Or.inr (Or.inr (Or.inr (Or.inl ⟨by omega, rfl⟩))))⟩ | exact Or.inr ⟨by omega, Or.inr (Or.inr (Or.inr (Or.inr (Or.inr (⟨by omega, fa⟩)))))⟩)⟩
    · refine j_tsIn (pc := 14) (tgt := 62) 1 dX11_foot_14 h6 (by decide) ⟨by decide, by decide⟩ rfl rfl ?_
      refine j_aload_n (pc := 62) dX11_foot_62 rfl rfl ?_
      refine j_getR (pc := 63) (r := 1) fl_X11_10 dX11_foot_63 (a_0 hX) rfl ?_
      refine j_getR (pc := 66) (r := 5) fl_X11_156 dX11_foot_66 (a_1 hX) rfl ?_
      refine j_iload_n (pc := 69) dX11_foot_69 rfl rfl ?_
      refine j_iald (pc := 70) dX11_foot_70 (a_5 hX) (by omega) (by omega) (by decide) ?_
      have f8 : (0 : Int) ≤ σ 5 (h.toNat) ∧ σ 5 (h.toNat) ≤ 10 := hI 5 (h.toNat)
      exact j_iret (pc := 71) ⟨rfl, rfl⟩ dX11_foot_71 rfl ⟨_, rfl, ⟨by omega, by omega⟩, rfl, (by first | exact Or.inl ⟨rfl, by omega⟩ | exact Or.inr ⟨by omega, Or.inl ⟨by omega, rfl⟩⟩ | exact Or.inr ⟨by omega, Or.inr (Or.inl ⟨by omega, rfl⟩)⟩ | exact Or.inr ⟨by omega, Or.inr (Or.inr (Or.inl ⟨by omega, rfl⟩))⟩ | exact Or.inr ⟨by omega, Or.inr (Or.inr (Or.inr (Or.inl ⟨by omega, rfl⟩)))⟩ | exact Or.inr ⟨by omega, Or.inr (Or.inr (Or.inr (Or.inr (Or.inl ⟨by omega, rfl⟩))))⟩ | exact Or.inr ⟨by omega, Or.inr (Or.inr (Or.inr (Or.inr (Or.inr (⟨by omega, fa⟩)))))⟩)⟩
    · refine j_tsIn (pc := 14) (tgt := 72) 2 dX11_foot_14 h6 (by decide) ⟨by decide, by decide⟩ rfl rfl ?_
      refine j_aload_n (pc := 72) dX11_foot_72 rfl rfl ?_
      refine j_getR (pc := 73) (r := 1) fl_X11_10 dX11_foot_73 (a_0 hX) rfl ?_
      refine j_getR (pc := 76) (r := 6) fl_X11_159 dX11_foot_76 (a_1 hX) rfl ?_
      refine j_iload_n (pc := 79) dX11_foot_79 rfl rfl ?_
      refine j_iald (pc := 80) dX11_foot_80 (a_6 hX) (by omega) (by omega) (by decide) ?_
      have f9 : (0 : Int) ≤ σ 6 (h.toNat) ∧ σ 6 (h.toNat) ≤ 1 := hI 6 (h.toNat)
      exact j_iret (pc := 81) ⟨rfl, rfl⟩ dX11_foot_81 rfl ⟨_, rfl, ⟨by omega, by omega⟩, rfl, (by first | exact Or.inl ⟨rfl, by omega⟩ | exact Or.inr ⟨by omega, Or.inl ⟨by omega, rfl⟩⟩ | exact Or.inr ⟨by omega, Or.inr (Or.inl ⟨by omega, rfl⟩)⟩ | exact Or.inr ⟨by omega, Or.inr (Or.inr (Or.inl ⟨by omega, rfl⟩))⟩ | exact Or.inr ⟨by omega, Or.inr (Or.inr (Or.inr (Or.inl ⟨by omega, rfl⟩)))⟩ | exact Or.inr ⟨by omega, Or.inr (Or.inr (Or.inr (Or.inr (Or.inl ⟨by omega, rfl⟩))))⟩ | exact Or.inr ⟨by omega, Or.inr (Or.inr (Or.inr (Or.inr (Or.inr (⟨by omega, fa⟩)))))⟩)⟩
    · refine j_tsIn (pc := 14) (tgt := 82) 3 dX11_foot_14 h6 (by decide) ⟨by decide, by decide⟩ rfl rfl ?_
      refine j_aload_n (pc := 82) dX11_foot_82 rfl rfl ?_
      refine j_getR (pc := 83) (r := 1) fl_X11_10 dX11_foot_83 (a_0 hX) rfl ?_
      refine j_getR (pc := 86) (r := 7) fl_X11_162 dX11_foot_86 (a_1 hX) rfl ?_
      refine j_iload_n (pc := 89) dX11_foot_89 rfl rfl ?_
      refine j_iald (pc := 90) dX11_foot_90 (a_7 hX) (by omega) (by omega) (by decide) ?_
      have f10 : (0 : Int) ≤ σ 7 (h.toNat) ∧ σ 7 (h.toNat) ≤ 1 := hI 7 (h.toNat)
      exact j_iret (pc := 91) ⟨rfl, rfl⟩ dX11_foot_91 rfl ⟨_, rfl, ⟨by omega, by omega⟩, rfl, (by first | exact Or.inl ⟨rfl, by omega⟩ | exact Or.inr ⟨by omega, Or.inl ⟨by omega, rfl⟩⟩ | exact Or.inr ⟨by omega, Or.inr (Or.inl ⟨by omega, rfl⟩)⟩ | exact Or.inr ⟨by omega, Or.inr (Or.inr (Or.inl ⟨by omega, rfl⟩))⟩ | exact Or.inr ⟨by omega, Or.inr (Or.inr (Or.inr (Or.inl ⟨by omega, rfl⟩)))⟩ | exact Or.inr ⟨by omega, Or.inr (Or.inr (Or.inr (Or.inr (Or.inl ⟨by omega, rfl⟩))))⟩ | exact Or.inr ⟨by omega, Or.inr (Or.inr (Or.inr (Or.inr (Or.inr (⟨by omega, fa⟩)))))⟩)⟩
    · refine j_tsIn (pc := 14) (tgt := 92) 4 dX11_foot_14 h6 (by decide) ⟨by decide, by decide⟩ rfl rfl ?_
      refine j_aload_n (pc := 92) dX11_foot_92 rfl rfl ?_
      refine j_getR (pc := 93) (r := 1) fl_X11_10 dX11_foot_93 (a_0 hX) rfl ?_
      refine j_getR (pc := 96) (r := 8) fl_X11_165 dX11_foot_96 (a_1 hX) rfl ?_
      refine j_iload_n (pc := 99) dX11_foot_99 rfl rfl ?_
      refine j_iald (pc := 100) dX11_foot_100 (a_8 hX) (by omega) (by omega) (by decide) ?_
      have f11 : (0 : Int) ≤ σ 8 (h.toNat) ∧ σ 8 (h.toNat) ≤ 9 := hI 8 (h.toNat)
      exact j_iret (pc := 101) ⟨rfl, rfl⟩ dX11_foot_101 rfl ⟨_, rfl, ⟨by omega, by omega⟩, rfl, (by first | exact Or.inl ⟨rfl, by omega⟩ | exact Or.inr ⟨by omega, Or.inl ⟨by omega, rfl⟩⟩ | exact Or.inr ⟨by omega, Or.inr (Or.inl ⟨by omega, rfl⟩)⟩ | exact Or.inr ⟨by omega, Or.inr (Or.inr (Or.inl ⟨by omega, rfl⟩))⟩ | exact Or.inr ⟨by omega, Or.inr (Or.inr (Or.inr (Or.inl ⟨by omega, rfl⟩)))⟩ | exact Or.inr ⟨by omega, Or.inr (Or.inr (Or.inr (Or.inr (Or.inl ⟨by omega, rfl⟩))))⟩ | exact Or.inr ⟨by omega, Or.inr (Or.inr (Or.inr (Or.inr (Or.inr (⟨by omega, fa⟩)))))⟩)⟩
    · refine j_tsIn (pc := 14) (tgt := 102) 5 dX11_foot_14 h6 (by decide) ⟨by decide, by decide⟩ rfl rfl ?_
      refine j_aload_n (pc := 102) dX11_foot_102 rfl rfl ?_
      refine j_getR (pc := 103) (r := 23) fl_X11_26 dX11_foot_103 (a_0 hX) rfl ?_
      refine j_getR (pc := 106) (r := 24) fl_X11_168 dX11_foot_106 (a_23 hX) rfl ?_
      refine j_iload_n (pc := 109) dX11_foot_109 rfl rfl ?_
      refine j_callV (pc := 110) (As := [vI h]) (st := []) (c_X7_at 24 (s_Row_24 hX) h ⟨by omega, by omega⟩ σ hI) mv_X11_172 rfl rfl rfl (a_24 hX) dX11_foot_110 ⟨Nat.le_of_ble_eq_true rfl, Nat.le_of_ble_eq_true rfl⟩ ⟨Nat.le_refl _, Nat.le_refl _⟩ rfl (Nat.le_of_ble_eq_true rfl) rfl (fun z12 σ13 hz12 => ?_)
      obtain ⟨r15, rfl, hr15, rfl, q14_0, q14_1, q14_2⟩ := hz12
      replace q14_0 : r15 < σ 24 0 := q14_0
      replace q14_1 : -1 < r15 ∨ r15 = -4 := q14_1
      replace q14_2 : (0 ≤ r15 ∧ r15 < σ 24 0 ∧ σ 25 r15.toNat = h) ∨ (r15 = -4 ∧ ∀ k : Nat, (k : Int) < σ 24 0 → ¬ σ 25 k = h) := q14_2
      refine j_st (st' := [vI r15]) rfl ?_
      have fa := q14_2
      exact j_iret (pc := 113) ⟨rfl, rfl⟩ dX11_foot_113 rfl ⟨_, rfl, ⟨by omega, by omega⟩, rfl, (by first | exact Or.inl ⟨rfl, by omega⟩ | exact Or.inr ⟨by omega, Or.inl ⟨by omega, rfl⟩⟩ | exact Or.inr ⟨by omega, Or.inr (Or.inl ⟨by omega, rfl⟩)⟩ | exact Or.inr ⟨by omega, Or.inr (Or.inr (Or.inl ⟨by omega, rfl⟩))⟩ | exact Or.inr ⟨by omega, Or.inr (Or.inr (Or.inr (Or.inl ⟨by omega, rfl⟩)))⟩ | exact Or.inr ⟨by omega, Or.inr (Or.inr (Or.inr (Or.inr (Or.inl ⟨by omega, rfl⟩))))⟩ | exact Or.inr ⟨by omega, Or.inr (Or.inr (Or.inr (Or.inr (Or.inr (⟨by omega, fa⟩)))))⟩)⟩
    · refine j_tsOut (pc := 14) (tgt := 114) dX11_foot_14 ⟨by omega, by omega⟩ (Or.inr h6) rfl ?_
      refine j_iconst (pc := 114) dX11_foot_114 ?_
      exact j_iret (pc := 115) ⟨rfl, rfl⟩ dX11_foot_115 rfl ⟨_, rfl, ⟨by omega, by omega⟩, rfl, (by first | exact Or.inl ⟨rfl, by omega⟩ | exact Or.inr ⟨by omega, Or.inl ⟨by omega, rfl⟩⟩ | exact Or.inr ⟨by omega, Or.inr (Or.inl ⟨by omega, rfl⟩)⟩ | exact Or.inr ⟨by omega, Or.inr (Or.inr (Or.inl ⟨by omega, rfl⟩))⟩ | exact Or.inr ⟨by omega, Or.inr (Or.inr (Or.inr (Or.inl ⟨by omega, rfl⟩)))⟩ | exact Or.inr ⟨by omega, Or.inr (Or.inr (Or.inr (Or.inr (Or.inl ⟨by omega, rfl⟩))))⟩ | exact Or.inr ⟨by omega, Or.inr (Or.inr (Or.inr (Or.inr (Or.inr (⟨by omega, fa⟩)))))⟩)⟩
  · refine j_iconst (pc := 11) dX11_foot_11 ?_
    exact j_iret (pc := 12) ⟨rfl, rfl⟩ dX11_foot_12 rfl ⟨_, rfl, ⟨by omega, by omega⟩, rfl, (by first | exact Or.inl ⟨rfl, by omega⟩ | exact Or.inr ⟨by omega, Or.inl ⟨by omega, rfl⟩⟩ | exact Or.inr ⟨by omega, Or.inr (Or.inl ⟨by omega, rfl⟩)⟩ | exact Or.inr ⟨by omega, Or.inr (Or.inr (Or.inl ⟨by omega, rfl⟩))⟩ | exact Or.inr ⟨by omega, Or.inr (Or.inr (Or.inr (Or.inl ⟨by omega, rfl⟩)))⟩ | exact Or.inr ⟨by omega, Or.inr (Or.inr (Or.inr (Or.inr (Or.inl ⟨by omega, rfl⟩))))⟩ | exact Or.inr ⟨by omega, Or.inr (Or.inr (Or.inr (Or.inr (Or.inr (⟨by omega, fa⟩)))))⟩)⟩
abbrev q_X11_put (h : Int) (s : Int) (σ : tw_M) : Option tw_V → tw_M → Prop := fun z τ => ∃ r : Int, z = some (vI r) ∧ (-4 ≤ r ∧ r ≤ 9) ∧ tw_I τ ∧ tw_F (fun c j => (24 ≤ c ∧ c < 29)) σ τ ∧ (∀ gg qq : Nat → Int, RG 24 gg qq σ → (1 ≤ s → s ≤ 10 → 0 ≤ σ 28 s.toNat) → (¬ whyS (wW 1 σ) (gg h.toNat) (σ 24 0) (σ 28 s.toNat) h s = 0 ∧ r = whyS (wW 1 σ) (gg h.toNat) (σ 24 0) (σ 28 s.toNat) h s ∧ ∀ c j, τ c j = σ c j) ∨ (whyS (wW 1 σ) (gg h.toNat) (σ 24 0) (σ 28 s.toNat) h s = 0 ∧ r = cnt gg h.toNat ∧ RG 24 (pg gg h.toNat s) (pg qq h.toNat 0) τ ∧ τ 28 s.toNat = σ 28 s.toNat - 1 ∧ ∀ j : Nat, ¬ j = s.toNat → τ 28 j = σ 28 j))
set_option maxHeartbeats 4000000 in
set_option maxRecDepth 100000 in
theorem c_X11_put {G : tw_G} (hX : tw_isX G) (h : Int) (hh : -2147483648 ≤ h ∧ h ≤ 2147483647) (s : Int) (hs : -2147483648 ≤ s ∧ s ≤ 2147483647) (σ : tw_M) (hI : tw_I σ) : tw_C G yX11_put cX11_put 3 (some .int) 2 [vR 0, vI h, vI s] σ (q_X11_put h s σ) := by
  refine tw_met [(0, vR 0), (1, vI h), (2, vI s)] (by decide +kernel) rfl (Nat.le_of_ble_eq_true rfl) ?_
  refine j_aload_n (pc := 0) dX11_put_0 rfl rfl ?_
  refine j_getR (pc := 1) (r := 23) fl_X11_26 dX11_put_1 (a_0 hX) rfl ?_
  refine j_aload_n (pc := 4) dX11_put_4 rfl rfl ?_
  refine j_getR (pc := 5) (r := 1) fl_X11_10 dX11_put_5 (a_0 hX) rfl ?_
  refine j_iload_n (pc := 8) dX11_put_8 rfl rfl ?_
  refine j_iload_n (pc := 9) dX11_put_9 rfl rfl ?_
  refine j_callV (pc := 10) (As := [vR 1, vI h, vI s]) (st := []) (c_X3_place 23 (s_Hand_23 hX) 1 (s_Wall_1 hX) h ⟨by omega, by omega⟩ s ⟨by omega, by omega⟩ σ hI (by omega)) mv_X11_178 rfl rfl rfl (a_23 hX) dX11_put_10 ⟨Nat.le_of_ble_eq_true rfl, Nat.le_of_ble_eq_true rfl⟩ ⟨Nat.le_refl _, Nat.le_refl _⟩ rfl (Nat.le_of_ble_eq_true rfl) rfl (fun z1 σ2 hz1 => ?_)
  obtain ⟨r4, rfl, hr4, hIσ2, hGσ2, q3_0⟩ := hz1
  replace q3_0 : ∀ gg qq : Nat → Int, RG 24 gg qq σ → (1 ≤ s → s ≤ 10 → 0 ≤ σ 28 s.toNat) → (¬ whyS (wW 1 σ) (gg h.toNat) (σ 24 0) (σ 28 s.toNat) h s = 0 ∧ r4 = whyS (wW 1 σ) (gg h.toNat) (σ 24 0) (σ 28 s.toNat) h s ∧ ∀ c j, σ2 c j = σ c j) ∨ (whyS (wW 1 σ) (gg h.toNat) (σ 24 0) (σ 28 s.toNat) h s = 0 ∧ r4 = cnt gg h.toNat ∧ RG 24 (pg gg h.toNat s) (pg qq h.toNat 0) σ2 ∧ σ2 28 s.toNat = σ 28 s.toNat - 1 ∧ ∀ j : Nat, ¬ j = s.toNat → σ2 28 j = σ 28 j) := q3_0
  have hFσ2 : tw_F (fun c j => (24 ≤ c ∧ c < 29)) σ σ2 := tw_F_tr (tw_F_rf) hGσ2 (fun c j q => (show (24 ≤ c ∧ c < 29) from by replace q : (24 ≤ c ∧ c < 29) := q; exact q))
  refine j_st (st' := [vI r4]) rfl ?_
  have fin := q3_0
  exact j_iret (pc := 13) ⟨rfl, rfl⟩ dX11_put_13 rfl ⟨_, rfl, ⟨by omega, by omega⟩, hIσ2, hFσ2, fin⟩
abbrev q_X11_take (h : Int) (σ : tw_M) : Option tw_V → tw_M → Prop := fun z τ => ∃ r : Int, z = some (vI r) ∧ (-4 ≤ r ∧ r ≤ 10) ∧ tw_I τ ∧ tw_F (fun c j => (24 ≤ c ∧ c < 29)) σ τ ∧ (∀ gg qq rk : Nat → Int, RG 24 gg qq σ → CNR rk gg 28 σ → (r = -1 ∧ ¬ (1 ≤ h ∧ h ≤ σ 2 0) ∧ ∀ c j, τ c j = σ c j) ∨ (r = -4 ∧ (1 ≤ h ∧ h ≤ σ 2 0) ∧ gg h.toNat = 0 ∧ ∀ c j, τ c j = σ c j) ∨ ((1 ≤ h ∧ h ≤ σ 2 0) ∧ 0 < gg h.toNat ∧ gg h.toNat ≤ 10 ∧ r = gg h.toNat ∧ RG 24 (pg gg h.toNat 0) qq τ ∧ τ 28 r.toNat = σ 28 r.toNat + 1 ∧ ∀ j : Nat, ¬ j = r.toNat → τ 28 j = σ 28 j))
set_option maxHeartbeats 4000000 in
set_option maxRecDepth 100000 in
theorem c_X11_take {G : tw_G} (hX : tw_isX G) (h : Int) (hh : -2147483648 ≤ h ∧ h ≤ 2147483647) (σ : tw_M) (hI : tw_I σ) : tw_C G yX11_take cX11_take 3 (some .int) 2 [vR 0, vI h] σ (q_X11_take h σ) := by
  refine tw_met [(0, vR 0), (1, vI h)] (by decide +kernel) rfl (Nat.le_of_ble_eq_true rfl) ?_
  refine j_aload_n (pc := 0) dX11_take_0 rfl rfl ?_
  refine j_getR (pc := 1) (r := 1) fl_X11_10 dX11_take_1 (a_0 hX) rfl ?_
  refine j_iload_n (pc := 4) dX11_take_4 rfl rfl ?_
  refine j_callV (pc := 5) (As := [vI h]) (st := []) (c_X10_isFoot 1 (s_Wall_1 hX) h ⟨by omega, by omega⟩ σ hI) mv_X11_149 rfl rfl rfl (a_1 hX) dX11_take_5 ⟨Nat.le_of_ble_eq_true rfl, Nat.le_of_ble_eq_true rfl⟩ ⟨Nat.le_refl _, Nat.le_refl _⟩ rfl (Nat.le_of_ble_eq_true rfl) rfl (fun z1 σ2 hz1 => ?_)
  obtain ⟨r4, rfl, hr4, rfl, q3_0⟩ := hz1
  replace q3_0 : (r4 = 1 ∧ 1 ≤ h ∧ h ≤ σ 2 0 ∧ h ≤ 40) ∨ (r4 = 0 ∧ ¬ (1 ≤ h ∧ h ≤ σ 2 0)) := q3_0
  refine j_st (st' := [vI r4]) rfl ?_
  refine j_ifR_ne (pc := 8) (tgt := 13) ⟨by omega, by omega⟩ dX11_take_8 rfl (fun h5 => ?_) (fun h5 => ?_)
  · refine j_aload_n (pc := 13) dX11_take_13 rfl rfl ?_
    refine j_getR (pc := 14) (r := 23) fl_X11_26 dX11_take_14 (a_0 hX) rfl ?_
    refine j_getR (pc := 17) (r := 24) fl_X11_168 dX11_take_17 (a_23 hX) rfl ?_
    refine j_iload_n (pc := 20) dX11_take_20 rfl rfl ?_
    refine j_callV (pc := 21) (As := [vI h]) (st := []) (c_X7_at 24 (s_Row_24 hX) h ⟨by omega, by omega⟩ σ hI) mv_X11_172 rfl rfl rfl (a_24 hX) dX11_take_21 ⟨Nat.le_of_ble_eq_true rfl, Nat.le_of_ble_eq_true rfl⟩ ⟨Nat.le_refl _, Nat.le_refl _⟩ rfl (Nat.le_of_ble_eq_true rfl) rfl (fun z6 σ7 hz6 => ?_)
    obtain ⟨r9, rfl, hr9, rfl, q8_0, q8_1, q8_2⟩ := hz6
    replace q8_0 : r9 < σ 24 0 := q8_0
    replace q8_1 : -1 < r9 ∨ r9 = -4 := q8_1
    replace q8_2 : (0 ≤ r9 ∧ r9 < σ 24 0 ∧ σ 25 r9.toNat = h) ∨ (r9 = -4 ∧ ∀ k : Nat, (k : Int) < σ 24 0 → ¬ σ 25 k = h) := q8_2
    refine j_st (st' := [vI r9]) rfl ?_
    refine j_istore_n (pc := 24) (i := 2) (ls' := [(0, vR 0), (2, vI r9)]) [1, 0] dX11_take_24 rfl (Nat.le_of_ble_eq_true rfl) rfl rfl ?_
    have lk := q8_2
    have tk9 := True.intro
    refine j_iload_n (pc := 25) dX11_take_25 rfl rfl ?_
    refine j_ifR_ge (pc := 26) (tgt := 34) ⟨by omega, by omega⟩ dX11_take_26 rfl (fun h10 => ?_) (fun h10 => ?_)
    · refine j_aload_n (pc := 34) dX11_take_34 rfl rfl ?_
      refine j_getR (pc := 35) (r := 23) fl_X11_26 dX11_take_35 (a_0 hX) rfl ?_
      refine j_iload_n (pc := 38) dX11_take_38 rfl rfl ?_
      refine j_callV (pc := 39) (As := [vI r9]) (st := []) (c_X3_takeOut 23 (s_Hand_23 hX) r9 ⟨by omega, by omega⟩ σ hI) mv_X11_181 rfl rfl rfl (a_23 hX) dX11_take_39 ⟨Nat.le_of_ble_eq_true rfl, Nat.le_of_ble_eq_true rfl⟩ ⟨Nat.le_refl _, Nat.le_refl _⟩ rfl (Nat.le_of_ble_eq_true rfl) rfl (fun z11 σ12 hz11 => ?_)
      obtain ⟨r14, rfl, hr14, hIσ12, hGσ12, q13_0⟩ := hz11
      replace q13_0 : ∀ gg qq : Nat → Int, RG 24 gg qq σ → 0 ≤ r9 → r9 < σ 24 0 → σ 28 (σ 26 r9.toNat).toNat ≤ 1000 → 0 ≤ σ 28 (σ 26 r9.toNat).toNat → r14 = σ 26 r9.toNat ∧ RG 24 (pg gg (σ 25 r9.toNat).toNat 0) qq σ12 ∧ σ12 28 (σ 26 r9.toNat).toNat = σ 28 (σ 26 r9.toNat).toNat + 1 ∧ ∀ j : Nat, ¬ j = (σ 26 r9.toNat).toNat → σ12 28 j = σ 28 j := q13_0
      have hFσ12 : tw_F (fun c j => (24 ≤ c ∧ c < 29)) σ σ12 := tw_F_tr (tw_F_rf) hGσ12 (fun c j q => (show (24 ≤ c ∧ c < 29) from by replace q : (24 ≤ c ∧ c < 29) := q; exact q))
      refine j_st (st' := [vI r14]) rfl ?_
      have fin : ∀ gg qq rk : Nat → Int, RG 24 gg qq σ → CNR rk gg 28 σ → (r14 = -1 ∧ ¬ (1 ≤ h ∧ h ≤ σ 2 0) ∧ ∀ c j, σ12 c j = σ c j) ∨ (r14 = -4 ∧ (1 ≤ h ∧ h ≤ σ 2 0) ∧ gg h.toNat = 0 ∧ ∀ c j, σ12 c j = σ c j) ∨ ((1 ≤ h ∧ h ≤ σ 2 0) ∧ 0 < gg h.toNat ∧ gg h.toNat ≤ 10 ∧ r14 = gg h.toNat ∧ RG 24 (pg gg h.toNat 0) qq σ12 ∧ σ12 28 r14.toNat = σ 28 r14.toNat + 1 ∧ ∀ j : Nat, ¬ j = r14.toNat → σ12 28 j = σ 28 j) := fun gg qq rk H C => by
        have l := RG_look H lk (by omega)
        have t := RG_at H (f := h.toNat) (by omega)
        rw [← show r9 = cnt gg h.toNat - 1 from by omega] at t
        have t4 : σ 26 (r9).toNat = gg h.toNat := t.2.2.2.1
        have s10 : σ 26 (r9).toNat ≤ 10 := (hI 26 _).2
        have n0 := csz_nn (g := gg) (s := σ 26 (r9).toNat) 40
        have b0 : σ 28 (σ 26 (r9).toNat).toNat + csz gg (σ 26 (r9).toNat) 40 = rk (σ 26 (r9).toNat).toNat ∧ 0 ≤ σ 28 (σ 26 (r9).toNat).toNat ∧ rk (σ 26 (r9).toNat).toNat ≤ 5 := C _ (by omega) s10
        obtain ⟨e1, e2, e3, e4⟩ := q13_0 gg qq H (by omega) (by omega) (by omega) (by omega)
        rw [t.2.2.1, show ((h.toNat : Nat) : Int).toNat = h.toNat from by omega] at e2
        refine Or.inr (Or.inr ⟨by omega, by omega, by omega, by omega, e2, by rw [e1]; exact e3, by rw [e1]; exact e4⟩)
      exact j_iret (pc := 42) ⟨rfl, rfl⟩ dX11_take_42 rfl ⟨_, rfl, ⟨by omega, by omega⟩, hIσ12, hFσ12, fin⟩
    · refine j_bipush (pc := 29) dX11_take_29 rfl ?_
      refine j_goto (pc := 31) (tgt := 42) dX11_take_31 rfl ?_
      have fin : ∀ gg qq rk : Nat → Int, RG 24 gg qq σ → CNR rk gg 28 σ → ((-4) = -1 ∧ ¬ (1 ≤ h ∧ h ≤ σ 2 0) ∧ ∀ c j, σ c j = σ c j) ∨ ((-4) = -4 ∧ (1 ≤ h ∧ h ≤ σ 2 0) ∧ gg h.toNat = 0 ∧ ∀ c j, σ c j = σ c j) ∨ ((1 ≤ h ∧ h ≤ σ 2 0) ∧ 0 < gg h.toNat ∧ gg h.toNat ≤ 10 ∧ (-4) = gg h.toNat ∧ RG 24 (pg gg h.toNat 0) qq σ ∧ σ 28 (-4).toNat = σ 28 (-4).toNat + 1 ∧ ∀ j : Nat, ¬ j = (-4).toNat → σ 28 j = σ 28 j) := fun gg qq rk H C => by
        have l := RG_look H lk (by omega)
        exact Or.inr (Or.inl ⟨rfl, by omega, by omega, fun c j => rfl⟩)
      exact j_iret (pc := 42) ⟨rfl, rfl⟩ dX11_take_42 rfl ⟨_, rfl, ⟨by omega, by omega⟩, hI, (tw_F_rf), fin⟩
  · refine j_iconst (pc := 11) dX11_take_11 ?_
    have fin : ∀ gg qq rk : Nat → Int, RG 24 gg qq σ → CNR rk gg 28 σ → ((-1) = -1 ∧ ¬ (1 ≤ h ∧ h ≤ σ 2 0) ∧ ∀ c j, σ c j = σ c j) ∨ ((-1) = -4 ∧ (1 ≤ h ∧ h ≤ σ 2 0) ∧ gg h.toNat = 0 ∧ ∀ c j, σ c j = σ c j) ∨ ((1 ≤ h ∧ h ≤ σ 2 0) ∧ 0 < gg h.toNat ∧ gg h.toNat ≤ 10 ∧ (-1) = gg h.toNat ∧ RG 24 (pg gg h.toNat 0) qq σ ∧ σ 28 (-1).toNat = σ 28 (-1).toNat + 1 ∧ ∀ j : Nat, ¬ j = (-1).toNat → σ 28 j = σ 28 j) := fun gg qq rk H C => Or.inl ⟨rfl, by omega, fun c j => rfl⟩
    exact j_iret (pc := 12) ⟨rfl, rfl⟩ dX11_take_12 rfl ⟨_, rfl, ⟨by omega, by omega⟩, hI, (tw_F_rf), fin⟩
abbrev q_X11_sling (h : Int) (b : Int) (σ : tw_M) : Option tw_V → tw_M → Prop := fun z τ => ∃ r : Int, z = some (vI r) ∧ (-2147483648 ≤ r ∧ r ≤ 2147483647) ∧ tw_I τ ∧ tw_F (fun c j => c = 27) σ τ ∧ (∀ gg qq : Nat → Int, RG 24 gg qq σ → (r = -1 ∧ ¬ (1 ≤ h ∧ h ≤ σ 2 0) ∧ ∀ c j, τ c j = σ c j) ∨ (r = -4 ∧ (1 ≤ h ∧ h ≤ σ 2 0) ∧ gg h.toNat = 0 ∧ ∀ c j, τ c j = σ c j) ∨ ((1 ≤ h ∧ h ≤ σ 2 0) ∧ 0 < gg h.toNat ∧ r = qq h.toNat ∧ RG 24 gg (pg qq h.toNat b) τ))
set_option maxHeartbeats 4000000 in
set_option maxRecDepth 100000 in
theorem c_X11_sling {G : tw_G} (hX : tw_isX G) (h : Int) (hh : -2147483648 ≤ h ∧ h ≤ 2147483647) (b : Int) (hb : 0 ≤ b ∧ b ≤ 1) (σ : tw_M) (hI : tw_I σ) : tw_C G yX11_sling cX11_sling 5 (some .int) 1 [vR 0, vI h, vI b] σ (q_X11_sling h b σ) := by
  refine tw_met [(0, vR 0), (1, vI h), (2, vI b)] (by decide +kernel) rfl (Nat.le_of_ble_eq_true rfl) ?_
  refine j_aload_n (pc := 0) dX11_sling_0 rfl rfl ?_
  refine j_getR (pc := 1) (r := 1) fl_X11_10 dX11_sling_1 (a_0 hX) rfl ?_
  refine j_iload_n (pc := 4) dX11_sling_4 rfl rfl ?_
  refine j_callV (pc := 5) (As := [vI h]) (st := []) (c_X10_isFoot 1 (s_Wall_1 hX) h ⟨by omega, by omega⟩ σ hI) mv_X11_149 rfl rfl rfl (a_1 hX) dX11_sling_5 ⟨Nat.le_of_ble_eq_true rfl, Nat.le_of_ble_eq_true rfl⟩ ⟨Nat.le_refl _, Nat.le_refl _⟩ rfl (Nat.le_of_ble_eq_true rfl) rfl (fun z1 σ2 hz1 => ?_)
  obtain ⟨r4, rfl, hr4, rfl, q3_0⟩ := hz1
  replace q3_0 : (r4 = 1 ∧ 1 ≤ h ∧ h ≤ σ 2 0 ∧ h ≤ 40) ∨ (r4 = 0 ∧ ¬ (1 ≤ h ∧ h ≤ σ 2 0)) := q3_0
  refine j_st (st' := [vI r4]) rfl ?_
  refine j_ifR_ne (pc := 8) (tgt := 13) ⟨by omega, by omega⟩ dX11_sling_8 rfl (fun h5 => ?_) (fun h5 => ?_)
  · refine j_aload_n (pc := 13) dX11_sling_13 rfl rfl ?_
    refine j_getR (pc := 14) (r := 23) fl_X11_26 dX11_sling_14 (a_0 hX) rfl ?_
    refine j_getR (pc := 17) (r := 24) fl_X11_168 dX11_sling_17 (a_23 hX) rfl ?_
    refine j_iload_n (pc := 20) dX11_sling_20 rfl rfl ?_
    refine j_callV (pc := 21) (As := [vI h]) (st := []) (c_X7_at 24 (s_Row_24 hX) h ⟨by omega, by omega⟩ σ hI) mv_X11_172 rfl rfl rfl (a_24 hX) dX11_sling_21 ⟨Nat.le_of_ble_eq_true rfl, Nat.le_of_ble_eq_true rfl⟩ ⟨Nat.le_refl _, Nat.le_refl _⟩ rfl (Nat.le_of_ble_eq_true rfl) rfl (fun z6 σ7 hz6 => ?_)
    obtain ⟨r9, rfl, hr9, rfl, q8_0, q8_1, q8_2⟩ := hz6
    replace q8_0 : r9 < σ 24 0 := q8_0
    replace q8_1 : -1 < r9 ∨ r9 = -4 := q8_1
    replace q8_2 : (0 ≤ r9 ∧ r9 < σ 24 0 ∧ σ 25 r9.toNat = h) ∨ (r9 = -4 ∧ ∀ k : Nat, (k : Int) < σ 24 0 → ¬ σ 25 k = h) := q8_2
    refine j_st (st' := [vI r9]) rfl ?_
    refine j_istore_n (pc := 24) (i := 3) (ls' := [(0, vR 0), (2, vI b), (3, vI r9)]) [1, 3, 0] dX11_sling_24 rfl (Nat.le_of_ble_eq_true rfl) rfl rfl ?_
    have lk := q8_2
    refine j_iload_n (pc := 25) dX11_sling_25 rfl rfl ?_
    refine j_ifR_ge (pc := 26) (tgt := 32) ⟨by omega, by omega⟩ dX11_sling_26 rfl (fun h10 => ?_) (fun h10 => ?_)
    · refine j_aload_n (pc := 32) dX11_sling_32 rfl rfl ?_
      refine j_getR (pc := 33) (r := 23) fl_X11_26 dX11_sling_33 (a_0 hX) rfl ?_
      refine j_getR (pc := 36) (r := 24) fl_X11_168 dX11_sling_36 (a_23 hX) rfl ?_
      refine j_getR (pc := 39) (r := 27) fl_X11_184 dX11_sling_39 (a_24 hX) rfl ?_
      refine j_iload_n (pc := 42) dX11_sling_42 rfl rfl ?_
      refine j_iald (pc := 43) dX11_sling_43 (a_27 hX) (by omega) (by omega) (by decide) ?_
      have f11 : (0 : Int) ≤ σ 27 (r9.toNat) ∧ σ 27 (r9.toNat) ≤ 1 := hI 27 (r9.toNat)
      refine j_istore (pc := 44) (i := 4) (ls' := [(0, vR 0), (2, vI b), (3, vI r9), (4, vI (σ 27 (r9.toNat)))]) [1, 2, 3, 0] dX11_sling_44 (Nat.le_of_ble_eq_true rfl) rfl rfl ?_
      refine j_aload_n (pc := 46) dX11_sling_46 rfl rfl ?_
      refine j_getR (pc := 47) (r := 23) fl_X11_26 dX11_sling_47 (a_0 hX) rfl ?_
      refine j_getR (pc := 50) (r := 24) fl_X11_168 dX11_sling_50 (a_23 hX) rfl ?_
      refine j_getR (pc := 53) (r := 27) fl_X11_184 dX11_sling_53 (a_24 hX) rfl ?_
      refine j_iload_n (pc := 56) dX11_sling_56 rfl rfl ?_
      refine j_iload_n (pc := 57) dX11_sling_57 rfl rfl ?_
      refine j_ifR_eq (pc := 58) (tgt := 65) ⟨by omega, by omega⟩ dX11_sling_58 rfl (fun h12 => ?_) (fun h12 => ?_)
      · refine j_iconst (pc := 65) dX11_sling_65 ?_
        refine j_iast (pc := 66) dX11_sling_66 (a_27 hX) (by omega) (by omega) (by decide) (j_nm (fun σ13 (eσ13 : σ13 = tw_up σ 27 (r9.toNat) 0) => ?_))
        have hIσ13 : tw_I σ13 := tw_I_up hI eσ13 (show (0 : Int) ≤ 0 ∧ 0 ≤ 1 from by decide)
        have hFσ13 : tw_F (fun c j => c = 27) σ σ13 := tw_F_up (tw_F_rf) eσ13 (show 27 = 27 from rfl)
        refine j_iload (pc := 67) dX11_sling_67 rfl ?_
        have fin : ∀ gg qq : Nat → Int, RG 24 gg qq σ → ((σ 27 (r9.toNat)) = -1 ∧ ¬ (1 ≤ h ∧ h ≤ σ 2 0) ∧ ∀ c j, σ13 c j = σ c j) ∨ ((σ 27 (r9.toNat)) = -4 ∧ (1 ≤ h ∧ h ≤ σ 2 0) ∧ gg h.toNat = 0 ∧ ∀ c j, σ13 c j = σ c j) ∨ ((1 ≤ h ∧ h ≤ σ 2 0) ∧ 0 < gg h.toNat ∧ (σ 27 (r9.toNat)) = qq h.toNat ∧ RG 24 gg (pg qq h.toNat b) σ13) := fun gg qq H => by
          have l := RG_look H lk (by omega)
          have t := RG_sl H (h := h) (by omega) (show r9 = cnt gg h.toNat - 1 from by omega) eσ13
          rw [show b = 0 from by omega]
          exact Or.inr (Or.inr ⟨by omega, by omega, t.2, t.1⟩)
        exact j_iret (pc := 69) ⟨rfl, rfl⟩ dX11_sling_69 rfl ⟨_, rfl, ⟨by omega, by omega⟩, hIσ13, hFσ13, fin⟩
      · refine j_iconst (pc := 61) dX11_sling_61 ?_
        refine j_goto (pc := 62) (tgt := 66) dX11_sling_62 rfl ?_
        refine j_iast (pc := 66) dX11_sling_66 (a_27 hX) (by omega) (by omega) (by decide) (j_nm (fun σ14 (eσ14 : σ14 = tw_up σ 27 (r9.toNat) 1) => ?_))
        have hIσ14 : tw_I σ14 := tw_I_up hI eσ14 (show (0 : Int) ≤ 1 ∧ 1 ≤ 1 from by decide)
        have hFσ14 : tw_F (fun c j => c = 27) σ σ14 := tw_F_up (tw_F_rf) eσ14 (show 27 = 27 from rfl)
        refine j_iload (pc := 67) dX11_sling_67 rfl ?_
        have fin : ∀ gg qq : Nat → Int, RG 24 gg qq σ → ((σ 27 (r9.toNat)) = -1 ∧ ¬ (1 ≤ h ∧ h ≤ σ 2 0) ∧ ∀ c j, σ14 c j = σ c j) ∨ ((σ 27 (r9.toNat)) = -4 ∧ (1 ≤ h ∧ h ≤ σ 2 0) ∧ gg h.toNat = 0 ∧ ∀ c j, σ14 c j = σ c j) ∨ ((1 ≤ h ∧ h ≤ σ 2 0) ∧ 0 < gg h.toNat ∧ (σ 27 (r9.toNat)) = qq h.toNat ∧ RG 24 gg (pg qq h.toNat b) σ14) := fun gg qq H => by
          have l := RG_look H lk (by omega)
          have t := RG_sl H (h := h) (by omega) (show r9 = cnt gg h.toNat - 1 from by omega) eσ14
          rw [show b = 1 from by omega]
          exact Or.inr (Or.inr ⟨by omega, by omega, t.2, t.1⟩)
        exact j_iret (pc := 69) ⟨rfl, rfl⟩ dX11_sling_69 rfl ⟨_, rfl, ⟨by omega, by omega⟩, hIσ14, hFσ14, fin⟩
    · refine j_bipush (pc := 29) dX11_sling_29 rfl ?_
      have fin : ∀ gg qq : Nat → Int, RG 24 gg qq σ → ((-4) = -1 ∧ ¬ (1 ≤ h ∧ h ≤ σ 2 0) ∧ ∀ c j, σ c j = σ c j) ∨ ((-4) = -4 ∧ (1 ≤ h ∧ h ≤ σ 2 0) ∧ gg h.toNat = 0 ∧ ∀ c j, σ c j = σ c j) ∨ ((1 ≤ h ∧ h ≤ σ 2 0) ∧ 0 < gg h.toNat ∧ (-4) = qq h.toNat ∧ RG 24 gg (pg qq h.toNat b) σ) := fun gg qq H => by
        have l := RG_look H lk (by omega)
        exact Or.inr (Or.inl ⟨rfl, by omega, by omega, fun c j => rfl⟩)
      exact j_iret (pc := 31) ⟨rfl, rfl⟩ dX11_sling_31 rfl ⟨_, rfl, ⟨by omega, by omega⟩, hI, (tw_F_rf), fin⟩
  · refine j_iconst (pc := 11) dX11_sling_11 ?_
    have fin : ∀ gg qq : Nat → Int, RG 24 gg qq σ → ((-1) = -1 ∧ ¬ (1 ≤ h ∧ h ≤ σ 2 0) ∧ ∀ c j, σ c j = σ c j) ∨ ((-1) = -4 ∧ (1 ≤ h ∧ h ≤ σ 2 0) ∧ gg h.toNat = 0 ∧ ∀ c j, σ c j = σ c j) ∨ ((1 ≤ h ∧ h ≤ σ 2 0) ∧ 0 < gg h.toNat ∧ (-1) = qq h.toNat ∧ RG 24 gg (pg qq h.toNat b) σ) := fun gg qq H => Or.inl ⟨rfl, by omega, fun c j => rfl⟩
    exact j_iret (pc := 12) ⟨rfl, rfl⟩ dX11_sling_12 rfl ⟨_, rfl, ⟨by omega, by omega⟩, hI, (tw_F_rf), fin⟩
abbrev q_X11_piece (k : Int) (w : Int) (σ : tw_M) : Option tw_V → tw_M → Prop := fun z τ => ∃ r : Int, z = some (vI r) ∧ (-2147483648 ≤ r ∧ r ≤ 2147483647) ∧ σ = τ ∧ True
set_option maxHeartbeats 4000000 in
set_option maxRecDepth 100000 in
theorem c_X11_piece {G : tw_G} (hX : tw_isX G) (k : Int) (hk : -2147483648 ≤ k ∧ k ≤ 2147483647) (w : Int) (hw : -2147483648 ≤ w ∧ w ≤ 2147483647) (σ : tw_M) (hI : tw_I σ) : tw_C G yX11_piece cX11_piece 4 (some .int) 4 [vR 0, vI k, vI w] σ (q_X11_piece k w σ) := by
  refine tw_met [(0, vR 0), (1, vI k), (2, vI w)] (by decide +kernel) rfl (Nat.le_of_ble_eq_true rfl) ?_
  refine j_aload_n (pc := 0) dX11_piece_0 rfl rfl ?_
  refine j_getR (pc := 1) (r := 23) fl_X11_26 dX11_piece_1 (a_0 hX) rfl ?_
  refine j_getR (pc := 4) (r := 24) fl_X11_168 dX11_piece_4 (a_23 hX) rfl ?_
  refine j_astore_n (pc := 7) (i := 3) (ls' := [(0, vR 0), (1, vI k), (2, vI w), (3, vR 24)]) [1, 2, 3, 0] dX11_piece_7 rfl (Nat.le_of_ble_eq_true rfl) rfl rfl ?_
  refine j_iload_n (pc := 8) dX11_piece_8 rfl rfl ?_
  refine j_ifR_lt (pc := 9) (tgt := 20) ⟨by omega, by omega⟩ dX11_piece_9 rfl (fun h1 => ?_) (fun h1 => ?_)
  · refine j_iconst (pc := 20) dX11_piece_20 ?_
    exact j_iret (pc := 21) ⟨rfl, rfl⟩ dX11_piece_21 rfl ⟨_, rfl, ⟨by omega, by omega⟩, rfl, trivial⟩
  · refine j_iload_n (pc := 12) dX11_piece_12 rfl rfl ?_
    refine j_aload_n (pc := 13) dX11_piece_13 rfl rfl ?_
    refine j_getI (pc := 14) fl_X11_187 dX11_piece_14 (a_24 hX) rfl ?_
    have f2 : (0 : Int) ≤ σ 24 0 ∧ σ 24 0 ≤ 10 := hI 24 0
    refine j_icmpR_lt (pc := 17) (tgt := 22) ⟨by omega, by omega⟩ ⟨by omega, by omega⟩ dX11_piece_17 rfl (fun h3 => ?_) (fun h3 => ?_)
    · refine j_iload_n (pc := 22) dX11_piece_22 rfl rfl ?_
      rcases (show w < 0 ∨ w = 0 ∨ w = 1 ∨ w = 2 ∨ w = 3 ∨ w = 4 ∨ w = 5 ∨ w = 6 ∨ 6 < w from by omega) with h4 | h4 | h4 | h4 | h4 | h4 | h4 | h4 | h4
      · refine j_tsOut (pc := 23) (tgt := 144) dX11_piece_23 ⟨by omega, by omega⟩ (Or.inl h4) rfl ?_
        refine j_iconst (pc := 144) dX11_piece_144 ?_
        exact j_iret (pc := 145) ⟨rfl, rfl⟩ dX11_piece_145 rfl ⟨_, rfl, ⟨by omega, by omega⟩, rfl, trivial⟩
      · refine j_tsIn (pc := 23) (tgt := 64) 0 dX11_piece_23 h4 (by decide) ⟨by decide, by decide⟩ rfl rfl ?_
        refine j_aload_n (pc := 64) dX11_piece_64 rfl rfl ?_
        refine j_getR (pc := 65) (r := 25) fl_X11_190 dX11_piece_65 (a_24 hX) rfl ?_
        refine j_iload_n (pc := 68) dX11_piece_68 rfl rfl ?_
        refine j_iald (pc := 69) dX11_piece_69 (a_25 hX) (by omega) (by omega) (by decide) ?_
        have f5 : (0 : Int) ≤ σ 25 (k.toNat) ∧ σ 25 (k.toNat) ≤ 40 := hI 25 (k.toNat)
        exact j_iret (pc := 70) ⟨rfl, rfl⟩ dX11_piece_70 rfl ⟨_, rfl, ⟨by omega, by omega⟩, rfl, trivial⟩
      · refine j_tsIn (pc := 23) (tgt := 71) 1 dX11_piece_23 h4 (by decide) ⟨by decide, by decide⟩ rfl rfl ?_
        refine j_aload_n (pc := 71) dX11_piece_71 rfl rfl ?_
        refine j_getR (pc := 72) (r := 26) fl_X11_193 dX11_piece_72 (a_24 hX) rfl ?_
        refine j_iload_n (pc := 75) dX11_piece_75 rfl rfl ?_
        refine j_iald (pc := 76) dX11_piece_76 (a_26 hX) (by omega) (by omega) (by decide) ?_
        have f6 : (0 : Int) ≤ σ 26 (k.toNat) ∧ σ 26 (k.toNat) ≤ 10 := hI 26 (k.toNat)
        exact j_iret (pc := 77) ⟨rfl, rfl⟩ dX11_piece_77 rfl ⟨_, rfl, ⟨by omega, by omega⟩, rfl, trivial⟩
      · refine j_tsIn (pc := 23) (tgt := 78) 2 dX11_piece_23 h4 (by decide) ⟨by decide, by decide⟩ rfl rfl ?_
        refine j_aload_n (pc := 78) dX11_piece_78 rfl rfl ?_
        refine j_getR (pc := 79) (r := 23) fl_X11_26 dX11_piece_79 (a_0 hX) rfl ?_
        refine j_aload_n (pc := 82) dX11_piece_82 rfl rfl ?_
        refine j_getR (pc := 83) (r := 1) fl_X11_10 dX11_piece_83 (a_0 hX) rfl ?_
        refine j_iload_n (pc := 86) dX11_piece_86 rfl rfl ?_
        refine j_callV (pc := 87) (As := [vR 1, vI k]) (st := []) (c_X3_chance 23 (s_Hand_23 hX) 1 (s_Wall_1 hX) k ⟨by omega, by omega⟩ σ hI) mv_X11_196 rfl rfl rfl (a_23 hX) dX11_piece_87 ⟨Nat.le_of_ble_eq_true rfl, Nat.le_of_ble_eq_true rfl⟩ ⟨Nat.le_refl _, Nat.le_refl _⟩ rfl (Nat.le_of_ble_eq_true rfl) rfl (fun z7 σ8 hz7 => ?_)
        obtain ⟨r10, rfl, hr10, rfl, -⟩ := hz7
        refine j_st (st' := [vI r10]) rfl ?_
        exact j_iret (pc := 90) ⟨rfl, rfl⟩ dX11_piece_90 rfl ⟨_, rfl, ⟨by omega, by omega⟩, rfl, trivial⟩
      · refine j_tsIn (pc := 23) (tgt := 91) 3 dX11_piece_23 h4 (by decide) ⟨by decide, by decide⟩ rfl rfl ?_
        refine j_aload_n (pc := 91) dX11_piece_91 rfl rfl ?_
        refine j_getR (pc := 92) (r := 26) fl_X11_193 dX11_piece_92 (a_24 hX) rfl ?_
        refine j_iload_n (pc := 95) dX11_piece_95 rfl rfl ?_
        refine j_iald (pc := 96) dX11_piece_96 (a_26 hX) (by omega) (by omega) (by decide) ?_
        have f11 : (0 : Int) ≤ σ 26 (k.toNat) ∧ σ 26 (k.toNat) ≤ 10 := hI 26 (k.toNat)
        refine j_aload_n (pc := 97) dX11_piece_97 rfl rfl ?_
        refine j_getR (pc := 98) (r := 1) fl_X11_10 dX11_piece_98 (a_0 hX) rfl ?_
        refine j_getR (pc := 101) (r := 2) fl_X11_142 dX11_piece_101 (a_1 hX) rfl ?_
        refine j_bipush (pc := 104) dX11_piece_104 rfl ?_
        refine j_iald (pc := 106) dX11_piece_106 (a_2 hX) (by omega) (by omega) (by decide) ?_
        refine j_topV (show σ 2 (Int.toNat 7) = σ 2 7 from rfl) ?_
        have f12 : (0 : Int) ≤ σ 2 7 ∧ σ 2 7 ≤ 60 := hI 2 7
        refine j_iadd (pc := 107) dX11_piece_107 ?_
        exact j_iret (pc := 108) ⟨rfl, rfl⟩ dX11_piece_108 rfl ⟨_, rfl, ⟨by omega, by omega⟩, rfl, trivial⟩
      · refine j_tsIn (pc := 23) (tgt := 109) 4 dX11_piece_23 h4 (by decide) ⟨by decide, by decide⟩ rfl rfl ?_
        refine j_aload_n (pc := 109) dX11_piece_109 rfl rfl ?_
        refine j_getR (pc := 110) (r := 27) fl_X11_184 dX11_piece_110 (a_24 hX) rfl ?_
        refine j_iload_n (pc := 113) dX11_piece_113 rfl rfl ?_
        refine j_iald (pc := 114) dX11_piece_114 (a_27 hX) (by omega) (by omega) (by decide) ?_
        have f13 : (0 : Int) ≤ σ 27 (k.toNat) ∧ σ 27 (k.toNat) ≤ 1 := hI 27 (k.toNat)
        exact j_iret (pc := 115) ⟨rfl, rfl⟩ dX11_piece_115 rfl ⟨_, rfl, ⟨by omega, by omega⟩, rfl, trivial⟩
      · refine j_tsIn (pc := 23) (tgt := 116) 5 dX11_piece_23 h4 (by decide) ⟨by decide, by decide⟩ rfl rfl ?_
        refine j_aload_n (pc := 116) dX11_piece_116 rfl rfl ?_
        refine j_aload_n (pc := 117) dX11_piece_117 rfl rfl ?_
        refine j_getR (pc := 118) (r := 1) fl_X11_10 dX11_piece_118 (a_0 hX) rfl ?_
        refine j_iload_n (pc := 121) dX11_piece_121 rfl rfl ?_
        refine j_callV (pc := 122) (As := [vR 1, vI k]) (st := []) (c_X7_isLifted 24 (s_Row_24 hX) 1 (s_Wall_1 hX) k ⟨by omega, by omega⟩ σ hI) mv_X11_200 rfl rfl rfl (a_24 hX) dX11_piece_122 ⟨Nat.le_of_ble_eq_true rfl, Nat.le_of_ble_eq_true rfl⟩ ⟨Nat.le_refl _, Nat.le_refl _⟩ rfl (Nat.le_of_ble_eq_true rfl) rfl (fun z14 σ15 hz14 => ?_)
        obtain ⟨r17, rfl, hr17, rfl, q16_0⟩ := hz14
        replace q16_0 : ∀ gg qq : Nat → Int, RG 24 gg qq σ → k < σ 24 0 → r17 = LFI (wW 1 σ) gg qq (σ 24 0) k := q16_0
        refine j_st (st' := [vI r17]) rfl ?_
        refine j_ifR_eq (pc := 125) (tgt := 132) ⟨by omega, by omega⟩ dX11_piece_125 rfl (fun h18 => ?_) (fun h18 => ?_)
        · refine j_iconst (pc := 132) dX11_piece_132 ?_
          exact j_iret (pc := 133) ⟨rfl, rfl⟩ dX11_piece_133 rfl ⟨_, rfl, ⟨by omega, by omega⟩, rfl, trivial⟩
        · refine j_iconst (pc := 128) dX11_piece_128 ?_
          refine j_goto (pc := 129) (tgt := 133) dX11_piece_129 rfl ?_
          exact j_iret (pc := 133) ⟨rfl, rfl⟩ dX11_piece_133 rfl ⟨_, rfl, ⟨by omega, by omega⟩, rfl, trivial⟩
      · refine j_tsIn (pc := 23) (tgt := 134) 6 dX11_piece_23 h4 (by decide) ⟨by decide, by decide⟩ rfl rfl ?_
        refine j_aload_n (pc := 134) dX11_piece_134 rfl rfl ?_
        refine j_aload_n (pc := 135) dX11_piece_135 rfl rfl ?_
        refine j_getR (pc := 136) (r := 1) fl_X11_10 dX11_piece_136 (a_0 hX) rfl ?_
        refine j_iload_n (pc := 139) dX11_piece_139 rfl rfl ?_
        refine j_callV (pc := 140) (As := [vR 1, vI k]) (st := []) (c_X7_counted 24 (s_Row_24 hX) 1 (s_Wall_1 hX) k ⟨by omega, by omega⟩ σ hI) mv_X11_204 rfl rfl rfl (a_24 hX) dX11_piece_140 ⟨Nat.le_of_ble_eq_true rfl, Nat.le_of_ble_eq_true rfl⟩ ⟨Nat.le_refl _, Nat.le_refl _⟩ rfl (Nat.le_of_ble_eq_true rfl) rfl (fun z19 σ20 hz19 => ?_)
        obtain ⟨r22, rfl, hr22, rfl, q21_0⟩ := hz19
        replace q21_0 : ∀ gg qq : Nat → Int, RG 24 gg qq σ → k < σ 24 0 → r22 = CTD (wW 1 σ) gg qq (σ 24 0) k := q21_0
        refine j_st (st' := [vI r22]) rfl ?_
        exact j_iret (pc := 143) ⟨rfl, rfl⟩ dX11_piece_143 rfl ⟨_, rfl, ⟨by omega, by omega⟩, rfl, trivial⟩
      · refine j_tsOut (pc := 23) (tgt := 144) dX11_piece_23 ⟨by omega, by omega⟩ (Or.inr h4) rfl ?_
        refine j_iconst (pc := 144) dX11_piece_144 ?_
        exact j_iret (pc := 145) ⟨rfl, rfl⟩ dX11_piece_145 rfl ⟨_, rfl, ⟨by omega, by omega⟩, rfl, trivial⟩
    · refine j_iconst (pc := 20) dX11_piece_20 ?_
      exact j_iret (pc := 21) ⟨rfl, rfl⟩ dX11_piece_21 rfl ⟨_, rfl, ⟨by omega, by omega⟩, rfl, trivial⟩
abbrev q_X11_strip  (σ : tw_M) : Option tw_V → tw_M → Prop := fun z τ => ∃ r : Int, z = some (vI r) ∧ (0 ≤ r ∧ r ≤ 10) ∧ tw_I τ ∧ tw_F (fun c j => (24 ≤ c ∧ c < 29)) σ τ ∧ (∀ gg qq rk : Nat → Int, RG 24 gg qq σ → CNR rk gg 28 σ → r = σ 24 0 ∧ τ 24 0 = 0 ∧ ∀ x : Int, 1 ≤ x → x ≤ 10 → τ 28 x.toNat = rk x.toNat)
set_option maxHeartbeats 4000000 in
set_option maxRecDepth 100000 in
theorem c_X11_strip {G : tw_G} (hX : tw_isX G) (σ : tw_M) (hI : tw_I σ) : tw_C G yX11_strip cX11_strip 1 (some .int) 3 [vR 0] σ (q_X11_strip σ) := by
  refine tw_met [(0, vR 0)] (by decide +kernel) rfl (Nat.le_of_ble_eq_true rfl) ?_
  refine j_aload_n (pc := 0) dX11_strip_0 rfl rfl ?_
  refine j_getR (pc := 1) (r := 23) fl_X11_26 dX11_strip_1 (a_0 hX) rfl ?_
  refine j_callV (pc := 4) (As := []) (st := []) (c_X3_takeAll 23 (s_Hand_23 hX) σ hI) mv_X11_207 rfl rfl rfl (a_23 hX) dX11_strip_4 ⟨Nat.le_of_ble_eq_true rfl, Nat.le_of_ble_eq_true rfl⟩ ⟨Nat.le_refl _, Nat.le_refl _⟩ rfl (Nat.le_of_ble_eq_true rfl) rfl (fun z1 σ2 hz1 => ?_)
  obtain ⟨r4, rfl, hr4, hIσ2, hGσ2, q3_0⟩ := hz1
  replace q3_0 : ∀ gg qq rk : Nat → Int, RG 24 gg qq σ → CNR rk gg 28 σ → r4 = σ 24 0 ∧ σ2 24 0 = 0 ∧ ∀ x : Int, 1 ≤ x → x ≤ 10 → σ2 28 x.toNat = rk x.toNat := q3_0
  have hFσ2 : tw_F (fun c j => (24 ≤ c ∧ c < 29)) σ σ2 := tw_F_tr (tw_F_rf) hGσ2 (fun c j q => (show (24 ≤ c ∧ c < 29) from by replace q : (24 ≤ c ∧ c < 29) := q; exact q))
  refine j_st (st' := [vI r4]) rfl ?_
  exact j_iret (pc := 7) ⟨rfl, rfl⟩ dX11_strip_7 rfl ⟨_, rfl, ⟨by omega, by omega⟩, hIσ2, hFσ2, q3_0⟩
abbrev q_X11_fall (h : Int) (g : Int) (w : Int) (σ : tw_M) : Option tw_V → tw_M → Prop := fun z τ => ∃ r : Int, z = some (vI r) ∧ (-2147483648 ≤ r ∧ r ≤ 2147483647) ∧ tw_I τ ∧ tw_F (fun c j => c = 55) σ τ ∧ True
set_option maxHeartbeats 4000000 in
set_option maxRecDepth 100000 in
theorem c_X11_fall {G : tw_G} (hX : tw_isX G) (h : Int) (hh : -2147483648 ≤ h ∧ h ≤ 2147483647) (g : Int) (hg : -2147483648 ≤ g ∧ g ≤ 2147483647) (w : Int) (hw : -2147483648 ≤ w ∧ w ≤ 2147483647) (σ : tw_M) (hI : tw_I σ) : tw_C G yX11_fall cX11_fall 4 (some .int) 2 [vR 0, vI h, vI g, vI w] σ (q_X11_fall h g w σ) := by
  refine tw_met [(0, vR 0), (1, vI h), (2, vI g), (3, vI w)] (by decide +kernel) rfl (Nat.le_of_ble_eq_true rfl) ?_
  refine j_aload_n (pc := 0) dX11_fall_0 rfl rfl ?_
  refine j_getR (pc := 1) (r := 1) fl_X11_10 dX11_fall_1 (a_0 hX) rfl ?_
  refine j_iload_n (pc := 4) dX11_fall_4 rfl rfl ?_
  refine j_callV (pc := 5) (As := [vI h]) (st := []) (c_X10_isFoot 1 (s_Wall_1 hX) h ⟨by omega, by omega⟩ σ hI) mv_X11_149 rfl rfl rfl (a_1 hX) dX11_fall_5 ⟨Nat.le_of_ble_eq_true rfl, Nat.le_of_ble_eq_true rfl⟩ ⟨Nat.le_refl _, Nat.le_refl _⟩ rfl (Nat.le_of_ble_eq_true rfl) rfl (fun z1 σ2 hz1 => ?_)
  obtain ⟨r4, rfl, hr4, rfl, q3_0⟩ := hz1
  replace q3_0 : (r4 = 1 ∧ 1 ≤ h ∧ h ≤ σ 2 0 ∧ h ≤ 40) ∨ (r4 = 0 ∧ ¬ (1 ≤ h ∧ h ≤ σ 2 0)) := q3_0
  refine j_st (st' := [vI r4]) rfl ?_
  refine j_ifR_eq (pc := 8) (tgt := 25) ⟨by omega, by omega⟩ dX11_fall_8 rfl (fun h5 => ?_) (fun h5 => ?_)
  · refine j_iconst (pc := 25) dX11_fall_25 ?_
    exact j_iret (pc := 26) ⟨rfl, rfl⟩ dX11_fall_26 rfl ⟨_, rfl, ⟨by omega, by omega⟩, hI, (tw_F_rf), trivial⟩
  · refine j_aload_n (pc := 11) dX11_fall_11 rfl rfl ?_
    refine j_getR (pc := 12) (r := 23) fl_X11_26 dX11_fall_12 (a_0 hX) rfl ?_
    refine j_getR (pc := 15) (r := 24) fl_X11_168 dX11_fall_15 (a_23 hX) rfl ?_
    refine j_iload_n (pc := 18) dX11_fall_18 rfl rfl ?_
    refine j_callV (pc := 19) (As := [vI g]) (st := []) (c_X7_has 24 (s_Row_24 hX) g ⟨by omega, by omega⟩ σ hI) mv_X11_211 rfl rfl rfl (a_24 hX) dX11_fall_19 ⟨Nat.le_of_ble_eq_true rfl, Nat.le_of_ble_eq_true rfl⟩ ⟨Nat.le_refl _, Nat.le_refl _⟩ rfl (Nat.le_of_ble_eq_true rfl) rfl (fun z6 σ7 hz6 => ?_)
    obtain ⟨r9, rfl, hr9, rfl, -⟩ := hz6
    refine j_st (st' := [vI r9]) rfl ?_
    refine j_ifR_ne (pc := 22) (tgt := 27) ⟨by omega, by omega⟩ dX11_fall_22 rfl (fun h10 => ?_) (fun h10 => ?_)
    · refine j_aload_n (pc := 27) dX11_fall_27 rfl rfl ?_
      refine j_getR (pc := 28) (r := 55) fl_X11_42 dX11_fall_28 (a_0 hX) rfl ?_
      refine j_aload_n (pc := 31) dX11_fall_31 rfl rfl ?_
      refine j_getR (pc := 32) (r := 1) fl_X11_10 dX11_fall_32 (a_0 hX) rfl ?_
      refine j_aload_n (pc := 35) dX11_fall_35 rfl rfl ?_
      refine j_getR (pc := 36) (r := 23) fl_X11_26 dX11_fall_36 (a_0 hX) rfl ?_
      refine j_getR (pc := 39) (r := 24) fl_X11_168 dX11_fall_39 (a_23 hX) rfl ?_
      refine j_iload_n (pc := 42) dX11_fall_42 rfl rfl ?_
      refine j_iload_n (pc := 43) dX11_fall_43 rfl rfl ?_
      refine j_callV (pc := 44) (As := [vR 1, vR 24, vI h, vI g]) (st := []) (c_X2_from 55 (s_Fall_55 hX) 1 (s_Wall_1 hX) 24 (s_Row_24 hX) h ⟨by omega, by omega⟩ g ⟨by omega, by omega⟩ σ hI (by omega) (by omega)) mv_X11_214 rfl rfl rfl (a_55 hX) dX11_fall_44 ⟨Nat.le_of_ble_eq_true rfl, Nat.le_of_ble_eq_true rfl⟩ ⟨Nat.le_refl _, Nat.le_refl _⟩ rfl (Nat.le_of_ble_eq_true rfl) rfl (fun z11 σ12 hz11 => ?_)
      obtain ⟨rfl, hIσ12, hGσ12, q13_0, q13_1, q13_2, q13_3⟩ := hz11
      replace q13_0 : ∀ gg qq : Nat → Int, RG 24 gg qq σ → (σ12 55 0, σ12 55 1, σ12 55 2, σ12 55 3) = fallG (wW 1 σ) gg h g h.toNat 0 := q13_0
      replace q13_1 : σ12 55 4 = strS (wW 1 σ) h (σ12 55 0) := q13_1
      replace q13_2 : σ12 55 5 = harS (wW 1 σ) h (σ12 55 0) := q13_2
      replace q13_3 : -40 ≤ σ12 55 5 ∧ σ12 55 5 ≤ 40 := q13_3
      have hFσ12 : tw_F (fun c j => c = 55) σ σ12 := tw_F_tr (tw_F_rf) hGσ12 (fun c j q => (show c = 55 from by replace q : c = 55 := q; exact q))
      refine j_st (st' := []) rfl ?_
      refine j_iload_n (pc := 47) dX11_fall_47 rfl rfl ?_
      rcases (show w < 0 ∨ w = 0 ∨ w = 1 ∨ w = 2 ∨ w = 3 ∨ w = 4 ∨ w = 5 ∨ 5 < w from by omega) with h15 | h15 | h15 | h15 | h15 | h15 | h15 | h15
      · refine j_tsOut (pc := 48) (tgt := 140) dX11_fall_48 ⟨by omega, by omega⟩ (Or.inl h15) rfl ?_
        refine j_iconst (pc := 140) dX11_fall_140 ?_
        exact j_iret (pc := 141) ⟨rfl, rfl⟩ dX11_fall_141 rfl ⟨_, rfl, ⟨by omega, by omega⟩, hIσ12, hFσ12, trivial⟩
      · refine j_tsIn (pc := 48) (tgt := 88) 0 dX11_fall_48 h15 (by decide) ⟨by decide, by decide⟩ rfl rfl ?_
        refine j_iconst (pc := 88) dX11_fall_88 ?_
        refine j_aload_n (pc := 89) dX11_fall_89 rfl rfl ?_
        refine j_getR (pc := 90) (r := 55) fl_X11_42 dX11_fall_90 (a_0 hX) rfl ?_
        refine j_getI (pc := 93) fl_X11_218 dX11_fall_93 (a_55 hX) rfl ?_
        have f16 : (-2147483648 : Int) ≤ σ12 55 0 ∧ σ12 55 0 ≤ 2147483647 := hIσ12 55 0
        refine j_mmax (pc := 96) mm_X11_221 dX11_fall_96 ⟨Nat.le_of_ble_eq_true rfl, Nat.le_of_ble_eq_true rfl⟩ ⟨Nat.le_refl _, Nat.le_refl _⟩ rfl (fun z17 ez17 => ?_)
        have hz17 := tw_max_eq (a := 0) (b := σ12 55 0) ⟨by omega, by omega⟩ ⟨by omega, by omega⟩ ez17
        exact j_iret (pc := 99) ⟨rfl, rfl⟩ dX11_fall_99 rfl ⟨_, rfl, ⟨by omega, by omega⟩, hIσ12, hFσ12, trivial⟩
      · refine j_tsIn (pc := 48) (tgt := 100) 1 dX11_fall_48 h15 (by decide) ⟨by decide, by decide⟩ rfl rfl ?_
        refine j_aload_n (pc := 100) dX11_fall_100 rfl rfl ?_
        refine j_getR (pc := 101) (r := 55) fl_X11_42 dX11_fall_101 (a_0 hX) rfl ?_
        refine j_getI (pc := 104) fl_X11_227 dX11_fall_104 (a_55 hX) rfl ?_
        have f18 : (-2147483648 : Int) ≤ σ12 55 1 ∧ σ12 55 1 ≤ 2147483647 := hIσ12 55 1
        exact j_iret (pc := 107) ⟨rfl, rfl⟩ dX11_fall_107 rfl ⟨_, rfl, ⟨by omega, by omega⟩, hIσ12, hFσ12, trivial⟩
      · refine j_tsIn (pc := 48) (tgt := 108) 2 dX11_fall_48 h15 (by decide) ⟨by decide, by decide⟩ rfl rfl ?_
        refine j_aload_n (pc := 108) dX11_fall_108 rfl rfl ?_
        refine j_getR (pc := 109) (r := 55) fl_X11_42 dX11_fall_109 (a_0 hX) rfl ?_
        refine j_getI (pc := 112) fl_X11_230 dX11_fall_112 (a_55 hX) rfl ?_
        have f19 : (-2147483648 : Int) ≤ σ12 55 2 ∧ σ12 55 2 ≤ 2147483647 := hIσ12 55 2
        exact j_iret (pc := 115) ⟨rfl, rfl⟩ dX11_fall_115 rfl ⟨_, rfl, ⟨by omega, by omega⟩, hIσ12, hFσ12, trivial⟩
      · refine j_tsIn (pc := 48) (tgt := 116) 3 dX11_fall_48 h15 (by decide) ⟨by decide, by decide⟩ rfl rfl ?_
        refine j_aload_n (pc := 116) dX11_fall_116 rfl rfl ?_
        refine j_getR (pc := 117) (r := 55) fl_X11_42 dX11_fall_117 (a_0 hX) rfl ?_
        refine j_getI (pc := 120) fl_X11_233 dX11_fall_120 (a_55 hX) rfl ?_
        have f20 : (-2147483648 : Int) ≤ σ12 55 3 ∧ σ12 55 3 ≤ 2147483647 := hIσ12 55 3
        exact j_iret (pc := 123) ⟨rfl, rfl⟩ dX11_fall_123 rfl ⟨_, rfl, ⟨by omega, by omega⟩, hIσ12, hFσ12, trivial⟩
      · refine j_tsIn (pc := 48) (tgt := 124) 4 dX11_fall_48 h15 (by decide) ⟨by decide, by decide⟩ rfl rfl ?_
        refine j_aload_n (pc := 124) dX11_fall_124 rfl rfl ?_
        refine j_getR (pc := 125) (r := 55) fl_X11_42 dX11_fall_125 (a_0 hX) rfl ?_
        refine j_getI (pc := 128) fl_X11_236 dX11_fall_128 (a_55 hX) rfl ?_
        have f21 : (-2147483648 : Int) ≤ σ12 55 4 ∧ σ12 55 4 ≤ 2147483647 := hIσ12 55 4
        exact j_iret (pc := 131) ⟨rfl, rfl⟩ dX11_fall_131 rfl ⟨_, rfl, ⟨by omega, by omega⟩, hIσ12, hFσ12, trivial⟩
      · refine j_tsIn (pc := 48) (tgt := 132) 5 dX11_fall_48 h15 (by decide) ⟨by decide, by decide⟩ rfl rfl ?_
        refine j_aload_n (pc := 132) dX11_fall_132 rfl rfl ?_
        refine j_getR (pc := 133) (r := 55) fl_X11_42 dX11_fall_133 (a_0 hX) rfl ?_
        refine j_getI (pc := 136) fl_X11_239 dX11_fall_136 (a_55 hX) rfl ?_
        have f22 : (-2147483648 : Int) ≤ σ12 55 5 ∧ σ12 55 5 ≤ 2147483647 := hIσ12 55 5
        exact j_iret (pc := 139) ⟨rfl, rfl⟩ dX11_fall_139 rfl ⟨_, rfl, ⟨by omega, by omega⟩, hIσ12, hFσ12, trivial⟩
      · refine j_tsOut (pc := 48) (tgt := 140) dX11_fall_48 ⟨by omega, by omega⟩ (Or.inr h15) rfl ?_
        refine j_iconst (pc := 140) dX11_fall_140 ?_
        exact j_iret (pc := 141) ⟨rfl, rfl⟩ dX11_fall_141 rfl ⟨_, rfl, ⟨by omega, by omega⟩, hIσ12, hFσ12, trivial⟩
    · refine j_iconst (pc := 25) dX11_fall_25 ?_
      exact j_iret (pc := 26) ⟨rfl, rfl⟩ dX11_fall_26 rfl ⟨_, rfl, ⟨by omega, by omega⟩, hI, (tw_F_rf), trivial⟩
abbrev q_X11_harm (h : Int) (d : Int) (w : Int) (σ : tw_M) : Option tw_V → tw_M → Prop := fun z τ => ∃ r : Int, z = some (vL r) ∧ (-9223372036854775808 ≤ r ∧ r ≤ 9223372036854775807) ∧ tw_I τ ∧ tw_F (fun c j => (c = 58 ∧ (j = 2 ∨ j = 3))) σ τ ∧ True
set_option maxHeartbeats 4000000 in
set_option maxRecDepth 100000 in
theorem c_X11_harm {G : tw_G} (hX : tw_isX G) (h : Int) (hh : -2147483648 ≤ h ∧ h ≤ 2147483647) (d : Int) (hd : -2147483648 ≤ d ∧ d ≤ 2147483647) (w : Int) (hw : -2147483648 ≤ w ∧ w ≤ 2147483647) (σ : tw_M) (hI : tw_I σ) : tw_C G yX11_harm cX11_harm 4 (some .long) 2 [vR 0, vI h, vI d, vI w] σ (q_X11_harm h d w σ) := by
  refine tw_met [(0, vR 0), (1, vI h), (2, vI d), (3, vI w)] (by decide +kernel) rfl (Nat.le_of_ble_eq_true rfl) ?_
  refine j_aload_n (pc := 0) dX11_harm_0 rfl rfl ?_
  refine j_getR (pc := 1) (r := 1) fl_X11_10 dX11_harm_1 (a_0 hX) rfl ?_
  refine j_iload_n (pc := 4) dX11_harm_4 rfl rfl ?_
  refine j_callV (pc := 5) (As := [vI h]) (st := []) (c_X10_isFoot 1 (s_Wall_1 hX) h ⟨by omega, by omega⟩ σ hI) mv_X11_149 rfl rfl rfl (a_1 hX) dX11_harm_5 ⟨Nat.le_of_ble_eq_true rfl, Nat.le_of_ble_eq_true rfl⟩ ⟨Nat.le_refl _, Nat.le_refl _⟩ rfl (Nat.le_of_ble_eq_true rfl) rfl (fun z1 σ2 hz1 => ?_)
  obtain ⟨r4, rfl, hr4, rfl, q3_0⟩ := hz1
  replace q3_0 : (r4 = 1 ∧ 1 ≤ h ∧ h ≤ σ 2 0 ∧ h ≤ 40) ∨ (r4 = 0 ∧ ¬ (1 ≤ h ∧ h ≤ σ 2 0)) := q3_0
  refine j_st (st' := [vI r4]) rfl ?_
  refine j_ifR_eq (pc := 8) (tgt := 29) ⟨by omega, by omega⟩ dX11_harm_8 rfl (fun h5 => ?_) (fun h5 => ?_)
  · refine j_ldc2 (pc := 29) (z := -1) dX11_harm_29 (tw_inc tm_4 (i := 96) rfl rfl) ?_
    exact j_lret (pc := 32) ⟨rfl, rfl⟩ dX11_harm_32 rfl ⟨_, rfl, ⟨by omega, by omega⟩, hI, (tw_F_rf), trivial⟩
  · refine j_iload_n (pc := 11) dX11_harm_11 rfl rfl ?_
    refine j_iconst (pc := 12) dX11_harm_12 ?_
    refine j_icmpR_lt (pc := 13) (tgt := 29) ⟨by omega, by omega⟩ ⟨by omega, by omega⟩ dX11_harm_13 rfl (fun h6 => ?_) (fun h6 => ?_)
    · refine j_ldc2 (pc := 29) (z := -1) dX11_harm_29 (tw_inc tm_4 (i := 96) rfl rfl) ?_
      exact j_lret (pc := 32) ⟨rfl, rfl⟩ dX11_harm_32 rfl ⟨_, rfl, ⟨by omega, by omega⟩, hI, (tw_F_rf), trivial⟩
    · refine j_iload_n (pc := 16) dX11_harm_16 rfl rfl ?_
      refine j_bipush (pc := 17) dX11_harm_17 rfl ?_
      refine j_icmpR_gt (pc := 19) (tgt := 29) ⟨by omega, by omega⟩ ⟨by omega, by omega⟩ dX11_harm_19 rfl (fun h7 => ?_) (fun h7 => ?_)
      · refine j_ldc2 (pc := 29) (z := -1) dX11_harm_29 (tw_inc tm_4 (i := 96) rfl rfl) ?_
        exact j_lret (pc := 32) ⟨rfl, rfl⟩ dX11_harm_32 rfl ⟨_, rfl, ⟨by omega, by omega⟩, hI, (tw_F_rf), trivial⟩
      · refine j_iload_n (pc := 22) dX11_harm_22 rfl rfl ?_
        refine j_callS (pc := 23) (As := [vI w]) (st := []) (c_X11_isPart w ⟨by omega, by omega⟩ σ hI) ms_X11_242 rfl dX11_harm_23 ⟨Nat.le_of_ble_eq_true rfl, Nat.le_of_ble_eq_true rfl⟩ ⟨Nat.le_refl _, Nat.le_refl _⟩ rfl (Nat.le_of_ble_eq_true rfl) rfl (fun z8 σ9 hz8 => ?_)
        obtain ⟨r11, rfl, hr11, rfl, q10_0⟩ := hz8
        replace q10_0 : (r11 = 1 ∧ (w = 0 ∨ w = 1)) ∨ (r11 = 0 ∧ ¬ w = 0 ∧ ¬ w = 1) := q10_0
        refine j_st (st' := [vI r11]) rfl ?_
        refine j_ifR_ne (pc := 26) (tgt := 33) ⟨by omega, by omega⟩ dX11_harm_26 rfl (fun h12 => ?_) (fun h12 => ?_)
        · refine j_aload_n (pc := 33) dX11_harm_33 rfl rfl ?_
          refine j_getR (pc := 34) (r := 58) fl_X11_58 dX11_harm_34 (a_0 hX) rfl ?_
          refine j_aload_n (pc := 37) dX11_harm_37 rfl rfl ?_
          refine j_getR (pc := 38) (r := 23) fl_X11_26 dX11_harm_38 (a_0 hX) rfl ?_
          refine j_iload_n (pc := 41) dX11_harm_41 rfl rfl ?_
          refine j_iload_n (pc := 42) dX11_harm_42 rfl rfl ?_
          refine j_callV (pc := 43) (As := [vR 23, vI h, vI d]) (st := []) (c_X1_spread hX 23 (s_Hand_23 hX) h ⟨by omega, by omega⟩ d ⟨by omega, by omega⟩ σ hI) mv_X11_247 rfl rfl rfl (a_58 hX) dX11_harm_43 ⟨Nat.le_of_ble_eq_true rfl, Nat.le_of_ble_eq_true rfl⟩ ⟨Nat.le_refl _, Nat.le_refl _⟩ rfl (Nat.le_of_ble_eq_true rfl) rfl (fun z13 σ14 hz13 => ?_)
          obtain ⟨rfl, hIσ14, hGσ14, -⟩ := hz13
          have hFσ14 : tw_F (fun c j => (c = 58 ∧ (j = 2 ∨ j = 3))) σ σ14 := tw_F_tr (tw_F_rf) hGσ14 (fun c j q => (show (c = 58 ∧ (j = 2 ∨ j = 3)) from by replace q : (c = 58 ∧ (j = 2 ∨ j = 3)) := q; exact q))
          refine j_st (st' := []) rfl ?_
          refine j_aload_n (pc := 46) dX11_harm_46 rfl rfl ?_
          refine j_getR (pc := 47) (r := 58) fl_X11_58 dX11_harm_47 (a_0 hX) rfl ?_
          refine j_iload_n (pc := 50) dX11_harm_50 rfl rfl ?_
          refine j_callV (pc := 51) (As := [vI w]) (st := []) (c_X1_part hX w ⟨by omega, by omega⟩ σ14 hIσ14) mv_X11_251 rfl rfl rfl (a_58 hX) dX11_harm_51 ⟨Nat.le_of_ble_eq_true rfl, Nat.le_of_ble_eq_true rfl⟩ ⟨Nat.le_refl _, Nat.le_refl _⟩ rfl (Nat.le_of_ble_eq_true rfl) rfl (fun z17 σ18 hz17 => ?_)
          obtain ⟨r20, rfl, hr20, rfl, q19_0⟩ := hz17
          replace q19_0 : (w = 0 ∧ r20 = σ14 58 2) ∨ (¬ w = 0 ∧ r20 = σ14 58 3) := q19_0
          refine j_st (st' := [vL r20]) rfl ?_
          exact j_lret (pc := 54) ⟨rfl, rfl⟩ dX11_harm_54 rfl ⟨_, rfl, ⟨by omega, by omega⟩, hIσ14, hFσ14, trivial⟩
        · refine j_ldc2 (pc := 29) (z := -1) dX11_harm_29 (tw_inc tm_4 (i := 96) rfl rfl) ?_
          exact j_lret (pc := 32) ⟨rfl, rfl⟩ dX11_harm_32 rfl ⟨_, rfl, ⟨by omega, by omega⟩, hI, (tw_F_rf), trivial⟩
abbrev q_X11_mean (h : Int) (w : Int) (σ : tw_M) : Option tw_V → tw_M → Prop := fun z τ => ∃ r : Int, z = some (vL r) ∧ (-9223372036854775808 ≤ r ∧ r ≤ 9223372036854775807) ∧ tw_I τ ∧ tw_F (fun c j => (c = 58 ∧ (j = 2 ∨ j = 3))) σ τ ∧ True
set_option maxHeartbeats 4000000 in
set_option maxRecDepth 100000 in
theorem c_X11_mean {G : tw_G} (hX : tw_isX G) (h : Int) (hh : -2147483648 ≤ h ∧ h ≤ 2147483647) (w : Int) (hw : -2147483648 ≤ w ∧ w ≤ 2147483647) (σ : tw_M) (hI : tw_I σ) : tw_C G yX11_mean cX11_mean 3 (some .long) 2 [vR 0, vI h, vI w] σ (q_X11_mean h w σ) := by
  refine tw_met [(0, vR 0), (1, vI h), (2, vI w)] (by decide +kernel) rfl (Nat.le_of_ble_eq_true rfl) ?_
  refine j_aload_n (pc := 0) dX11_mean_0 rfl rfl ?_
  refine j_getR (pc := 1) (r := 1) fl_X11_10 dX11_mean_1 (a_0 hX) rfl ?_
  refine j_iload_n (pc := 4) dX11_mean_4 rfl rfl ?_
  refine j_callV (pc := 5) (As := [vI h]) (st := []) (c_X10_isFoot 1 (s_Wall_1 hX) h ⟨by omega, by omega⟩ σ hI) mv_X11_149 rfl rfl rfl (a_1 hX) dX11_mean_5 ⟨Nat.le_of_ble_eq_true rfl, Nat.le_of_ble_eq_true rfl⟩ ⟨Nat.le_refl _, Nat.le_refl _⟩ rfl (Nat.le_of_ble_eq_true rfl) rfl (fun z1 σ2 hz1 => ?_)
  obtain ⟨r4, rfl, hr4, rfl, q3_0⟩ := hz1
  replace q3_0 : (r4 = 1 ∧ 1 ≤ h ∧ h ≤ σ 2 0 ∧ h ≤ 40) ∨ (r4 = 0 ∧ ¬ (1 ≤ h ∧ h ≤ σ 2 0)) := q3_0
  refine j_st (st' := [vI r4]) rfl ?_
  refine j_ifR_eq (pc := 8) (tgt := 18) ⟨by omega, by omega⟩ dX11_mean_8 rfl (fun h5 => ?_) (fun h5 => ?_)
  · refine j_ldc2 (pc := 18) (z := -1) dX11_mean_18 (tw_inc tm_4 (i := 96) rfl rfl) ?_
    exact j_lret (pc := 21) ⟨rfl, rfl⟩ dX11_mean_21 rfl ⟨_, rfl, ⟨by omega, by omega⟩, hI, (tw_F_rf), trivial⟩
  · refine j_iload_n (pc := 11) dX11_mean_11 rfl rfl ?_
    refine j_callS (pc := 12) (As := [vI w]) (st := []) (c_X11_isPart w ⟨by omega, by omega⟩ σ hI) ms_X11_242 rfl dX11_mean_12 ⟨Nat.le_of_ble_eq_true rfl, Nat.le_of_ble_eq_true rfl⟩ ⟨Nat.le_refl _, Nat.le_refl _⟩ rfl (Nat.le_of_ble_eq_true rfl) rfl (fun z6 σ7 hz6 => ?_)
    obtain ⟨r9, rfl, hr9, rfl, q8_0⟩ := hz6
    replace q8_0 : (r9 = 1 ∧ (w = 0 ∨ w = 1)) ∨ (r9 = 0 ∧ ¬ w = 0 ∧ ¬ w = 1) := q8_0
    refine j_st (st' := [vI r9]) rfl ?_
    refine j_ifR_ne (pc := 15) (tgt := 22) ⟨by omega, by omega⟩ dX11_mean_15 rfl (fun h10 => ?_) (fun h10 => ?_)
    · refine j_aload_n (pc := 22) dX11_mean_22 rfl rfl ?_
      refine j_getR (pc := 23) (r := 58) fl_X11_58 dX11_mean_23 (a_0 hX) rfl ?_
      refine j_aload_n (pc := 26) dX11_mean_26 rfl rfl ?_
      refine j_getR (pc := 27) (r := 23) fl_X11_26 dX11_mean_27 (a_0 hX) rfl ?_
      refine j_iload_n (pc := 30) dX11_mean_30 rfl rfl ?_
      refine j_iconst (pc := 31) dX11_mean_31 ?_
      refine j_callV (pc := 32) (As := [vR 23, vI h, vI 0]) (st := []) (c_X1_spread hX 23 (s_Hand_23 hX) h ⟨by omega, by omega⟩ 0 (by (first | decide | exact ⟨by omega, by omega⟩)) σ hI) mv_X11_247 rfl rfl rfl (a_58 hX) dX11_mean_32 ⟨Nat.le_of_ble_eq_true rfl, Nat.le_of_ble_eq_true rfl⟩ ⟨Nat.le_refl _, Nat.le_refl _⟩ rfl (Nat.le_of_ble_eq_true rfl) rfl (fun z11 σ12 hz11 => ?_)
      obtain ⟨rfl, hIσ12, hGσ12, -⟩ := hz11
      have hFσ12 : tw_F (fun c j => (c = 58 ∧ (j = 2 ∨ j = 3))) σ σ12 := tw_F_tr (tw_F_rf) hGσ12 (fun c j q => (show (c = 58 ∧ (j = 2 ∨ j = 3)) from by replace q : (c = 58 ∧ (j = 2 ∨ j = 3)) := q; exact q))
      refine j_st (st' := []) rfl ?_
      refine j_aload_n (pc := 35) dX11_mean_35 rfl rfl ?_
      refine j_getR (pc := 36) (r := 58) fl_X11_58 dX11_mean_36 (a_0 hX) rfl ?_
      refine j_iload_n (pc := 39) dX11_mean_39 rfl rfl ?_
      refine j_callV (pc := 40) (As := [vI w]) (st := []) (c_X1_part hX w ⟨by omega, by omega⟩ σ12 hIσ12) mv_X11_251 rfl rfl rfl (a_58 hX) dX11_mean_40 ⟨Nat.le_of_ble_eq_true rfl, Nat.le_of_ble_eq_true rfl⟩ ⟨Nat.le_refl _, Nat.le_refl _⟩ rfl (Nat.le_of_ble_eq_true rfl) rfl (fun z15 σ16 hz15 => ?_)
      obtain ⟨r18, rfl, hr18, rfl, q17_0⟩ := hz15
      replace q17_0 : (w = 0 ∧ r18 = σ12 58 2) ∨ (¬ w = 0 ∧ r18 = σ12 58 3) := q17_0
      refine j_st (st' := [vL r18]) rfl ?_
      exact j_lret (pc := 43) ⟨rfl, rfl⟩ dX11_mean_43 rfl ⟨_, rfl, ⟨by omega, by omega⟩, hIσ12, hFσ12, trivial⟩
    · refine j_ldc2 (pc := 18) (z := -1) dX11_mean_18 (tw_inc tm_4 (i := 96) rfl rfl) ?_
      exact j_lret (pc := 21) ⟨rfl, rfl⟩ dX11_mean_21 rfl ⟨_, rfl, ⟨by omega, by omega⟩, hI, (tw_F_rf), trivial⟩
abbrev q_X11_risk (w : Int) (σ : tw_M) : Option tw_V → tw_M → Prop := fun z τ => ∃ r : Int, z = some (vI r) ∧ (-2147483648 ≤ r ∧ r ≤ 2147483647) ∧ tw_I τ ∧ tw_F (fun c j => (56 ≤ c ∧ c < 58)) σ τ ∧ True
set_option maxHeartbeats 4000000 in
set_option maxRecDepth 100000 in
theorem c_X11_risk {G : tw_G} (hX : tw_isX G) (w : Int) (hw : -2147483648 ≤ w ∧ w ≤ 2147483647) (σ : tw_M) (hI : tw_I σ) : tw_C G yX11_risk cX11_risk 3 (some .int) 4 [vR 0, vI w] σ (q_X11_risk w σ) := by
  refine tw_met [(0, vR 0), (1, vI w)] (by decide +kernel) rfl (Nat.le_of_ble_eq_true rfl) ?_
  refine j_iload_n (pc := 0) dX11_risk_0 rfl rfl ?_
  refine j_ifR_lt (pc := 1) (tgt := 9) ⟨by omega, by omega⟩ dX11_risk_1 rfl (fun h1 => ?_) (fun h1 => ?_)
  · refine j_iconst (pc := 9) dX11_risk_9 ?_
    exact j_iret (pc := 10) ⟨rfl, rfl⟩ dX11_risk_10 rfl ⟨_, rfl, ⟨by omega, by omega⟩, hI, (tw_F_rf), trivial⟩
  · refine j_iload_n (pc := 4) dX11_risk_4 rfl rfl ?_
    refine j_iconst (pc := 5) dX11_risk_5 ?_
    refine j_icmpR_le (pc := 6) (tgt := 11) ⟨by omega, by omega⟩ ⟨by omega, by omega⟩ dX11_risk_6 rfl (fun h2 => ?_) (fun h2 => ?_)
    · refine j_aload_n (pc := 11) dX11_risk_11 rfl rfl ?_
      refine j_getR (pc := 12) (r := 23) fl_X11_26 dX11_risk_12 (a_0 hX) rfl ?_
      refine j_getR (pc := 15) (r := 24) fl_X11_168 dX11_risk_15 (a_23 hX) rfl ?_
      refine j_astore_n (pc := 18) (i := 2) (ls' := [(0, vR 0), (1, vI w), (2, vR 24)]) [1, 2, 0] dX11_risk_18 rfl (Nat.le_of_ble_eq_true rfl) rfl rfl ?_
      refine j_iload_n (pc := 19) dX11_risk_19 rfl rfl ?_
      refine j_ifR_ne (pc := 20) (tgt := 36) ⟨by omega, by omega⟩ dX11_risk_20 rfl (fun h3 => ?_) (fun h3 => ?_)
      · refine j_iload_n (pc := 36) dX11_risk_36 rfl rfl ?_
        refine j_iconst (pc := 37) dX11_risk_37 ?_
        refine j_icmpR_gt (pc := 38) (tgt := 85) ⟨by omega, by omega⟩ ⟨by omega, by omega⟩ dX11_risk_38 rfl (fun h4 => ?_) (fun h4 => ?_)
        · refine j_aload_n (pc := 85) dX11_risk_85 rfl rfl ?_
          refine j_getR (pc := 86) (r := 56) fl_X11_51 dX11_risk_86 (a_0 hX) rfl ?_
          refine j_aload_n (pc := 89) dX11_risk_89 rfl rfl ?_
          refine j_callV (pc := 90) (As := [vR 24]) (st := []) (c_X4_findWorst hX 24 (s_Row_24 hX) σ hI (by omega)) mv_X11_272 rfl rfl rfl (a_56 hX) dX11_risk_90 ⟨Nat.le_of_ble_eq_true rfl, Nat.le_of_ble_eq_true rfl⟩ ⟨Nat.le_refl _, Nat.le_refl _⟩ rfl (Nat.le_of_ble_eq_true rfl) rfl (fun z5 σ6 hz5 => ?_)
          obtain ⟨rfl, hIσ6, hGσ6, -⟩ := hz5
          have hFσ6 : tw_F (fun c j => (56 ≤ c ∧ c < 58)) σ σ6 := tw_F_tr (tw_F_rf) hGσ6 (fun c j q => (show (56 ≤ c ∧ c < 58) from by replace q : c = 57 ∨ (c = 56 ∧ (j = 4 ∨ j = 5)) := q; exact (q.elim (fun q => (by rw [show c = 57 from q]; decide)) (fun q => (by rw [show c = 56 from q.1]; decide)))))
          refine j_st (st' := []) rfl ?_
          refine j_iload_n (pc := 93) dX11_risk_93 rfl rfl ?_
          refine j_iconst (pc := 94) dX11_risk_94 ?_
          refine j_icmpR_ne (pc := 95) (tgt := 106) ⟨by omega, by omega⟩ ⟨by omega, by omega⟩ dX11_risk_95 rfl (fun h9 => ?_) (fun h9 => ?_)
          · refine j_aload_n (pc := 106) dX11_risk_106 rfl rfl ?_
            refine j_getR (pc := 107) (r := 56) fl_X11_51 dX11_risk_107 (a_0 hX) rfl ?_
            refine j_getI (pc := 110) fl_X11_278 dX11_risk_110 (a_56 hX) rfl ?_
            have f10 : (-2147483648 : Int) ≤ σ6 56 4 ∧ σ6 56 4 ≤ 2147483647 := hIσ6 56 4
            refine j_ifR_le (pc := 113) (tgt := 126) ⟨by omega, by omega⟩ dX11_risk_113 rfl (fun h11 => ?_) (fun h11 => ?_)
            · refine j_bipush (pc := 126) dX11_risk_126 rfl ?_
              exact j_iret (pc := 128) ⟨rfl, rfl⟩ dX11_risk_128 rfl ⟨_, rfl, ⟨by omega, by omega⟩, hIσ6, hFσ6, trivial⟩
            · refine j_aload_n (pc := 116) dX11_risk_116 rfl rfl ?_
              refine j_getR (pc := 117) (r := 56) fl_X11_51 dX11_risk_117 (a_0 hX) rfl ?_
              refine j_getI (pc := 120) fl_X11_278 dX11_risk_120 (a_56 hX) rfl ?_
              refine j_goto (pc := 123) (tgt := 128) dX11_risk_123 rfl ?_
              exact j_iret (pc := 128) ⟨rfl, rfl⟩ dX11_risk_128 rfl ⟨_, rfl, ⟨by omega, by omega⟩, hIσ6, hFσ6, trivial⟩
          · refine j_aload_n (pc := 98) dX11_risk_98 rfl rfl ?_
            refine j_getR (pc := 99) (r := 56) fl_X11_51 dX11_risk_99 (a_0 hX) rfl ?_
            refine j_getI (pc := 102) fl_X11_275 dX11_risk_102 (a_56 hX) rfl ?_
            have f12 : (-2147483648 : Int) ≤ σ6 56 5 ∧ σ6 56 5 ≤ 2147483647 := hIσ6 56 5
            exact j_iret (pc := 105) ⟨rfl, rfl⟩ dX11_risk_105 rfl ⟨_, rfl, ⟨by omega, by omega⟩, hIσ6, hFσ6, trivial⟩
        · refine j_aload_n (pc := 41) dX11_risk_41 rfl rfl ?_
          refine j_getR (pc := 42) (r := 56) fl_X11_51 dX11_risk_42 (a_0 hX) rfl ?_
          refine j_aload_n (pc := 45) dX11_risk_45 rfl rfl ?_
          refine j_callV (pc := 46) (As := [vR 24]) (st := []) (c_X4_climbAll hX 24 (s_Row_24 hX) σ hI (by omega)) mv_X11_262 rfl rfl rfl (a_56 hX) dX11_risk_46 ⟨Nat.le_of_ble_eq_true rfl, Nat.le_of_ble_eq_true rfl⟩ ⟨Nat.le_refl _, Nat.le_refl _⟩ rfl (Nat.le_of_ble_eq_true rfl) rfl (fun z13 σ14 hz13 => ?_)
          obtain ⟨rfl, hIσ14, hGσ14, q15_0⟩ := hz13
          replace q15_0 : ∀ gg qq : Nat → Int, RG 24 gg qq σ → σ14 56 2 = eff (wW 1 σ) gg (σ 2 0).toNat ∧ TMs (wW 1 σ) gg 0 1 (σ 2 0 + 1) (σ14 56 3) := q15_0
          have hFσ14 : tw_F (fun c j => (56 ≤ c ∧ c < 58)) σ σ14 := tw_F_tr (tw_F_rf) hGσ14 (fun c j q => (show (56 ≤ c ∧ c < 58) from by replace q : (c = 56 ∧ (j = 2 ∨ j = 3)) := q; exact (by rw [show c = 56 from q.1]; decide)))
          refine j_st (st' := []) rfl ?_
          refine j_iload_n (pc := 49) dX11_risk_49 rfl rfl ?_
          refine j_iconst (pc := 50) dX11_risk_50 ?_
          refine j_icmpR_ne (pc := 51) (tgt := 62) ⟨by omega, by omega⟩ ⟨by omega, by omega⟩ dX11_risk_51 rfl (fun h17 => ?_) (fun h17 => ?_)
          · refine j_aload_n (pc := 62) dX11_risk_62 rfl rfl ?_
            refine j_getR (pc := 63) (r := 56) fl_X11_51 dX11_risk_63 (a_0 hX) rfl ?_
            refine j_getI (pc := 66) fl_X11_269 dX11_risk_66 (a_56 hX) rfl ?_
            have f18 : (-2147483648 : Int) ≤ σ14 56 3 ∧ σ14 56 3 ≤ 2147483647 := hIσ14 56 3
            refine j_ifR_le (pc := 69) (tgt := 82) ⟨by omega, by omega⟩ dX11_risk_69 rfl (fun h19 => ?_) (fun h19 => ?_)
            · refine j_bipush (pc := 82) dX11_risk_82 rfl ?_
              exact j_iret (pc := 84) ⟨rfl, rfl⟩ dX11_risk_84 rfl ⟨_, rfl, ⟨by omega, by omega⟩, hIσ14, hFσ14, trivial⟩
            · refine j_aload_n (pc := 72) dX11_risk_72 rfl rfl ?_
              refine j_getR (pc := 73) (r := 56) fl_X11_51 dX11_risk_73 (a_0 hX) rfl ?_
              refine j_getI (pc := 76) fl_X11_269 dX11_risk_76 (a_56 hX) rfl ?_
              refine j_goto (pc := 79) (tgt := 84) dX11_risk_79 rfl ?_
              exact j_iret (pc := 84) ⟨rfl, rfl⟩ dX11_risk_84 rfl ⟨_, rfl, ⟨by omega, by omega⟩, hIσ14, hFσ14, trivial⟩
          · refine j_aload_n (pc := 54) dX11_risk_54 rfl rfl ?_
            refine j_getR (pc := 55) (r := 56) fl_X11_51 dX11_risk_55 (a_0 hX) rfl ?_
            refine j_getI (pc := 58) fl_X11_266 dX11_risk_58 (a_56 hX) rfl ?_
            have f20 : (-2147483648 : Int) ≤ σ14 56 2 ∧ σ14 56 2 ≤ 2147483647 := hIσ14 56 2
            exact j_iret (pc := 61) ⟨rfl, rfl⟩ dX11_risk_61 rfl ⟨_, rfl, ⟨by omega, by omega⟩, hIσ14, hFσ14, trivial⟩
      · refine j_aload_n (pc := 23) dX11_risk_23 rfl rfl ?_
        refine j_getR (pc := 24) (r := 56) fl_X11_51 dX11_risk_24 (a_0 hX) rfl ?_
        refine j_aload_n (pc := 27) dX11_risk_27 rfl rfl ?_
        refine j_aload_n (pc := 28) dX11_risk_28 rfl rfl ?_
        refine j_callV (pc := 29) (As := []) (st := [vR 24, vR 56]) (c_X7_all 24 (s_Row_24 hX) σ hI) mv_X11_255 rfl rfl rfl (a_24 hX) dX11_risk_29 ⟨Nat.le_of_ble_eq_true rfl, Nat.le_of_ble_eq_true rfl⟩ ⟨Nat.le_refl _, Nat.le_refl _⟩ rfl (Nat.le_of_ble_eq_true rfl) rfl (fun z21 σ22 hz21 => ?_)
        obtain ⟨r24, rfl, hr24, rfl, q23_0⟩ := hz21
        replace q23_0 : r24 = pt (σ 24 0) - 1 := q23_0
        refine j_st (st' := [vI r24, vR 24, vR 56]) rfl ?_
        refine j_callV (pc := 32) (As := [vR 24, vI r24]) (st := []) (c_X4_riskOf hX 24 (s_Row_24 hX) r24 ⟨by omega, by omega⟩ σ hI (by omega)) mv_X11_258 rfl rfl rfl (a_56 hX) dX11_risk_32 ⟨Nat.le_of_ble_eq_true rfl, Nat.le_of_ble_eq_true rfl⟩ ⟨Nat.le_refl _, Nat.le_refl _⟩ rfl (Nat.le_of_ble_eq_true rfl) rfl (fun z25 σ26 hz25 => ?_)
        obtain ⟨r28, rfl, hr28, hIσ26, hGσ26, q27_0, q27_1⟩ := hz25
        replace q27_0 : ∀ gg qq : Nat → Int, RG 24 gg qq σ → r28 = rsk (wW 1 σ) gg r24 (σ 2 0).toNat := q27_0
        replace q27_1 : -16000 ≤ r28 ∧ r28 ≤ 16000 := q27_1
        have hFσ26 : tw_F (fun c j => (56 ≤ c ∧ c < 58)) σ σ26 := tw_F_tr (tw_F_rf) hGσ26 (fun c j q => (show (56 ≤ c ∧ c < 58) from by replace q : c = 57 := q; exact (by rw [show c = 57 from q]; decide)))
        refine j_st (st' := [vI r28]) rfl ?_
        exact j_iret (pc := 35) ⟨rfl, rfl⟩ dX11_risk_35 rfl ⟨_, rfl, ⟨by omega, by omega⟩, hIσ26, hFσ26, trivial⟩
    · refine j_iconst (pc := 9) dX11_risk_9 ?_
      exact j_iret (pc := 10) ⟨rfl, rfl⟩ dX11_risk_10 rfl ⟨_, rfl, ⟨by omega, by omega⟩, hI, (tw_F_rf), trivial⟩
abbrev q_X11_needless  (σ : tw_M) : Option tw_V → tw_M → Prop := fun z τ => ∃ r : Int, z = some (vI r) ∧ (-2147483648 ≤ r ∧ r ≤ 2147483647) ∧ tw_I τ ∧ tw_F (fun c j => (56 ≤ c ∧ c < 58)) σ τ ∧ True
set_option maxHeartbeats 4000000 in
set_option maxRecDepth 100000 in
theorem l_X11_needless {G : tw_G} (hX : tw_isX G) (σ : tw_M) (hI : tw_I σ) : ∀ N_ : Nat, (∀ (a : Int) (ha : -2147483648 ≤ a ∧ a ≤ 2147483647) (b : Int) (hb : -2147483648 ≤ b ∧ b ≤ 2147483647) (k : Int) (hk : 0 ≤ k ∧ k ≤ 10) (τ : tw_M) (hIτ : tw_I τ) (hFτ : tw_F (fun c j => (56 ≤ c ∧ c < 58)) σ τ)  (hm : (10 - k).toNat < N_), tw_J G (tw_mt RX11 cX11_needless 5 (some .int) 4) (tw_E G (q_X11_needless σ)) 26 [(0, vR 0), (1, vR 24), (2, vI a), (3, vI b), (4, vI k)] [] τ) := by
  intro N_
  induction N_ with
  | zero => exact fun a ha b hb k hk τ hIτ hFτ hm => absurd hm (Nat.not_lt_zero _)
  | succ N_ ih =>
    intro a ha b hb k hk τ hIτ hFτ hm
    refine j_iload (pc := 26) dX11_needless_26 rfl ?_
    refine j_aload_n (pc := 28) dX11_needless_28 rfl rfl ?_
    refine j_getI (pc := 29) fl_X11_187 dX11_needless_29 (a_24 hX) rfl ?_
    have f1 : (0 : Int) ≤ τ 24 0 ∧ τ 24 0 ≤ 10 := hIτ 24 0
    refine j_icmpR_ge (pc := 32) (tgt := 71) ⟨by omega, by omega⟩ ⟨by omega, by omega⟩ dX11_needless_32 rfl (fun h2 => ?_) (fun h2 => ?_)
    · refine j_iload_n (pc := 71) dX11_needless_71 rfl rfl ?_
      exact j_iret (pc := 72) ⟨rfl, rfl⟩ dX11_needless_72 rfl ⟨_, rfl, ⟨by omega, by omega⟩, hIτ, hFτ, trivial⟩
    · refine j_aload_n (pc := 35) dX11_needless_35 rfl rfl ?_
      refine j_getR (pc := 36) (r := 56) fl_X11_51 dX11_needless_36 (a_0 hX) rfl ?_
      refine j_aload_n (pc := 39) dX11_needless_39 rfl rfl ?_
      refine j_aload_n (pc := 40) dX11_needless_40 rfl rfl ?_
      refine j_callV (pc := 41) (As := []) (st := [vR 24, vR 56]) (c_X7_all 24 (s_Row_24 hX) τ hIτ) mv_X11_255 rfl rfl rfl (a_24 hX) dX11_needless_41 ⟨Nat.le_of_ble_eq_true rfl, Nat.le_of_ble_eq_true rfl⟩ ⟨Nat.le_refl _, Nat.le_refl _⟩ rfl (Nat.le_of_ble_eq_true rfl) rfl (fun z3 σ4 hz3 => ?_)
      obtain ⟨r6, rfl, hr6, rfl, q5_0⟩ := hz3
      replace q5_0 : r6 = pt (τ 24 0) - 1 := q5_0
      refine j_st (st' := [vI r6, vR 24, vR 56]) rfl ?_
      refine j_iconst (pc := 44) dX11_needless_44 ?_
      refine j_iload (pc := 45) dX11_needless_45 rfl ?_
      refine j_ishl (pc := 47) dX11_needless_47 (fun z7 ez7 => ?_)
      have hz7 : (-2147483648 : Int) ≤ z7 ∧ z7 ≤ 2147483647 := by rw [ez7]; exact shl_in _ _
      refine j_iconst (pc := 48) dX11_needless_48 ?_
      refine j_ixor (pc := 49) dX11_needless_49 (fun z8 ez8 => ?_)
      have hz8 : (-2147483648 : Int) ≤ z8 ∧ z8 ≤ 2147483647 := by rw [ez8]; exact xor_in _ _
      refine j_iand (pc := 50) dX11_needless_50 (fun z9 ez9 => ?_)
      have hz9 : (-2147483648 : Int) ≤ z9 ∧ z9 ≤ 2147483647 := by rw [ez9]; exact and_in _ _
      refine j_callV (pc := 51) (As := [vR 24, vI z9]) (st := []) (c_X4_riskOf hX 24 (s_Row_24 hX) z9 ⟨by omega, by omega⟩ τ hIτ (by omega)) mv_X11_258 rfl rfl rfl (a_56 hX) dX11_needless_51 ⟨Nat.le_of_ble_eq_true rfl, Nat.le_of_ble_eq_true rfl⟩ ⟨Nat.le_refl _, Nat.le_refl _⟩ rfl (Nat.le_of_ble_eq_true rfl) rfl (fun z10 σ11 hz10 => ?_)
      obtain ⟨r13, rfl, hr13, hIσ11, hGσ11, q12_0, q12_1⟩ := hz10
      replace q12_0 : ∀ gg qq : Nat → Int, RG 24 gg qq τ → r13 = rsk (wW 1 τ) gg z9 (τ 2 0).toNat := q12_0
      replace q12_1 : -16000 ≤ r13 ∧ r13 ≤ 16000 := q12_1
      have hFσ11 : tw_F (fun c j => (56 ≤ c ∧ c < 58)) σ σ11 := tw_F_tr hFτ hGσ11 (fun c j q => (show (56 ≤ c ∧ c < 58) from by replace q : c = 57 := q; exact (by rw [show c = 57 from q]; decide)))
      refine j_st (st' := [vI r13]) rfl ?_
      refine j_iload_n (pc := 54) dX11_needless_54 rfl rfl ?_
      refine j_icmpR_gt (pc := 55) (tgt := 65) ⟨by omega, by omega⟩ ⟨by omega, by omega⟩ dX11_needless_55 rfl (fun h14 => ?_) (fun h14 => ?_)
      · refine j_iinc (pc := 65) (i := 4) (n := 1) (ls' := [(0, vR 0), (1, vR 24), (2, vI a), (3, vI b), (4, vI (k + 1))]) [1, 2, 3, 4, 0] dX11_needless_65 rfl (Nat.le_of_ble_eq_true rfl) rfl rfl ?_
        refine j_goto (pc := 68) (tgt := 26) dX11_needless_68 rfl ?_
        refine j_ls (ls' := [(0, vR 0), (1, vR 24), (2, vI a), (3, vI b), (4, vI (k + 1))]) [0, 1, 2, 3, 4] rfl ?_
        exact ih a ⟨by omega, by omega⟩ b ⟨by omega, by omega⟩ (k + 1) ⟨by omega, by omega⟩ σ11 hIσ11 hFσ11 (show (10 - (k + 1)).toNat < N_ from by omega)
      · refine j_iload_n (pc := 58) dX11_needless_58 rfl rfl ?_
        refine j_iconst (pc := 59) dX11_needless_59 ?_
        refine j_iload (pc := 60) dX11_needless_60 rfl ?_
        refine j_ishl (pc := 62) dX11_needless_62 (fun z15 ez15 => ?_)
        have hz15 : (-2147483648 : Int) ≤ z15 ∧ z15 ≤ 2147483647 := by rw [ez15]; exact shl_in _ _
        refine j_ior (pc := 63) dX11_needless_63 (fun z16 ez16 => ?_)
        have hz16 : (-2147483648 : Int) ≤ z16 ∧ z16 ≤ 2147483647 := by rw [ez16]; exact or_in _ _
        refine j_istore_n (pc := 64) (i := 3) (ls' := [(0, vR 0), (1, vR 24), (2, vI a), (3, vI z16), (4, vI k)]) [1, 2, 3, 0, 4] dX11_needless_64 rfl (Nat.le_of_ble_eq_true rfl) rfl rfl ?_
        refine j_iinc (pc := 65) (i := 4) (n := 1) (ls' := [(0, vR 0), (1, vR 24), (2, vI a), (3, vI z16), (4, vI (k + 1))]) [1, 2, 3, 4, 0] dX11_needless_65 rfl (Nat.le_of_ble_eq_true rfl) rfl rfl ?_
        refine j_goto (pc := 68) (tgt := 26) dX11_needless_68 rfl ?_
        refine j_ls (ls' := [(0, vR 0), (1, vR 24), (2, vI a), (3, vI z16), (4, vI (k + 1))]) [0, 1, 2, 3, 4] rfl ?_
        exact ih a ⟨by omega, by omega⟩ z16 ⟨by omega, by omega⟩ (k + 1) ⟨by omega, by omega⟩ σ11 hIσ11 hFσ11 (show (10 - (k + 1)).toNat < N_ from by omega)
set_option maxHeartbeats 4000000 in
set_option maxRecDepth 100000 in
theorem c_X11_needless {G : tw_G} (hX : tw_isX G) (σ : tw_M) (hI : tw_I σ) : tw_C G yX11_needless cX11_needless 5 (some .int) 4 [vR 0] σ (q_X11_needless σ) := by
  refine tw_met [(0, vR 0)] (by decide +kernel) rfl (Nat.le_of_ble_eq_true rfl) ?_
  refine j_aload_n (pc := 0) dX11_needless_0 rfl rfl ?_
  refine j_getR (pc := 1) (r := 23) fl_X11_26 dX11_needless_1 (a_0 hX) rfl ?_
  refine j_getR (pc := 4) (r := 24) fl_X11_168 dX11_needless_4 (a_23 hX) rfl ?_
  refine j_astore_n (pc := 7) (i := 1) (ls' := [(0, vR 0), (1, vR 24)]) [1, 0] dX11_needless_7 rfl (Nat.le_of_ble_eq_true rfl) rfl rfl ?_
  refine j_aload_n (pc := 8) dX11_needless_8 rfl rfl ?_
  refine j_getR (pc := 9) (r := 56) fl_X11_51 dX11_needless_9 (a_0 hX) rfl ?_
  refine j_aload_n (pc := 12) dX11_needless_12 rfl rfl ?_
  refine j_aload_n (pc := 13) dX11_needless_13 rfl rfl ?_
  refine j_callV (pc := 14) (As := []) (st := [vR 24, vR 56]) (c_X7_all 24 (s_Row_24 hX) σ hI) mv_X11_255 rfl rfl rfl (a_24 hX) dX11_needless_14 ⟨Nat.le_of_ble_eq_true rfl, Nat.le_of_ble_eq_true rfl⟩ ⟨Nat.le_refl _, Nat.le_refl _⟩ rfl (Nat.le_of_ble_eq_true rfl) rfl (fun z17 σ18 hz17 => ?_)
  obtain ⟨r20, rfl, hr20, rfl, q19_0⟩ := hz17
  replace q19_0 : r20 = pt (σ 24 0) - 1 := q19_0
  refine j_st (st' := [vI r20, vR 24, vR 56]) rfl ?_
  refine j_callV (pc := 17) (As := [vR 24, vI r20]) (st := []) (c_X4_riskOf hX 24 (s_Row_24 hX) r20 ⟨by omega, by omega⟩ σ hI (by omega)) mv_X11_258 rfl rfl rfl (a_56 hX) dX11_needless_17 ⟨Nat.le_of_ble_eq_true rfl, Nat.le_of_ble_eq_true rfl⟩ ⟨Nat.le_refl _, Nat.le_refl _⟩ rfl (Nat.le_of_ble_eq_true rfl) rfl (fun z21 σ22 hz21 => ?_)
  obtain ⟨r24, rfl, hr24, hIσ22, hGσ22, q23_0, q23_1⟩ := hz21
  replace q23_0 : ∀ gg qq : Nat → Int, RG 24 gg qq σ → r24 = rsk (wW 1 σ) gg r20 (σ 2 0).toNat := q23_0
  replace q23_1 : -16000 ≤ r24 ∧ r24 ≤ 16000 := q23_1
  have hFσ22 : tw_F (fun c j => (56 ≤ c ∧ c < 58)) σ σ22 := tw_F_tr (tw_F_rf) hGσ22 (fun c j q => (show (56 ≤ c ∧ c < 58) from by replace q : c = 57 := q; exact (by rw [show c = 57 from q]; decide)))
  refine j_st (st' := [vI r24]) rfl ?_
  refine j_istore_n (pc := 20) (i := 2) (ls' := [(0, vR 0), (1, vR 24), (2, vI r24)]) [1, 2, 0] dX11_needless_20 rfl (Nat.le_of_ble_eq_true rfl) rfl rfl ?_
  refine j_iconst (pc := 21) dX11_needless_21 ?_
  refine j_istore_n (pc := 22) (i := 3) (ls' := [(0, vR 0), (1, vR 24), (2, vI r24), (3, vI 0)]) [1, 2, 3, 0] dX11_needless_22 rfl (Nat.le_of_ble_eq_true rfl) rfl rfl ?_
  refine j_iconst (pc := 23) dX11_needless_23 ?_
  refine j_istore (pc := 24) (i := 4) (ls' := [(0, vR 0), (1, vR 24), (2, vI r24), (3, vI 0), (4, vI 0)]) [1, 2, 3, 4, 0] dX11_needless_24 (Nat.le_of_ble_eq_true rfl) rfl rfl ?_
  refine j_ls (ls' := [(0, vR 0), (1, vR 24), (2, vI r24), (3, vI 0), (4, vI 0)]) [0, 1, 2, 3, 4] rfl ?_
  exact (l_X11_needless hX σ hI (((10 - (0 : Int)).toNat) + 1)) r24 ⟨by omega, by omega⟩ 0 (by (first | decide | exact ⟨by omega, by omega⟩)) 0 (by (first | decide | exact ⟨by omega, by omega⟩)) σ22 hIσ22 hFσ22 (Nat.lt_succ_self _)
