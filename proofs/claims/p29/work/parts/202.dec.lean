theorem dX10_far_20 : decode cX10_far 20 = .ok (.getfield 91, 3) := by decide +kernel
theorem dX10_far_23 : decode cX10_far 23 = .ok (.iload_n 1, 1) := by decide +kernel
theorem dX10_far_24 : decode cX10_far 24 = .ok (.iload_n 2, 1) := by decide +kernel
theorem dX10_far_25 : decode cX10_far 25 = .ok (.invokevirtual 177, 3) := by decide +kernel
theorem dX10_far_28 : decode cX10_far 28 = .ok (.istore_n 3, 1) := by decide +kernel
theorem dX10_far_29 : decode cX10_far 29 = .ok (.iload_n 3, 1) := by decide +kernel
theorem dX10_far_30 : decode cX10_far 30 = .ok (.ifCond .ge 8, 3) := by decide +kernel
theorem dX10_far_33 : decode cX10_far 33 = .ok (.bipush (-2), 2) := by decide +kernel
theorem dX10_far_35 : decode cX10_far 35 = .ok (.goto 4, 3) := by decide +kernel
theorem dX10_far_38 : decode cX10_far 38 = .ok (.iload_n 3, 1) := by decide +kernel
theorem dX10_far_39 : decode cX10_far 39 = .ok (.ireturn, 1) := by decide +kernel
theorem dX10_feed_0 : decode cX10_feed 0 = .ok (.aload_n 0, 1) := by decide +kernel
theorem dX10_feed_1 : decode cX10_feed 1 = .ok (.getfield 10, 3) := by decide +kernel
theorem dX10_feed_4 : decode cX10_feed 4 = .ok (.getfield 72, 3) := by decide +kernel
theorem dX10_feed_7 : decode cX10_feed 7 = .ok (.bipush 20, 2) := by decide +kernel
theorem dX10_feed_9 : decode cX10_feed 9 = .ok (.iadd, 1) := by decide +kernel
theorem dX10_feed_10 : decode cX10_feed 10 = .ok (.sipush 400, 3) := by decide +kernel
theorem dX10_feed_13 : decode cX10_feed 13 = .ok (.if_icmp .le 5, 3) := by decide +kernel
theorem dX10_feed_16 : decode cX10_feed 16 = .ok (.iconst (-1), 1) := by decide +kernel
theorem dX10_feed_17 : decode cX10_feed 17 = .ok (.ireturn, 1) := by decide +kernel
theorem dX10_feed_18 : decode cX10_feed 18 = .ok (.aload_n 0, 1) := by decide +kernel
theorem dX10_feed_19 : decode cX10_feed 19 = .ok (.getfield 10, 3) := by decide +kernel
theorem dX10_feed_22 : decode cX10_feed 22 = .ok (.iload_n 1, 1) := by decide +kernel
theorem dX10_feed_23 : decode cX10_feed 23 = .ok (.invokevirtual 75, 3) := by decide +kernel
theorem dX10_feed_26 : decode cX10_feed 26 = .ok (.aload_n 0, 1) := by decide +kernel
theorem dX10_feed_27 : decode cX10_feed 27 = .ok (.getfield 10, 3) := by decide +kernel
theorem dX10_feed_30 : decode cX10_feed 30 = .ok (.iload_n 2, 1) := by decide +kernel
theorem dX10_feed_31 : decode cX10_feed 31 = .ok (.invokevirtual 75, 3) := by decide +kernel
theorem dX10_feed_34 : decode cX10_feed 34 = .ok (.aload_n 0, 1) := by decide +kernel
theorem dX10_feed_35 : decode cX10_feed 35 = .ok (.getfield 10, 3) := by decide +kernel
theorem dX10_feed_38 : decode cX10_feed 38 = .ok (.iload_n 3, 1) := by decide +kernel
theorem dX10_feed_39 : decode cX10_feed 39 = .ok (.invokevirtual 75, 3) := by decide +kernel
theorem dX10_feed_42 : decode cX10_feed 42 = .ok (.aload_n 0, 1) := by decide +kernel
theorem dX10_feed_43 : decode cX10_feed 43 = .ok (.getfield 10, 3) := by decide +kernel
theorem dX10_feed_46 : decode cX10_feed 46 = .ok (.iload 4, 2) := by decide +kernel
theorem dX10_feed_48 : decode cX10_feed 48 = .ok (.invokevirtual 75, 3) := by decide +kernel
theorem dX10_feed_51 : decode cX10_feed 51 = .ok (.aload_n 0, 1) := by decide +kernel
theorem dX10_feed_52 : decode cX10_feed 52 = .ok (.getfield 10, 3) := by decide +kernel
theorem dX10_feed_55 : decode cX10_feed 55 = .ok (.iload 5, 2) := by decide +kernel
theorem dX10_feed_57 : decode cX10_feed 57 = .ok (.invokevirtual 75, 3) := by decide +kernel
theorem dX10_feed_60 : decode cX10_feed 60 = .ok (.aload_n 0, 1) := by decide +kernel
theorem dX10_feed_61 : decode cX10_feed 61 = .ok (.getfield 10, 3) := by decide +kernel
theorem dX10_feed_64 : decode cX10_feed 64 = .ok (.getfield 72, 3) := by decide +kernel
theorem dX10_feed_67 : decode cX10_feed 67 = .ok (.ireturn, 1) := by decide +kernel
theorem dX10_fewest_0 : decode cX10_fewest 0 = .ok (.aload_n 0, 1) := by decide +kernel
theorem dX10_fewest_1 : decode cX10_fewest 1 = .ok (.iload_n 1, 1) := by decide +kernel
theorem dX10_fewest_2 : decode cX10_fewest 2 = .ok (.invokevirtual 199, 3) := by decide +kernel
theorem dX10_fewest_5 : decode cX10_fewest 5 = .ok (.ifCond .ne 5, 3) := by decide +kernel
theorem dX10_fewest_8 : decode cX10_fewest 8 = .ok (.iconst (-1), 1) := by decide +kernel
theorem dX10_fewest_9 : decode cX10_fewest 9 = .ok (.ireturn, 1) := by decide +kernel
theorem dX10_fewest_10 : decode cX10_fewest 10 = .ok (.aload_n 0, 1) := by decide +kernel
theorem dX10_fewest_11 : decode cX10_fewest 11 = .ok (.getfield 57, 3) := by decide +kernel
theorem dX10_fewest_14 : decode cX10_fewest 14 = .ok (.iload_n 1, 1) := by decide +kernel
theorem dX10_fewest_15 : decode cX10_fewest 15 = .ok (.invokevirtual 202, 3) := by decide +kernel
theorem dX10_fewest_18 : decode cX10_fewest 18 = .ok (.aload_n 0, 1) := by decide +kernel
theorem dX10_fewest_19 : decode cX10_fewest 19 = .ok (.getfield 57, 3) := by decide +kernel
theorem dX10_fewest_22 : decode cX10_fewest 22 = .ok (.invokevirtual 205, 3) := by decide +kernel
theorem dX10_fewest_25 : decode cX10_fewest 25 = .ok (.istore_n 2, 1) := by decide +kernel
theorem dX10_fewest_26 : decode cX10_fewest 26 = .ok (.iload_n 2, 1) := by decide +kernel
theorem dX10_fewest_27 : decode cX10_fewest 27 = .ok (.ifCond .ge 8, 3) := by decide +kernel
theorem dX10_fewest_30 : decode cX10_fewest 30 = .ok (.bipush (-2), 2) := by decide +kernel
theorem dX10_fewest_32 : decode cX10_fewest 32 = .ok (.goto 4, 3) := by decide +kernel
theorem dX10_fewest_35 : decode cX10_fewest 35 = .ok (.iload_n 2, 1) := by decide +kernel
theorem dX10_fewest_36 : decode cX10_fewest 36 = .ok (.ireturn, 1) := by decide +kernel
theorem dX10_finest_0 : decode cX10_finest 0 = .ok (.iload_n 1, 1) := by decide +kernel
theorem dX10_finest_1 : decode cX10_finest 1 = .ok (.ifCond .lt 10, 3) := by decide +kernel
theorem dX10_finest_4 : decode cX10_finest 4 = .ok (.iload_n 1, 1) := by decide +kernel
theorem dX10_finest_5 : decode cX10_finest 5 = .ok (.sipush 600, 3) := by decide +kernel
theorem dX10_finest_8 : decode cX10_finest 8 = .ok (.if_icmp .le 5, 3) := by decide +kernel
theorem dX10_finest_11 : decode cX10_finest 11 = .ok (.iconst (-1), 1) := by decide +kernel
theorem dX10_finest_12 : decode cX10_finest 12 = .ok (.ireturn, 1) := by decide +kernel
theorem dX10_finest_13 : decode cX10_finest 13 = .ok (.bipush (-2), 2) := by decide +kernel
theorem dX10_finest_15 : decode cX10_finest 15 = .ok (.istore_n 2, 1) := by decide +kernel
theorem dX10_finest_16 : decode cX10_finest 16 = .ok (.iconst 0, 1) := by decide +kernel
theorem dX10_finest_17 : decode cX10_finest 17 = .ok (.istore_n 3, 1) := by decide +kernel
theorem dX10_finest_18 : decode cX10_finest 18 = .ok (.iconst 0, 1) := by decide +kernel
theorem dX10_finest_19 : decode cX10_finest 19 = .ok (.istore 4, 2) := by decide +kernel
theorem dX10_finest_21 : decode cX10_finest 21 = .ok (.iconst 0, 1) := by decide +kernel
theorem dX10_finest_22 : decode cX10_finest 22 = .ok (.istore 5, 2) := by decide +kernel
theorem dX10_finest_24 : decode cX10_finest 24 = .ok (.iload 5, 2) := by decide +kernel
theorem dX10_finest_26 : decode cX10_finest 26 = .ok (.aload_n 0, 1) := by decide +kernel
theorem dX10_finest_27 : decode cX10_finest 27 = .ok (.getfield 68, 3) := by decide +kernel
theorem dX10_finest_30 : decode cX10_finest 30 = .ok (.if_icmp .ge 94, 3) := by decide +kernel
theorem dX10_finest_33 : decode cX10_finest 33 = .ok (.aload_n 0, 1) := by decide +kernel
theorem dX10_finest_34 : decode cX10_finest 34 = .ok (.getfield 38, 3) := by decide +kernel
theorem dX10_finest_37 : decode cX10_finest 37 = .ok (.aload_n 0, 1) := by decide +kernel
theorem dX10_finest_38 : decode cX10_finest 38 = .ok (.getfield 34, 3) := by decide +kernel
theorem dX10_finest_41 : decode cX10_finest 41 = .ok (.invokevirtual 88, 3) := by decide +kernel
theorem dX10_finest_44 : decode cX10_finest 44 = .ok (.aload_n 0, 1) := by decide +kernel
theorem dX10_finest_45 : decode cX10_finest 45 = .ok (.getfield 48, 3) := by decide +kernel
theorem dX10_finest_48 : decode cX10_finest 48 = .ok (.aload_n 0, 1) := by decide +kernel
theorem dX10_finest_49 : decode cX10_finest 49 = .ok (.getfield 38, 3) := by decide +kernel
theorem dX10_finest_52 : decode cX10_finest 52 = .ok (.aload_n 0, 1) := by decide +kernel
theorem dX10_finest_53 : decode cX10_finest 53 = .ok (.getfield 27, 3) := by decide +kernel
theorem dX10_finest_56 : decode cX10_finest 56 = .ok (.iload 5, 2) := by decide +kernel
theorem dX10_finest_58 : decode cX10_finest 58 = .ok (.aaload, 1) := by decide +kernel
theorem dX10_finest_59 : decode cX10_finest 59 = .ok (.iload_n 1, 1) := by decide +kernel
theorem dX10_finest_60 : decode cX10_finest 60 = .ok (.invokevirtual 281, 3) := by decide +kernel
theorem dX10_finest_63 : decode cX10_finest 63 = .ok (.aload_n 0, 1) := by decide +kernel
theorem dX10_finest_64 : decode cX10_finest 64 = .ok (.getfield 38, 3) := by decide +kernel
theorem dX10_finest_67 : decode cX10_finest 67 = .ok (.getfield 126, 3) := by decide +kernel
theorem dX10_finest_70 : decode cX10_finest 70 = .ok (.invokevirtual 285, 3) := by decide +kernel
theorem dX10_finest_73 : decode cX10_finest 73 = .ok (.istore 6, 2) := by decide +kernel
theorem dX10_finest_75 : decode cX10_finest 75 = .ok (.iload_n 2, 1) := by decide +kernel
theorem dX10_finest_76 : decode cX10_finest 76 = .ok (.ifCond .lt 27, 3) := by decide +kernel
theorem dX10_finest_79 : decode cX10_finest 79 = .ok (.iload 6, 2) := by decide +kernel
theorem dX10_finest_81 : decode cX10_finest 81 = .ok (.iload_n 3, 1) := by decide +kernel
theorem dX10_finest_82 : decode cX10_finest 82 = .ok (.if_icmp .gt 21, 3) := by decide +kernel
theorem dX10_finest_85 : decode cX10_finest 85 = .ok (.iload 6, 2) := by decide +kernel
theorem dX10_finest_87 : decode cX10_finest 87 = .ok (.iload_n 3, 1) := by decide +kernel
theorem dX10_finest_88 : decode cX10_finest 88 = .ok (.if_icmp .ne 30, 3) := by decide +kernel
theorem dX10_finest_91 : decode cX10_finest 91 = .ok (.aload_n 0, 1) := by decide +kernel
theorem dX10_finest_92 : decode cX10_finest 92 = .ok (.getfield 38, 3) := by decide +kernel
theorem dX10_finest_95 : decode cX10_finest 95 = .ok (.getfield 288, 3) := by decide +kernel
theorem dX10_finest_98 : decode cX10_finest 98 = .ok (.iload 4, 2) := by decide +kernel
theorem dX10_finest_100 : decode cX10_finest 100 = .ok (.if_icmp .ge 18, 3) := by decide +kernel
theorem dX10_finest_103 : decode cX10_finest 103 = .ok (.iload 5, 2) := by decide +kernel
theorem dX10_finest_105 : decode cX10_finest 105 = .ok (.istore_n 2, 1) := by decide +kernel
theorem dX10_finest_106 : decode cX10_finest 106 = .ok (.iload 6, 2) := by decide +kernel
theorem dX10_finest_108 : decode cX10_finest 108 = .ok (.istore_n 3, 1) := by decide +kernel
theorem dX10_finest_109 : decode cX10_finest 109 = .ok (.aload_n 0, 1) := by decide +kernel
theorem dX10_finest_110 : decode cX10_finest 110 = .ok (.getfield 38, 3) := by decide +kernel
theorem dX10_finest_113 : decode cX10_finest 113 = .ok (.getfield 288, 3) := by decide +kernel
theorem dX10_finest_116 : decode cX10_finest 116 = .ok (.istore 4, 2) := by decide +kernel
theorem dX10_finest_118 : decode cX10_finest 118 = .ok (.iinc 5 1, 3) := by decide +kernel
theorem dX10_finest_121 : decode cX10_finest 121 = .ok (.goto (-97), 3) := by decide +kernel
theorem dX10_finest_124 : decode cX10_finest 124 = .ok (.iload_n 2, 1) := by decide +kernel
theorem dX10_finest_125 : decode cX10_finest 125 = .ok (.ireturn, 1) := by decide +kernel
theorem dX10_free_0 : decode cX10_free 0 = .ok (.iload_n 1, 1) := by decide +kernel
theorem dX10_free_1 : decode cX10_free 1 = .ok (.ifCond .lt 16, 3) := by decide +kernel
theorem dX10_free_4 : decode cX10_free 4 = .ok (.iload_n 1, 1) := by decide +kernel
theorem dX10_free_5 : decode cX10_free 5 = .ok (.aload_n 0, 1) := by decide +kernel
theorem dX10_free_6 : decode cX10_free 6 = .ok (.getfield 34, 3) := by decide +kernel
theorem dX10_free_9 : decode cX10_free 9 = .ok (.getfield 261, 3) := by decide +kernel
theorem dX10_free_12 : decode cX10_free 12 = .ok (.iconst 1, 1) := by decide +kernel
theorem dX10_free_13 : decode cX10_free 13 = .ok (.isub, 1) := by decide +kernel
theorem dX10_free_14 : decode cX10_free 14 = .ok (.if_icmp .lt 5, 3) := by decide +kernel
theorem dX10_free_17 : decode cX10_free 17 = .ok (.iconst (-1), 1) := by decide +kernel
theorem dX10_free_18 : decode cX10_free 18 = .ok (.ireturn, 1) := by decide +kernel
theorem dX10_free_19 : decode cX10_free 19 = .ok (.aload_n 0, 1) := by decide +kernel
theorem dX10_free_20 : decode cX10_free 20 = .ok (.iload_n 1, 1) := by decide +kernel
theorem dX10_free_21 : decode cX10_free 21 = .ok (.iconst 0, 1) := by decide +kernel
theorem dX10_free_22 : decode cX10_free 22 = .ok (.invokevirtual 270, 3) := by decide +kernel
theorem dX10_free_25 : decode cX10_free 25 = .ok (.lstore_n 2, 1) := by decide +kernel
theorem dX10_free_26 : decode cX10_free 26 = .ok (.aload_n 0, 1) := by decide +kernel
theorem dX10_free_27 : decode cX10_free 27 = .ok (.iload_n 1, 1) := by decide +kernel
theorem dX10_free_28 : decode cX10_free 28 = .ok (.iconst 1, 1) := by decide +kernel
theorem dX10_free_29 : decode cX10_free 29 = .ok (.invokevirtual 270, 3) := by decide +kernel
theorem dX10_free_32 : decode cX10_free 32 = .ok (.lstore 4, 2) := by decide +kernel
theorem dX10_free_34 : decode cX10_free 34 = .ok (.lload_n 2, 1) := by decide +kernel
theorem dX10_free_35 : decode cX10_free 35 = .ok (.lconst 0, 1) := by decide +kernel
theorem dX10_free_36 : decode cX10_free 36 = .ok (.lcmp, 1) := by decide +kernel
theorem dX10_free_37 : decode cX10_free 37 = .ok (.ifCond .lt 14, 3) := by decide +kernel
theorem dX10_free_40 : decode cX10_free 40 = .ok (.lload_n 2, 1) := by decide +kernel
theorem dX10_free_41 : decode cX10_free 41 = .ok (.lload 4, 2) := by decide +kernel
theorem dX10_free_43 : decode cX10_free 43 = .ok (.lcmp, 1) := by decide +kernel
theorem dX10_free_44 : decode cX10_free 44 = .ok (.ifCond .ne 7, 3) := by decide +kernel
theorem dX10_free_47 : decode cX10_free 47 = .ok (.iconst 1, 1) := by decide +kernel
theorem dX10_free_48 : decode cX10_free 48 = .ok (.goto 4, 3) := by decide +kernel
theorem dX10_free_51 : decode cX10_free 51 = .ok (.iconst 0, 1) := by decide +kernel
theorem dX10_free_52 : decode cX10_free 52 = .ok (.ireturn, 1) := by decide +kernel
theorem dX10_go_0 : decode cX10_go 0 = .ok (.aload_n 0, 1) := by decide +kernel
theorem dX10_go_1 : decode cX10_go 1 = .ok (.getfield 34, 3) := by decide +kernel
theorem dX10_go_4 : decode cX10_go 4 = .ok (.iload_n 1, 1) := by decide +kernel
theorem dX10_go_5 : decode cX10_go 5 = .ok (.iload_n 2, 1) := by decide +kernel
theorem dX10_go_6 : decode cX10_go 6 = .ok (.invokevirtual 181, 3) := by decide +kernel
theorem dX10_go_9 : decode cX10_go 9 = .ok (.ifCond .ne 5, 3) := by decide +kernel
theorem dX10_go_12 : decode cX10_go 12 = .ok (.iconst (-1), 1) := by decide +kernel
theorem dX10_go_13 : decode cX10_go 13 = .ok (.ireturn, 1) := by decide +kernel
theorem dX10_go_14 : decode cX10_go 14 = .ok (.aload_n 0, 1) := by decide +kernel
theorem dX10_go_15 : decode cX10_go 15 = .ok (.getfield 34, 3) := by decide +kernel
theorem dX10_go_18 : decode cX10_go 18 = .ok (.iload_n 1, 1) := by decide +kernel
theorem dX10_go_19 : decode cX10_go 19 = .ok (.iload_n 2, 1) := by decide +kernel
theorem dX10_go_20 : decode cX10_go 20 = .ok (.invokevirtual 185, 3) := by decide +kernel
theorem dX10_go_23 : decode cX10_go 23 = .ok (.aload_n 0, 1) := by decide +kernel
theorem dX10_go_24 : decode cX10_go 24 = .ok (.getfield 34, 3) := by decide +kernel
theorem dX10_go_27 : decode cX10_go 27 = .ok (.getfield 126, 3) := by decide +kernel
theorem dX10_go_30 : decode cX10_go 30 = .ok (.getfield 136, 3) := by decide +kernel
theorem dX10_go_33 : decode cX10_go 33 = .ok (.iload_n 1, 1) := by decide +kernel
theorem dX10_go_34 : decode cX10_go 34 = .ok (.iaload, 1) := by decide +kernel
theorem dX10_go_35 : decode cX10_go 35 = .ok (.ireturn, 1) := by decide +kernel
theorem dX10_goer_0 : decode cX10_goer 0 = .ok (.aload_n 0, 1) := by decide +kernel
theorem dX10_goer_1 : decode cX10_goer 1 = .ok (.getfield 34, 3) := by decide +kernel
theorem dX10_goer_4 : decode cX10_goer 4 = .ok (.getfield 126, 3) := by decide +kernel
theorem dX10_goer_7 : decode cX10_goer 7 = .ok (.astore_n 3, 1) := by decide +kernel
theorem dX10_goer_8 : decode cX10_goer 8 = .ok (.aload_n 3, 1) := by decide +kernel
theorem dX10_goer_9 : decode cX10_goer 9 = .ok (.iload_n 1, 1) := by decide +kernel
theorem dX10_goer_10 : decode cX10_goer 10 = .ok (.invokevirtual 135, 3) := by decide +kernel
theorem dX10_goer_13 : decode cX10_goer 13 = .ok (.ifCond .ne 6, 3) := by decide +kernel
theorem dX10_goer_16 : decode cX10_goer 16 = .ok (.bipush (-2), 2) := by decide +kernel
theorem dX10_goer_18 : decode cX10_goer 18 = .ok (.ireturn, 1) := by decide +kernel
theorem dX10_goer_19 : decode cX10_goer 19 = .ok (.iload_n 2, 1) := by decide +kernel
theorem dX10_goer_20 : decode cX10_goer 20 = .ok (.tableswitch 93 0 6 #[44, 51, 58, 65, 72, 79, 86], 44) := by decide +kernel
theorem dX10_goer_64 : decode cX10_goer 64 = .ok (.aload_n 3, 1) := by decide +kernel
theorem dX10_goer_65 : decode cX10_goer 65 = .ok (.getfield 136, 3) := by decide +kernel
theorem dX10_goer_68 : decode cX10_goer 68 = .ok (.iload_n 1, 1) := by decide +kernel
theorem dX10_goer_69 : decode cX10_goer 69 = .ok (.iaload, 1) := by decide +kernel
theorem dX10_goer_70 : decode cX10_goer 70 = .ok (.ireturn, 1) := by decide +kernel
theorem dX10_goer_71 : decode cX10_goer 71 = .ok (.aload_n 3, 1) := by decide +kernel
theorem dX10_goer_72 : decode cX10_goer 72 = .ok (.getfield 139, 3) := by decide +kernel
theorem dX10_goer_75 : decode cX10_goer 75 = .ok (.iload_n 1, 1) := by decide +kernel
theorem dX10_goer_76 : decode cX10_goer 76 = .ok (.iaload, 1) := by decide +kernel
theorem dX10_goer_77 : decode cX10_goer 77 = .ok (.ireturn, 1) := by decide +kernel
theorem dX10_goer_78 : decode cX10_goer 78 = .ok (.aload_n 3, 1) := by decide +kernel
theorem dX10_goer_79 : decode cX10_goer 79 = .ok (.getfield 142, 3) := by decide +kernel
theorem dX10_goer_82 : decode cX10_goer 82 = .ok (.iload_n 1, 1) := by decide +kernel
theorem dX10_goer_83 : decode cX10_goer 83 = .ok (.iaload, 1) := by decide +kernel
theorem dX10_goer_84 : decode cX10_goer 84 = .ok (.ireturn, 1) := by decide +kernel
theorem dX10_goer_85 : decode cX10_goer 85 = .ok (.aload_n 3, 1) := by decide +kernel
theorem dX10_goer_86 : decode cX10_goer 86 = .ok (.getfield 145, 3) := by decide +kernel
theorem dX10_goer_89 : decode cX10_goer 89 = .ok (.iload_n 1, 1) := by decide +kernel
theorem dX10_goer_90 : decode cX10_goer 90 = .ok (.iaload, 1) := by decide +kernel
theorem dX10_goer_91 : decode cX10_goer 91 = .ok (.ireturn, 1) := by decide +kernel
theorem dX10_goer_92 : decode cX10_goer 92 = .ok (.aload_n 3, 1) := by decide +kernel
theorem dX10_goer_93 : decode cX10_goer 93 = .ok (.getfield 148, 3) := by decide +kernel
theorem dX10_goer_96 : decode cX10_goer 96 = .ok (.iload_n 1, 1) := by decide +kernel
theorem dX10_goer_97 : decode cX10_goer 97 = .ok (.iaload, 1) := by decide +kernel
theorem dX10_goer_98 : decode cX10_goer 98 = .ok (.ireturn, 1) := by decide +kernel
theorem dX10_goer_99 : decode cX10_goer 99 = .ok (.aload_n 3, 1) := by decide +kernel
theorem dX10_goer_100 : decode cX10_goer 100 = .ok (.getfield 151, 3) := by decide +kernel
theorem dX10_goer_103 : decode cX10_goer 103 = .ok (.iload_n 1, 1) := by decide +kernel
theorem dX10_goer_104 : decode cX10_goer 104 = .ok (.iaload, 1) := by decide +kernel
theorem dX10_goer_105 : decode cX10_goer 105 = .ok (.ireturn, 1) := by decide +kernel
theorem dX10_goer_106 : decode cX10_goer 106 = .ok (.aload_n 3, 1) := by decide +kernel
theorem dX10_goer_107 : decode cX10_goer 107 = .ok (.getfield 154, 3) := by decide +kernel
theorem dX10_goer_110 : decode cX10_goer 110 = .ok (.iload_n 1, 1) := by decide +kernel
theorem dX10_goer_111 : decode cX10_goer 111 = .ok (.iaload, 1) := by decide +kernel
theorem dX10_goer_112 : decode cX10_goer 112 = .ok (.ireturn, 1) := by decide +kernel
theorem dX10_goer_113 : decode cX10_goer 113 = .ok (.bipush (-2), 2) := by decide +kernel
theorem dX10_goer_115 : decode cX10_goer 115 = .ok (.ireturn, 1) := by decide +kernel
theorem dX10_helps_0 : decode cX10_helps 0 = .ok (.aload_n 0, 1) := by decide +kernel
theorem dX10_helps_1 : decode cX10_helps 1 = .ok (.getfield 57, 3) := by decide +kernel
theorem dX10_helps_4 : decode cX10_helps 4 = .ok (.iload_n 1, 1) := by decide +kernel
theorem dX10_helps_5 : decode cX10_helps 5 = .ok (.iconst 1, 1) := by decide +kernel
theorem dX10_helps_6 : decode cX10_helps 6 = .ok (.iload_n 2, 1) := by decide +kernel
theorem dX10_helps_7 : decode cX10_helps 7 = .ok (.ishl, 1) := by decide +kernel
theorem dX10_helps_8 : decode cX10_helps 8 = .ok (.ior, 1) := by decide +kernel
theorem dX10_helps_9 : decode cX10_helps 9 = .ok (.invokevirtual 202, 3) := by decide +kernel
theorem dX10_helps_12 : decode cX10_helps 12 = .ok (.aload_n 0, 1) := by decide +kernel
theorem dX10_helps_13 : decode cX10_helps 13 = .ok (.getfield 57, 3) := by decide +kernel
theorem dX10_helps_16 : decode cX10_helps 16 = .ok (.iload_n 2, 1) := by decide +kernel
theorem dX10_helps_17 : decode cX10_helps 17 = .ok (.invokevirtual 302, 3) := by decide +kernel
theorem dX10_helps_20 : decode cX10_helps 20 = .ok (.ireturn, 1) := by decide +kernel
theorem dX10_home_0 : decode cX10_home 0 = .ok (.aload_n 0, 1) := by decide +kernel
theorem dX10_home_1 : decode cX10_home 1 = .ok (.iload_n 1, 1) := by decide +kernel
theorem dX10_home_2 : decode cX10_home 2 = .ok (.invokevirtual 274, 3) := by decide +kernel
theorem dX10_home_5 : decode cX10_home 5 = .ok (.ifCond .eq 14, 3) := by decide +kernel
theorem dX10_home_8 : decode cX10_home 8 = .ok (.iload_n 2, 1) := by decide +kernel
theorem dX10_home_9 : decode cX10_home 9 = .ok (.ifCond .lt 10, 3) := by decide +kernel
theorem dX10_home_12 : decode cX10_home 12 = .ok (.iload_n 2, 1) := by decide +kernel
theorem dX10_home_13 : decode cX10_home 13 = .ok (.sipush 600, 3) := by decide +kernel
theorem dX10_home_16 : decode cX10_home 16 = .ok (.if_icmp .le 5, 3) := by decide +kernel
theorem dX10_home_19 : decode cX10_home 19 = .ok (.iconst (-1), 1) := by decide +kernel
theorem dX10_home_20 : decode cX10_home 20 = .ok (.ireturn, 1) := by decide +kernel
theorem dX10_home_21 : decode cX10_home 21 = .ok (.aload_n 0, 1) := by decide +kernel
theorem dX10_home_22 : decode cX10_home 22 = .ok (.getfield 38, 3) := by decide +kernel
theorem dX10_home_25 : decode cX10_home 25 = .ok (.aload_n 0, 1) := by decide +kernel
theorem dX10_home_26 : decode cX10_home 26 = .ok (.getfield 34, 3) := by decide +kernel
theorem dX10_home_29 : decode cX10_home 29 = .ok (.invokevirtual 88, 3) := by decide +kernel
theorem dX10_home_32 : decode cX10_home 32 = .ok (.iconst 0, 1) := by decide +kernel
theorem dX10_home_33 : decode cX10_home 33 = .ok (.istore_n 3, 1) := by decide +kernel
theorem dX10_home_34 : decode cX10_home 34 = .ok (.iload_n 3, 1) := by decide +kernel
theorem dX10_home_35 : decode cX10_home 35 = .ok (.iload_n 2, 1) := by decide +kernel
theorem dX10_home_36 : decode cX10_home 36 = .ok (.if_icmp .gt 42, 3) := by decide +kernel
theorem dX10_home_39 : decode cX10_home 39 = .ok (.aload_n 0, 1) := by decide +kernel
theorem dX10_home_40 : decode cX10_home 40 = .ok (.getfield 38, 3) := by decide +kernel
theorem dX10_home_43 : decode cX10_home 43 = .ok (.getfield 126, 3) := by decide +kernel
theorem dX10_home_46 : decode cX10_home 46 = .ok (.invokevirtual 294, 3) := by decide +kernel
theorem dX10_home_49 : decode cX10_home 49 = .ok (.ifCond .eq 5, 3) := by decide +kernel
theorem dX10_home_52 : decode cX10_home 52 = .ok (.iload_n 3, 1) := by decide +kernel
theorem dX10_home_53 : decode cX10_home 53 = .ok (.ireturn, 1) := by decide +kernel
theorem dX10_home_54 : decode cX10_home 54 = .ok (.aload_n 0, 1) := by decide +kernel
theorem dX10_home_55 : decode cX10_home 55 = .ok (.getfield 48, 3) := by decide +kernel
theorem dX10_home_58 : decode cX10_home 58 = .ok (.aload_n 0, 1) := by decide +kernel
theorem dX10_home_59 : decode cX10_home 59 = .ok (.getfield 38, 3) := by decide +kernel
theorem dX10_home_62 : decode cX10_home 62 = .ok (.aload_n 0, 1) := by decide +kernel
theorem dX10_home_63 : decode cX10_home 63 = .ok (.getfield 27, 3) := by decide +kernel
theorem dX10_home_66 : decode cX10_home 66 = .ok (.iload_n 1, 1) := by decide +kernel
theorem dX10_home_67 : decode cX10_home 67 = .ok (.aaload, 1) := by decide +kernel
theorem dX10_home_68 : decode cX10_home 68 = .ok (.iconst 1, 1) := by decide +kernel
theorem dX10_home_69 : decode cX10_home 69 = .ok (.invokevirtual 281, 3) := by decide +kernel
theorem dX10_home_72 : decode cX10_home 72 = .ok (.iinc 3 1, 3) := by decide +kernel
theorem dX10_home_75 : decode cX10_home 75 = .ok (.goto (-41), 3) := by decide +kernel
theorem dX10_home_78 : decode cX10_home 78 = .ok (.bipush (-2), 2) := by decide +kernel
theorem dX10_home_80 : decode cX10_home 80 = .ok (.ireturn, 1) := by decide +kernel
theorem dX10_image_0 : decode cX10_image 0 = .ok (.iload_n 1, 1) := by decide +kernel
theorem dX10_image_1 : decode cX10_image 1 = .ok (.ifCond .lt 8, 3) := by decide +kernel
theorem dX10_image_4 : decode cX10_image 4 = .ok (.iload_n 1, 1) := by decide +kernel
theorem dX10_image_5 : decode cX10_image 5 = .ok (.iconst 4, 1) := by decide +kernel
theorem dX10_image_6 : decode cX10_image 6 = .ok (.if_icmp .lt 5, 3) := by decide +kernel
theorem dX10_image_9 : decode cX10_image 9 = .ok (.iconst (-1), 1) := by decide +kernel
theorem dX10_image_10 : decode cX10_image 10 = .ok (.ireturn, 1) := by decide +kernel
theorem dX10_image_11 : decode cX10_image 11 = .ok (.aload_n 0, 1) := by decide +kernel
theorem dX10_image_12 : decode cX10_image 12 = .ok (.getfield 41, 3) := by decide +kernel
theorem dX10_image_15 : decode cX10_image 15 = .ok (.iload_n 1, 1) := by decide +kernel
theorem dX10_image_16 : decode cX10_image 16 = .ok (.aaload, 1) := by decide +kernel
theorem dX10_image_17 : decode cX10_image 17 = .ok (.ifnonnull 16, 3) := by decide +kernel
theorem dX10_image_20 : decode cX10_image 20 = .ok (.aload_n 0, 1) := by decide +kernel
theorem dX10_image_21 : decode cX10_image 21 = .ok (.getfield 41, 3) := by decide +kernel
theorem dX10_image_24 : decode cX10_image 24 = .ok (.iload_n 1, 1) := by decide +kernel
theorem dX10_image_25 : decode cX10_image 25 = .ok (.new 31, 3) := by decide +kernel
theorem dX10_image_28 : decode cX10_image 28 = .ok (.dup, 1) := by decide +kernel
theorem dX10_image_29 : decode cX10_image 29 = .ok (.invokespecial 33, 3) := by decide +kernel
theorem dX10_image_32 : decode cX10_image 32 = .ok (.aastore, 1) := by decide +kernel
theorem dX10_image_33 : decode cX10_image 33 = .ok (.aload_n 0, 1) := by decide +kernel
theorem dX10_image_34 : decode cX10_image 34 = .ok (.getfield 41, 3) := by decide +kernel
theorem dX10_image_37 : decode cX10_image 37 = .ok (.iload_n 1, 1) := by decide +kernel
theorem dX10_image_38 : decode cX10_image 38 = .ok (.aaload, 1) := by decide +kernel
theorem dX10_image_39 : decode cX10_image 39 = .ok (.aload_n 0, 1) := by decide +kernel
theorem dX10_image_40 : decode cX10_image 40 = .ok (.getfield 34, 3) := by decide +kernel
theorem dX10_image_43 : decode cX10_image 43 = .ok (.invokevirtual 88, 3) := by decide +kernel
theorem dX10_image_46 : decode cX10_image 46 = .ok (.aload_n 0, 1) := by decide +kernel
theorem dX10_image_47 : decode cX10_image 47 = .ok (.getfield 34, 3) := by decide +kernel
theorem dX10_image_50 : decode cX10_image 50 = .ok (.getfield 277, 3) := by decide +kernel
theorem dX10_image_53 : decode cX10_image 53 = .ok (.ireturn, 1) := by decide +kernel
theorem dX10_init_0 : decode cX10_init 0 = .ok (.aload_n 0, 1) := by decide +kernel
theorem dX10_init_1 : decode cX10_init 1 = .ok (.invokespecial 1, 3) := by decide +kernel
theorem dX10_init_4 : decode cX10_init 4 = .ok (.aload_n 0, 1) := by decide +kernel
theorem dX10_init_5 : decode cX10_init 5 = .ok (.new 7, 3) := by decide +kernel
theorem dX10_init_8 : decode cX10_init 8 = .ok (.dup, 1) := by decide +kernel
theorem dX10_init_9 : decode cX10_init 9 = .ok (.invokespecial 9, 3) := by decide +kernel
theorem dX10_init_12 : decode cX10_init 12 = .ok (.putfield 10, 3) := by decide +kernel
theorem dX10_init_15 : decode cX10_init 15 = .ok (.aload_n 0, 1) := by decide +kernel
theorem dX10_init_16 : decode cX10_init 16 = .ok (.new 16, 3) := by decide +kernel
theorem dX10_init_19 : decode cX10_init 19 = .ok (.dup, 1) := by decide +kernel
theorem dX10_init_20 : decode cX10_init 20 = .ok (.aload_n 0, 1) := by decide +kernel
theorem dX10_init_21 : decode cX10_init 21 = .ok (.getfield 10, 3) := by decide +kernel
theorem dX10_init_24 : decode cX10_init 24 = .ok (.invokespecial 18, 3) := by decide +kernel
theorem dX10_init_27 : decode cX10_init 27 = .ok (.putfield 21, 3) := by decide +kernel
theorem dX10_init_30 : decode cX10_init 30 = .ok (.aload_n 0, 1) := by decide +kernel
theorem dX10_init_31 : decode cX10_init 31 = .ok (.bipush 6, 2) := by decide +kernel
theorem dX10_init_33 : decode cX10_init 33 = .ok (.anewarray 25, 3) := by decide +kernel
theorem dX10_init_36 : decode cX10_init 36 = .ok (.putfield 27, 3) := by decide +kernel
theorem dX10_init_39 : decode cX10_init 39 = .ok (.aload_n 0, 1) := by decide +kernel
theorem dX10_init_40 : decode cX10_init 40 = .ok (.new 31, 3) := by decide +kernel
theorem dX10_init_43 : decode cX10_init 43 = .ok (.dup, 1) := by decide +kernel
theorem dX10_init_44 : decode cX10_init 44 = .ok (.invokespecial 33, 3) := by decide +kernel
theorem dX10_init_47 : decode cX10_init 47 = .ok (.putfield 34, 3) := by decide +kernel
theorem dX10_init_50 : decode cX10_init 50 = .ok (.aload_n 0, 1) := by decide +kernel
theorem dX10_init_51 : decode cX10_init 51 = .ok (.new 31, 3) := by decide +kernel
theorem dX10_init_54 : decode cX10_init 54 = .ok (.dup, 1) := by decide +kernel
theorem dX10_init_55 : decode cX10_init 55 = .ok (.invokespecial 33, 3) := by decide +kernel
theorem dX10_init_58 : decode cX10_init 58 = .ok (.putfield 38, 3) := by decide +kernel
theorem dX10_init_61 : decode cX10_init 61 = .ok (.aload_n 0, 1) := by decide +kernel
theorem dX10_init_62 : decode cX10_init 62 = .ok (.iconst 4, 1) := by decide +kernel
theorem dX10_init_63 : decode cX10_init 63 = .ok (.anewarray 31, 3) := by decide +kernel
theorem dX10_init_66 : decode cX10_init 66 = .ok (.putfield 41, 3) := by decide +kernel
theorem dX10_init_69 : decode cX10_init 69 = .ok (.aload_n 0, 1) := by decide +kernel
theorem dX10_init_70 : decode cX10_init 70 = .ok (.new 45, 3) := by decide +kernel
theorem dX10_init_73 : decode cX10_init 73 = .ok (.dup, 1) := by decide +kernel
theorem dX10_init_74 : decode cX10_init 74 = .ok (.invokespecial 47, 3) := by decide +kernel
theorem dX10_init_77 : decode cX10_init 77 = .ok (.putfield 48, 3) := by decide +kernel
theorem dX10_init_80 : decode cX10_init 80 = .ok (.aload_n 0, 1) := by decide +kernel
theorem dX10_init_81 : decode cX10_init 81 = .ok (.new 52, 3) := by decide +kernel
theorem dX10_init_84 : decode cX10_init 84 = .ok (.dup, 1) := by decide +kernel
theorem dX10_init_85 : decode cX10_init 85 = .ok (.aload_n 0, 1) := by decide +kernel
theorem dX10_init_86 : decode cX10_init 86 = .ok (.getfield 34, 3) := by decide +kernel
theorem dX10_init_89 : decode cX10_init 89 = .ok (.invokespecial 54, 3) := by decide +kernel
theorem dX10_init_92 : decode cX10_init 92 = .ok (.putfield 57, 3) := by decide +kernel
theorem dX10_init_95 : decode cX10_init 95 = .ok (.aload_n 0, 1) := by decide +kernel
theorem dX10_init_96 : decode cX10_init 96 = .ok (.new 61, 3) := by decide +kernel
theorem dX10_init_99 : decode cX10_init 99 = .ok (.dup, 1) := by decide +kernel
theorem dX10_init_100 : decode cX10_init 100 = .ok (.aload_n 0, 1) := by decide +kernel
theorem dX10_init_101 : decode cX10_init 101 = .ok (.getfield 34, 3) := by decide +kernel
theorem dX10_init_104 : decode cX10_init 104 = .ok (.invokespecial 63, 3) := by decide +kernel
theorem dX10_init_107 : decode cX10_init 107 = .ok (.putfield 64, 3) := by decide +kernel
theorem dX10_init_110 : decode cX10_init 110 = .ok (.aload_n 0, 1) := by decide +kernel
theorem dX10_init_111 : decode cX10_init 111 = .ok (.iconst 0, 1) := by decide +kernel
theorem dX10_init_112 : decode cX10_init 112 = .ok (.putfield 68, 3) := by decide +kernel
theorem dX10_init_115 : decode cX10_init 115 = .ok (.return_, 1) := by decide +kernel
theorem dX10_isPlace_0 : decode cX10_isPlace 0 = .ok (.iload_n 0, 1) := by decide +kernel
theorem dX10_isPlace_1 : decode cX10_isPlace 1 = .ok (.ifCond .lt 13, 3) := by decide +kernel
theorem dX10_isPlace_4 : decode cX10_isPlace 4 = .ok (.iload_n 0, 1) := by decide +kernel
theorem dX10_isPlace_5 : decode cX10_isPlace 5 = .ok (.bipush 8, 2) := by decide +kernel
theorem dX10_isPlace_7 : decode cX10_isPlace 7 = .ok (.if_icmp .ge 7, 3) := by decide +kernel
theorem dX10_isPlace_10 : decode cX10_isPlace 10 = .ok (.iconst 1, 1) := by decide +kernel
theorem dX10_isPlace_11 : decode cX10_isPlace 11 = .ok (.goto 4, 3) := by decide +kernel
theorem dX10_isPlace_14 : decode cX10_isPlace 14 = .ok (.iconst 0, 1) := by decide +kernel
theorem dX10_isPlace_15 : decode cX10_isPlace 15 = .ok (.ireturn, 1) := by decide +kernel
theorem dX10_isRule_0 : decode cX10_isRule 0 = .ok (.iload_n 1, 1) := by decide +kernel
theorem dX10_isRule_1 : decode cX10_isRule 1 = .ok (.ifCond .lt 24, 3) := by decide +kernel
theorem dX10_isRule_4 : decode cX10_isRule 4 = .ok (.iload_n 1, 1) := by decide +kernel
theorem dX10_isRule_5 : decode cX10_isRule 5 = .ok (.aload_n 0, 1) := by decide +kernel
theorem dX10_isRule_6 : decode cX10_isRule 6 = .ok (.getfield 68, 3) := by decide +kernel
theorem dX10_isRule_9 : decode cX10_isRule 9 = .ok (.if_icmp .ge 16, 3) := by decide +kernel
theorem dX10_isRule_12 : decode cX10_isRule 12 = .ok (.aload_n 0, 1) := by decide +kernel
theorem dX10_isRule_13 : decode cX10_isRule 13 = .ok (.getfield 27, 3) := by decide +kernel
theorem dX10_isRule_16 : decode cX10_isRule 16 = .ok (.iload_n 1, 1) := by decide +kernel
theorem dX10_isRule_17 : decode cX10_isRule 17 = .ok (.aaload, 1) := by decide +kernel
theorem dX10_isRule_18 : decode cX10_isRule 18 = .ok (.ifnull 7, 3) := by decide +kernel
theorem dX10_isRule_21 : decode cX10_isRule 21 = .ok (.iconst 1, 1) := by decide +kernel
theorem dX10_isRule_22 : decode cX10_isRule 22 = .ok (.goto 4, 3) := by decide +kernel
theorem dX10_isRule_25 : decode cX10_isRule 25 = .ok (.iconst 0, 1) := by decide +kernel
theorem dX10_isRule_26 : decode cX10_isRule 26 = .ok (.ireturn, 1) := by decide +kernel
theorem dX10_land_0 : decode cX10_land 0 = .ok (.aload_n 0, 1) := by decide +kernel
theorem dX10_land_1 : decode cX10_land 1 = .ok (.getfield 10, 3) := by decide +kernel
theorem dX10_land_4 : decode cX10_land 4 = .ok (.aload_n 0, 1) := by decide +kernel
theorem dX10_land_5 : decode cX10_land 5 = .ok (.getfield 38, 3) := by decide +kernel
theorem dX10_land_8 : decode cX10_land 8 = .ok (.invokestatic 79, 3) := by decide +kernel
theorem dX10_land_11 : decode cX10_land 11 = .ok (.istore_n 1, 1) := by decide +kernel
theorem dX10_land_12 : decode cX10_land 12 = .ok (.iload_n 1, 1) := by decide +kernel
theorem dX10_land_13 : decode cX10_land 13 = .ok (.ifCond .eq 8, 3) := by decide +kernel
theorem dX10_land_16 : decode cX10_land 16 = .ok (.bipush (-2), 2) := by decide +kernel
theorem dX10_land_18 : decode cX10_land 18 = .ok (.iload_n 1, 1) := by decide +kernel
theorem dX10_land_19 : decode cX10_land 19 = .ok (.isub, 1) := by decide +kernel
theorem dX10_land_20 : decode cX10_land 20 = .ok (.ireturn, 1) := by decide +kernel
theorem dX10_land_21 : decode cX10_land 21 = .ok (.aload_n 0, 1) := by decide +kernel
theorem dX10_land_22 : decode cX10_land 22 = .ok (.getfield 38, 3) := by decide +kernel
theorem dX10_land_25 : decode cX10_land 25 = .ok (.aload_n 0, 1) := by decide +kernel
theorem dX10_land_26 : decode cX10_land 26 = .ok (.getfield 34, 3) := by decide +kernel
theorem dX10_land_29 : decode cX10_land 29 = .ok (.getfield 85, 3) := by decide +kernel
theorem dX10_land_32 : decode cX10_land 32 = .ok (.putfield 85, 3) := by decide +kernel
theorem dX10_land_35 : decode cX10_land 35 = .ok (.aload_n 0, 1) := by decide +kernel
theorem dX10_land_36 : decode cX10_land 36 = .ok (.getfield 34, 3) := by decide +kernel
theorem dX10_land_39 : decode cX10_land 39 = .ok (.aload_n 0, 1) := by decide +kernel
theorem dX10_land_40 : decode cX10_land 40 = .ok (.getfield 38, 3) := by decide +kernel
theorem dX10_land_43 : decode cX10_land 43 = .ok (.invokevirtual 88, 3) := by decide +kernel
theorem dX10_land_46 : decode cX10_land 46 = .ok (.aload_n 0, 1) := by decide +kernel
theorem dX10_land_47 : decode cX10_land 47 = .ok (.getfield 10, 3) := by decide +kernel
theorem dX10_land_50 : decode cX10_land 50 = .ok (.iconst 0, 1) := by decide +kernel
theorem dX10_land_51 : decode cX10_land 51 = .ok (.putfield 72, 3) := by decide +kernel
theorem dX10_land_54 : decode cX10_land 54 = .ok (.aload_n 0, 1) := by decide +kernel
theorem dX10_land_55 : decode cX10_land 55 = .ok (.getfield 34, 3) := by decide +kernel
theorem dX10_land_58 : decode cX10_land 58 = .ok (.getfield 91, 3) := by decide +kernel
theorem dX10_land_61 : decode cX10_land 61 = .ok (.getfield 95, 3) := by decide +kernel
theorem dX10_land_64 : decode cX10_land 64 = .ok (.ireturn, 1) := by decide +kernel
theorem dX10_longest_0 : decode cX10_longest 0 = .ok (.aload_n 0, 1) := by decide +kernel
theorem dX10_longest_1 : decode cX10_longest 1 = .ok (.iload_n 1, 1) := by decide +kernel
theorem dX10_longest_2 : decode cX10_longest 2 = .ok (.invokevirtual 242, 3) := by decide +kernel
theorem dX10_longest_5 : decode cX10_longest 5 = .ok (.ifCond .eq 23, 3) := by decide +kernel
theorem dX10_longest_8 : decode cX10_longest 8 = .ok (.iload_n 2, 1) := by decide +kernel
theorem dX10_longest_9 : decode cX10_longest 9 = .ok (.ifCond .lt 19, 3) := by decide +kernel
theorem dX10_longest_12 : decode cX10_longest 12 = .ok (.iload_n 2, 1) := by decide +kernel
theorem dX10_longest_13 : decode cX10_longest 13 = .ok (.sipush 2000, 3) := by decide +kernel
theorem dX10_longest_16 : decode cX10_longest 16 = .ok (.if_icmp .gt 12, 3) := by decide +kernel
theorem dX10_longest_19 : decode cX10_longest 19 = .ok (.iload_n 3, 1) := by decide +kernel
theorem dX10_longest_20 : decode cX10_longest 20 = .ok (.ifCond .lt 8, 3) := by decide +kernel
theorem dX10_longest_23 : decode cX10_longest 23 = .ok (.iload_n 3, 1) := by decide +kernel
theorem dX10_longest_24 : decode cX10_longest 24 = .ok (.iconst 2, 1) := by decide +kernel
theorem dX10_longest_25 : decode cX10_longest 25 = .ok (.if_icmp .le 5, 3) := by decide +kernel
theorem dX10_longest_28 : decode cX10_longest 28 = .ok (.iconst (-1), 1) := by decide +kernel
theorem dX10_longest_29 : decode cX10_longest 29 = .ok (.ireturn, 1) := by decide +kernel
theorem dX10_longest_30 : decode cX10_longest 30 = .ok (.aload_n 0, 1) := by decide +kernel
theorem dX10_longest_31 : decode cX10_longest 31 = .ok (.getfield 64, 3) := by decide +kernel
theorem dX10_longest_34 : decode cX10_longest 34 = .ok (.iload_n 1, 1) := by decide +kernel
theorem dX10_longest_35 : decode cX10_longest 35 = .ok (.invokevirtual 245, 3) := by decide +kernel
theorem dX10_longest_38 : decode cX10_longest 38 = .ok (.aload_n 0, 1) := by decide +kernel
theorem dX10_longest_39 : decode cX10_longest 39 = .ok (.getfield 64, 3) := by decide +kernel
theorem dX10_longest_42 : decode cX10_longest 42 = .ok (.iload_n 2, 1) := by decide +kernel
theorem dX10_longest_43 : decode cX10_longest 43 = .ok (.invokevirtual 246, 3) := by decide +kernel
theorem dX10_longest_46 : decode cX10_longest 46 = .ok (.istore 4, 2) := by decide +kernel
theorem dX10_longest_48 : decode cX10_longest 48 = .ok (.iload_n 3, 1) := by decide +kernel
theorem dX10_longest_49 : decode cX10_longest 49 = .ok (.ifCond .ne 13, 3) := by decide +kernel
theorem dX10_longest_52 : decode cX10_longest 52 = .ok (.aload_n 0, 1) := by decide +kernel
theorem dX10_longest_53 : decode cX10_longest 53 = .ok (.getfield 64, 3) := by decide +kernel
theorem dX10_longest_56 : decode cX10_longest 56 = .ok (.getfield 249, 3) := by decide +kernel
theorem dX10_longest_59 : decode cX10_longest 59 = .ok (.goto 20, 3) := by decide +kernel
theorem dX10_longest_62 : decode cX10_longest 62 = .ok (.iload_n 3, 1) := by decide +kernel
theorem dX10_longest_63 : decode cX10_longest 63 = .ok (.iconst 1, 1) := by decide +kernel
theorem dX10_longest_64 : decode cX10_longest 64 = .ok (.if_icmp .ne 13, 3) := by decide +kernel
theorem dX10_longest_67 : decode cX10_longest 67 = .ok (.aload_n 0, 1) := by decide +kernel
theorem dX10_longest_68 : decode cX10_longest 68 = .ok (.getfield 64, 3) := by decide +kernel
theorem dX10_longest_71 : decode cX10_longest 71 = .ok (.getfield 251, 3) := by decide +kernel
theorem dX10_longest_74 : decode cX10_longest 74 = .ok (.goto 5, 3) := by decide +kernel
theorem dX10_longest_77 : decode cX10_longest 77 = .ok (.iload 4, 2) := by decide +kernel
theorem dX10_longest_79 : decode cX10_longest 79 = .ok (.ireturn, 1) := by decide +kernel
theorem dX10_lowestBit_0 : decode cX10_lowestBit 0 = .ok (.iload_n 0, 1) := by decide +kernel
theorem dX10_lowestBit_1 : decode cX10_lowestBit 1 = .ok (.iload_n 0, 1) := by decide +kernel
theorem dX10_lowestBit_2 : decode cX10_lowestBit 2 = .ok (.ineg, 1) := by decide +kernel
theorem dX10_lowestBit_3 : decode cX10_lowestBit 3 = .ok (.iand, 1) := by decide +kernel
theorem dX10_lowestBit_4 : decode cX10_lowestBit 4 = .ok (.iconst 1, 1) := by decide +kernel
theorem dX10_lowestBit_5 : decode cX10_lowestBit 5 = .ok (.isub, 1) := by decide +kernel
theorem dX10_lowestBit_6 : decode cX10_lowestBit 6 = .ok (.invokestatic 163, 3) := by decide +kernel
theorem dX10_lowestBit_9 : decode cX10_lowestBit 9 = .ok (.ireturn, 1) := by decide +kernel
theorem dX10_outwardsAtAims_0 : decode cX10_outwardsAtAims 0 = .ok (.aload_n 0, 1) := by decide +kernel
theorem dX10_outwardsAtAims_1 : decode cX10_outwardsAtAims 1 = .ok (.getfield 34, 3) := by decide +kernel
theorem dX10_outwardsAtAims_4 : decode cX10_outwardsAtAims 4 = .ok (.getfield 91, 3) := by decide +kernel
theorem dX10_outwardsAtAims_7 : decode cX10_outwardsAtAims 7 = .ok (.invokevirtual 225, 3) := by decide +kernel
theorem dX10_outwardsAtAims_10 : decode cX10_outwardsAtAims 10 = .ok (.lstore_n 2, 1) := by decide +kernel
theorem dX10_outwardsAtAims_11 : decode cX10_outwardsAtAims 11 = .ok (.iconst 0, 1) := by decide +kernel
theorem dX10_outwardsAtAims_12 : decode cX10_outwardsAtAims 12 = .ok (.istore 4, 2) := by decide +kernel
theorem dX10_outwardsAtAims_14 : decode cX10_outwardsAtAims 14 = .ok (.iload 4, 2) := by decide +kernel
theorem dX10_outwardsAtAims_16 : decode cX10_outwardsAtAims 16 = .ok (.aload_n 0, 1) := by decide +kernel
theorem dX10_outwardsAtAims_17 : decode cX10_outwardsAtAims 17 = .ok (.getfield 34, 3) := by decide +kernel
theorem dX10_outwardsAtAims_20 : decode cX10_outwardsAtAims 20 = .ok (.getfield 126, 3) := by decide +kernel
theorem dX10_outwardsAtAims_23 : decode cX10_outwardsAtAims 23 = .ok (.getfield 301, 3) := by decide +kernel
theorem dX10_outwardsAtAims_26 : decode cX10_outwardsAtAims 26 = .ok (.if_icmp .ge 54, 3) := by decide +kernel
theorem dX10_outwardsAtAims_29 : decode cX10_outwardsAtAims 29 = .ok (.iload_n 1, 1) := by decide +kernel
theorem dX10_outwardsAtAims_30 : decode cX10_outwardsAtAims 30 = .ok (.iload 4, 2) := by decide +kernel
theorem dX10_outwardsAtAims_32 : decode cX10_outwardsAtAims 32 = .ok (.ishr, 1) := by decide +kernel
theorem dX10_outwardsAtAims_33 : decode cX10_outwardsAtAims 33 = .ok (.iconst 1, 1) := by decide +kernel
theorem dX10_outwardsAtAims_34 : decode cX10_outwardsAtAims 34 = .ok (.iand, 1) := by decide +kernel
theorem dX10_outwardsAtAims_35 : decode cX10_outwardsAtAims 35 = .ok (.ifCond .eq 39, 3) := by decide +kernel
theorem dX10_outwardsAtAims_38 : decode cX10_outwardsAtAims 38 = .ok (.lload_n 2, 1) := by decide +kernel
theorem dX10_outwardsAtAims_39 : decode cX10_outwardsAtAims 39 = .ok (.aload_n 0, 1) := by decide +kernel
theorem dX10_outwardsAtAims_40 : decode cX10_outwardsAtAims 40 = .ok (.getfield 34, 3) := by decide +kernel
theorem dX10_outwardsAtAims_43 : decode cX10_outwardsAtAims 43 = .ok (.getfield 126, 3) := by decide +kernel
theorem dX10_outwardsAtAims_46 : decode cX10_outwardsAtAims 46 = .ok (.getfield 139, 3) := by decide +kernel
theorem dX10_outwardsAtAims_49 : decode cX10_outwardsAtAims 49 = .ok (.iload 4, 2) := by decide +kernel
theorem dX10_outwardsAtAims_51 : decode cX10_outwardsAtAims 51 = .ok (.iaload, 1) := by decide +kernel
