theorem dX10_turn_19 : decode cX10_turn 19 = .ok (.getfield 34, 3) := by decide +kernel
theorem dX10_turn_22 : decode cX10_turn 22 = .ok (.getfield 126, 3) := by decide +kernel
theorem dX10_turn_25 : decode cX10_turn 25 = .ok (.invokevirtual 193, 3) := by decide +kernel
theorem dX10_turn_28 : decode cX10_turn 28 = .ok (.ifCond .eq 5, 3) := by decide +kernel
theorem dX10_turn_31 : decode cX10_turn 31 = .ok (.iconst (-1), 1) := by decide +kernel
theorem dX10_turn_32 : decode cX10_turn 32 = .ok (.ireturn, 1) := by decide +kernel
theorem dX10_turn_33 : decode cX10_turn 33 = .ok (.aload_n 0, 1) := by decide +kernel
theorem dX10_turn_34 : decode cX10_turn 34 = .ok (.getfield 34, 3) := by decide +kernel
theorem dX10_turn_37 : decode cX10_turn 37 = .ok (.getfield 91, 3) := by decide +kernel
theorem dX10_turn_40 : decode cX10_turn 40 = .ok (.getfield 196, 3) := by decide +kernel
theorem dX10_turn_43 : decode cX10_turn 43 = .ok (.istore_n 2, 1) := by decide +kernel
theorem dX10_turn_44 : decode cX10_turn 44 = .ok (.aload_n 0, 1) := by decide +kernel
theorem dX10_turn_45 : decode cX10_turn 45 = .ok (.getfield 34, 3) := by decide +kernel
theorem dX10_turn_48 : decode cX10_turn 48 = .ok (.getfield 91, 3) := by decide +kernel
theorem dX10_turn_51 : decode cX10_turn 51 = .ok (.iload_n 1, 1) := by decide +kernel
theorem dX10_turn_52 : decode cX10_turn 52 = .ok (.putfield 196, 3) := by decide +kernel
theorem dX10_turn_55 : decode cX10_turn 55 = .ok (.iload_n 2, 1) := by decide +kernel
theorem dX10_turn_56 : decode cX10_turn 56 = .ok (.ireturn, 1) := by decide +kernel
theorem dX10_way_0 : decode cX10_way 0 = .ok (.aload_n 0, 1) := by decide +kernel
theorem dX10_way_1 : decode cX10_way 1 = .ok (.getfield 34, 3) := by decide +kernel
theorem dX10_way_4 : decode cX10_way 4 = .ok (.getfield 91, 3) := by decide +kernel
theorem dX10_way_7 : decode cX10_way 7 = .ok (.astore_n 3, 1) := by decide +kernel
theorem dX10_way_8 : decode cX10_way 8 = .ok (.aload_n 3, 1) := by decide +kernel
theorem dX10_way_9 : decode cX10_way 9 = .ok (.iload_n 1, 1) := by decide +kernel
theorem dX10_way_10 : decode cX10_way 10 = .ok (.invokevirtual 106, 3) := by decide +kernel
theorem dX10_way_13 : decode cX10_way 13 = .ok (.ifCond .ne 5, 3) := by decide +kernel
theorem dX10_way_16 : decode cX10_way 16 = .ok (.iconst (-1), 1) := by decide +kernel
theorem dX10_way_17 : decode cX10_way 17 = .ok (.ireturn, 1) := by decide +kernel
theorem dX11_ahead_0 : decode cX11_ahead 0 = .ok (.aload_n 0, 1) := by decide +kernel
theorem dX11_ahead_1 : decode cX11_ahead 1 = .ok (.iload_n 1, 1) := by decide +kernel
theorem dX11_ahead_2 : decode cX11_ahead 2 = .ok (.invokevirtual 432, 3) := by decide +kernel
theorem dX11_ahead_5 : decode cX11_ahead 5 = .ok (.ifCond .eq 27, 3) := by decide +kernel
theorem dX11_ahead_32 : decode cX11_ahead 32 = .ok (.iconst (-1), 1) := by decide +kernel
theorem dX11_ahead_33 : decode cX11_ahead 33 = .ok (.ireturn, 1) := by decide +kernel
theorem dX11_alike_0 : decode cX11_alike 0 = .ok (.iconst 0, 1) := by decide +kernel
theorem dX11_alike_1 : decode cX11_alike 1 = .ok (.istore_n 1, 1) := by decide +kernel
theorem dX11_alike_2 : decode cX11_alike 2 = .ok (.iconst 0, 1) := by decide +kernel
theorem dX11_alike_3 : decode cX11_alike 3 = .ok (.istore_n 2, 1) := by decide +kernel
theorem dX11_alike_4 : decode cX11_alike 4 = .ok (.iload_n 2, 1) := by decide +kernel
theorem dX11_alike_5 : decode cX11_alike 5 = .ok (.iconst 1, 1) := by decide +kernel
theorem dX11_alike_6 : decode cX11_alike 6 = .ok (.aload_n 0, 1) := by decide +kernel
theorem dX11_alike_7 : decode cX11_alike 7 = .ok (.getfield 42, 3) := by decide +kernel
theorem dX11_alike_10 : decode cX11_alike 10 = .ok (.iconst 0, 1) := by decide +kernel
theorem dX11_alike_11 : decode cX11_alike 11 = .ok (.iaload, 1) := by decide +kernel
theorem dX11_alike_12 : decode cX11_alike 12 = .ok (.ishl, 1) := by decide +kernel
theorem dX11_alike_13 : decode cX11_alike 13 = .ok (.if_icmp .ge 73, 3) := by decide +kernel
theorem dX11_alike_16 : decode cX11_alike 16 = .ok (.iconst 1, 1) := by decide +kernel
theorem dX11_alike_17 : decode cX11_alike 17 = .ok (.istore_n 3, 1) := by decide +kernel
theorem dX11_alike_18 : decode cX11_alike 18 = .ok (.iconst 0, 1) := by decide +kernel
theorem dX11_alike_19 : decode cX11_alike 19 = .ok (.istore 4, 2) := by decide +kernel
theorem dX11_alike_21 : decode cX11_alike 21 = .ok (.iload 4, 2) := by decide +kernel
theorem dX11_alike_23 : decode cX11_alike 23 = .ok (.bipush 8, 2) := by decide +kernel
theorem dX11_alike_25 : decode cX11_alike 25 = .ok (.if_icmp .ge 43, 3) := by decide +kernel
theorem dX11_alike_28 : decode cX11_alike 28 = .ok (.iload_n 3, 1) := by decide +kernel
theorem dX11_alike_29 : decode cX11_alike 29 = .ok (.ifCond .eq 39, 3) := by decide +kernel
theorem dX11_alike_32 : decode cX11_alike 32 = .ok (.aload_n 0, 1) := by decide +kernel
theorem dX11_alike_33 : decode cX11_alike 33 = .ok (.iload_n 2, 1) := by decide +kernel
theorem dX11_alike_34 : decode cX11_alike 34 = .ok (.iload 4, 2) := by decide +kernel
theorem dX11_alike_36 : decode cX11_alike 36 = .ok (.iconst 0, 1) := by decide +kernel
theorem dX11_alike_37 : decode cX11_alike 37 = .ok (.invokevirtual 304, 3) := by decide +kernel
theorem dX11_alike_40 : decode cX11_alike 40 = .ok (.aload_n 0, 1) := by decide +kernel
theorem dX11_alike_41 : decode cX11_alike 41 = .ok (.aload_n 0, 1) := by decide +kernel
theorem dX11_alike_42 : decode cX11_alike 42 = .ok (.getfield 42, 3) := by decide +kernel
theorem dX11_alike_45 : decode cX11_alike 45 = .ok (.iconst 2, 1) := by decide +kernel
theorem dX11_alike_46 : decode cX11_alike 46 = .ok (.iaload, 1) := by decide +kernel
theorem dX11_alike_47 : decode cX11_alike 47 = .ok (.iload 4, 2) := by decide +kernel
theorem dX11_alike_49 : decode cX11_alike 49 = .ok (.iconst 0, 1) := by decide +kernel
theorem dX11_alike_50 : decode cX11_alike 50 = .ok (.invokevirtual 304, 3) := by decide +kernel
theorem dX11_alike_53 : decode cX11_alike 53 = .ok (.if_icmp .ne 7, 3) := by decide +kernel
theorem dX11_alike_56 : decode cX11_alike 56 = .ok (.iconst 1, 1) := by decide +kernel
theorem dX11_alike_57 : decode cX11_alike 57 = .ok (.goto 4, 3) := by decide +kernel
theorem dX11_alike_61 : decode cX11_alike 61 = .ok (.istore_n 3, 1) := by decide +kernel
theorem dX11_alike_62 : decode cX11_alike 62 = .ok (.iinc 4 1, 3) := by decide +kernel
theorem dX11_alike_65 : decode cX11_alike 65 = .ok (.goto (-44), 3) := by decide +kernel
theorem dX11_alike_68 : decode cX11_alike 68 = .ok (.iload_n 1, 1) := by decide +kernel
theorem dX11_alike_69 : decode cX11_alike 69 = .ok (.iload_n 3, 1) := by decide +kernel
theorem dX11_alike_70 : decode cX11_alike 70 = .ok (.ifCond .eq 7, 3) := by decide +kernel
theorem dX11_alike_73 : decode cX11_alike 73 = .ok (.iconst 1, 1) := by decide +kernel
theorem dX11_alike_74 : decode cX11_alike 74 = .ok (.goto 4, 3) := by decide +kernel
theorem dX11_alike_78 : decode cX11_alike 78 = .ok (.iadd, 1) := by decide +kernel
theorem dX11_alike_79 : decode cX11_alike 79 = .ok (.istore_n 1, 1) := by decide +kernel
theorem dX11_alike_80 : decode cX11_alike 80 = .ok (.iinc 2 1, 3) := by decide +kernel
theorem dX11_alike_83 : decode cX11_alike 83 = .ok (.goto (-79), 3) := by decide +kernel
theorem dX11_alike_86 : decode cX11_alike 86 = .ok (.iload_n 1, 1) := by decide +kernel
theorem dX11_alike_87 : decode cX11_alike 87 = .ok (.ireturn, 1) := by decide +kernel
theorem dX11_areGoers_0 : decode cX11_areGoers 0 = .ok (.iload_n 1, 1) := by decide +kernel
theorem dX11_areGoers_1 : decode cX11_areGoers 1 = .ok (.iconst 1, 1) := by decide +kernel
theorem dX11_areGoers_2 : decode cX11_areGoers 2 = .ok (.if_icmp .lt 26, 3) := by decide +kernel
theorem dX11_areGoers_5 : decode cX11_areGoers 5 = .ok (.iload_n 1, 1) := by decide +kernel
theorem dX11_areGoers_6 : decode cX11_areGoers 6 = .ok (.iconst 1, 1) := by decide +kernel
theorem dX11_areGoers_7 : decode cX11_areGoers 7 = .ok (.aload_n 0, 1) := by decide +kernel
theorem dX11_areGoers_8 : decode cX11_areGoers 8 = .ok (.getfield 42, 3) := by decide +kernel
theorem dX11_areGoers_11 : decode cX11_areGoers 11 = .ok (.iconst 1, 1) := by decide +kernel
theorem dX11_areGoers_12 : decode cX11_areGoers 12 = .ok (.iaload, 1) := by decide +kernel
theorem dX11_areGoers_13 : decode cX11_areGoers 13 = .ok (.ishl, 1) := by decide +kernel
theorem dX11_areGoers_14 : decode cX11_areGoers 14 = .ok (.if_icmp .ge 14, 3) := by decide +kernel
theorem dX11_areGoers_28 : decode cX11_areGoers 28 = .ok (.iconst 0, 1) := by decide +kernel
theorem dX11_areGoers_29 : decode cX11_areGoers 29 = .ok (.ireturn, 1) := by decide +kernel
theorem dX11_back_0 : decode cX11_back 0 = .ok (.iload_n 1, 1) := by decide +kernel
theorem dX11_back_1 : decode cX11_back 1 = .ok (.i2l, 1) := by decide +kernel
theorem dX11_back_2 : decode cX11_back 2 = .ok (.lconst 0, 1) := by decide +kernel
theorem dX11_back_3 : decode cX11_back 3 = .ok (.ldc2_w 440, 3) := by decide +kernel
theorem dX11_back_6 : decode cX11_back 6 = .ok (.invokestatic 125, 3) := by decide +kernel
theorem dX11_back_9 : decode cX11_back 9 = .ok (.ifCond .eq 12, 3) := by decide +kernel
theorem dX11_back_12 : decode cX11_back 12 = .ok (.aload_n 0, 1) := by decide +kernel
theorem dX11_back_13 : decode cX11_back 13 = .ok (.getfield 83, 3) := by decide +kernel
theorem dX11_back_16 : decode cX11_back 16 = .ok (.iload_n 1, 1) := by decide +kernel
theorem dX11_back_17 : decode cX11_back 17 = .ok (.baload, 1) := by decide +kernel
theorem dX11_back_18 : decode cX11_back 18 = .ok (.ifCond .ne 5, 3) := by decide +kernel
theorem dX11_back_21 : decode cX11_back 21 = .ok (.iconst (-1), 1) := by decide +kernel
theorem dX11_back_22 : decode cX11_back 22 = .ok (.ireturn, 1) := by decide +kernel
theorem dX11_canGo_0 : decode cX11_canGo 0 = .ok (.aload_n 0, 1) := by decide +kernel
theorem dX11_canGo_1 : decode cX11_canGo 1 = .ok (.iload_n 1, 1) := by decide +kernel
theorem dX11_canGo_2 : decode cX11_canGo 2 = .ok (.invokevirtual 313, 3) := by decide +kernel
theorem dX11_canGo_5 : decode cX11_canGo 5 = .ok (.ifCond .eq 44, 3) := by decide +kernel
theorem dX11_canGo_49 : decode cX11_canGo 49 = .ok (.iconst 0, 1) := by decide +kernel
theorem dX11_canGo_50 : decode cX11_canGo 50 = .ok (.ireturn, 1) := by decide +kernel
theorem dX11_canTake_0 : decode cX11_canTake 0 = .ok (.aload_n 0, 1) := by decide +kernel
theorem dX11_canTake_1 : decode cX11_canTake 1 = .ok (.iload_n 1, 1) := by decide +kernel
theorem dX11_canTake_2 : decode cX11_canTake 2 = .ok (.invokevirtual 313, 3) := by decide +kernel
theorem dX11_canTake_5 : decode cX11_canTake 5 = .ok (.ifCond .eq 14, 3) := by decide +kernel
theorem dX11_canTake_19 : decode cX11_canTake 19 = .ok (.iconst 0, 1) := by decide +kernel
theorem dX11_canTake_20 : decode cX11_canTake 20 = .ok (.ireturn, 1) := by decide +kernel
theorem dX11_clauseHere_0 : decode cX11_clauseHere 0 = .ok (.aload_n 0, 1) := by decide +kernel
theorem dX11_clauseHere_1 : decode cX11_clauseHere 1 = .ok (.invokevirtual 100, 3) := by decide +kernel
theorem dX11_clauseHere_4 : decode cX11_clauseHere 4 = .ok (.pop, 1) := by decide +kernel
theorem dX11_clauseHere_5 : decode cX11_clauseHere 5 = .ok (.aload_n 0, 1) := by decide +kernel
theorem dX11_clauseHere_6 : decode cX11_clauseHere 6 = .ok (.getfield 97, 3) := by decide +kernel
theorem dX11_clauseHere_9 : decode cX11_clauseHere 9 = .ok (.istore_n 1, 1) := by decide +kernel
theorem dX11_clauseHere_10 : decode cX11_clauseHere 10 = .ok (.aload_n 0, 1) := by decide +kernel
theorem dX11_clauseHere_11 : decode cX11_clauseHere 11 = .ok (.getfield 153, 3) := by decide +kernel
theorem dX11_clauseHere_14 : decode cX11_clauseHere 14 = .ok (.bipush 6, 2) := by decide +kernel
theorem dX11_clauseHere_16 : decode cX11_clauseHere 16 = .ok (.if_icmp .ne 7, 3) := by decide +kernel
theorem dX11_clauseHere_19 : decode cX11_clauseHere 19 = .ok (.iconst 1, 1) := by decide +kernel
theorem dX11_clauseHere_20 : decode cX11_clauseHere 20 = .ok (.goto 4, 3) := by decide +kernel
theorem dX11_clauseHere_23 : decode cX11_clauseHere 23 = .ok (.iconst 0, 1) := by decide +kernel
theorem dX11_clauseHere_24 : decode cX11_clauseHere 24 = .ok (.istore_n 2, 1) := by decide +kernel
theorem dX11_clauseHere_25 : decode cX11_clauseHere 25 = .ok (.iload_n 2, 1) := by decide +kernel
theorem dX11_clauseHere_26 : decode cX11_clauseHere 26 = .ok (.ifCond .eq 31, 3) := by decide +kernel
theorem dX11_clauseHere_29 : decode cX11_clauseHere 29 = .ok (.aload_n 0, 1) := by decide +kernel
theorem dX11_clauseHere_30 : decode cX11_clauseHere 30 = .ok (.ldc2_w 129, 3) := by decide +kernel
theorem dX11_clauseHere_33 : decode cX11_clauseHere 33 = .ok (.invokevirtual 108, 3) := by decide +kernel
theorem dX11_clauseHere_36 : decode cX11_clauseHere 36 = .ok (.ifCond .ne 13, 3) := by decide +kernel
theorem dX11_clauseHere_39 : decode cX11_clauseHere 39 = .ok (.aload_n 0, 1) := by decide +kernel
theorem dX11_clauseHere_40 : decode cX11_clauseHere 40 = .ok (.ldc2_w 145, 3) := by decide +kernel
theorem dX11_clauseHere_43 : decode cX11_clauseHere 43 = .ok (.invokevirtual 108, 3) := by decide +kernel
theorem dX11_clauseHere_46 : decode cX11_clauseHere 46 = .ok (.ifCond .eq 7, 3) := by decide +kernel
theorem dX11_clauseHere_53 : decode cX11_clauseHere 53 = .ok (.iconst 0, 1) := by decide +kernel
theorem dX11_clauseHere_54 : decode cX11_clauseHere 54 = .ok (.goto 28, 3) := by decide +kernel
theorem dX11_clauseHere_57 : decode cX11_clauseHere 57 = .ok (.aload_n 0, 1) := by decide +kernel
theorem dX11_clauseHere_58 : decode cX11_clauseHere 58 = .ok (.ldc2_w 231, 3) := by decide +kernel
theorem dX11_clauseHere_61 : decode cX11_clauseHere 61 = .ok (.invokevirtual 108, 3) := by decide +kernel
theorem dX11_clauseHere_64 : decode cX11_clauseHere 64 = .ok (.ifCond .ne 13, 3) := by decide +kernel
theorem dX11_clauseHere_67 : decode cX11_clauseHere 67 = .ok (.aload_n 0, 1) := by decide +kernel
theorem dX11_clauseHere_68 : decode cX11_clauseHere 68 = .ok (.ldc2_w 233, 3) := by decide +kernel
theorem dX11_clauseHere_71 : decode cX11_clauseHere 71 = .ok (.invokevirtual 108, 3) := by decide +kernel
theorem dX11_clauseHere_74 : decode cX11_clauseHere 74 = .ok (.ifCond .eq 7, 3) := by decide +kernel
theorem dX11_clauseHere_81 : decode cX11_clauseHere 81 = .ok (.iconst 0, 1) := by decide +kernel
theorem dX11_clauseHere_82 : decode cX11_clauseHere 82 = .ok (.istore_n 3, 1) := by decide +kernel
theorem dX11_clauseHere_83 : decode cX11_clauseHere 83 = .ok (.iload_n 3, 1) := by decide +kernel
theorem dX11_clauseHere_84 : decode cX11_clauseHere 84 = .ok (.ifCond .ne 10, 3) := by decide +kernel
theorem dX11_clauseHere_87 : decode cX11_clauseHere 87 = .ok (.aload_n 0, 1) := by decide +kernel
theorem dX11_clauseHere_88 : decode cX11_clauseHere 88 = .ok (.iconst 0, 1) := by decide +kernel
theorem dX11_clauseHere_89 : decode cX11_clauseHere 89 = .ok (.iload_n 1, 1) := by decide +kernel
theorem dX11_clauseHere_90 : decode cX11_clauseHere 90 = .ok (.invokevirtual 118, 3) := by decide +kernel
theorem dX11_clauseHere_93 : decode cX11_clauseHere 93 = .ok (.ireturn, 1) := by decide +kernel
theorem dX11_closed_0 : decode cX11_closed 0 = .ok (.aload_n 0, 1) := by decide +kernel
theorem dX11_closed_1 : decode cX11_closed 1 = .ok (.iload_n 1, 1) := by decide +kernel
theorem dX11_closed_2 : decode cX11_closed 2 = .ok (.invokevirtual 350, 3) := by decide +kernel
theorem dX11_closed_5 : decode cX11_closed 5 = .ok (.ifCond .eq 13, 3) := by decide +kernel
theorem dX11_closed_18 : decode cX11_closed 18 = .ok (.iconst (-1), 1) := by decide +kernel
theorem dX11_closed_19 : decode cX11_closed 19 = .ok (.ireturn, 1) := by decide +kernel
theorem dX11_comes_0 : decode cX11_comes 0 = .ok (.aload_n 0, 1) := by decide +kernel
theorem dX11_comes_1 : decode cX11_comes 1 = .ok (.iload_n 1, 1) := by decide +kernel
theorem dX11_comes_2 : decode cX11_comes 2 = .ok (.invokevirtual 350, 3) := by decide +kernel
theorem dX11_comes_5 : decode cX11_comes 5 = .ok (.ifCond .eq 19, 3) := by decide +kernel
theorem dX11_comes_24 : decode cX11_comes 24 = .ok (.iconst (-1), 1) := by decide +kernel
theorem dX11_comes_25 : decode cX11_comes 25 = .ok (.ireturn, 1) := by decide +kernel
theorem dX11_count_0 : decode cX11_count 0 = .ok (.iload_n 1, 1) := by decide +kernel
theorem dX11_count_1 : decode cX11_count 1 = .ok (.tableswitch 81 0 9 #[55, 55, 62, 67, 67, 67, 67, 67, 67, 76], 55) := by decide +kernel
theorem dX11_count_56 : decode cX11_count 56 = .ok (.aload_n 0, 1) := by decide +kernel
theorem dX11_count_57 : decode cX11_count 57 = .ok (.getfield 42, 3) := by decide +kernel
theorem dX11_count_60 : decode cX11_count 60 = .ok (.iload_n 1, 1) := by decide +kernel
theorem dX11_count_61 : decode cX11_count 61 = .ok (.iaload, 1) := by decide +kernel
theorem dX11_count_62 : decode cX11_count 62 = .ok (.ireturn, 1) := by decide +kernel
theorem dX11_count_63 : decode cX11_count 63 = .ok (.aload_n 0, 1) := by decide +kernel
theorem dX11_count_64 : decode cX11_count 64 = .ok (.getfield 250, 3) := by decide +kernel
theorem dX11_count_67 : decode cX11_count 67 = .ok (.ireturn, 1) := by decide +kernel
theorem dX11_count_68 : decode cX11_count 68 = .ok (.aload_n 0, 1) := by decide +kernel
theorem dX11_count_69 : decode cX11_count 69 = .ok (.getfield 42, 3) := by decide +kernel
theorem dX11_count_72 : decode cX11_count 72 = .ok (.iload_n 1, 1) := by decide +kernel
theorem dX11_count_73 : decode cX11_count 73 = .ok (.iconst 1, 1) := by decide +kernel
theorem dX11_count_74 : decode cX11_count 74 = .ok (.isub, 1) := by decide +kernel
theorem dX11_count_75 : decode cX11_count 75 = .ok (.iaload, 1) := by decide +kernel
theorem dX11_count_76 : decode cX11_count 76 = .ok (.ireturn, 1) := by decide +kernel
theorem dX11_count_77 : decode cX11_count 77 = .ok (.aload_n 0, 1) := by decide +kernel
theorem dX11_count_78 : decode cX11_count 78 = .ok (.getfield 86, 3) := by decide +kernel
theorem dX11_count_81 : decode cX11_count 81 = .ok (.ireturn, 1) := by decide +kernel
theorem dX11_count_82 : decode cX11_count 82 = .ok (.iconst (-1), 1) := by decide +kernel
theorem dX11_count_83 : decode cX11_count 83 = .ok (.ireturn, 1) := by decide +kernel
theorem dX11_covers_0 : decode cX11_covers 0 = .ok (.aload_n 0, 1) := by decide +kernel
theorem dX11_covers_1 : decode cX11_covers 1 = .ok (.iload_n 1, 1) := by decide +kernel
theorem dX11_covers_2 : decode cX11_covers 2 = .ok (.invokevirtual 379, 3) := by decide +kernel
theorem dX11_covers_5 : decode cX11_covers 5 = .ok (.ifCond .ne 5, 3) := by decide +kernel
theorem dX11_covers_8 : decode cX11_covers 8 = .ok (.iconst (-1), 1) := by decide +kernel
theorem dX11_covers_9 : decode cX11_covers 9 = .ok (.ireturn, 1) := by decide +kernel
theorem dX11_days_0 : decode cX11_days 0 = .ok (.aload_n 0, 1) := by decide +kernel
theorem dX11_days_1 : decode cX11_days 1 = .ok (.iload_n 1, 1) := by decide +kernel
theorem dX11_days_2 : decode cX11_days 2 = .ok (.invokevirtual 432, 3) := by decide +kernel
theorem dX11_days_5 : decode cX11_days 5 = .ok (.ifCond .eq 40, 3) := by decide +kernel
theorem dX11_days_45 : decode cX11_days 45 = .ok (.iconst (-1), 1) := by decide +kernel
theorem dX11_days_46 : decode cX11_days 46 = .ok (.ireturn, 1) := by decide +kernel
theorem dX11_decoys_0 : decode cX11_decoys 0 = .ok (.aload_n 0, 1) := by decide +kernel
theorem dX11_decoys_1 : decode cX11_decoys 1 = .ok (.iload_n 1, 1) := by decide +kernel
theorem dX11_decoys_2 : decode cX11_decoys 2 = .ok (.invokevirtual 313, 3) := by decide +kernel
theorem dX11_decoys_5 : decode cX11_decoys 5 = .ok (.ifCond .ne 5, 3) := by decide +kernel
theorem dX11_decoys_8 : decode cX11_decoys 8 = .ok (.iconst (-1), 1) := by decide +kernel
theorem dX11_decoys_9 : decode cX11_decoys 9 = .ok (.ireturn, 1) := by decide +kernel
theorem dX11_done_0 : decode cX11_done 0 = .ok (.aload_n 0, 1) := by decide +kernel
theorem dX11_done_1 : decode cX11_done 1 = .ok (.aload_n 0, 1) := by decide +kernel
theorem dX11_done_2 : decode cX11_done 2 = .ok (.getfield 42, 3) := by decide +kernel
theorem dX11_done_5 : decode cX11_done 5 = .ok (.bipush 6, 2) := by decide +kernel
theorem dX11_done_7 : decode cX11_done 7 = .ok (.iaload, 1) := by decide +kernel
theorem dX11_done_8 : decode cX11_done 8 = .ok (.invokevirtual 409, 3) := by decide +kernel
theorem dX11_done_11 : decode cX11_done 11 = .ok (.ireturn, 1) := by decide +kernel
theorem dX11_end_0 : decode cX11_end 0 = .ok (.iload_n 1, 1) := by decide +kernel
theorem dX11_end_1 : decode cX11_end 1 = .ok (.ifCond .lt 11, 3) := by decide +kernel
theorem dX11_end_4 : decode cX11_end 4 = .ok (.iload_n 1, 1) := by decide +kernel
theorem dX11_end_5 : decode cX11_end 5 = .ok (.aload_n 0, 1) := by decide +kernel
theorem dX11_end_6 : decode cX11_end 6 = .ok (.getfield 86, 3) := by decide +kernel
theorem dX11_end_9 : decode cX11_end 9 = .ok (.if_icmp .le 5, 3) := by decide +kernel
theorem dX11_end_12 : decode cX11_end 12 = .ok (.iconst (-1), 1) := by decide +kernel
theorem dX11_end_13 : decode cX11_end 13 = .ok (.ireturn, 1) := by decide +kernel
theorem dX11_end_14 : decode cX11_end 14 = .ok (.aload_n 0, 1) := by decide +kernel
theorem dX11_end_15 : decode cX11_end 15 = .ok (.iload_n 1, 1) := by decide +kernel
theorem dX11_end_16 : decode cX11_end 16 = .ok (.putfield 86, 3) := by decide +kernel
theorem dX11_end_19 : decode cX11_end 19 = .ok (.iload_n 1, 1) := by decide +kernel
theorem dX11_end_20 : decode cX11_end 20 = .ok (.ireturn, 1) := by decide +kernel
theorem dX11_fails_0 : decode cX11_fails 0 = .ok (.aload_n 0, 1) := by decide +kernel
theorem dX11_fails_1 : decode cX11_fails 1 = .ok (.getfield 94, 3) := by decide +kernel
theorem dX11_fails_4 : decode cX11_fails 4 = .ok (.ifCond .ne 15, 3) := by decide +kernel
theorem dX11_fails_7 : decode cX11_fails 7 = .ok (.aload_n 0, 1) := by decide +kernel
theorem dX11_fails_8 : decode cX11_fails 8 = .ok (.iconst 1, 1) := by decide +kernel
theorem dX11_fails_9 : decode cX11_fails 9 = .ok (.bipush 8, 2) := by decide +kernel
theorem dX11_fails_11 : decode cX11_fails 11 = .ok (.iload_n 2, 1) := by decide +kernel
theorem dX11_fails_12 : decode cX11_fails 12 = .ok (.imul, 1) := by decide +kernel
theorem dX11_fails_13 : decode cX11_fails 13 = .ok (.iadd, 1) := by decide +kernel
theorem dX11_fails_14 : decode cX11_fails 14 = .ok (.iload_n 1, 1) := by decide +kernel
theorem dX11_fails_15 : decode cX11_fails 15 = .ok (.iadd, 1) := by decide +kernel
theorem dX11_fails_16 : decode cX11_fails 16 = .ok (.putfield 94, 3) := by decide +kernel
theorem dX11_fails_19 : decode cX11_fails 19 = .ok (.iconst 0, 1) := by decide +kernel
theorem dX11_fails_20 : decode cX11_fails 20 = .ok (.ireturn, 1) := by decide +kernel
theorem dX11_far_0 : decode cX11_far 0 = .ok (.iload_n 1, 1) := by decide +kernel
theorem dX11_far_1 : decode cX11_far 1 = .ok (.invokestatic 299, 3) := by decide +kernel
theorem dX11_far_4 : decode cX11_far 4 = .ok (.ifCond .eq 10, 3) := by decide +kernel
theorem dX11_far_7 : decode cX11_far 7 = .ok (.iload_n 2, 1) := by decide +kernel
theorem dX11_far_8 : decode cX11_far 8 = .ok (.invokestatic 299, 3) := by decide +kernel
theorem dX11_far_11 : decode cX11_far 11 = .ok (.ifCond .ne 5, 3) := by decide +kernel
theorem dX11_far_14 : decode cX11_far 14 = .ok (.iconst (-1), 1) := by decide +kernel
theorem dX11_far_15 : decode cX11_far 15 = .ok (.ireturn, 1) := by decide +kernel
theorem dX11_far_16 : decode cX11_far 16 = .ok (.aload_n 0, 1) := by decide +kernel
theorem dX11_far_17 : decode cX11_far 17 = .ok (.iload_n 1, 1) := by decide +kernel
theorem dX11_far_18 : decode cX11_far 18 = .ok (.invokevirtual 310, 3) := by decide +kernel
theorem dX11_far_21 : decode cX11_far 21 = .ok (.aload_n 0, 1) := by decide +kernel
theorem dX11_far_22 : decode cX11_far 22 = .ok (.getfield 48, 3) := by decide +kernel
theorem dX11_far_25 : decode cX11_far 25 = .ok (.iload_n 2, 1) := by decide +kernel
theorem dX11_far_26 : decode cX11_far 26 = .ok (.iaload, 1) := by decide +kernel
theorem dX11_far_27 : decode cX11_far 27 = .ok (.ifCond .ge 8, 3) := by decide +kernel
theorem dX11_far_30 : decode cX11_far 30 = .ok (.bipush (-2), 2) := by decide +kernel
theorem dX11_far_32 : decode cX11_far 32 = .ok (.goto 9, 3) := by decide +kernel
theorem dX11_far_35 : decode cX11_far 35 = .ok (.aload_n 0, 1) := by decide +kernel
theorem dX11_far_36 : decode cX11_far 36 = .ok (.getfield 48, 3) := by decide +kernel
theorem dX11_far_39 : decode cX11_far 39 = .ok (.iload_n 2, 1) := by decide +kernel
theorem dX11_far_40 : decode cX11_far 40 = .ok (.iaload, 1) := by decide +kernel
theorem dX11_far_41 : decode cX11_far 41 = .ok (.ireturn, 1) := by decide +kernel
theorem dX11_feed_0 : decode cX11_feed 0 = .ok (.aload_n 0, 1) := by decide +kernel
theorem dX11_feed_1 : decode cX11_feed 1 = .ok (.getfield 86, 3) := by decide +kernel
theorem dX11_feed_4 : decode cX11_feed 4 = .ok (.bipush 20, 2) := by decide +kernel
theorem dX11_feed_6 : decode cX11_feed 6 = .ok (.iadd, 1) := by decide +kernel
theorem dX11_feed_7 : decode cX11_feed 7 = .ok (.sipush 400, 3) := by decide +kernel
theorem dX11_feed_10 : decode cX11_feed 10 = .ok (.if_icmp .le 5, 3) := by decide +kernel
theorem dX11_feed_15 : decode cX11_feed 15 = .ok (.aload_n 0, 1) := by decide +kernel
theorem dX11_feed_16 : decode cX11_feed 16 = .ok (.iload_n 1, 1) := by decide +kernel
theorem dX11_feed_17 : decode cX11_feed 17 = .ok (.invokevirtual 90, 3) := by decide +kernel
theorem dX11_feed_20 : decode cX11_feed 20 = .ok (.aload_n 0, 1) := by decide +kernel
theorem dX11_feed_21 : decode cX11_feed 21 = .ok (.iload_n 2, 1) := by decide +kernel
theorem dX11_feed_22 : decode cX11_feed 22 = .ok (.invokevirtual 90, 3) := by decide +kernel
theorem dX11_feed_25 : decode cX11_feed 25 = .ok (.aload_n 0, 1) := by decide +kernel
theorem dX11_feed_26 : decode cX11_feed 26 = .ok (.iload_n 3, 1) := by decide +kernel
theorem dX11_feed_27 : decode cX11_feed 27 = .ok (.invokevirtual 90, 3) := by decide +kernel
theorem dX11_feed_30 : decode cX11_feed 30 = .ok (.aload_n 0, 1) := by decide +kernel
theorem dX11_feed_31 : decode cX11_feed 31 = .ok (.iload 4, 2) := by decide +kernel
theorem dX11_feed_33 : decode cX11_feed 33 = .ok (.invokevirtual 90, 3) := by decide +kernel
theorem dX11_feed_36 : decode cX11_feed 36 = .ok (.aload_n 0, 1) := by decide +kernel
theorem dX11_feed_37 : decode cX11_feed 37 = .ok (.iload 5, 2) := by decide +kernel
theorem dX11_feed_39 : decode cX11_feed 39 = .ok (.invokevirtual 90, 3) := by decide +kernel
theorem dX11_feed_42 : decode cX11_feed 42 = .ok (.aload_n 0, 1) := by decide +kernel
theorem dX11_feed_43 : decode cX11_feed 43 = .ok (.getfield 86, 3) := by decide +kernel
theorem dX11_feed_46 : decode cX11_feed 46 = .ok (.ireturn, 1) := by decide +kernel
theorem dX11_fewest_0 : decode cX11_fewest 0 = .ok (.aload_n 0, 1) := by decide +kernel
