theorem dX8_drawLeaves_4 : decode cX8_drawLeaves 4 = .ok (.getfield 21, 3) := by decide +kernel
theorem dX8_drawLeaves_7 : decode cX8_drawLeaves 7 = .ok (.getfield 48, 3) := by decide +kernel
theorem dX8_drawLeaves_10 : decode cX8_drawLeaves 10 = .ok (.if_icmp .ge 49, 3) := by decide +kernel
theorem dX8_drawLeaves_13 : decode cX8_drawLeaves 13 = .ok (.aload_n 0, 1) := by decide +kernel
theorem dX8_drawLeaves_14 : decode cX8_drawLeaves 14 = .ok (.aload_n 0, 1) := by decide +kernel
theorem dX8_drawLeaves_15 : decode cX8_drawLeaves 15 = .ok (.getfield 35, 3) := by decide +kernel
theorem dX8_drawLeaves_18 : decode cX8_drawLeaves 18 = .ok (.ldc 115, 2) := by decide +kernel
theorem dX8_drawLeaves_20 : decode cX8_drawLeaves 20 = .ok (.imul, 1) := by decide +kernel
theorem dX8_drawLeaves_21 : decode cX8_drawLeaves 21 = .ok (.sipush 12345, 3) := by decide +kernel
theorem dX8_drawLeaves_24 : decode cX8_drawLeaves 24 = .ok (.iadd, 1) := by decide +kernel
theorem dX8_drawLeaves_25 : decode cX8_drawLeaves 25 = .ok (.ldc 116, 2) := by decide +kernel
theorem dX8_drawLeaves_27 : decode cX8_drawLeaves 27 = .ok (.iand, 1) := by decide +kernel
theorem dX8_drawLeaves_28 : decode cX8_drawLeaves 28 = .ok (.putfield 35, 3) := by decide +kernel
theorem dX8_drawLeaves_31 : decode cX8_drawLeaves 31 = .ok (.aload_n 0, 1) := by decide +kernel
theorem dX8_drawLeaves_32 : decode cX8_drawLeaves 32 = .ok (.getfield 21, 3) := by decide +kernel
theorem dX8_drawLeaves_35 : decode cX8_drawLeaves 35 = .ok (.getfield 117, 3) := by decide +kernel
theorem dX8_drawLeaves_38 : decode cX8_drawLeaves 38 = .ok (.iload_n 1, 1) := by decide +kernel
theorem dX8_drawLeaves_39 : decode cX8_drawLeaves 39 = .ok (.dup2, 1) := by decide +kernel
theorem dX8_drawLeaves_40 : decode cX8_drawLeaves 40 = .ok (.iaload, 1) := by decide +kernel
theorem dX8_drawLeaves_41 : decode cX8_drawLeaves 41 = .ok (.aload_n 0, 1) := by decide +kernel
theorem dX8_drawLeaves_42 : decode cX8_drawLeaves 42 = .ok (.getfield 35, 3) := by decide +kernel
theorem dX8_drawLeaves_45 : decode cX8_drawLeaves 45 = .ok (.ldc 120, 2) := by decide +kernel
theorem dX8_drawLeaves_47 : decode cX8_drawLeaves 47 = .ok (.idiv, 1) := by decide +kernel
theorem dX8_drawLeaves_48 : decode cX8_drawLeaves 48 = .ok (.bipush 60, 2) := by decide +kernel
theorem dX8_drawLeaves_50 : decode cX8_drawLeaves 50 = .ok (.irem, 1) := by decide +kernel
theorem dX8_drawLeaves_51 : decode cX8_drawLeaves 51 = .ok (.iadd, 1) := by decide +kernel
theorem dX8_drawLeaves_52 : decode cX8_drawLeaves 52 = .ok (.iastore, 1) := by decide +kernel
theorem dX8_drawLeaves_53 : decode cX8_drawLeaves 53 = .ok (.iinc 1 1, 3) := by decide +kernel
theorem dX8_drawLeaves_56 : decode cX8_drawLeaves 56 = .ok (.goto (-54), 3) := by decide +kernel
theorem dX8_drawLeaves_59 : decode cX8_drawLeaves 59 = .ok (.return_, 1) := by decide +kernel
theorem dX8_follow_0 : decode cX8_follow 0 = .ok (.iload_n 1, 1) := by decide +kernel
theorem dX8_follow_1 : decode cX8_follow 1 = .ok (.aload_n 0, 1) := by decide +kernel
theorem dX8_follow_2 : decode cX8_follow 2 = .ok (.getfield 38, 3) := by decide +kernel
theorem dX8_follow_5 : decode cX8_follow 5 = .ok (.invokestatic 101, 3) := by decide +kernel
theorem dX8_follow_8 : decode cX8_follow 8 = .ok (.istore_n 2, 1) := by decide +kernel
theorem dX8_follow_9 : decode cX8_follow 9 = .ok (.iconst 0, 1) := by decide +kernel
theorem dX8_follow_10 : decode cX8_follow 10 = .ok (.istore_n 3, 1) := by decide +kernel
theorem dX8_follow_11 : decode cX8_follow 11 = .ok (.iload_n 3, 1) := by decide +kernel
theorem dX8_follow_12 : decode cX8_follow 12 = .ok (.iload_n 2, 1) := by decide +kernel
theorem dX8_follow_13 : decode cX8_follow 13 = .ok (.if_icmp .ge 51, 3) := by decide +kernel
theorem dX8_follow_16 : decode cX8_follow 16 = .ok (.aload_n 0, 1) := by decide +kernel
theorem dX8_follow_17 : decode cX8_follow 17 = .ok (.getfield 41, 3) := by decide +kernel
theorem dX8_follow_20 : decode cX8_follow 20 = .ok (.iload_n 3, 1) := by decide +kernel
theorem dX8_follow_21 : decode cX8_follow 21 = .ok (.iaload, 1) := by decide +kernel
theorem dX8_follow_22 : decode cX8_follow 22 = .ok (.iconst 4, 1) := by decide +kernel
theorem dX8_follow_23 : decode cX8_follow 23 = .ok (.ishr, 1) := by decide +kernel
theorem dX8_follow_24 : decode cX8_follow 24 = .ok (.istore 4, 2) := by decide +kernel
theorem dX8_follow_26 : decode cX8_follow 26 = .ok (.aload_n 0, 1) := by decide +kernel
theorem dX8_follow_27 : decode cX8_follow 27 = .ok (.getfield 41, 3) := by decide +kernel
theorem dX8_follow_30 : decode cX8_follow 30 = .ok (.iload_n 3, 1) := by decide +kernel
theorem dX8_follow_31 : decode cX8_follow 31 = .ok (.iaload, 1) := by decide +kernel
theorem dX8_follow_32 : decode cX8_follow 32 = .ok (.bipush 15, 2) := by decide +kernel
theorem dX8_follow_34 : decode cX8_follow 34 = .ok (.iand, 1) := by decide +kernel
theorem dX8_follow_35 : decode cX8_follow 35 = .ok (.istore 5, 2) := by decide +kernel
theorem dX8_follow_37 : decode cX8_follow 37 = .ok (.aload_n 0, 1) := by decide +kernel
theorem dX8_follow_38 : decode cX8_follow 38 = .ok (.iload 4, 2) := by decide +kernel
theorem dX8_follow_40 : decode cX8_follow 40 = .ok (.iload 5, 2) := by decide +kernel
theorem dX8_follow_42 : decode cX8_follow 42 = .ok (.invokevirtual 107, 3) := by decide +kernel
theorem dX8_follow_45 : decode cX8_follow 45 = .ok (.ifCond .ne 5, 3) := by decide +kernel
theorem dX8_follow_48 : decode cX8_follow 48 = .ok (.iload_n 3, 1) := by decide +kernel
theorem dX8_follow_49 : decode cX8_follow 49 = .ok (.ireturn, 1) := by decide +kernel
theorem dX8_follow_50 : decode cX8_follow 50 = .ok (.aload_n 0, 1) := by decide +kernel
theorem dX8_follow_51 : decode cX8_follow 51 = .ok (.iload 4, 2) := by decide +kernel
theorem dX8_follow_53 : decode cX8_follow 53 = .ok (.iload 5, 2) := by decide +kernel
theorem dX8_follow_55 : decode cX8_follow 55 = .ok (.invokevirtual 111, 3) := by decide +kernel
theorem dX8_follow_58 : decode cX8_follow 58 = .ok (.iinc 3 1, 3) := by decide +kernel
theorem dX8_follow_61 : decode cX8_follow 61 = .ok (.goto (-50), 3) := by decide +kernel
theorem dX8_follow_64 : decode cX8_follow 64 = .ok (.iload_n 2, 1) := by decide +kernel
theorem dX8_follow_65 : decode cX8_follow 65 = .ok (.ireturn, 1) := by decide +kernel
theorem dX8_init_0 : decode cX8_init 0 = .ok (.aload_n 0, 1) := by decide +kernel
theorem dX8_init_1 : decode cX8_init 1 = .ok (.invokespecial 3, 3) := by decide +kernel
theorem dX8_init_4 : decode cX8_init 4 = .ok (.aload_n 0, 1) := by decide +kernel
theorem dX8_init_5 : decode cX8_init 5 = .ok (.new 9, 3) := by decide +kernel
theorem dX8_init_8 : decode cX8_init 8 = .ok (.dup, 1) := by decide +kernel
theorem dX8_init_9 : decode cX8_init 9 = .ok (.invokespecial 11, 3) := by decide +kernel
theorem dX8_init_12 : decode cX8_init 12 = .ok (.putfield 12, 3) := by decide +kernel
theorem dX8_init_15 : decode cX8_init 15 = .ok (.aload_n 0, 1) := by decide +kernel
theorem dX8_init_16 : decode cX8_init 16 = .ok (.new 18, 3) := by decide +kernel
theorem dX8_init_19 : decode cX8_init 19 = .ok (.dup, 1) := by decide +kernel
theorem dX8_init_20 : decode cX8_init 20 = .ok (.invokespecial 20, 3) := by decide +kernel
theorem dX8_init_23 : decode cX8_init 23 = .ok (.putfield 21, 3) := by decide +kernel
theorem dX8_init_26 : decode cX8_init 26 = .ok (.aload_n 0, 1) := by decide +kernel
theorem dX8_init_27 : decode cX8_init 27 = .ok (.iconst 0, 1) := by decide +kernel
theorem dX8_init_28 : decode cX8_init 28 = .ok (.putfield 25, 3) := by decide +kernel
theorem dX8_init_31 : decode cX8_init 31 = .ok (.aload_n 0, 1) := by decide +kernel
theorem dX8_init_32 : decode cX8_init 32 = .ok (.iconst 0, 1) := by decide +kernel
theorem dX8_init_33 : decode cX8_init 33 = .ok (.putfield 29, 3) := by decide +kernel
theorem dX8_init_36 : decode cX8_init 36 = .ok (.aload_n 0, 1) := by decide +kernel
theorem dX8_init_37 : decode cX8_init 37 = .ok (.iconst 0, 1) := by decide +kernel
theorem dX8_init_38 : decode cX8_init 38 = .ok (.putfield 32, 3) := by decide +kernel
theorem dX8_init_41 : decode cX8_init 41 = .ok (.aload_n 0, 1) := by decide +kernel
theorem dX8_init_42 : decode cX8_init 42 = .ok (.iconst 0, 1) := by decide +kernel
theorem dX8_init_43 : decode cX8_init 43 = .ok (.putfield 35, 3) := by decide +kernel
theorem dX8_init_46 : decode cX8_init 46 = .ok (.aload_n 0, 1) := by decide +kernel
theorem dX8_init_47 : decode cX8_init 47 = .ok (.iconst 0, 1) := by decide +kernel
theorem dX8_init_48 : decode cX8_init 48 = .ok (.putfield 38, 3) := by decide +kernel
theorem dX8_init_51 : decode cX8_init 51 = .ok (.aload_n 0, 1) := by decide +kernel
theorem dX8_init_52 : decode cX8_init 52 = .ok (.bipush 40, 2) := by decide +kernel
theorem dX8_init_54 : decode cX8_init 54 = .ok (.newarray .int, 2) := by decide +kernel
theorem dX8_init_56 : decode cX8_init 56 = .ok (.putfield 41, 3) := by decide +kernel
theorem dX8_init_59 : decode cX8_init 59 = .ok (.return_, 1) := by decide +kernel
theorem dX8_move_0 : decode cX8_move 0 = .ok (.aload_n 0, 1) := by decide +kernel
theorem dX8_move_1 : decode cX8_move 1 = .ok (.getfield 21, 3) := by decide +kernel
theorem dX8_move_4 : decode cX8_move 4 = .ok (.iload_n 1, 1) := by decide +kernel
theorem dX8_move_5 : decode cX8_move 5 = .ok (.aload_n 0, 1) := by decide +kernel
theorem dX8_move_6 : decode cX8_move 6 = .ok (.getfield 12, 3) := by decide +kernel
theorem dX8_move_9 : decode cX8_move 9 = .ok (.iload_n 2, 1) := by decide +kernel
theorem dX8_move_10 : decode cX8_move 10 = .ok (.invokevirtual 81, 3) := by decide +kernel
theorem dX8_move_13 : decode cX8_move 13 = .ok (.aload_n 0, 1) := by decide +kernel
theorem dX8_move_14 : decode cX8_move 14 = .ok (.getfield 29, 3) := by decide +kernel
theorem dX8_move_17 : decode cX8_move 17 = .ok (.invokevirtual 84, 3) := by decide +kernel
theorem dX8_move_20 : decode cX8_move 20 = .ok (.aload_n 0, 1) := by decide +kernel
theorem dX8_move_21 : decode cX8_move 21 = .ok (.iload_n 2, 1) := by decide +kernel
theorem dX8_move_22 : decode cX8_move 22 = .ok (.invokevirtual 88, 3) := by decide +kernel
theorem dX8_move_25 : decode cX8_move 25 = .ok (.return_, 1) := by decide +kernel
theorem dX8_noteGoing_0 : decode cX8_noteGoing 0 = .ok (.aload_n 0, 1) := by decide +kernel
theorem dX8_noteGoing_1 : decode cX8_noteGoing 1 = .ok (.dup, 1) := by decide +kernel
theorem dX8_noteGoing_2 : decode cX8_noteGoing 2 = .ok (.getfield 25, 3) := by decide +kernel
theorem dX8_noteGoing_5 : decode cX8_noteGoing 5 = .ok (.iconst 1, 1) := by decide +kernel
theorem dX8_noteGoing_6 : decode cX8_noteGoing 6 = .ok (.iadd, 1) := by decide +kernel
theorem dX8_noteGoing_7 : decode cX8_noteGoing 7 = .ok (.putfield 25, 3) := by decide +kernel
theorem dX8_noteGoing_10 : decode cX8_noteGoing 10 = .ok (.aload_n 0, 1) := by decide +kernel
theorem dX8_noteGoing_11 : decode cX8_noteGoing 11 = .ok (.getfield 12, 3) := by decide +kernel
theorem dX8_noteGoing_14 : decode cX8_noteGoing 14 = .ok (.dup, 1) := by decide +kernel
theorem dX8_noteGoing_15 : decode cX8_noteGoing 15 = .ok (.getfield 92, 3) := by decide +kernel
theorem dX8_noteGoing_18 : decode cX8_noteGoing 18 = .ok (.iconst 1, 1) := by decide +kernel
theorem dX8_noteGoing_19 : decode cX8_noteGoing 19 = .ok (.iload_n 1, 1) := by decide +kernel
theorem dX8_noteGoing_20 : decode cX8_noteGoing 20 = .ok (.ishl, 1) := by decide +kernel
theorem dX8_noteGoing_21 : decode cX8_noteGoing 21 = .ok (.ixor, 1) := by decide +kernel
theorem dX8_noteGoing_22 : decode cX8_noteGoing 22 = .ok (.putfield 92, 3) := by decide +kernel
theorem dX8_noteGoing_25 : decode cX8_noteGoing 25 = .ok (.aload_n 0, 1) := by decide +kernel
theorem dX8_noteGoing_26 : decode cX8_noteGoing 26 = .ok (.getfield 12, 3) := by decide +kernel
theorem dX8_noteGoing_29 : decode cX8_noteGoing 29 = .ok (.getfield 95, 3) := by decide +kernel
theorem dX8_noteGoing_32 : decode cX8_noteGoing 32 = .ok (.iload_n 1, 1) := by decide +kernel
theorem dX8_noteGoing_33 : decode cX8_noteGoing 33 = .ok (.dup2, 1) := by decide +kernel
theorem dX8_noteGoing_34 : decode cX8_noteGoing 34 = .ok (.iaload, 1) := by decide +kernel
theorem dX8_noteGoing_35 : decode cX8_noteGoing 35 = .ok (.iconst 1, 1) := by decide +kernel
theorem dX8_noteGoing_36 : decode cX8_noteGoing 36 = .ok (.iadd, 1) := by decide +kernel
theorem dX8_noteGoing_37 : decode cX8_noteGoing 37 = .ok (.iastore, 1) := by decide +kernel
theorem dX8_noteGoing_38 : decode cX8_noteGoing 38 = .ok (.aload_n 0, 1) := by decide +kernel
theorem dX8_noteGoing_39 : decode cX8_noteGoing 39 = .ok (.getfield 12, 3) := by decide +kernel
theorem dX8_noteGoing_42 : decode cX8_noteGoing 42 = .ok (.getfield 98, 3) := by decide +kernel
theorem dX8_noteGoing_45 : decode cX8_noteGoing 45 = .ok (.iload_n 1, 1) := by decide +kernel
theorem dX8_noteGoing_46 : decode cX8_noteGoing 46 = .ok (.aload_n 0, 1) := by decide +kernel
theorem dX8_noteGoing_47 : decode cX8_noteGoing 47 = .ok (.getfield 25, 3) := by decide +kernel
theorem dX8_noteGoing_50 : decode cX8_noteGoing 50 = .ok (.iastore, 1) := by decide +kernel
theorem dX8_noteGoing_51 : decode cX8_noteGoing 51 = .ok (.return_, 1) := by decide +kernel
theorem dX8_packed_0 : decode cX8_packed 0 = .ok (.aload_n 0, 1) := by decide +kernel
theorem dX8_packed_1 : decode cX8_packed 1 = .ok (.getfield 12, 3) := by decide +kernel
theorem dX8_packed_4 : decode cX8_packed 4 = .ok (.getfield 92, 3) := by decide +kernel
theorem dX8_packed_7 : decode cX8_packed 7 = .ok (.i2l, 1) := by decide +kernel
theorem dX8_packed_8 : decode cX8_packed 8 = .ok (.lstore_n 1, 1) := by decide +kernel
theorem dX8_packed_9 : decode cX8_packed 9 = .ok (.iconst 0, 1) := by decide +kernel
theorem dX8_packed_10 : decode cX8_packed 10 = .ok (.istore_n 3, 1) := by decide +kernel
theorem dX8_packed_11 : decode cX8_packed 11 = .ok (.iload_n 3, 1) := by decide +kernel
theorem dX8_packed_12 : decode cX8_packed 12 = .ok (.aload_n 0, 1) := by decide +kernel
theorem dX8_packed_13 : decode cX8_packed 13 = .ok (.getfield 21, 3) := by decide +kernel
theorem dX8_packed_16 : decode cX8_packed 16 = .ok (.getfield 48, 3) := by decide +kernel
theorem dX8_packed_19 : decode cX8_packed 19 = .ok (.if_icmp .ge 24, 3) := by decide +kernel
theorem dX8_packed_22 : decode cX8_packed 22 = .ok (.lload_n 1, 1) := by decide +kernel
theorem dX8_packed_23 : decode cX8_packed 23 = .ok (.iconst 4, 1) := by decide +kernel
theorem dX8_packed_24 : decode cX8_packed 24 = .ok (.lshl, 1) := by decide +kernel
theorem dX8_packed_25 : decode cX8_packed 25 = .ok (.aload_n 0, 1) := by decide +kernel
theorem dX8_packed_26 : decode cX8_packed 26 = .ok (.getfield 21, 3) := by decide +kernel
theorem dX8_packed_29 : decode cX8_packed 29 = .ok (.getfield 75, 3) := by decide +kernel
theorem dX8_packed_32 : decode cX8_packed 32 = .ok (.iload_n 3, 1) := by decide +kernel
theorem dX8_packed_33 : decode cX8_packed 33 = .ok (.iaload, 1) := by decide +kernel
theorem dX8_packed_34 : decode cX8_packed 34 = .ok (.i2l, 1) := by decide +kernel
theorem dX8_packed_35 : decode cX8_packed 35 = .ok (.lor, 1) := by decide +kernel
theorem dX8_packed_36 : decode cX8_packed 36 = .ok (.lstore_n 1, 1) := by decide +kernel
theorem dX8_packed_37 : decode cX8_packed 37 = .ok (.iinc 3 1, 3) := by decide +kernel
theorem dX8_packed_40 : decode cX8_packed 40 = .ok (.goto (-29), 3) := by decide +kernel
theorem dX8_packed_43 : decode cX8_packed 43 = .ok (.lload_n 1, 1) := by decide +kernel
theorem dX8_packed_44 : decode cX8_packed 44 = .ok (.lreturn, 1) := by decide +kernel
theorem dX9_begin_0 : decode cX9_begin 0 = .ok (.aload_n 0, 1) := by decide +kernel
theorem dX9_begin_1 : decode cX9_begin 1 = .ok (.iconst 0, 1) := by decide +kernel
theorem dX9_begin_2 : decode cX9_begin 2 = .ok (.putfield 19, 3) := by decide +kernel
theorem dX9_begin_5 : decode cX9_begin 5 = .ok (.aload_n 0, 1) := by decide +kernel
theorem dX9_begin_6 : decode cX9_begin 6 = .ok (.iconst 0, 1) := by decide +kernel
theorem dX9_begin_7 : decode cX9_begin 7 = .ok (.putfield 22, 3) := by decide +kernel
theorem dX9_begin_10 : decode cX9_begin 10 = .ok (.return_, 1) := by decide +kernel
theorem dX9_fail_0 : decode cX9_fail 0 = .ok (.aload_n 0, 1) := by decide +kernel
theorem dX9_fail_1 : decode cX9_fail 1 = .ok (.iconst 1, 1) := by decide +kernel
theorem dX9_fail_2 : decode cX9_fail 2 = .ok (.bipush 8, 2) := by decide +kernel
theorem dX9_fail_4 : decode cX9_fail 4 = .ok (.iload_n 1, 1) := by decide +kernel
theorem dX9_fail_5 : decode cX9_fail 5 = .ok (.imul, 1) := by decide +kernel
theorem dX9_fail_6 : decode cX9_fail 6 = .ok (.iadd, 1) := by decide +kernel
theorem dX9_fail_7 : decode cX9_fail 7 = .ok (.iload_n 2, 1) := by decide +kernel
theorem dX9_fail_8 : decode cX9_fail 8 = .ok (.iadd, 1) := by decide +kernel
theorem dX9_fail_9 : decode cX9_fail 9 = .ok (.putfield 22, 3) := by decide +kernel
theorem dX9_fail_12 : decode cX9_fail 12 = .ok (.iconst 0, 1) := by decide +kernel
theorem dX9_fail_13 : decode cX9_fail 13 = .ok (.ireturn, 1) := by decide +kernel
theorem dX9_init_0 : decode cX9_init 0 = .ok (.aload_n 0, 1) := by decide +kernel
theorem dX9_init_1 : decode cX9_init 1 = .ok (.invokespecial 3, 3) := by decide +kernel
theorem dX9_init_4 : decode cX9_init 4 = .ok (.aload_n 0, 1) := by decide +kernel
theorem dX9_init_5 : decode cX9_init 5 = .ok (.sipush 400, 3) := by decide +kernel
theorem dX9_init_8 : decode cX9_init 8 = .ok (.newarray .int, 2) := by decide +kernel
theorem dX9_init_10 : decode cX9_init 10 = .ok (.putfield 9, 3) := by decide +kernel
theorem dX9_init_13 : decode cX9_init 13 = .ok (.aload_n 0, 1) := by decide +kernel
theorem dX9_init_14 : decode cX9_init 14 = .ok (.iconst 0, 1) := by decide +kernel
theorem dX9_init_15 : decode cX9_init 15 = .ok (.putfield 15, 3) := by decide +kernel
theorem dX9_init_18 : decode cX9_init 18 = .ok (.aload_n 0, 1) := by decide +kernel
theorem dX9_init_19 : decode cX9_init 19 = .ok (.iconst 0, 1) := by decide +kernel
theorem dX9_init_20 : decode cX9_init 20 = .ok (.putfield 19, 3) := by decide +kernel
theorem dX9_init_23 : decode cX9_init 23 = .ok (.aload_n 0, 1) := by decide +kernel
theorem dX9_init_24 : decode cX9_init 24 = .ok (.iconst 0, 1) := by decide +kernel
theorem dX9_init_25 : decode cX9_init 25 = .ok (.putfield 22, 3) := by decide +kernel
theorem dX9_init_28 : decode cX9_init 28 = .ok (.aload_n 0, 1) := by decide +kernel
theorem dX9_init_29 : decode cX9_init 29 = .ok (.iconst 0, 1) := by decide +kernel
theorem dX9_init_30 : decode cX9_init 30 = .ok (.putfield 25, 3) := by decide +kernel
theorem dX9_init_33 : decode cX9_init 33 = .ok (.aload_n 0, 1) := by decide +kernel
theorem dX9_init_34 : decode cX9_init 34 = .ok (.iconst 0, 1) := by decide +kernel
theorem dX9_init_35 : decode cX9_init 35 = .ok (.putfield 28, 3) := by decide +kernel
theorem dX9_init_38 : decode cX9_init 38 = .ok (.return_, 1) := by decide +kernel
theorem dX9_isWord_0 : decode cX9_isWord 0 = .ok (.iconst 0, 1) := by decide +kernel
theorem dX9_isWord_1 : decode cX9_isWord 1 = .ok (.istore_n 3, 1) := by decide +kernel
theorem dX9_isWord_2 : decode cX9_isWord 2 = .ok (.iload_n 3, 1) := by decide +kernel
theorem dX9_isWord_3 : decode cX9_isWord 3 = .ok (.iload_n 2, 1) := by decide +kernel
theorem dX9_isWord_4 : decode cX9_isWord 4 = .ok (.if_icmp .ge 33, 3) := by decide +kernel
theorem dX9_isWord_7 : decode cX9_isWord 7 = .ok (.ldc 39, 2) := by decide +kernel
theorem dX9_isWord_9 : decode cX9_isWord 9 = .ok (.iload_n 1, 1) := by decide +kernel
theorem dX9_isWord_10 : decode cX9_isWord 10 = .ok (.iload_n 3, 1) := by decide +kernel
theorem dX9_isWord_11 : decode cX9_isWord 11 = .ok (.iadd, 1) := by decide +kernel
theorem dX9_isWord_12 : decode cX9_isWord 12 = .ok (.invokevirtual 41, 3) := by decide +kernel
theorem dX9_isWord_15 : decode cX9_isWord 15 = .ok (.aload_n 0, 1) := by decide +kernel
theorem dX9_isWord_16 : decode cX9_isWord 16 = .ok (.getfield 9, 3) := by decide +kernel
theorem dX9_isWord_19 : decode cX9_isWord 19 = .ok (.aload_n 0, 1) := by decide +kernel
theorem dX9_isWord_20 : decode cX9_isWord 20 = .ok (.getfield 19, 3) := by decide +kernel
theorem dX9_isWord_23 : decode cX9_isWord 23 = .ok (.iload_n 3, 1) := by decide +kernel
theorem dX9_isWord_24 : decode cX9_isWord 24 = .ok (.iadd, 1) := by decide +kernel
theorem dX9_isWord_25 : decode cX9_isWord 25 = .ok (.iaload, 1) := by decide +kernel
theorem dX9_isWord_26 : decode cX9_isWord 26 = .ok (.if_icmp .eq 5, 3) := by decide +kernel
theorem dX9_isWord_29 : decode cX9_isWord 29 = .ok (.iconst 0, 1) := by decide +kernel
theorem dX9_isWord_30 : decode cX9_isWord 30 = .ok (.ireturn, 1) := by decide +kernel
theorem dX9_isWord_31 : decode cX9_isWord 31 = .ok (.iinc 3 1, 3) := by decide +kernel
theorem dX9_isWord_34 : decode cX9_isWord 34 = .ok (.goto (-32), 3) := by decide +kernel
theorem dX9_isWord_37 : decode cX9_isWord 37 = .ok (.ldc 39, 2) := by decide +kernel
theorem dX9_isWord_39 : decode cX9_isWord 39 = .ok (.iload_n 1, 1) := by decide +kernel
theorem dX9_isWord_40 : decode cX9_isWord 40 = .ok (.iload_n 2, 1) := by decide +kernel
theorem dX9_isWord_41 : decode cX9_isWord 41 = .ok (.iadd, 1) := by decide +kernel
theorem dX9_isWord_42 : decode cX9_isWord 42 = .ok (.invokevirtual 41, 3) := by decide +kernel
theorem dX9_isWord_45 : decode cX9_isWord 45 = .ok (.bipush 32, 2) := by decide +kernel
theorem dX9_isWord_47 : decode cX9_isWord 47 = .ok (.if_icmp .ne 7, 3) := by decide +kernel
theorem dX9_isWord_50 : decode cX9_isWord 50 = .ok (.iconst 1, 1) := by decide +kernel
theorem dX9_isWord_51 : decode cX9_isWord 51 = .ok (.goto 4, 3) := by decide +kernel
theorem dX9_isWord_54 : decode cX9_isWord 54 = .ok (.iconst 0, 1) := by decide +kernel
theorem dX9_isWord_55 : decode cX9_isWord 55 = .ok (.ireturn, 1) := by decide +kernel
theorem dX9_passWord_0 : decode cX9_passWord 0 = .ok (.aload_n 0, 1) := by decide +kernel
theorem dX9_passWord_1 : decode cX9_passWord 1 = .ok (.aload_n 0, 1) := by decide +kernel
theorem dX9_passWord_2 : decode cX9_passWord 2 = .ok (.getfield 28, 3) := by decide +kernel
theorem dX9_passWord_5 : decode cX9_passWord 5 = .ok (.putfield 19, 3) := by decide +kernel
theorem dX9_passWord_8 : decode cX9_passWord 8 = .ok (.return_, 1) := by decide +kernel
theorem dX9_put_0 : decode cX9_put 0 = .ok (.bipush 24, 2) := by decide +kernel
theorem dX9_put_2 : decode cX9_put 2 = .ok (.istore_n 2, 1) := by decide +kernel
theorem dX9_put_3 : decode cX9_put 3 = .ok (.iload_n 2, 1) := by decide +kernel
theorem dX9_put_4 : decode cX9_put 4 = .ok (.ifCond .lt 45, 3) := by decide +kernel
theorem dX9_put_7 : decode cX9_put 7 = .ok (.aload_n 0, 1) := by decide +kernel
theorem dX9_put_8 : decode cX9_put 8 = .ok (.getfield 15, 3) := by decide +kernel
theorem dX9_put_11 : decode cX9_put 11 = .ok (.sipush 400, 3) := by decide +kernel
theorem dX9_put_14 : decode cX9_put 14 = .ok (.if_icmp .ge 35, 3) := by decide +kernel
theorem dX9_put_17 : decode cX9_put 17 = .ok (.aload_n 0, 1) := by decide +kernel
theorem dX9_put_18 : decode cX9_put 18 = .ok (.getfield 9, 3) := by decide +kernel
theorem dX9_put_21 : decode cX9_put 21 = .ok (.aload_n 0, 1) := by decide +kernel
theorem dX9_put_22 : decode cX9_put 22 = .ok (.getfield 15, 3) := by decide +kernel
theorem dX9_put_25 : decode cX9_put 25 = .ok (.iload_n 1, 1) := by decide +kernel
theorem dX9_put_26 : decode cX9_put 26 = .ok (.iload_n 2, 1) := by decide +kernel
theorem dX9_put_27 : decode cX9_put 27 = .ok (.ishr, 1) := by decide +kernel
theorem dX9_put_28 : decode cX9_put 28 = .ok (.sipush 255, 3) := by decide +kernel
theorem dX9_put_31 : decode cX9_put 31 = .ok (.iand, 1) := by decide +kernel
theorem dX9_put_32 : decode cX9_put 32 = .ok (.iastore, 1) := by decide +kernel
theorem dX9_put_33 : decode cX9_put 33 = .ok (.aload_n 0, 1) := by decide +kernel
theorem dX9_put_34 : decode cX9_put 34 = .ok (.dup, 1) := by decide +kernel
theorem dX9_put_35 : decode cX9_put 35 = .ok (.getfield 15, 3) := by decide +kernel
theorem dX9_put_38 : decode cX9_put 38 = .ok (.iconst 1, 1) := by decide +kernel
theorem dX9_put_39 : decode cX9_put 39 = .ok (.iadd, 1) := by decide +kernel
theorem dX9_put_40 : decode cX9_put 40 = .ok (.putfield 15, 3) := by decide +kernel
theorem dX9_put_43 : decode cX9_put 43 = .ok (.iinc 2 (-8), 3) := by decide +kernel
theorem dX9_put_46 : decode cX9_put 46 = .ok (.goto (-43), 3) := by decide +kernel
theorem dX9_put_49 : decode cX9_put 49 = .ok (.return_, 1) := by decide +kernel
theorem dX9_readNumber_0 : decode cX9_readNumber 0 = .ok (.aload_n 0, 1) := by decide +kernel
theorem dX9_readNumber_1 : decode cX9_readNumber 1 = .ok (.invokevirtual 31, 3) := by decide +kernel
theorem dX9_readNumber_4 : decode cX9_readNumber 4 = .ok (.pop, 1) := by decide +kernel
theorem dX9_readNumber_5 : decode cX9_readNumber 5 = .ok (.aload_n 0, 1) := by decide +kernel
theorem dX9_readNumber_6 : decode cX9_readNumber 6 = .ok (.getfield 19, 3) := by decide +kernel
theorem dX9_readNumber_9 : decode cX9_readNumber 9 = .ok (.istore_n 3, 1) := by decide +kernel
theorem dX9_readNumber_10 : decode cX9_readNumber 10 = .ok (.iconst 0, 1) := by decide +kernel
theorem dX9_readNumber_11 : decode cX9_readNumber 11 = .ok (.istore 4, 2) := by decide +kernel
theorem dX9_readNumber_13 : decode cX9_readNumber 13 = .ok (.aload_n 0, 1) := by decide +kernel
theorem dX9_readNumber_14 : decode cX9_readNumber 14 = .ok (.getfield 19, 3) := by decide +kernel
theorem dX9_readNumber_17 : decode cX9_readNumber 17 = .ok (.aload_n 0, 1) := by decide +kernel
theorem dX9_readNumber_18 : decode cX9_readNumber 18 = .ok (.getfield 15, 3) := by decide +kernel
theorem dX9_readNumber_21 : decode cX9_readNumber 21 = .ok (.if_icmp .ge 74, 3) := by decide +kernel
theorem dX9_readNumber_24 : decode cX9_readNumber 24 = .ok (.aload_n 0, 1) := by decide +kernel
theorem dX9_readNumber_25 : decode cX9_readNumber 25 = .ok (.getfield 9, 3) := by decide +kernel
theorem dX9_readNumber_28 : decode cX9_readNumber 28 = .ok (.aload_n 0, 1) := by decide +kernel
theorem dX9_readNumber_29 : decode cX9_readNumber 29 = .ok (.getfield 19, 3) := by decide +kernel
theorem dX9_readNumber_32 : decode cX9_readNumber 32 = .ok (.iaload, 1) := by decide +kernel
theorem dX9_readNumber_33 : decode cX9_readNumber 33 = .ok (.bipush 48, 2) := by decide +kernel
theorem dX9_readNumber_35 : decode cX9_readNumber 35 = .ok (.if_icmp .lt 60, 3) := by decide +kernel
theorem dX9_readNumber_38 : decode cX9_readNumber 38 = .ok (.aload_n 0, 1) := by decide +kernel
theorem dX9_readNumber_39 : decode cX9_readNumber 39 = .ok (.getfield 9, 3) := by decide +kernel
theorem dX9_readNumber_42 : decode cX9_readNumber 42 = .ok (.aload_n 0, 1) := by decide +kernel
theorem dX9_readNumber_43 : decode cX9_readNumber 43 = .ok (.getfield 19, 3) := by decide +kernel
theorem dX9_readNumber_46 : decode cX9_readNumber 46 = .ok (.iaload, 1) := by decide +kernel
theorem dX9_readNumber_47 : decode cX9_readNumber 47 = .ok (.bipush 57, 2) := by decide +kernel
theorem dX9_readNumber_49 : decode cX9_readNumber 49 = .ok (.if_icmp .gt 46, 3) := by decide +kernel
theorem dX9_readNumber_52 : decode cX9_readNumber 52 = .ok (.aload_n 0, 1) := by decide +kernel
theorem dX9_readNumber_53 : decode cX9_readNumber 53 = .ok (.getfield 19, 3) := by decide +kernel
theorem dX9_readNumber_56 : decode cX9_readNumber 56 = .ok (.iload_n 3, 1) := by decide +kernel
theorem dX9_readNumber_57 : decode cX9_readNumber 57 = .ok (.isub, 1) := by decide +kernel
theorem dX9_readNumber_58 : decode cX9_readNumber 58 = .ok (.iconst 5, 1) := by decide +kernel
theorem dX9_readNumber_59 : decode cX9_readNumber 59 = .ok (.if_icmp .ge 23, 3) := by decide +kernel
theorem dX9_readNumber_62 : decode cX9_readNumber 62 = .ok (.iload 4, 2) := by decide +kernel
theorem dX9_readNumber_64 : decode cX9_readNumber 64 = .ok (.bipush 10, 2) := by decide +kernel
theorem dX9_readNumber_66 : decode cX9_readNumber 66 = .ok (.imul, 1) := by decide +kernel
theorem dX9_readNumber_67 : decode cX9_readNumber 67 = .ok (.aload_n 0, 1) := by decide +kernel
theorem dX9_readNumber_68 : decode cX9_readNumber 68 = .ok (.getfield 9, 3) := by decide +kernel
theorem dX9_readNumber_71 : decode cX9_readNumber 71 = .ok (.aload_n 0, 1) := by decide +kernel
theorem dX9_readNumber_72 : decode cX9_readNumber 72 = .ok (.getfield 19, 3) := by decide +kernel
theorem dX9_readNumber_75 : decode cX9_readNumber 75 = .ok (.iaload, 1) := by decide +kernel
theorem dX9_readNumber_76 : decode cX9_readNumber 76 = .ok (.iadd, 1) := by decide +kernel
theorem dX9_readNumber_77 : decode cX9_readNumber 77 = .ok (.bipush 48, 2) := by decide +kernel
theorem dX9_readNumber_79 : decode cX9_readNumber 79 = .ok (.isub, 1) := by decide +kernel
theorem dX9_readNumber_80 : decode cX9_readNumber 80 = .ok (.istore 4, 2) := by decide +kernel
theorem dX9_readNumber_82 : decode cX9_readNumber 82 = .ok (.aload_n 0, 1) := by decide +kernel
theorem dX9_readNumber_83 : decode cX9_readNumber 83 = .ok (.dup, 1) := by decide +kernel
theorem dX9_readNumber_84 : decode cX9_readNumber 84 = .ok (.getfield 19, 3) := by decide +kernel
theorem dX9_readNumber_87 : decode cX9_readNumber 87 = .ok (.iconst 1, 1) := by decide +kernel
theorem dX9_readNumber_88 : decode cX9_readNumber 88 = .ok (.iadd, 1) := by decide +kernel
theorem dX9_readNumber_89 : decode cX9_readNumber 89 = .ok (.putfield 19, 3) := by decide +kernel
theorem dX9_readNumber_92 : decode cX9_readNumber 92 = .ok (.goto (-79), 3) := by decide +kernel
theorem dX9_readNumber_95 : decode cX9_readNumber 95 = .ok (.aload_n 0, 1) := by decide +kernel
theorem dX9_readNumber_96 : decode cX9_readNumber 96 = .ok (.getfield 19, 3) := by decide +kernel
theorem dX9_readNumber_99 : decode cX9_readNumber 99 = .ok (.iload_n 3, 1) := by decide +kernel
theorem dX9_readNumber_100 : decode cX9_readNumber 100 = .ok (.if_icmp .ne 10, 3) := by decide +kernel
theorem dX9_readNumber_103 : decode cX9_readNumber 103 = .ok (.aload_n 0, 1) := by decide +kernel
theorem dX9_readNumber_104 : decode cX9_readNumber 104 = .ok (.iload_n 3, 1) := by decide +kernel
theorem dX9_readNumber_105 : decode cX9_readNumber 105 = .ok (.iconst 0, 1) := by decide +kernel
theorem dX9_readNumber_106 : decode cX9_readNumber 106 = .ok (.invokevirtual 47, 3) := by decide +kernel
theorem dX9_readNumber_109 : decode cX9_readNumber 109 = .ok (.ireturn, 1) := by decide +kernel
theorem dX9_readNumber_110 : decode cX9_readNumber 110 = .ok (.aload_n 0, 1) := by decide +kernel
theorem dX9_readNumber_111 : decode cX9_readNumber 111 = .ok (.getfield 19, 3) := by decide +kernel
theorem dX9_readNumber_114 : decode cX9_readNumber 114 = .ok (.iload_n 3, 1) := by decide +kernel
theorem dX9_readNumber_115 : decode cX9_readNumber 115 = .ok (.isub, 1) := by decide +kernel
theorem dX9_readNumber_116 : decode cX9_readNumber 116 = .ok (.iconst 5, 1) := by decide +kernel
theorem dX9_readNumber_117 : decode cX9_readNumber 117 = .ok (.if_icmp .gt 15, 3) := by decide +kernel
theorem dX9_readNumber_120 : decode cX9_readNumber 120 = .ok (.iload 4, 2) := by decide +kernel
theorem dX9_readNumber_122 : decode cX9_readNumber 122 = .ok (.iload_n 1, 1) := by decide +kernel
theorem dX9_readNumber_123 : decode cX9_readNumber 123 = .ok (.if_icmp .lt 9, 3) := by decide +kernel
theorem dX9_readNumber_126 : decode cX9_readNumber 126 = .ok (.iload 4, 2) := by decide +kernel
theorem dX9_readNumber_128 : decode cX9_readNumber 128 = .ok (.iload_n 2, 1) := by decide +kernel
theorem dX9_readNumber_129 : decode cX9_readNumber 129 = .ok (.if_icmp .le 10, 3) := by decide +kernel
theorem dX9_readNumber_132 : decode cX9_readNumber 132 = .ok (.aload_n 0, 1) := by decide +kernel
theorem dX9_readNumber_133 : decode cX9_readNumber 133 = .ok (.iload_n 3, 1) := by decide +kernel
theorem dX9_readNumber_134 : decode cX9_readNumber 134 = .ok (.iconst 1, 1) := by decide +kernel
theorem dX9_readNumber_135 : decode cX9_readNumber 135 = .ok (.invokevirtual 47, 3) := by decide +kernel
theorem dX9_readNumber_138 : decode cX9_readNumber 138 = .ok (.ireturn, 1) := by decide +kernel
theorem dX9_readNumber_139 : decode cX9_readNumber 139 = .ok (.aload_n 0, 1) := by decide +kernel
theorem dX9_readNumber_140 : decode cX9_readNumber 140 = .ok (.iload 4, 2) := by decide +kernel
theorem dX9_readNumber_142 : decode cX9_readNumber 142 = .ok (.putfield 25, 3) := by decide +kernel
theorem dX9_readNumber_145 : decode cX9_readNumber 145 = .ok (.iconst 1, 1) := by decide +kernel
theorem dX9_readNumber_146 : decode cX9_readNumber 146 = .ok (.ireturn, 1) := by decide +kernel
theorem dX9_seen_0 : decode cX9_seen 0 = .ok (.aload_n 0, 1) := by decide +kernel
theorem dX9_seen_1 : decode cX9_seen 1 = .ok (.getfield 19, 3) := by decide +kernel
theorem dX9_seen_4 : decode cX9_seen 4 = .ok (.aload_n 0, 1) := by decide +kernel
theorem dX9_seen_5 : decode cX9_seen 5 = .ok (.getfield 15, 3) := by decide +kernel
theorem dX9_seen_8 : decode cX9_seen 8 = .ok (.if_icmp .ge 30, 3) := by decide +kernel
theorem dX9_seen_11 : decode cX9_seen 11 = .ok (.aload_n 0, 1) := by decide +kernel
theorem dX9_seen_12 : decode cX9_seen 12 = .ok (.getfield 9, 3) := by decide +kernel
theorem dX9_seen_15 : decode cX9_seen 15 = .ok (.aload_n 0, 1) := by decide +kernel
theorem dX9_seen_16 : decode cX9_seen 16 = .ok (.getfield 19, 3) := by decide +kernel
theorem dX9_seen_19 : decode cX9_seen 19 = .ok (.iaload, 1) := by decide +kernel
theorem dX9_seen_20 : decode cX9_seen 20 = .ok (.bipush 32, 2) := by decide +kernel
theorem dX9_seen_22 : decode cX9_seen 22 = .ok (.if_icmp .ne 16, 3) := by decide +kernel
theorem dX9_seen_25 : decode cX9_seen 25 = .ok (.aload_n 0, 1) := by decide +kernel
theorem dX9_seen_26 : decode cX9_seen 26 = .ok (.dup, 1) := by decide +kernel
theorem dX9_seen_27 : decode cX9_seen 27 = .ok (.getfield 19, 3) := by decide +kernel
theorem dX9_seen_30 : decode cX9_seen 30 = .ok (.iconst 1, 1) := by decide +kernel
theorem dX9_seen_31 : decode cX9_seen 31 = .ok (.iadd, 1) := by decide +kernel
theorem dX9_seen_32 : decode cX9_seen 32 = .ok (.putfield 19, 3) := by decide +kernel
theorem dX9_seen_35 : decode cX9_seen 35 = .ok (.goto (-35), 3) := by decide +kernel
theorem dX9_seen_38 : decode cX9_seen 38 = .ok (.aload_n 0, 1) := by decide +kernel
theorem dX9_seen_39 : decode cX9_seen 39 = .ok (.getfield 19, 3) := by decide +kernel
theorem dX9_seen_42 : decode cX9_seen 42 = .ok (.aload_n 0, 1) := by decide +kernel
theorem dX9_seen_43 : decode cX9_seen 43 = .ok (.getfield 15, 3) := by decide +kernel
theorem dX9_seen_46 : decode cX9_seen 46 = .ok (.if_icmp .ge 15, 3) := by decide +kernel
theorem dX9_seen_49 : decode cX9_seen 49 = .ok (.aload_n 0, 1) := by decide +kernel
theorem dX9_seen_50 : decode cX9_seen 50 = .ok (.getfield 9, 3) := by decide +kernel
theorem dX9_seen_53 : decode cX9_seen 53 = .ok (.aload_n 0, 1) := by decide +kernel
theorem dX9_seen_54 : decode cX9_seen 54 = .ok (.getfield 19, 3) := by decide +kernel
theorem dX9_seen_57 : decode cX9_seen 57 = .ok (.iaload, 1) := by decide +kernel
theorem dX9_seen_58 : decode cX9_seen 58 = .ok (.goto 4, 3) := by decide +kernel
theorem dX9_seen_61 : decode cX9_seen 61 = .ok (.iconst (-1), 1) := by decide +kernel
theorem dX9_seen_62 : decode cX9_seen 62 = .ok (.ireturn, 1) := by decide +kernel
theorem dX9_word_0 : decode cX9_word 0 = .ok (.aload_n 0, 1) := by decide +kernel
theorem dX9_word_1 : decode cX9_word 1 = .ok (.invokevirtual 31, 3) := by decide +kernel
theorem dX9_word_4 : decode cX9_word 4 = .ok (.pop, 1) := by decide +kernel
theorem dX9_word_5 : decode cX9_word 5 = .ok (.aload_n 0, 1) := by decide +kernel
theorem dX9_word_6 : decode cX9_word 6 = .ok (.aload_n 0, 1) := by decide +kernel
theorem dX9_word_7 : decode cX9_word 7 = .ok (.getfield 19, 3) := by decide +kernel
theorem dX9_word_10 : decode cX9_word 10 = .ok (.putfield 28, 3) := by decide +kernel
theorem dX9_word_13 : decode cX9_word 13 = .ok (.aload_n 0, 1) := by decide +kernel
theorem dX9_word_14 : decode cX9_word 14 = .ok (.getfield 28, 3) := by decide +kernel
theorem dX9_word_17 : decode cX9_word 17 = .ok (.aload_n 0, 1) := by decide +kernel
theorem dX9_word_18 : decode cX9_word 18 = .ok (.getfield 15, 3) := by decide +kernel
theorem dX9_word_21 : decode cX9_word 21 = .ok (.if_icmp .ge 44, 3) := by decide +kernel
theorem dX9_word_24 : decode cX9_word 24 = .ok (.aload_n 0, 1) := by decide +kernel
theorem dX9_word_25 : decode cX9_word 25 = .ok (.getfield 9, 3) := by decide +kernel
theorem dX9_word_28 : decode cX9_word 28 = .ok (.aload_n 0, 1) := by decide +kernel
theorem dX9_word_29 : decode cX9_word 29 = .ok (.getfield 28, 3) := by decide +kernel
theorem dX9_word_32 : decode cX9_word 32 = .ok (.iaload, 1) := by decide +kernel
theorem dX9_word_33 : decode cX9_word 33 = .ok (.bipush 97, 2) := by decide +kernel
theorem dX9_word_35 : decode cX9_word 35 = .ok (.if_icmp .lt 30, 3) := by decide +kernel
theorem dX9_word_38 : decode cX9_word 38 = .ok (.aload_n 0, 1) := by decide +kernel
theorem dX9_word_39 : decode cX9_word 39 = .ok (.getfield 9, 3) := by decide +kernel
theorem dX9_word_42 : decode cX9_word 42 = .ok (.aload_n 0, 1) := by decide +kernel
theorem dX9_word_43 : decode cX9_word 43 = .ok (.getfield 28, 3) := by decide +kernel
theorem dX9_word_46 : decode cX9_word 46 = .ok (.iaload, 1) := by decide +kernel
theorem dX9_word_47 : decode cX9_word 47 = .ok (.bipush 122, 2) := by decide +kernel
theorem dX9_word_49 : decode cX9_word 49 = .ok (.if_icmp .gt 16, 3) := by decide +kernel
theorem dX9_word_52 : decode cX9_word 52 = .ok (.aload_n 0, 1) := by decide +kernel
theorem dX9_word_53 : decode cX9_word 53 = .ok (.dup, 1) := by decide +kernel
theorem dX9_word_54 : decode cX9_word 54 = .ok (.getfield 28, 3) := by decide +kernel
theorem dX9_word_57 : decode cX9_word 57 = .ok (.iconst 1, 1) := by decide +kernel
theorem dX9_word_58 : decode cX9_word 58 = .ok (.iadd, 1) := by decide +kernel
theorem dX9_word_59 : decode cX9_word 59 = .ok (.putfield 28, 3) := by decide +kernel
theorem dX9_word_62 : decode cX9_word 62 = .ok (.goto (-49), 3) := by decide +kernel
theorem dX9_word_65 : decode cX9_word 65 = .ok (.aload_n 0, 1) := by decide +kernel
theorem dX9_word_66 : decode cX9_word 66 = .ok (.getfield 28, 3) := by decide +kernel
theorem dX9_word_69 : decode cX9_word 69 = .ok (.aload_n 0, 1) := by decide +kernel
theorem dX9_word_70 : decode cX9_word 70 = .ok (.getfield 19, 3) := by decide +kernel
theorem dX9_word_73 : decode cX9_word 73 = .ok (.if_icmp .eq 17, 3) := by decide +kernel
theorem dX9_word_76 : decode cX9_word 76 = .ok (.aload_n 0, 1) := by decide +kernel
theorem dX9_word_77 : decode cX9_word 77 = .ok (.getfield 28, 3) := by decide +kernel
theorem dX9_word_80 : decode cX9_word 80 = .ok (.aload_n 0, 1) := by decide +kernel
theorem dX9_word_81 : decode cX9_word 81 = .ok (.getfield 19, 3) := by decide +kernel
theorem dX9_word_84 : decode cX9_word 84 = .ok (.isub, 1) := by decide +kernel
theorem dX9_word_85 : decode cX9_word 85 = .ok (.bipush 8, 2) := by decide +kernel
theorem dX9_word_87 : decode cX9_word 87 = .ok (.if_icmp .lt 5, 3) := by decide +kernel
theorem dX9_word_90 : decode cX9_word 90 = .ok (.iconst (-1), 1) := by decide +kernel
theorem dX9_word_91 : decode cX9_word 91 = .ok (.ireturn, 1) := by decide +kernel
theorem dX9_word_92 : decode cX9_word 92 = .ok (.iconst 0, 1) := by decide +kernel
theorem dX9_word_93 : decode cX9_word 93 = .ok (.istore_n 1, 1) := by decide +kernel
theorem dX9_word_94 : decode cX9_word 94 = .ok (.iload_n 1, 1) := by decide +kernel
theorem dX9_word_95 : decode cX9_word 95 = .ok (.bipush 18, 2) := by decide +kernel
theorem dX9_word_97 : decode cX9_word 97 = .ok (.if_icmp .ge 31, 3) := by decide +kernel
theorem dX9_word_100 : decode cX9_word 100 = .ok (.aload_n 0, 1) := by decide +kernel
theorem dX9_word_101 : decode cX9_word 101 = .ok (.iload_n 1, 1) := by decide +kernel
theorem dX9_word_102 : decode cX9_word 102 = .ok (.bipush 8, 2) := by decide +kernel
theorem dX9_word_104 : decode cX9_word 104 = .ok (.imul, 1) := by decide +kernel
theorem dX9_word_105 : decode cX9_word 105 = .ok (.aload_n 0, 1) := by decide +kernel
theorem dX9_word_106 : decode cX9_word 106 = .ok (.getfield 28, 3) := by decide +kernel
theorem dX9_word_109 : decode cX9_word 109 = .ok (.aload_n 0, 1) := by decide +kernel
theorem dX9_word_110 : decode cX9_word 110 = .ok (.getfield 19, 3) := by decide +kernel
theorem dX9_word_113 : decode cX9_word 113 = .ok (.isub, 1) := by decide +kernel
theorem dX9_word_114 : decode cX9_word 114 = .ok (.invokevirtual 35, 3) := by decide +kernel
theorem dX9_word_117 : decode cX9_word 117 = .ok (.ifCond .eq 5, 3) := by decide +kernel
theorem dX9_word_120 : decode cX9_word 120 = .ok (.iload_n 1, 1) := by decide +kernel
theorem dX9_word_121 : decode cX9_word 121 = .ok (.ireturn, 1) := by decide +kernel
theorem dX9_word_122 : decode cX9_word 122 = .ok (.iinc 1 1, 3) := by decide +kernel
theorem dX9_word_125 : decode cX9_word 125 = .ok (.goto (-31), 3) := by decide +kernel
theorem dX9_word_128 : decode cX9_word 128 = .ok (.iconst (-1), 1) := by decide +kernel
theorem dX9_word_129 : decode cX9_word 129 = .ok (.ireturn, 1) := by decide +kernel
