theorem dX7_launch_30 : decode cX7_launch 30 = .ok (.aload_n 0, 1) := by decide +kernel
theorem dX7_launch_31 : decode cX7_launch 31 = .ok (.getfield 15, 3) := by decide +kernel
theorem dX7_launch_34 : decode cX7_launch 34 = .ok (.arraylength, 1) := by decide +kernel
theorem dX7_launch_35 : decode cX7_launch 35 = .ok (.ifCond .ne 12, 3) := by decide +kernel
theorem dX7_launch_38 : decode cX7_launch 38 = .ok (.aload_n 0, 1) := by decide +kernel
theorem dX7_launch_39 : decode cX7_launch 39 = .ok (.sipush 256, 3) := by decide +kernel
theorem dX7_launch_42 : decode cX7_launch 42 = .ok (.newarray .int, 2) := by decide +kernel
theorem dX7_launch_44 : decode cX7_launch 44 = .ok (.putfield 15, 3) := by decide +kernel
theorem dX7_launch_47 : decode cX7_launch 47 = .ok (.aload_n 0, 1) := by decide +kernel
theorem dX7_launch_48 : decode cX7_launch 48 = .ok (.iconst 0, 1) := by decide +kernel
theorem dX7_launch_49 : decode cX7_launch 49 = .ok (.putfield 18, 3) := by decide +kernel
theorem dX7_launch_52 : decode cX7_launch 52 = .ok (.aload_n 0, 1) := by decide +kernel
theorem dX7_launch_53 : decode cX7_launch 53 = .ok (.iconst 0, 1) := by decide +kernel
theorem dX7_launch_54 : decode cX7_launch 54 = .ok (.putfield 22, 3) := by decide +kernel
theorem dX7_launch_57 : decode cX7_launch 57 = .ok (.aload_n 0, 1) := by decide +kernel
theorem dX7_launch_58 : decode cX7_launch 58 = .ok (.iload_n 1, 1) := by decide +kernel
theorem dX7_launch_59 : decode cX7_launch 59 = .ok (.iconst 1, 1) := by decide +kernel
theorem dX7_launch_60 : decode cX7_launch 60 = .ok (.invokevirtual 110, 3) := by decide +kernel
theorem dX7_launch_63 : decode cX7_launch 63 = .ok (.return_, 1) := by decide +kernel
theorem dX7_leading_0 : decode cX7_leading 0 = .ok (.iload_n 1, 1) := by decide +kernel
theorem dX7_leading_1 : decode cX7_leading 1 = .ok (.aload_n 0, 1) := by decide +kernel
theorem dX7_leading_2 : decode cX7_leading 2 = .ok (.iload_n 2, 1) := by decide +kernel
theorem dX7_leading_3 : decode cX7_leading 3 = .ok (.invokevirtual 71, 3) := by decide +kernel
theorem dX7_leading_6 : decode cX7_leading 6 = .ok (.ishr, 1) := by decide +kernel
theorem dX7_leading_7 : decode cX7_leading 7 = .ok (.bipush 7, 2) := by decide +kernel
theorem dX7_leading_9 : decode cX7_leading 9 = .ok (.iand, 1) := by decide +kernel
theorem dX7_leading_10 : decode cX7_leading 10 = .ok (.istore_n 3, 1) := by decide +kernel
theorem dX7_leading_11 : decode cX7_leading 11 = .ok (.aload_n 0, 1) := by decide +kernel
theorem dX7_leading_12 : decode cX7_leading 12 = .ok (.getfield 49, 3) := by decide +kernel
theorem dX7_leading_15 : decode cX7_leading 15 = .ok (.getfield 132, 3) := by decide +kernel
theorem dX7_leading_18 : decode cX7_leading 18 = .ok (.iload_n 3, 1) := by decide +kernel
theorem dX7_leading_19 : decode cX7_leading 19 = .ok (.iaload, 1) := by decide +kernel
theorem dX7_leading_20 : decode cX7_leading 20 = .ok (.iload_n 1, 1) := by decide +kernel
theorem dX7_leading_21 : decode cX7_leading 21 = .ok (.iconst (-1), 1) := by decide +kernel
theorem dX7_leading_22 : decode cX7_leading 22 = .ok (.ixor, 1) := by decide +kernel
theorem dX7_leading_23 : decode cX7_leading 23 = .ok (.iand, 1) := by decide +kernel
theorem dX7_leading_24 : decode cX7_leading 24 = .ok (.aload_n 0, 1) := by decide +kernel
theorem dX7_leading_25 : decode cX7_leading 25 = .ok (.getfield 49, 3) := by decide +kernel
theorem dX7_leading_28 : decode cX7_leading 28 = .ok (.getfield 135, 3) := by decide +kernel
theorem dX7_leading_31 : decode cX7_leading 31 = .ok (.iload_n 3, 1) := by decide +kernel
theorem dX7_leading_32 : decode cX7_leading 32 = .ok (.iaload, 1) := by decide +kernel
theorem dX7_leading_33 : decode cX7_leading 33 = .ok (.iload_n 1, 1) := by decide +kernel
theorem dX7_leading_34 : decode cX7_leading 34 = .ok (.iand, 1) := by decide +kernel
theorem dX7_leading_35 : decode cX7_leading 35 = .ok (.ior, 1) := by decide +kernel
theorem dX7_leading_36 : decode cX7_leading 36 = .ok (.aload_n 0, 1) := by decide +kernel
theorem dX7_leading_37 : decode cX7_leading 37 = .ok (.getfield 34, 3) := by decide +kernel
theorem dX7_leading_40 : decode cX7_leading 40 = .ok (.iand, 1) := by decide +kernel
theorem dX7_leading_41 : decode cX7_leading 41 = .ok (.ireturn, 1) := by decide +kernel
theorem dX7_leastGoing_0 : decode cX7_leastGoing 0 = .ok (.iconst 0, 1) := by decide +kernel
theorem dX7_leastGoing_1 : decode cX7_leastGoing 1 = .ok (.istore_n 3, 1) := by decide +kernel
theorem dX7_leastGoing_2 : decode cX7_leastGoing 2 = .ok (.iload_n 3, 1) := by decide +kernel
theorem dX7_leastGoing_3 : decode cX7_leastGoing 3 = .ok (.aload_n 0, 1) := by decide +kernel
theorem dX7_leastGoing_4 : decode cX7_leastGoing 4 = .ok (.getfield 28, 3) := by decide +kernel
theorem dX7_leastGoing_7 : decode cX7_leastGoing 7 = .ok (.if_icmp .ge 69, 3) := by decide +kernel
theorem dX7_leastGoing_10 : decode cX7_leastGoing 10 = .ok (.aload_n 0, 1) := by decide +kernel
theorem dX7_leastGoing_11 : decode cX7_leastGoing 11 = .ok (.iload_n 1, 1) := by decide +kernel
theorem dX7_leastGoing_12 : decode cX7_leastGoing 12 = .ok (.iload_n 3, 1) := by decide +kernel
theorem dX7_leastGoing_13 : decode cX7_leastGoing 13 = .ok (.invokevirtual 123, 3) := by decide +kernel
theorem dX7_leastGoing_16 : decode cX7_leastGoing 16 = .ok (.istore 4, 2) := by decide +kernel
theorem dX7_leastGoing_18 : decode cX7_leastGoing 18 = .ok (.iconst 0, 1) := by decide +kernel
theorem dX7_leastGoing_19 : decode cX7_leastGoing 19 = .ok (.istore 5, 2) := by decide +kernel
theorem dX7_leastGoing_21 : decode cX7_leastGoing 21 = .ok (.iload 5, 2) := by decide +kernel
theorem dX7_leastGoing_23 : decode cX7_leastGoing 23 = .ok (.aload_n 0, 1) := by decide +kernel
theorem dX7_leastGoing_24 : decode cX7_leastGoing 24 = .ok (.getfield 31, 3) := by decide +kernel
theorem dX7_leastGoing_27 : decode cX7_leastGoing 27 = .ok (.if_icmp .ge 43, 3) := by decide +kernel
theorem dX7_leastGoing_30 : decode cX7_leastGoing 30 = .ok (.iload 4, 2) := by decide +kernel
theorem dX7_leastGoing_32 : decode cX7_leastGoing 32 = .ok (.iload 5, 2) := by decide +kernel
theorem dX7_leastGoing_34 : decode cX7_leastGoing 34 = .ok (.ishr, 1) := by decide +kernel
theorem dX7_leastGoing_35 : decode cX7_leastGoing 35 = .ok (.iconst 1, 1) := by decide +kernel
theorem dX7_leastGoing_36 : decode cX7_leastGoing 36 = .ok (.iand, 1) := by decide +kernel
theorem dX7_leastGoing_37 : decode cX7_leastGoing 37 = .ok (.ifCond .eq 27, 3) := by decide +kernel
theorem dX7_leastGoing_40 : decode cX7_leastGoing 40 = .ok (.aload_n 0, 1) := by decide +kernel
theorem dX7_leastGoing_41 : decode cX7_leastGoing 41 = .ok (.aload_n 0, 1) := by decide +kernel
theorem dX7_leastGoing_42 : decode cX7_leastGoing 42 = .ok (.iload_n 1, 1) := by decide +kernel
theorem dX7_leastGoing_43 : decode cX7_leastGoing 43 = .ok (.iload_n 3, 1) := by decide +kernel
theorem dX7_leastGoing_44 : decode cX7_leastGoing 44 = .ok (.iload 5, 2) := by decide +kernel
theorem dX7_leastGoing_46 : decode cX7_leastGoing 46 = .ok (.invokevirtual 98, 3) := by decide +kernel
theorem dX7_leastGoing_49 : decode cX7_leastGoing 49 = .ok (.invokevirtual 129, 3) := by decide +kernel
theorem dX7_leastGoing_52 : decode cX7_leastGoing 52 = .ok (.iload_n 2, 1) := by decide +kernel
theorem dX7_leastGoing_53 : decode cX7_leastGoing 53 = .ok (.if_icmp .ne 11, 3) := by decide +kernel
theorem dX7_leastGoing_56 : decode cX7_leastGoing 56 = .ok (.bipush 16, 2) := by decide +kernel
theorem dX7_leastGoing_58 : decode cX7_leastGoing 58 = .ok (.iload_n 3, 1) := by decide +kernel
theorem dX7_leastGoing_59 : decode cX7_leastGoing 59 = .ok (.imul, 1) := by decide +kernel
theorem dX7_leastGoing_60 : decode cX7_leastGoing 60 = .ok (.iload 5, 2) := by decide +kernel
theorem dX7_leastGoing_62 : decode cX7_leastGoing 62 = .ok (.iadd, 1) := by decide +kernel
theorem dX7_leastGoing_63 : decode cX7_leastGoing 63 = .ok (.ireturn, 1) := by decide +kernel
theorem dX7_leastGoing_64 : decode cX7_leastGoing 64 = .ok (.iinc 5 1, 3) := by decide +kernel
theorem dX7_leastGoing_67 : decode cX7_leastGoing 67 = .ok (.goto (-46), 3) := by decide +kernel
theorem dX7_leastGoing_70 : decode cX7_leastGoing 70 = .ok (.iinc 3 1, 3) := by decide +kernel
theorem dX7_leastGoing_73 : decode cX7_leastGoing 73 = .ok (.goto (-71), 3) := by decide +kernel
theorem dX7_leastGoing_76 : decode cX7_leastGoing 76 = .ok (.iconst (-1), 1) := by decide +kernel
theorem dX7_leastGoing_77 : decode cX7_leastGoing 77 = .ok (.ireturn, 1) := by decide +kernel
theorem dX7_mark_0 : decode cX7_mark 0 = .ok (.aload_n 0, 1) := by decide +kernel
theorem dX7_mark_1 : decode cX7_mark 1 = .ok (.getfield 11, 3) := by decide +kernel
theorem dX7_mark_4 : decode cX7_mark 4 = .ok (.iload_n 1, 1) := by decide +kernel
theorem dX7_mark_5 : decode cX7_mark 5 = .ok (.iconst 4, 1) := by decide +kernel
theorem dX7_mark_6 : decode cX7_mark 6 = .ok (.ishr, 1) := by decide +kernel
theorem dX7_mark_7 : decode cX7_mark 7 = .ok (.iaload, 1) := by decide +kernel
theorem dX7_mark_8 : decode cX7_mark 8 = .ok (.iconst 2, 1) := by decide +kernel
theorem dX7_mark_9 : decode cX7_mark 9 = .ok (.iload_n 1, 1) := by decide +kernel
theorem dX7_mark_10 : decode cX7_mark 10 = .ok (.bipush 15, 2) := by decide +kernel
theorem dX7_mark_12 : decode cX7_mark 12 = .ok (.iand, 1) := by decide +kernel
theorem dX7_mark_13 : decode cX7_mark 13 = .ok (.imul, 1) := by decide +kernel
theorem dX7_mark_14 : decode cX7_mark 14 = .ok (.ishr, 1) := by decide +kernel
theorem dX7_mark_15 : decode cX7_mark 15 = .ok (.iconst 3, 1) := by decide +kernel
theorem dX7_mark_16 : decode cX7_mark 16 = .ok (.iand, 1) := by decide +kernel
theorem dX7_mark_17 : decode cX7_mark 17 = .ok (.ireturn, 1) := by decide +kernel
theorem dX7_note_0 : decode cX7_note 0 = .ok (.aload_n 0, 1) := by decide +kernel
theorem dX7_note_1 : decode cX7_note 1 = .ok (.getfield 11, 3) := by decide +kernel
theorem dX7_note_4 : decode cX7_note 4 = .ok (.iload_n 1, 1) := by decide +kernel
theorem dX7_note_5 : decode cX7_note 5 = .ok (.iconst 4, 1) := by decide +kernel
theorem dX7_note_6 : decode cX7_note 6 = .ok (.ishr, 1) := by decide +kernel
theorem dX7_note_7 : decode cX7_note 7 = .ok (.dup2, 1) := by decide +kernel
theorem dX7_note_8 : decode cX7_note 8 = .ok (.iaload, 1) := by decide +kernel
theorem dX7_note_9 : decode cX7_note 9 = .ok (.iload_n 2, 1) := by decide +kernel
theorem dX7_note_10 : decode cX7_note 10 = .ok (.iconst 2, 1) := by decide +kernel
theorem dX7_note_11 : decode cX7_note 11 = .ok (.iload_n 1, 1) := by decide +kernel
theorem dX7_note_12 : decode cX7_note 12 = .ok (.bipush 15, 2) := by decide +kernel
theorem dX7_note_14 : decode cX7_note 14 = .ok (.iand, 1) := by decide +kernel
theorem dX7_note_15 : decode cX7_note 15 = .ok (.imul, 1) := by decide +kernel
theorem dX7_note_16 : decode cX7_note 16 = .ok (.ishl, 1) := by decide +kernel
theorem dX7_note_17 : decode cX7_note 17 = .ok (.ior, 1) := by decide +kernel
theorem dX7_note_18 : decode cX7_note 18 = .ok (.iastore, 1) := by decide +kernel
theorem dX7_note_19 : decode cX7_note 19 = .ok (.aload_n 0, 1) := by decide +kernel
theorem dX7_note_20 : decode cX7_note 20 = .ok (.getfield 18, 3) := by decide +kernel
theorem dX7_note_23 : decode cX7_note 23 = .ok (.aload_n 0, 1) := by decide +kernel
theorem dX7_note_24 : decode cX7_note 24 = .ok (.getfield 15, 3) := by decide +kernel
theorem dX7_note_27 : decode cX7_note 27 = .ok (.arraylength, 1) := by decide +kernel
theorem dX7_note_28 : decode cX7_note 28 = .ok (.if_icmp .ne 20, 3) := by decide +kernel
theorem dX7_note_31 : decode cX7_note 31 = .ok (.aload_n 0, 1) := by decide +kernel
theorem dX7_note_32 : decode cX7_note 32 = .ok (.aload_n 0, 1) := by decide +kernel
theorem dX7_note_33 : decode cX7_note 33 = .ok (.getfield 15, 3) := by decide +kernel
theorem dX7_note_36 : decode cX7_note 36 = .ok (.iconst 2, 1) := by decide +kernel
theorem dX7_note_37 : decode cX7_note 37 = .ok (.aload_n 0, 1) := by decide +kernel
theorem dX7_note_38 : decode cX7_note 38 = .ok (.getfield 18, 3) := by decide +kernel
theorem dX7_note_41 : decode cX7_note 41 = .ok (.imul, 1) := by decide +kernel
theorem dX7_note_42 : decode cX7_note 42 = .ok (.invokestatic 113, 3) := by decide +kernel
theorem dX7_note_45 : decode cX7_note 45 = .ok (.putfield 15, 3) := by decide +kernel
theorem dX7_note_48 : decode cX7_note 48 = .ok (.aload_n 0, 1) := by decide +kernel
theorem dX7_note_49 : decode cX7_note 49 = .ok (.getfield 15, 3) := by decide +kernel
theorem dX7_note_52 : decode cX7_note 52 = .ok (.aload_n 0, 1) := by decide +kernel
theorem dX7_note_53 : decode cX7_note 53 = .ok (.getfield 18, 3) := by decide +kernel
theorem dX7_note_56 : decode cX7_note 56 = .ok (.iload_n 1, 1) := by decide +kernel
theorem dX7_note_57 : decode cX7_note 57 = .ok (.iastore, 1) := by decide +kernel
theorem dX7_note_58 : decode cX7_note 58 = .ok (.aload_n 0, 1) := by decide +kernel
theorem dX7_note_59 : decode cX7_note 59 = .ok (.dup, 1) := by decide +kernel
theorem dX7_note_60 : decode cX7_note 60 = .ok (.getfield 18, 3) := by decide +kernel
theorem dX7_note_63 : decode cX7_note 63 = .ok (.iconst 1, 1) := by decide +kernel
theorem dX7_note_64 : decode cX7_note 64 = .ok (.iadd, 1) := by decide +kernel
theorem dX7_note_65 : decode cX7_note 65 = .ok (.putfield 18, 3) := by decide +kernel
theorem dX7_note_68 : decode cX7_note 68 = .ok (.return_, 1) := by decide +kernel
theorem dX7_places_0 : decode cX7_places 0 = .ok (.iconst 1, 1) := by decide +kernel
theorem dX7_places_1 : decode cX7_places 1 = .ok (.aload_n 0, 1) := by decide +kernel
theorem dX7_places_2 : decode cX7_places 2 = .ok (.aload_n 0, 1) := by decide +kernel
theorem dX7_places_3 : decode cX7_places 3 = .ok (.getfield 28, 3) := by decide +kernel
theorem dX7_places_6 : decode cX7_places 6 = .ok (.invokevirtual 71, 3) := by decide +kernel
theorem dX7_places_9 : decode cX7_places 9 = .ok (.ishl, 1) := by decide +kernel
theorem dX7_places_10 : decode cX7_places 10 = .ok (.iconst 1, 1) := by decide +kernel
theorem dX7_places_11 : decode cX7_places 11 = .ok (.aload_n 0, 1) := by decide +kernel
theorem dX7_places_12 : decode cX7_places 12 = .ok (.getfield 31, 3) := by decide +kernel
theorem dX7_places_15 : decode cX7_places 15 = .ok (.ishl, 1) := by decide +kernel
theorem dX7_places_16 : decode cX7_places 16 = .ok (.isub, 1) := by decide +kernel
theorem dX7_places_17 : decode cX7_places 17 = .ok (.ireturn, 1) := by decide +kernel
theorem dX7_postRound_0 : decode cX7_postRound 0 = .ok (.aload_n 0, 1) := by decide +kernel
theorem dX7_postRound_1 : decode cX7_postRound 1 = .ok (.iload_n 1, 1) := by decide +kernel
theorem dX7_postRound_2 : decode cX7_postRound 2 = .ok (.putfield 40, 3) := by decide +kernel
theorem dX7_postRound_5 : decode cX7_postRound 5 = .ok (.aload_n 0, 1) := by decide +kernel
theorem dX7_postRound_6 : decode cX7_postRound 6 = .ok (.getfield 37, 3) := by decide +kernel
theorem dX7_postRound_9 : decode cX7_postRound 9 = .ok (.aload_n 0, 1) := by decide +kernel
theorem dX7_postRound_10 : decode cX7_postRound 10 = .ok (.getfield 31, 3) := by decide +kernel
theorem dX7_postRound_13 : decode cX7_postRound 13 = .ok (.ishr, 1) := by decide +kernel
theorem dX7_postRound_14 : decode cX7_postRound 14 = .ok (.bipush 7, 2) := by decide +kernel
theorem dX7_postRound_16 : decode cX7_postRound 16 = .ok (.iand, 1) := by decide +kernel
theorem dX7_postRound_17 : decode cX7_postRound 17 = .ok (.istore_n 3, 1) := by decide +kernel
theorem dX7_postRound_18 : decode cX7_postRound 18 = .ok (.aload_n 0, 1) := by decide +kernel
theorem dX7_postRound_19 : decode cX7_postRound 19 = .ok (.iconst 1, 1) := by decide +kernel
theorem dX7_postRound_20 : decode cX7_postRound 20 = .ok (.invokevirtual 71, 3) := by decide +kernel
theorem dX7_postRound_23 : decode cX7_postRound 23 = .ok (.istore 4, 2) := by decide +kernel
theorem dX7_postRound_25 : decode cX7_postRound 25 = .ok (.aload_n 0, 1) := by decide +kernel
theorem dX7_postRound_26 : decode cX7_postRound 26 = .ok (.aload_n 0, 1) := by decide +kernel
theorem dX7_postRound_27 : decode cX7_postRound 27 = .ok (.getfield 37, 3) := by decide +kernel
theorem dX7_postRound_30 : decode cX7_postRound 30 = .ok (.iconst 1, 1) := by decide +kernel
theorem dX7_postRound_31 : decode cX7_postRound 31 = .ok (.iload_n 3, 1) := by decide +kernel
theorem dX7_postRound_32 : decode cX7_postRound 32 = .ok (.ishl, 1) := by decide +kernel
theorem dX7_postRound_33 : decode cX7_postRound 33 = .ok (.iload_n 1, 1) := by decide +kernel
theorem dX7_postRound_34 : decode cX7_postRound 34 = .ok (.iand, 1) := by decide +kernel
theorem dX7_postRound_35 : decode cX7_postRound 35 = .ok (.iload 4, 2) := by decide +kernel
theorem dX7_postRound_37 : decode cX7_postRound 37 = .ok (.ishl, 1) := by decide +kernel
theorem dX7_postRound_38 : decode cX7_postRound 38 = .ok (.ior, 1) := by decide +kernel
theorem dX7_postRound_39 : decode cX7_postRound 39 = .ok (.iload 4, 2) := by decide +kernel
theorem dX7_postRound_41 : decode cX7_postRound 41 = .ok (.bipush 8, 2) := by decide +kernel
theorem dX7_postRound_43 : decode cX7_postRound 43 = .ok (.iadd, 1) := by decide +kernel
theorem dX7_postRound_44 : decode cX7_postRound 44 = .ok (.invokevirtual 75, 3) := by decide +kernel
theorem dX7_postRound_47 : decode cX7_postRound 47 = .ok (.sipush 255, 3) := by decide +kernel
theorem dX7_postRound_50 : decode cX7_postRound 50 = .ok (.iload 4, 2) := by decide +kernel
theorem dX7_postRound_52 : decode cX7_postRound 52 = .ok (.ishl, 1) := by decide +kernel
theorem dX7_postRound_53 : decode cX7_postRound 53 = .ok (.iload_n 2, 1) := by decide +kernel
theorem dX7_postRound_54 : decode cX7_postRound 54 = .ok (.ifCond .eq 13, 3) := by decide +kernel
theorem dX7_postRound_57 : decode cX7_postRound 57 = .ok (.bipush 7, 2) := by decide +kernel
theorem dX7_postRound_59 : decode cX7_postRound 59 = .ok (.aload_n 0, 1) := by decide +kernel
theorem dX7_postRound_60 : decode cX7_postRound 60 = .ok (.getfield 31, 3) := by decide +kernel
theorem dX7_postRound_63 : decode cX7_postRound 63 = .ok (.ishl, 1) := by decide +kernel
theorem dX7_postRound_64 : decode cX7_postRound 64 = .ok (.goto 4, 3) := by decide +kernel
theorem dX7_postRound_67 : decode cX7_postRound 67 = .ok (.iconst 0, 1) := by decide +kernel
theorem dX7_postRound_68 : decode cX7_postRound 68 = .ok (.ior, 1) := by decide +kernel
theorem dX7_postRound_69 : decode cX7_postRound 69 = .ok (.istore 5, 2) := by decide +kernel
theorem dX7_postRound_71 : decode cX7_postRound 71 = .ok (.aload_n 0, 1) := by decide +kernel
theorem dX7_postRound_72 : decode cX7_postRound 72 = .ok (.iload 5, 2) := by decide +kernel
theorem dX7_postRound_74 : decode cX7_postRound 74 = .ok (.iload_n 1, 1) := by decide +kernel
theorem dX7_postRound_75 : decode cX7_postRound 75 = .ok (.iload 4, 2) := by decide +kernel
theorem dX7_postRound_77 : decode cX7_postRound 77 = .ok (.ishl, 1) := by decide +kernel
theorem dX7_postRound_78 : decode cX7_postRound 78 = .ok (.iload_n 2, 1) := by decide +kernel
theorem dX7_postRound_79 : decode cX7_postRound 79 = .ok (.ifCond .eq 12, 3) := by decide +kernel
theorem dX7_postRound_82 : decode cX7_postRound 82 = .ok (.iload_n 3, 1) := by decide +kernel
theorem dX7_postRound_83 : decode cX7_postRound 83 = .ok (.aload_n 0, 1) := by decide +kernel
theorem dX7_postRound_84 : decode cX7_postRound 84 = .ok (.getfield 31, 3) := by decide +kernel
theorem dX7_postRound_87 : decode cX7_postRound 87 = .ok (.ishl, 1) := by decide +kernel
theorem dX7_postRound_88 : decode cX7_postRound 88 = .ok (.goto 4, 3) := by decide +kernel
theorem dX7_postRound_91 : decode cX7_postRound 91 = .ok (.iconst 0, 1) := by decide +kernel
theorem dX7_postRound_92 : decode cX7_postRound 92 = .ok (.ior, 1) := by decide +kernel
theorem dX7_postRound_93 : decode cX7_postRound 93 = .ok (.invokevirtual 85, 3) := by decide +kernel
theorem dX7_postRound_96 : decode cX7_postRound 96 = .ok (.istore 6, 2) := by decide +kernel
theorem dX7_postRound_98 : decode cX7_postRound 98 = .ok (.aload_n 0, 1) := by decide +kernel
theorem dX7_postRound_99 : decode cX7_postRound 99 = .ok (.invokevirtual 89, 3) := by decide +kernel
theorem dX7_postRound_102 : decode cX7_postRound 102 = .ok (.iload 6, 2) := by decide +kernel
theorem dX7_postRound_104 : decode cX7_postRound 104 = .ok (.ireturn, 1) := by decide +kernel
theorem dX7_seek_0 : decode cX7_seek 0 = .ok (.iconst 0, 1) := by decide +kernel
theorem dX7_seek_1 : decode cX7_seek 1 = .ok (.istore_n 3, 1) := by decide +kernel
theorem dX7_seek_2 : decode cX7_seek 2 = .ok (.iload_n 3, 1) := by decide +kernel
theorem dX7_seek_3 : decode cX7_seek 3 = .ok (.aload_n 0, 1) := by decide +kernel
theorem dX7_seek_4 : decode cX7_seek 4 = .ok (.getfield 18, 3) := by decide +kernel
theorem dX7_seek_7 : decode cX7_seek 7 = .ok (.if_icmp .ge 23, 3) := by decide +kernel
theorem dX7_seek_10 : decode cX7_seek 10 = .ok (.aload_n 0, 1) := by decide +kernel
theorem dX7_seek_11 : decode cX7_seek 11 = .ok (.getfield 15, 3) := by decide +kernel
theorem dX7_seek_14 : decode cX7_seek 14 = .ok (.iload_n 3, 1) := by decide +kernel
theorem dX7_seek_15 : decode cX7_seek 15 = .ok (.iaload, 1) := by decide +kernel
theorem dX7_seek_16 : decode cX7_seek 16 = .ok (.iload_n 1, 1) := by decide +kernel
theorem dX7_seek_17 : decode cX7_seek 17 = .ok (.iand, 1) := by decide +kernel
theorem dX7_seek_18 : decode cX7_seek 18 = .ok (.iload_n 2, 1) := by decide +kernel
theorem dX7_seek_19 : decode cX7_seek 19 = .ok (.if_icmp .ne 5, 3) := by decide +kernel
theorem dX7_seek_22 : decode cX7_seek 22 = .ok (.iconst 0, 1) := by decide +kernel
theorem dX7_seek_23 : decode cX7_seek 23 = .ok (.ireturn, 1) := by decide +kernel
theorem dX7_seek_24 : decode cX7_seek 24 = .ok (.iinc 3 1, 3) := by decide +kernel
theorem dX7_seek_27 : decode cX7_seek 27 = .ok (.goto (-25), 3) := by decide +kernel
theorem dX7_seek_30 : decode cX7_seek 30 = .ok (.iconst 1, 1) := by decide +kernel
theorem dX7_seek_31 : decode cX7_seek 31 = .ok (.istore_n 3, 1) := by decide +kernel
theorem dX7_seek_32 : decode cX7_seek 32 = .ok (.iload_n 3, 1) := by decide +kernel
theorem dX7_seek_33 : decode cX7_seek 33 = .ok (.ldc 119, 2) := by decide +kernel
theorem dX7_seek_35 : decode cX7_seek 35 = .ok (.if_icmp .ge 101, 3) := by decide +kernel
theorem dX7_seek_38 : decode cX7_seek 38 = .ok (.aload_n 0, 1) := by decide +kernel
theorem dX7_seek_39 : decode cX7_seek 39 = .ok (.getfield 22, 3) := by decide +kernel
theorem dX7_seek_42 : decode cX7_seek 42 = .ok (.aload_n 0, 1) := by decide +kernel
theorem dX7_seek_43 : decode cX7_seek 43 = .ok (.getfield 18, 3) := by decide +kernel
theorem dX7_seek_46 : decode cX7_seek 46 = .ok (.if_icmp .ge 90, 3) := by decide +kernel
theorem dX7_seek_49 : decode cX7_seek 49 = .ok (.aload_n 0, 1) := by decide +kernel
theorem dX7_seek_50 : decode cX7_seek 50 = .ok (.getfield 18, 3) := by decide +kernel
theorem dX7_seek_53 : decode cX7_seek 53 = .ok (.istore 4, 2) := by decide +kernel
theorem dX7_seek_55 : decode cX7_seek 55 = .ok (.aload_n 0, 1) := by decide +kernel
theorem dX7_seek_56 : decode cX7_seek 56 = .ok (.getfield 22, 3) := by decide +kernel
theorem dX7_seek_59 : decode cX7_seek 59 = .ok (.istore 5, 2) := by decide +kernel
theorem dX7_seek_61 : decode cX7_seek 61 = .ok (.iload 5, 2) := by decide +kernel
theorem dX7_seek_63 : decode cX7_seek 63 = .ok (.iload 4, 2) := by decide +kernel
theorem dX7_seek_65 : decode cX7_seek 65 = .ok (.if_icmp .ge 25, 3) := by decide +kernel
theorem dX7_seek_68 : decode cX7_seek 68 = .ok (.aload_n 0, 1) := by decide +kernel
theorem dX7_seek_69 : decode cX7_seek 69 = .ok (.aload_n 0, 1) := by decide +kernel
theorem dX7_seek_70 : decode cX7_seek 70 = .ok (.getfield 15, 3) := by decide +kernel
theorem dX7_seek_73 : decode cX7_seek 73 = .ok (.iload 5, 2) := by decide +kernel
theorem dX7_seek_75 : decode cX7_seek 75 = .ok (.iaload, 1) := by decide +kernel
theorem dX7_seek_76 : decode cX7_seek 76 = .ok (.iconst 1, 1) := by decide +kernel
theorem dX7_seek_77 : decode cX7_seek 77 = .ok (.iload_n 3, 1) := by decide +kernel
theorem dX7_seek_78 : decode cX7_seek 78 = .ok (.iconst 3, 1) := by decide +kernel
theorem dX7_seek_79 : decode cX7_seek 79 = .ok (.irem, 1) := by decide +kernel
theorem dX7_seek_80 : decode cX7_seek 80 = .ok (.iadd, 1) := by decide +kernel
theorem dX7_seek_81 : decode cX7_seek 81 = .ok (.invokevirtual 120, 3) := by decide +kernel
theorem dX7_seek_84 : decode cX7_seek 84 = .ok (.iinc 5 1, 3) := by decide +kernel
theorem dX7_seek_87 : decode cX7_seek 87 = .ok (.goto (-26), 3) := by decide +kernel
theorem dX7_seek_90 : decode cX7_seek 90 = .ok (.aload_n 0, 1) := by decide +kernel
theorem dX7_seek_91 : decode cX7_seek 91 = .ok (.iload 4, 2) := by decide +kernel
theorem dX7_seek_93 : decode cX7_seek 93 = .ok (.putfield 22, 3) := by decide +kernel
theorem dX7_seek_96 : decode cX7_seek 96 = .ok (.iload 4, 2) := by decide +kernel
theorem dX7_seek_98 : decode cX7_seek 98 = .ok (.istore 5, 2) := by decide +kernel
theorem dX7_seek_100 : decode cX7_seek 100 = .ok (.iload 5, 2) := by decide +kernel
theorem dX7_seek_102 : decode cX7_seek 102 = .ok (.aload_n 0, 1) := by decide +kernel
theorem dX7_seek_103 : decode cX7_seek 103 = .ok (.getfield 18, 3) := by decide +kernel
theorem dX7_seek_106 : decode cX7_seek 106 = .ok (.if_icmp .ge 24, 3) := by decide +kernel
theorem dX7_seek_109 : decode cX7_seek 109 = .ok (.aload_n 0, 1) := by decide +kernel
theorem dX7_seek_110 : decode cX7_seek 110 = .ok (.getfield 15, 3) := by decide +kernel
theorem dX7_seek_113 : decode cX7_seek 113 = .ok (.iload 5, 2) := by decide +kernel
theorem dX7_seek_115 : decode cX7_seek 115 = .ok (.iaload, 1) := by decide +kernel
theorem dX7_seek_116 : decode cX7_seek 116 = .ok (.iload_n 1, 1) := by decide +kernel
theorem dX7_seek_117 : decode cX7_seek 117 = .ok (.iand, 1) := by decide +kernel
theorem dX7_seek_118 : decode cX7_seek 118 = .ok (.iload_n 2, 1) := by decide +kernel
theorem dX7_seek_119 : decode cX7_seek 119 = .ok (.if_icmp .ne 5, 3) := by decide +kernel
theorem dX7_seek_122 : decode cX7_seek 122 = .ok (.iload_n 3, 1) := by decide +kernel
theorem dX7_seek_123 : decode cX7_seek 123 = .ok (.ireturn, 1) := by decide +kernel
theorem dX7_seek_124 : decode cX7_seek 124 = .ok (.iinc 5 1, 3) := by decide +kernel
theorem dX7_seek_127 : decode cX7_seek 127 = .ok (.goto (-27), 3) := by decide +kernel
theorem dX7_seek_130 : decode cX7_seek 130 = .ok (.iinc 3 1, 3) := by decide +kernel
theorem dX7_seek_133 : decode cX7_seek 133 = .ok (.goto (-101), 3) := by decide +kernel
theorem dX7_seek_136 : decode cX7_seek 136 = .ok (.iconst (-1), 1) := by decide +kernel
theorem dX7_seek_137 : decode cX7_seek 137 = .ok (.ireturn, 1) := by decide +kernel
theorem dX7_shift_0 : decode cX7_shift 0 = .ok (.aload_n 0, 1) := by decide +kernel
theorem dX7_shift_1 : decode cX7_shift 1 = .ok (.getfield 31, 3) := by decide +kernel
theorem dX7_shift_4 : decode cX7_shift 4 = .ok (.iconst 3, 1) := by decide +kernel
theorem dX7_shift_5 : decode cX7_shift 5 = .ok (.iload_n 1, 1) := by decide +kernel
theorem dX7_shift_6 : decode cX7_shift 6 = .ok (.imul, 1) := by decide +kernel
theorem dX7_shift_7 : decode cX7_shift 7 = .ok (.iadd, 1) := by decide +kernel
theorem dX7_shift_8 : decode cX7_shift 8 = .ok (.ireturn, 1) := by decide +kernel
theorem dX7_spreadFrom_0 : decode cX7_spreadFrom 0 = .ok (.iconst 0, 1) := by decide +kernel
theorem dX7_spreadFrom_1 : decode cX7_spreadFrom 1 = .ok (.istore_n 3, 1) := by decide +kernel
theorem dX7_spreadFrom_2 : decode cX7_spreadFrom 2 = .ok (.iload_n 3, 1) := by decide +kernel
theorem dX7_spreadFrom_3 : decode cX7_spreadFrom 3 = .ok (.aload_n 0, 1) := by decide +kernel
theorem dX7_spreadFrom_4 : decode cX7_spreadFrom 4 = .ok (.getfield 28, 3) := by decide +kernel
theorem dX7_spreadFrom_7 : decode cX7_spreadFrom 7 = .ok (.if_icmp .ge 76, 3) := by decide +kernel
theorem dX7_spreadFrom_10 : decode cX7_spreadFrom 10 = .ok (.aload_n 0, 1) := by decide +kernel
theorem dX7_spreadFrom_11 : decode cX7_spreadFrom 11 = .ok (.iload_n 1, 1) := by decide +kernel
theorem dX7_spreadFrom_12 : decode cX7_spreadFrom 12 = .ok (.iload_n 3, 1) := by decide +kernel
theorem dX7_spreadFrom_13 : decode cX7_spreadFrom 13 = .ok (.invokevirtual 123, 3) := by decide +kernel
theorem dX7_spreadFrom_16 : decode cX7_spreadFrom 16 = .ok (.istore 4, 2) := by decide +kernel
theorem dX7_spreadFrom_18 : decode cX7_spreadFrom 18 = .ok (.iconst 0, 1) := by decide +kernel
theorem dX7_spreadFrom_19 : decode cX7_spreadFrom 19 = .ok (.istore 5, 2) := by decide +kernel
theorem dX7_spreadFrom_21 : decode cX7_spreadFrom 21 = .ok (.iload 5, 2) := by decide +kernel
theorem dX7_spreadFrom_23 : decode cX7_spreadFrom 23 = .ok (.bipush 14, 2) := by decide +kernel
theorem dX7_spreadFrom_25 : decode cX7_spreadFrom 25 = .ok (.if_icmp .ge 52, 3) := by decide +kernel
theorem dX7_spreadFrom_28 : decode cX7_spreadFrom 28 = .ok (.iload 4, 2) := by decide +kernel
theorem dX7_spreadFrom_30 : decode cX7_spreadFrom 30 = .ok (.ifCond .eq 47, 3) := by decide +kernel
theorem dX7_spreadFrom_33 : decode cX7_spreadFrom 33 = .ok (.aload_n 0, 1) := by decide +kernel
theorem dX7_spreadFrom_34 : decode cX7_spreadFrom 34 = .ok (.iload_n 1, 1) := by decide +kernel
theorem dX7_spreadFrom_35 : decode cX7_spreadFrom 35 = .ok (.iload_n 3, 1) := by decide +kernel
theorem dX7_spreadFrom_36 : decode cX7_spreadFrom 36 = .ok (.iload 4, 2) := by decide +kernel
theorem dX7_spreadFrom_38 : decode cX7_spreadFrom 38 = .ok (.invokestatic 126, 3) := by decide +kernel
theorem dX7_spreadFrom_41 : decode cX7_spreadFrom 41 = .ok (.invokevirtual 98, 3) := by decide +kernel
theorem dX7_spreadFrom_44 : decode cX7_spreadFrom 44 = .ok (.istore 6, 2) := by decide +kernel
theorem dX7_spreadFrom_46 : decode cX7_spreadFrom 46 = .ok (.iload 4, 2) := by decide +kernel
theorem dX7_spreadFrom_48 : decode cX7_spreadFrom 48 = .ok (.iload 4, 2) := by decide +kernel
theorem dX7_spreadFrom_50 : decode cX7_spreadFrom 50 = .ok (.iconst 1, 1) := by decide +kernel
theorem dX7_spreadFrom_51 : decode cX7_spreadFrom 51 = .ok (.isub, 1) := by decide +kernel
theorem dX7_spreadFrom_52 : decode cX7_spreadFrom 52 = .ok (.iand, 1) := by decide +kernel
theorem dX7_spreadFrom_53 : decode cX7_spreadFrom 53 = .ok (.istore 4, 2) := by decide +kernel
theorem dX7_spreadFrom_55 : decode cX7_spreadFrom 55 = .ok (.aload_n 0, 1) := by decide +kernel
theorem dX7_spreadFrom_56 : decode cX7_spreadFrom 56 = .ok (.iload 6, 2) := by decide +kernel
theorem dX7_spreadFrom_58 : decode cX7_spreadFrom 58 = .ok (.invokevirtual 129, 3) := by decide +kernel
theorem dX7_spreadFrom_61 : decode cX7_spreadFrom 61 = .ok (.ifCond .ne 10, 3) := by decide +kernel
theorem dX7_spreadFrom_64 : decode cX7_spreadFrom 64 = .ok (.aload_n 0, 1) := by decide +kernel
theorem dX7_spreadFrom_65 : decode cX7_spreadFrom 65 = .ok (.iload 6, 2) := by decide +kernel
theorem dX7_spreadFrom_67 : decode cX7_spreadFrom 67 = .ok (.iload_n 2, 1) := by decide +kernel
theorem dX7_spreadFrom_68 : decode cX7_spreadFrom 68 = .ok (.invokevirtual 110, 3) := by decide +kernel
theorem dX7_spreadFrom_71 : decode cX7_spreadFrom 71 = .ok (.iinc 5 1, 3) := by decide +kernel
theorem dX7_spreadFrom_74 : decode cX7_spreadFrom 74 = .ok (.goto (-53), 3) := by decide +kernel
theorem dX7_spreadFrom_77 : decode cX7_spreadFrom 77 = .ok (.iinc 3 1, 3) := by decide +kernel
theorem dX7_spreadFrom_80 : decode cX7_spreadFrom 80 = .ok (.goto (-78), 3) := by decide +kernel
theorem dX7_spreadFrom_83 : decode cX7_spreadFrom 83 = .ok (.return_, 1) := by decide +kernel
theorem dX7_turnRound_0 : decode cX7_turnRound 0 = .ok (.aload_n 0, 1) := by decide +kernel
theorem dX7_turnRound_1 : decode cX7_turnRound 1 = .ok (.getfield 22, 3) := by decide +kernel
theorem dX7_turnRound_4 : decode cX7_turnRound 4 = .ok (.istore_n 3, 1) := by decide +kernel
theorem dX7_turnRound_5 : decode cX7_turnRound 5 = .ok (.aload_n 0, 1) := by decide +kernel
theorem dX7_turnRound_6 : decode cX7_turnRound 6 = .ok (.getfield 18, 3) := by decide +kernel
theorem dX7_turnRound_9 : decode cX7_turnRound 9 = .ok (.istore 4, 2) := by decide +kernel
theorem dX7_turnRound_11 : decode cX7_turnRound 11 = .ok (.iconst 0, 1) := by decide +kernel
theorem dX7_turnRound_12 : decode cX7_turnRound 12 = .ok (.istore 5, 2) := by decide +kernel
theorem dX7_turnRound_14 : decode cX7_turnRound 14 = .ok (.iload 5, 2) := by decide +kernel
theorem dX7_turnRound_16 : decode cX7_turnRound 16 = .ok (.iload 4, 2) := by decide +kernel
theorem dX7_turnRound_18 : decode cX7_turnRound 18 = .ok (.if_icmp .ge 24, 3) := by decide +kernel
theorem dX7_turnRound_21 : decode cX7_turnRound 21 = .ok (.aload_n 0, 1) := by decide +kernel
theorem dX7_turnRound_22 : decode cX7_turnRound 22 = .ok (.getfield 11, 3) := by decide +kernel
theorem dX7_turnRound_25 : decode cX7_turnRound 25 = .ok (.aload_n 0, 1) := by decide +kernel
theorem dX7_turnRound_26 : decode cX7_turnRound 26 = .ok (.getfield 15, 3) := by decide +kernel
theorem dX7_turnRound_29 : decode cX7_turnRound 29 = .ok (.iload 5, 2) := by decide +kernel
theorem dX7_turnRound_31 : decode cX7_turnRound 31 = .ok (.iaload, 1) := by decide +kernel
theorem dX7_turnRound_32 : decode cX7_turnRound 32 = .ok (.iconst 4, 1) := by decide +kernel
theorem dX7_turnRound_33 : decode cX7_turnRound 33 = .ok (.ishr, 1) := by decide +kernel
theorem dX7_turnRound_34 : decode cX7_turnRound 34 = .ok (.iconst 0, 1) := by decide +kernel
theorem dX7_turnRound_35 : decode cX7_turnRound 35 = .ok (.iastore, 1) := by decide +kernel
theorem dX7_turnRound_36 : decode cX7_turnRound 36 = .ok (.iinc 5 1, 3) := by decide +kernel
theorem dX7_turnRound_39 : decode cX7_turnRound 39 = .ok (.goto (-25), 3) := by decide +kernel
theorem dX7_turnRound_42 : decode cX7_turnRound 42 = .ok (.aload_n 0, 1) := by decide +kernel
theorem dX7_turnRound_43 : decode cX7_turnRound 43 = .ok (.iconst 0, 1) := by decide +kernel
theorem dX7_turnRound_44 : decode cX7_turnRound 44 = .ok (.putfield 18, 3) := by decide +kernel
theorem dX7_turnRound_47 : decode cX7_turnRound 47 = .ok (.aload_n 0, 1) := by decide +kernel
theorem dX7_turnRound_48 : decode cX7_turnRound 48 = .ok (.iconst 0, 1) := by decide +kernel
theorem dX7_turnRound_49 : decode cX7_turnRound 49 = .ok (.putfield 22, 3) := by decide +kernel
theorem dX7_turnRound_52 : decode cX7_turnRound 52 = .ok (.iload_n 3, 1) := by decide +kernel
theorem dX7_turnRound_53 : decode cX7_turnRound 53 = .ok (.istore 5, 2) := by decide +kernel
theorem dX7_turnRound_55 : decode cX7_turnRound 55 = .ok (.iload 5, 2) := by decide +kernel
theorem dX7_turnRound_57 : decode cX7_turnRound 57 = .ok (.iload 4, 2) := by decide +kernel
theorem dX7_turnRound_59 : decode cX7_turnRound 59 = .ok (.if_icmp .ge 34, 3) := by decide +kernel
theorem dX7_turnRound_62 : decode cX7_turnRound 62 = .ok (.aload_n 0, 1) := by decide +kernel
theorem dX7_turnRound_63 : decode cX7_turnRound 63 = .ok (.getfield 15, 3) := by decide +kernel
theorem dX7_turnRound_66 : decode cX7_turnRound 66 = .ok (.iload 5, 2) := by decide +kernel
theorem dX7_turnRound_68 : decode cX7_turnRound 68 = .ok (.iaload, 1) := by decide +kernel
theorem dX7_turnRound_69 : decode cX7_turnRound 69 = .ok (.iload_n 1, 1) := by decide +kernel
theorem dX7_turnRound_70 : decode cX7_turnRound 70 = .ok (.iand, 1) := by decide +kernel
theorem dX7_turnRound_71 : decode cX7_turnRound 71 = .ok (.iload_n 2, 1) := by decide +kernel
theorem dX7_turnRound_72 : decode cX7_turnRound 72 = .ok (.if_icmp .ne 15, 3) := by decide +kernel
theorem dX7_turnRound_75 : decode cX7_turnRound 75 = .ok (.aload_n 0, 1) := by decide +kernel
theorem dX7_turnRound_76 : decode cX7_turnRound 76 = .ok (.aload_n 0, 1) := by decide +kernel
theorem dX7_turnRound_77 : decode cX7_turnRound 77 = .ok (.getfield 15, 3) := by decide +kernel
theorem dX7_turnRound_80 : decode cX7_turnRound 80 = .ok (.iload 5, 2) := by decide +kernel
theorem dX7_turnRound_82 : decode cX7_turnRound 82 = .ok (.iaload, 1) := by decide +kernel
theorem dX7_turnRound_83 : decode cX7_turnRound 83 = .ok (.iconst 1, 1) := by decide +kernel
theorem dX7_turnRound_84 : decode cX7_turnRound 84 = .ok (.invokevirtual 110, 3) := by decide +kernel
theorem dX7_turnRound_87 : decode cX7_turnRound 87 = .ok (.iinc 5 1, 3) := by decide +kernel
theorem dX7_turnRound_90 : decode cX7_turnRound 90 = .ok (.goto (-35), 3) := by decide +kernel
theorem dX7_turnRound_93 : decode cX7_turnRound 93 = .ok (.return_, 1) := by decide +kernel
theorem dX8_canMove_0 : decode cX8_canMove 0 = .ok (.aload_n 0, 1) := by decide +kernel
theorem dX8_canMove_1 : decode cX8_canMove 1 = .ok (.getfield 21, 3) := by decide +kernel
theorem dX8_canMove_4 : decode cX8_canMove 4 = .ok (.iload_n 1, 1) := by decide +kernel
theorem dX8_canMove_5 : decode cX8_canMove 5 = .ok (.invokevirtual 64, 3) := by decide +kernel
theorem dX8_canMove_8 : decode cX8_canMove 8 = .ok (.ifCond .eq 49, 3) := by decide +kernel
theorem dX8_canMove_11 : decode cX8_canMove 11 = .ok (.aload_n 0, 1) := by decide +kernel
theorem dX8_canMove_12 : decode cX8_canMove 12 = .ok (.getfield 12, 3) := by decide +kernel
theorem dX8_canMove_15 : decode cX8_canMove 15 = .ok (.iload_n 2, 1) := by decide +kernel
theorem dX8_canMove_16 : decode cX8_canMove 16 = .ok (.invokevirtual 68, 3) := by decide +kernel
theorem dX8_canMove_19 : decode cX8_canMove 19 = .ok (.ifCond .eq 38, 3) := by decide +kernel
theorem dX8_canMove_22 : decode cX8_canMove 22 = .ok (.aload_n 0, 1) := by decide +kernel
theorem dX8_canMove_23 : decode cX8_canMove 23 = .ok (.getfield 12, 3) := by decide +kernel
theorem dX8_canMove_26 : decode cX8_canMove 26 = .ok (.iload_n 2, 1) := by decide +kernel
theorem dX8_canMove_27 : decode cX8_canMove 27 = .ok (.invokevirtual 71, 3) := by decide +kernel
theorem dX8_canMove_30 : decode cX8_canMove 30 = .ok (.aload_n 0, 1) := by decide +kernel
theorem dX8_canMove_31 : decode cX8_canMove 31 = .ok (.getfield 21, 3) := by decide +kernel
theorem dX8_canMove_34 : decode cX8_canMove 34 = .ok (.getfield 75, 3) := by decide +kernel
theorem dX8_canMove_37 : decode cX8_canMove 37 = .ok (.iload_n 1, 1) := by decide +kernel
theorem dX8_canMove_38 : decode cX8_canMove 38 = .ok (.iaload, 1) := by decide +kernel
theorem dX8_canMove_39 : decode cX8_canMove 39 = .ok (.if_icmp .ne 18, 3) := by decide +kernel
theorem dX8_canMove_42 : decode cX8_canMove 42 = .ok (.aload_n 0, 1) := by decide +kernel
theorem dX8_canMove_43 : decode cX8_canMove 43 = .ok (.getfield 21, 3) := by decide +kernel
theorem dX8_canMove_46 : decode cX8_canMove 46 = .ok (.iload_n 2, 1) := by decide +kernel
theorem dX8_canMove_47 : decode cX8_canMove 47 = .ok (.invokevirtual 78, 3) := by decide +kernel
theorem dX8_canMove_50 : decode cX8_canMove 50 = .ok (.ifCond .ne 7, 3) := by decide +kernel
theorem dX8_canMove_53 : decode cX8_canMove 53 = .ok (.iconst 1, 1) := by decide +kernel
theorem dX8_canMove_54 : decode cX8_canMove 54 = .ok (.goto 4, 3) := by decide +kernel
theorem dX8_canMove_57 : decode cX8_canMove 57 = .ok (.iconst 0, 1) := by decide +kernel
theorem dX8_canMove_58 : decode cX8_canMove 58 = .ok (.ireturn, 1) := by decide +kernel
theorem dX8_clear_0 : decode cX8_clear 0 = .ok (.aload_n 0, 1) := by decide +kernel
theorem dX8_clear_1 : decode cX8_clear 1 = .ok (.getfield 12, 3) := by decide +kernel
theorem dX8_clear_4 : decode cX8_clear 4 = .ok (.invokevirtual 45, 3) := by decide +kernel
theorem dX8_clear_7 : decode cX8_clear 7 = .ok (.aload_n 0, 1) := by decide +kernel
theorem dX8_clear_8 : decode cX8_clear 8 = .ok (.getfield 21, 3) := by decide +kernel
theorem dX8_clear_11 : decode cX8_clear 11 = .ok (.iconst 0, 1) := by decide +kernel
theorem dX8_clear_12 : decode cX8_clear 12 = .ok (.putfield 48, 3) := by decide +kernel
theorem dX8_clear_15 : decode cX8_clear 15 = .ok (.aload_n 0, 1) := by decide +kernel
theorem dX8_clear_16 : decode cX8_clear 16 = .ok (.iconst 0, 1) := by decide +kernel
theorem dX8_clear_17 : decode cX8_clear 17 = .ok (.putfield 25, 3) := by decide +kernel
theorem dX8_clear_20 : decode cX8_clear 20 = .ok (.aload_n 0, 1) := by decide +kernel
theorem dX8_clear_21 : decode cX8_clear 21 = .ok (.iconst 0, 1) := by decide +kernel
theorem dX8_clear_22 : decode cX8_clear 22 = .ok (.putfield 29, 3) := by decide +kernel
theorem dX8_clear_25 : decode cX8_clear 25 = .ok (.aload_n 0, 1) := by decide +kernel
theorem dX8_clear_26 : decode cX8_clear 26 = .ok (.iconst 0, 1) := by decide +kernel
theorem dX8_clear_27 : decode cX8_clear 27 = .ok (.putfield 32, 3) := by decide +kernel
theorem dX8_clear_30 : decode cX8_clear 30 = .ok (.aload_n 0, 1) := by decide +kernel
theorem dX8_clear_31 : decode cX8_clear 31 = .ok (.iconst 0, 1) := by decide +kernel
theorem dX8_clear_32 : decode cX8_clear 32 = .ok (.putfield 35, 3) := by decide +kernel
theorem dX8_clear_35 : decode cX8_clear 35 = .ok (.aload_n 0, 1) := by decide +kernel
theorem dX8_clear_36 : decode cX8_clear 36 = .ok (.iconst 0, 1) := by decide +kernel
theorem dX8_clear_37 : decode cX8_clear 37 = .ok (.putfield 38, 3) := by decide +kernel
theorem dX8_clear_40 : decode cX8_clear 40 = .ok (.return_, 1) := by decide +kernel
theorem dX8_copyFrom_0 : decode cX8_copyFrom 0 = .ok (.aload_n 0, 1) := by decide +kernel
theorem dX8_copyFrom_1 : decode cX8_copyFrom 1 = .ok (.getfield 12, 3) := by decide +kernel
theorem dX8_copyFrom_4 : decode cX8_copyFrom 4 = .ok (.aload_n 1, 1) := by decide +kernel
theorem dX8_copyFrom_5 : decode cX8_copyFrom 5 = .ok (.getfield 12, 3) := by decide +kernel
theorem dX8_copyFrom_8 : decode cX8_copyFrom 8 = .ok (.invokevirtual 51, 3) := by decide +kernel
theorem dX8_copyFrom_11 : decode cX8_copyFrom 11 = .ok (.aload_n 0, 1) := by decide +kernel
theorem dX8_copyFrom_12 : decode cX8_copyFrom 12 = .ok (.getfield 21, 3) := by decide +kernel
theorem dX8_copyFrom_15 : decode cX8_copyFrom 15 = .ok (.aload_n 1, 1) := by decide +kernel
theorem dX8_copyFrom_16 : decode cX8_copyFrom 16 = .ok (.getfield 21, 3) := by decide +kernel
theorem dX8_copyFrom_19 : decode cX8_copyFrom 19 = .ok (.invokevirtual 55, 3) := by decide +kernel
theorem dX8_copyFrom_22 : decode cX8_copyFrom 22 = .ok (.aload_n 0, 1) := by decide +kernel
theorem dX8_copyFrom_23 : decode cX8_copyFrom 23 = .ok (.aload_n 1, 1) := by decide +kernel
theorem dX8_copyFrom_24 : decode cX8_copyFrom 24 = .ok (.getfield 25, 3) := by decide +kernel
theorem dX8_copyFrom_27 : decode cX8_copyFrom 27 = .ok (.putfield 25, 3) := by decide +kernel
theorem dX8_copyFrom_30 : decode cX8_copyFrom 30 = .ok (.aload_n 0, 1) := by decide +kernel
theorem dX8_copyFrom_31 : decode cX8_copyFrom 31 = .ok (.aload_n 1, 1) := by decide +kernel
theorem dX8_copyFrom_32 : decode cX8_copyFrom 32 = .ok (.getfield 29, 3) := by decide +kernel
theorem dX8_copyFrom_35 : decode cX8_copyFrom 35 = .ok (.putfield 29, 3) := by decide +kernel
theorem dX8_copyFrom_38 : decode cX8_copyFrom 38 = .ok (.aload_n 0, 1) := by decide +kernel
theorem dX8_copyFrom_39 : decode cX8_copyFrom 39 = .ok (.aload_n 1, 1) := by decide +kernel
theorem dX8_copyFrom_40 : decode cX8_copyFrom 40 = .ok (.getfield 32, 3) := by decide +kernel
theorem dX8_copyFrom_43 : decode cX8_copyFrom 43 = .ok (.putfield 32, 3) := by decide +kernel
theorem dX8_copyFrom_46 : decode cX8_copyFrom 46 = .ok (.aload_n 0, 1) := by decide +kernel
theorem dX8_copyFrom_47 : decode cX8_copyFrom 47 = .ok (.aload_n 1, 1) := by decide +kernel
theorem dX8_copyFrom_48 : decode cX8_copyFrom 48 = .ok (.getfield 35, 3) := by decide +kernel
theorem dX8_copyFrom_51 : decode cX8_copyFrom 51 = .ok (.putfield 35, 3) := by decide +kernel
theorem dX8_copyFrom_54 : decode cX8_copyFrom 54 = .ok (.aload_n 0, 1) := by decide +kernel
theorem dX8_copyFrom_55 : decode cX8_copyFrom 55 = .ok (.aload_n 1, 1) := by decide +kernel
theorem dX8_copyFrom_56 : decode cX8_copyFrom 56 = .ok (.getfield 38, 3) := by decide +kernel
theorem dX8_copyFrom_59 : decode cX8_copyFrom 59 = .ok (.putfield 38, 3) := by decide +kernel
theorem dX8_copyFrom_62 : decode cX8_copyFrom 62 = .ok (.aload_n 1, 1) := by decide +kernel
theorem dX8_copyFrom_63 : decode cX8_copyFrom 63 = .ok (.getfield 41, 3) := by decide +kernel
theorem dX8_copyFrom_66 : decode cX8_copyFrom 66 = .ok (.iconst 0, 1) := by decide +kernel
theorem dX8_copyFrom_67 : decode cX8_copyFrom 67 = .ok (.aload_n 0, 1) := by decide +kernel
theorem dX8_copyFrom_68 : decode cX8_copyFrom 68 = .ok (.getfield 41, 3) := by decide +kernel
theorem dX8_copyFrom_71 : decode cX8_copyFrom 71 = .ok (.iconst 0, 1) := by decide +kernel
theorem dX8_copyFrom_72 : decode cX8_copyFrom 72 = .ok (.aload_n 0, 1) := by decide +kernel
theorem dX8_copyFrom_73 : decode cX8_copyFrom 73 = .ok (.getfield 38, 3) := by decide +kernel
theorem dX8_copyFrom_76 : decode cX8_copyFrom 76 = .ok (.invokestatic 58, 3) := by decide +kernel
theorem dX8_copyFrom_79 : decode cX8_copyFrom 79 = .ok (.return_, 1) := by decide +kernel
theorem dX8_drawLeaves_0 : decode cX8_drawLeaves 0 = .ok (.iconst 0, 1) := by decide +kernel
theorem dX8_drawLeaves_1 : decode cX8_drawLeaves 1 = .ok (.istore_n 1, 1) := by decide +kernel
theorem dX8_drawLeaves_2 : decode cX8_drawLeaves 2 = .ok (.iload_n 1, 1) := by decide +kernel
theorem dX8_drawLeaves_3 : decode cX8_drawLeaves 3 = .ok (.aload_n 0, 1) := by decide +kernel
