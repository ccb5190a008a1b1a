theorem dX1_copyFrom_39 : decode cX1_copyFrom 39 = .ok (.invokestatic 37, 3) := by decide +kernel
theorem dX1_copyFrom_42 : decode cX1_copyFrom 42 = .ok (.aload_n 1, 1) := by decide +kernel
theorem dX1_copyFrom_43 : decode cX1_copyFrom 43 = .ok (.getfield 22, 3) := by decide +kernel
theorem dX1_copyFrom_46 : decode cX1_copyFrom 46 = .ok (.iconst 0, 1) := by decide +kernel
theorem dX1_copyFrom_47 : decode cX1_copyFrom 47 = .ok (.aload_n 0, 1) := by decide +kernel
theorem dX1_copyFrom_48 : decode cX1_copyFrom 48 = .ok (.getfield 22, 3) := by decide +kernel
theorem dX1_copyFrom_51 : decode cX1_copyFrom 51 = .ok (.iconst 0, 1) := by decide +kernel
theorem dX1_copyFrom_52 : decode cX1_copyFrom 52 = .ok (.aload_n 0, 1) := by decide +kernel
theorem dX1_copyFrom_53 : decode cX1_copyFrom 53 = .ok (.getfield 9, 3) := by decide +kernel
theorem dX1_copyFrom_56 : decode cX1_copyFrom 56 = .ok (.invokestatic 37, 3) := by decide +kernel
theorem dX1_copyFrom_59 : decode cX1_copyFrom 59 = .ok (.aload_n 1, 1) := by decide +kernel
theorem dX1_copyFrom_60 : decode cX1_copyFrom 60 = .ok (.getfield 25, 3) := by decide +kernel
theorem dX1_copyFrom_63 : decode cX1_copyFrom 63 = .ok (.iconst 0, 1) := by decide +kernel
theorem dX1_copyFrom_64 : decode cX1_copyFrom 64 = .ok (.aload_n 0, 1) := by decide +kernel
theorem dX1_copyFrom_65 : decode cX1_copyFrom 65 = .ok (.getfield 25, 3) := by decide +kernel
theorem dX1_copyFrom_68 : decode cX1_copyFrom 68 = .ok (.iconst 0, 1) := by decide +kernel
theorem dX1_copyFrom_69 : decode cX1_copyFrom 69 = .ok (.aload_n 0, 1) := by decide +kernel
theorem dX1_copyFrom_70 : decode cX1_copyFrom 70 = .ok (.getfield 9, 3) := by decide +kernel
theorem dX1_copyFrom_73 : decode cX1_copyFrom 73 = .ok (.invokestatic 37, 3) := by decide +kernel
theorem dX1_copyFrom_76 : decode cX1_copyFrom 76 = .ok (.aload_n 1, 1) := by decide +kernel
theorem dX1_copyFrom_77 : decode cX1_copyFrom 77 = .ok (.getfield 28, 3) := by decide +kernel
theorem dX1_copyFrom_80 : decode cX1_copyFrom 80 = .ok (.iconst 0, 1) := by decide +kernel
theorem dX1_copyFrom_81 : decode cX1_copyFrom 81 = .ok (.aload_n 0, 1) := by decide +kernel
theorem dX1_copyFrom_82 : decode cX1_copyFrom 82 = .ok (.getfield 28, 3) := by decide +kernel
theorem dX1_copyFrom_85 : decode cX1_copyFrom 85 = .ok (.iconst 0, 1) := by decide +kernel
theorem dX1_copyFrom_86 : decode cX1_copyFrom 86 = .ok (.aload_n 0, 1) := by decide +kernel
theorem dX1_copyFrom_87 : decode cX1_copyFrom 87 = .ok (.getfield 9, 3) := by decide +kernel
theorem dX1_copyFrom_90 : decode cX1_copyFrom 90 = .ok (.invokestatic 37, 3) := by decide +kernel
theorem dX1_copyFrom_93 : decode cX1_copyFrom 93 = .ok (.aload_n 1, 1) := by decide +kernel
theorem dX1_copyFrom_94 : decode cX1_copyFrom 94 = .ok (.getfield 31, 3) := by decide +kernel
theorem dX1_copyFrom_97 : decode cX1_copyFrom 97 = .ok (.iconst 0, 1) := by decide +kernel
theorem dX1_copyFrom_98 : decode cX1_copyFrom 98 = .ok (.aload_n 0, 1) := by decide +kernel
theorem dX1_copyFrom_99 : decode cX1_copyFrom 99 = .ok (.getfield 31, 3) := by decide +kernel
theorem dX1_copyFrom_102 : decode cX1_copyFrom 102 = .ok (.iconst 0, 1) := by decide +kernel
theorem dX1_copyFrom_103 : decode cX1_copyFrom 103 = .ok (.aload_n 0, 1) := by decide +kernel
theorem dX1_copyFrom_104 : decode cX1_copyFrom 104 = .ok (.getfield 9, 3) := by decide +kernel
theorem dX1_copyFrom_107 : decode cX1_copyFrom 107 = .ok (.invokestatic 37, 3) := by decide +kernel
theorem dX1_copyFrom_110 : decode cX1_copyFrom 110 = .ok (.aload_n 1, 1) := by decide +kernel
theorem dX1_copyFrom_111 : decode cX1_copyFrom 111 = .ok (.getfield 34, 3) := by decide +kernel
theorem dX1_copyFrom_114 : decode cX1_copyFrom 114 = .ok (.iconst 0, 1) := by decide +kernel
theorem dX1_copyFrom_115 : decode cX1_copyFrom 115 = .ok (.aload_n 0, 1) := by decide +kernel
theorem dX1_copyFrom_116 : decode cX1_copyFrom 116 = .ok (.getfield 34, 3) := by decide +kernel
theorem dX1_copyFrom_119 : decode cX1_copyFrom 119 = .ok (.iconst 0, 1) := by decide +kernel
theorem dX1_copyFrom_120 : decode cX1_copyFrom 120 = .ok (.aload_n 0, 1) := by decide +kernel
theorem dX1_copyFrom_121 : decode cX1_copyFrom 121 = .ok (.getfield 9, 3) := by decide +kernel
theorem dX1_copyFrom_124 : decode cX1_copyFrom 124 = .ok (.invokestatic 37, 3) := by decide +kernel
theorem dX1_copyFrom_127 : decode cX1_copyFrom 127 = .ok (.return_, 1) := by decide +kernel
theorem dX1_countAt_0 : decode cX1_countAt 0 = .ok (.iconst 0, 1) := by decide +kernel
theorem dX1_countAt_1 : decode cX1_countAt 1 = .ok (.istore_n 2, 1) := by decide +kernel
theorem dX1_countAt_2 : decode cX1_countAt 2 = .ok (.iconst 0, 1) := by decide +kernel
theorem dX1_countAt_3 : decode cX1_countAt 3 = .ok (.istore_n 3, 1) := by decide +kernel
theorem dX1_countAt_4 : decode cX1_countAt 4 = .ok (.iload_n 3, 1) := by decide +kernel
theorem dX1_countAt_5 : decode cX1_countAt 5 = .ok (.aload_n 0, 1) := by decide +kernel
theorem dX1_countAt_6 : decode cX1_countAt 6 = .ok (.getfield 9, 3) := by decide +kernel
theorem dX1_countAt_9 : decode cX1_countAt 9 = .ok (.if_icmp .ge 27, 3) := by decide +kernel
theorem dX1_countAt_12 : decode cX1_countAt 12 = .ok (.iload_n 2, 1) := by decide +kernel
theorem dX1_countAt_13 : decode cX1_countAt 13 = .ok (.aload_n 0, 1) := by decide +kernel
theorem dX1_countAt_14 : decode cX1_countAt 14 = .ok (.getfield 15, 3) := by decide +kernel
theorem dX1_countAt_17 : decode cX1_countAt 17 = .ok (.iload_n 3, 1) := by decide +kernel
theorem dX1_countAt_18 : decode cX1_countAt 18 = .ok (.iaload, 1) := by decide +kernel
theorem dX1_countAt_19 : decode cX1_countAt 19 = .ok (.iload_n 1, 1) := by decide +kernel
theorem dX1_countAt_20 : decode cX1_countAt 20 = .ok (.if_icmp .ne 7, 3) := by decide +kernel
theorem dX1_countAt_23 : decode cX1_countAt 23 = .ok (.iconst 1, 1) := by decide +kernel
theorem dX1_countAt_24 : decode cX1_countAt 24 = .ok (.goto 4, 3) := by decide +kernel
theorem dX1_countAt_27 : decode cX1_countAt 27 = .ok (.iconst 0, 1) := by decide +kernel
theorem dX1_countAt_28 : decode cX1_countAt 28 = .ok (.iadd, 1) := by decide +kernel
theorem dX1_countAt_29 : decode cX1_countAt 29 = .ok (.istore_n 2, 1) := by decide +kernel
theorem dX1_countAt_30 : decode cX1_countAt 30 = .ok (.iinc 3 1, 3) := by decide +kernel
theorem dX1_countAt_33 : decode cX1_countAt 33 = .ok (.goto (-29), 3) := by decide +kernel
theorem dX1_countAt_36 : decode cX1_countAt 36 = .ok (.iload_n 2, 1) := by decide +kernel
theorem dX1_countAt_37 : decode cX1_countAt 37 = .ok (.ireturn, 1) := by decide +kernel
theorem dX1_countOn_0 : decode cX1_countOn 0 = .ok (.iconst 0, 1) := by decide +kernel
theorem dX1_countOn_1 : decode cX1_countOn 1 = .ok (.istore_n 2, 1) := by decide +kernel
theorem dX1_countOn_2 : decode cX1_countOn 2 = .ok (.iconst 0, 1) := by decide +kernel
theorem dX1_countOn_3 : decode cX1_countOn 3 = .ok (.istore_n 3, 1) := by decide +kernel
theorem dX1_countOn_4 : decode cX1_countOn 4 = .ok (.iload_n 3, 1) := by decide +kernel
theorem dX1_countOn_5 : decode cX1_countOn 5 = .ok (.aload_n 0, 1) := by decide +kernel
theorem dX1_countOn_6 : decode cX1_countOn 6 = .ok (.getfield 9, 3) := by decide +kernel
theorem dX1_countOn_9 : decode cX1_countOn 9 = .ok (.if_icmp .ge 27, 3) := by decide +kernel
theorem dX1_countOn_12 : decode cX1_countOn 12 = .ok (.iload_n 2, 1) := by decide +kernel
theorem dX1_countOn_13 : decode cX1_countOn 13 = .ok (.aload_n 0, 1) := by decide +kernel
theorem dX1_countOn_14 : decode cX1_countOn 14 = .ok (.getfield 25, 3) := by decide +kernel
theorem dX1_countOn_17 : decode cX1_countOn 17 = .ok (.iload_n 3, 1) := by decide +kernel
theorem dX1_countOn_18 : decode cX1_countOn 18 = .ok (.iaload, 1) := by decide +kernel
theorem dX1_countOn_19 : decode cX1_countOn 19 = .ok (.iload_n 1, 1) := by decide +kernel
theorem dX1_countOn_20 : decode cX1_countOn 20 = .ok (.if_icmp .ne 7, 3) := by decide +kernel
theorem dX1_countOn_23 : decode cX1_countOn 23 = .ok (.iconst 1, 1) := by decide +kernel
theorem dX1_countOn_24 : decode cX1_countOn 24 = .ok (.goto 4, 3) := by decide +kernel
theorem dX1_countOn_27 : decode cX1_countOn 27 = .ok (.iconst 0, 1) := by decide +kernel
theorem dX1_countOn_28 : decode cX1_countOn 28 = .ok (.iadd, 1) := by decide +kernel
theorem dX1_countOn_29 : decode cX1_countOn 29 = .ok (.istore_n 2, 1) := by decide +kernel
theorem dX1_countOn_30 : decode cX1_countOn 30 = .ok (.iinc 3 1, 3) := by decide +kernel
theorem dX1_countOn_33 : decode cX1_countOn 33 = .ok (.goto (-29), 3) := by decide +kernel
theorem dX1_countOn_36 : decode cX1_countOn 36 = .ok (.iload_n 2, 1) := by decide +kernel
theorem dX1_countOn_37 : decode cX1_countOn 37 = .ok (.ireturn, 1) := by decide +kernel
theorem dX1_enter_0 : decode cX1_enter 0 = .ok (.aload_n 0, 1) := by decide +kernel
theorem dX1_enter_1 : decode cX1_enter 1 = .ok (.getfield 15, 3) := by decide +kernel
theorem dX1_enter_4 : decode cX1_enter 4 = .ok (.iload_n 1, 1) := by decide +kernel
theorem dX1_enter_5 : decode cX1_enter 5 = .ok (.bipush 8, 2) := by decide +kernel
theorem dX1_enter_7 : decode cX1_enter 7 = .ok (.iastore, 1) := by decide +kernel
theorem dX1_enter_8 : decode cX1_enter 8 = .ok (.aload_n 0, 1) := by decide +kernel
theorem dX1_enter_9 : decode cX1_enter 9 = .ok (.getfield 25, 3) := by decide +kernel
theorem dX1_enter_12 : decode cX1_enter 12 = .ok (.iload_n 1, 1) := by decide +kernel
theorem dX1_enter_13 : decode cX1_enter 13 = .ok (.iload_n 2, 1) := by decide +kernel
theorem dX1_enter_14 : decode cX1_enter 14 = .ok (.iastore, 1) := by decide +kernel
theorem dX1_enter_15 : decode cX1_enter 15 = .ok (.aload_n 0, 1) := by decide +kernel
theorem dX1_enter_16 : decode cX1_enter 16 = .ok (.getfield 28, 3) := by decide +kernel
theorem dX1_enter_19 : decode cX1_enter 19 = .ok (.iload_n 1, 1) := by decide +kernel
theorem dX1_enter_20 : decode cX1_enter 20 = .ok (.iconst 0, 1) := by decide +kernel
theorem dX1_enter_21 : decode cX1_enter 21 = .ok (.iastore, 1) := by decide +kernel
theorem dX1_enter_22 : decode cX1_enter 22 = .ok (.aload_n 0, 1) := by decide +kernel
theorem dX1_enter_23 : decode cX1_enter 23 = .ok (.getfield 31, 3) := by decide +kernel
theorem dX1_enter_26 : decode cX1_enter 26 = .ok (.iload_n 1, 1) := by decide +kernel
theorem dX1_enter_27 : decode cX1_enter 27 = .ok (.iload_n 3, 1) := by decide +kernel
theorem dX1_enter_28 : decode cX1_enter 28 = .ok (.iastore, 1) := by decide +kernel
theorem dX1_enter_29 : decode cX1_enter 29 = .ok (.return_, 1) := by decide +kernel
theorem dX1_has_0 : decode cX1_has 0 = .ok (.iload_n 1, 1) := by decide +kernel
theorem dX1_has_1 : decode cX1_has 1 = .ok (.ifCond .lt 15, 3) := by decide +kernel
theorem dX1_has_4 : decode cX1_has 4 = .ok (.iload_n 1, 1) := by decide +kernel
theorem dX1_has_5 : decode cX1_has 5 = .ok (.aload_n 0, 1) := by decide +kernel
theorem dX1_has_6 : decode cX1_has 6 = .ok (.getfield 9, 3) := by decide +kernel
theorem dX1_has_9 : decode cX1_has 9 = .ok (.if_icmp .ge 7, 3) := by decide +kernel
theorem dX1_has_12 : decode cX1_has 12 = .ok (.iconst 1, 1) := by decide +kernel
theorem dX1_has_13 : decode cX1_has 13 = .ok (.goto 4, 3) := by decide +kernel
theorem dX1_has_16 : decode cX1_has 16 = .ok (.iconst 0, 1) := by decide +kernel
theorem dX1_has_17 : decode cX1_has 17 = .ok (.ireturn, 1) := by decide +kernel
theorem dX1_init_0 : decode cX1_init 0 = .ok (.aload_n 0, 1) := by decide +kernel
theorem dX1_init_1 : decode cX1_init 1 = .ok (.invokespecial 3, 3) := by decide +kernel
theorem dX1_init_4 : decode cX1_init 4 = .ok (.aload_n 0, 1) := by decide +kernel
theorem dX1_init_5 : decode cX1_init 5 = .ok (.iconst 0, 1) := by decide +kernel
theorem dX1_init_6 : decode cX1_init 6 = .ok (.putfield 9, 3) := by decide +kernel
theorem dX1_init_9 : decode cX1_init 9 = .ok (.aload_n 0, 1) := by decide +kernel
theorem dX1_init_10 : decode cX1_init 10 = .ok (.bipush 6, 2) := by decide +kernel
theorem dX1_init_12 : decode cX1_init 12 = .ok (.newarray .int, 2) := by decide +kernel
theorem dX1_init_14 : decode cX1_init 14 = .ok (.putfield 15, 3) := by decide +kernel
theorem dX1_init_17 : decode cX1_init 17 = .ok (.aload_n 0, 1) := by decide +kernel
theorem dX1_init_18 : decode cX1_init 18 = .ok (.bipush 6, 2) := by decide +kernel
theorem dX1_init_20 : decode cX1_init 20 = .ok (.newarray .int, 2) := by decide +kernel
theorem dX1_init_22 : decode cX1_init 22 = .ok (.putfield 19, 3) := by decide +kernel
theorem dX1_init_25 : decode cX1_init 25 = .ok (.aload_n 0, 1) := by decide +kernel
theorem dX1_init_26 : decode cX1_init 26 = .ok (.bipush 6, 2) := by decide +kernel
theorem dX1_init_28 : decode cX1_init 28 = .ok (.newarray .int, 2) := by decide +kernel
theorem dX1_init_30 : decode cX1_init 30 = .ok (.putfield 22, 3) := by decide +kernel
theorem dX1_init_33 : decode cX1_init 33 = .ok (.aload_n 0, 1) := by decide +kernel
theorem dX1_init_34 : decode cX1_init 34 = .ok (.bipush 6, 2) := by decide +kernel
theorem dX1_init_36 : decode cX1_init 36 = .ok (.newarray .int, 2) := by decide +kernel
theorem dX1_init_38 : decode cX1_init 38 = .ok (.putfield 25, 3) := by decide +kernel
theorem dX1_init_41 : decode cX1_init 41 = .ok (.aload_n 0, 1) := by decide +kernel
theorem dX1_init_42 : decode cX1_init 42 = .ok (.bipush 6, 2) := by decide +kernel
theorem dX1_init_44 : decode cX1_init 44 = .ok (.newarray .int, 2) := by decide +kernel
theorem dX1_init_46 : decode cX1_init 46 = .ok (.putfield 28, 3) := by decide +kernel
theorem dX1_init_49 : decode cX1_init 49 = .ok (.aload_n 0, 1) := by decide +kernel
theorem dX1_init_50 : decode cX1_init 50 = .ok (.bipush 6, 2) := by decide +kernel
theorem dX1_init_52 : decode cX1_init 52 = .ok (.newarray .int, 2) := by decide +kernel
theorem dX1_init_54 : decode cX1_init 54 = .ok (.putfield 31, 3) := by decide +kernel
theorem dX1_init_57 : decode cX1_init 57 = .ok (.aload_n 0, 1) := by decide +kernel
theorem dX1_init_58 : decode cX1_init 58 = .ok (.bipush 6, 2) := by decide +kernel
theorem dX1_init_60 : decode cX1_init 60 = .ok (.newarray .int, 2) := by decide +kernel
theorem dX1_init_62 : decode cX1_init 62 = .ok (.putfield 34, 3) := by decide +kernel
theorem dX1_init_65 : decode cX1_init 65 = .ok (.return_, 1) := by decide +kernel
theorem dX1_meetings_0 : decode cX1_meetings 0 = .ok (.iconst 0, 1) := by decide +kernel
theorem dX1_meetings_1 : decode cX1_meetings 1 = .ok (.istore_n 1, 1) := by decide +kernel
theorem dX1_meetings_2 : decode cX1_meetings 2 = .ok (.iconst 1, 1) := by decide +kernel
theorem dX1_meetings_3 : decode cX1_meetings 3 = .ok (.istore_n 2, 1) := by decide +kernel
theorem dX1_meetings_4 : decode cX1_meetings 4 = .ok (.iload_n 2, 1) := by decide +kernel
theorem dX1_meetings_5 : decode cX1_meetings 5 = .ok (.aload_n 0, 1) := by decide +kernel
theorem dX1_meetings_6 : decode cX1_meetings 6 = .ok (.getfield 9, 3) := by decide +kernel
theorem dX1_meetings_9 : decode cX1_meetings 9 = .ok (.if_icmp .ge 70, 3) := by decide +kernel
theorem dX1_meetings_12 : decode cX1_meetings 12 = .ok (.iconst 0, 1) := by decide +kernel
theorem dX1_meetings_13 : decode cX1_meetings 13 = .ok (.istore_n 3, 1) := by decide +kernel
theorem dX1_meetings_14 : decode cX1_meetings 14 = .ok (.iload_n 3, 1) := by decide +kernel
theorem dX1_meetings_15 : decode cX1_meetings 15 = .ok (.iload_n 2, 1) := by decide +kernel
theorem dX1_meetings_16 : decode cX1_meetings 16 = .ok (.if_icmp .ge 57, 3) := by decide +kernel
theorem dX1_meetings_19 : decode cX1_meetings 19 = .ok (.aload_n 0, 1) := by decide +kernel
theorem dX1_meetings_20 : decode cX1_meetings 20 = .ok (.getfield 25, 3) := by decide +kernel
theorem dX1_meetings_23 : decode cX1_meetings 23 = .ok (.iload_n 2, 1) := by decide +kernel
theorem dX1_meetings_24 : decode cX1_meetings 24 = .ok (.iaload, 1) := by decide +kernel
theorem dX1_meetings_25 : decode cX1_meetings 25 = .ok (.iconst (-1), 1) := by decide +kernel
theorem dX1_meetings_26 : decode cX1_meetings 26 = .ok (.if_icmp .eq 47, 3) := by decide +kernel
theorem dX1_meetings_29 : decode cX1_meetings 29 = .ok (.iload_n 1, 1) := by decide +kernel
theorem dX1_meetings_30 : decode cX1_meetings 30 = .ok (.aload_n 0, 1) := by decide +kernel
theorem dX1_meetings_31 : decode cX1_meetings 31 = .ok (.getfield 25, 3) := by decide +kernel
theorem dX1_meetings_34 : decode cX1_meetings 34 = .ok (.iload_n 3, 1) := by decide +kernel
theorem dX1_meetings_35 : decode cX1_meetings 35 = .ok (.iaload, 1) := by decide +kernel
theorem dX1_meetings_36 : decode cX1_meetings 36 = .ok (.aload_n 0, 1) := by decide +kernel
theorem dX1_meetings_37 : decode cX1_meetings 37 = .ok (.getfield 25, 3) := by decide +kernel
theorem dX1_meetings_40 : decode cX1_meetings 40 = .ok (.iload_n 2, 1) := by decide +kernel
theorem dX1_meetings_41 : decode cX1_meetings 41 = .ok (.iaload, 1) := by decide +kernel
theorem dX1_meetings_42 : decode cX1_meetings 42 = .ok (.if_icmp .ne 22, 3) := by decide +kernel
theorem dX1_meetings_45 : decode cX1_meetings 45 = .ok (.aload_n 0, 1) := by decide +kernel
theorem dX1_meetings_46 : decode cX1_meetings 46 = .ok (.getfield 31, 3) := by decide +kernel
theorem dX1_meetings_49 : decode cX1_meetings 49 = .ok (.iload_n 3, 1) := by decide +kernel
theorem dX1_meetings_50 : decode cX1_meetings 50 = .ok (.iaload, 1) := by decide +kernel
theorem dX1_meetings_51 : decode cX1_meetings 51 = .ok (.aload_n 0, 1) := by decide +kernel
theorem dX1_meetings_52 : decode cX1_meetings 52 = .ok (.getfield 31, 3) := by decide +kernel
theorem dX1_meetings_55 : decode cX1_meetings 55 = .ok (.iload_n 2, 1) := by decide +kernel
theorem dX1_meetings_56 : decode cX1_meetings 56 = .ok (.iaload, 1) := by decide +kernel
theorem dX1_meetings_57 : decode cX1_meetings 57 = .ok (.if_icmp .eq 7, 3) := by decide +kernel
theorem dX1_meetings_60 : decode cX1_meetings 60 = .ok (.iconst 1, 1) := by decide +kernel
theorem dX1_meetings_61 : decode cX1_meetings 61 = .ok (.goto 4, 3) := by decide +kernel
theorem dX1_meetings_64 : decode cX1_meetings 64 = .ok (.iconst 0, 1) := by decide +kernel
theorem dX1_meetings_65 : decode cX1_meetings 65 = .ok (.iadd, 1) := by decide +kernel
theorem dX1_meetings_66 : decode cX1_meetings 66 = .ok (.istore_n 1, 1) := by decide +kernel
theorem dX1_meetings_67 : decode cX1_meetings 67 = .ok (.iinc 3 1, 3) := by decide +kernel
theorem dX1_meetings_70 : decode cX1_meetings 70 = .ok (.goto (-56), 3) := by decide +kernel
theorem dX1_meetings_73 : decode cX1_meetings 73 = .ok (.iinc 2 1, 3) := by decide +kernel
theorem dX1_meetings_76 : decode cX1_meetings 76 = .ok (.goto (-72), 3) := by decide +kernel
theorem dX1_meetings_79 : decode cX1_meetings 79 = .ok (.iload_n 1, 1) := by decide +kernel
theorem dX1_meetings_80 : decode cX1_meetings 80 = .ok (.ireturn, 1) := by decide +kernel
theorem dX1_stand_0 : decode cX1_stand 0 = .ok (.aload_n 0, 1) := by decide +kernel
theorem dX1_stand_1 : decode cX1_stand 1 = .ok (.getfield 15, 3) := by decide +kernel
theorem dX1_stand_4 : decode cX1_stand 4 = .ok (.iload_n 1, 1) := by decide +kernel
theorem dX1_stand_5 : decode cX1_stand 5 = .ok (.iload_n 2, 1) := by decide +kernel
theorem dX1_stand_6 : decode cX1_stand 6 = .ok (.iastore, 1) := by decide +kernel
theorem dX1_stand_7 : decode cX1_stand 7 = .ok (.aload_n 0, 1) := by decide +kernel
theorem dX1_stand_8 : decode cX1_stand 8 = .ok (.getfield 25, 3) := by decide +kernel
theorem dX1_stand_11 : decode cX1_stand 11 = .ok (.iload_n 1, 1) := by decide +kernel
theorem dX1_stand_12 : decode cX1_stand 12 = .ok (.iconst (-1), 1) := by decide +kernel
theorem dX1_stand_13 : decode cX1_stand 13 = .ok (.iastore, 1) := by decide +kernel
theorem dX1_stand_14 : decode cX1_stand 14 = .ok (.aload_n 0, 1) := by decide +kernel
theorem dX1_stand_15 : decode cX1_stand 15 = .ok (.getfield 28, 3) := by decide +kernel
theorem dX1_stand_18 : decode cX1_stand 18 = .ok (.iload_n 1, 1) := by decide +kernel
theorem dX1_stand_19 : decode cX1_stand 19 = .ok (.iconst 0, 1) := by decide +kernel
theorem dX1_stand_20 : decode cX1_stand 20 = .ok (.iastore, 1) := by decide +kernel
theorem dX1_stand_21 : decode cX1_stand 21 = .ok (.aload_n 0, 1) := by decide +kernel
theorem dX1_stand_22 : decode cX1_stand 22 = .ok (.getfield 31, 3) := by decide +kernel
theorem dX1_stand_25 : decode cX1_stand 25 = .ok (.iload_n 1, 1) := by decide +kernel
theorem dX1_stand_26 : decode cX1_stand 26 = .ok (.iconst (-1), 1) := by decide +kernel
theorem dX1_stand_27 : decode cX1_stand 27 = .ok (.iastore, 1) := by decide +kernel
theorem dX1_stand_28 : decode cX1_stand 28 = .ok (.iload_n 2, 1) := by decide +kernel
theorem dX1_stand_29 : decode cX1_stand 29 = .ok (.aload_n 0, 1) := by decide +kernel
theorem dX1_stand_30 : decode cX1_stand 30 = .ok (.getfield 19, 3) := by decide +kernel
theorem dX1_stand_33 : decode cX1_stand 33 = .ok (.iload_n 1, 1) := by decide +kernel
theorem dX1_stand_34 : decode cX1_stand 34 = .ok (.iaload, 1) := by decide +kernel
theorem dX1_stand_35 : decode cX1_stand 35 = .ok (.if_icmp .ne 20, 3) := by decide +kernel
theorem dX1_stand_38 : decode cX1_stand 38 = .ok (.aload_n 0, 1) := by decide +kernel
theorem dX1_stand_39 : decode cX1_stand 39 = .ok (.getfield 34, 3) := by decide +kernel
theorem dX1_stand_42 : decode cX1_stand 42 = .ok (.iload_n 1, 1) := by decide +kernel
theorem dX1_stand_43 : decode cX1_stand 43 = .ok (.iaload, 1) := by decide +kernel
theorem dX1_stand_44 : decode cX1_stand 44 = .ok (.iconst (-1), 1) := by decide +kernel
theorem dX1_stand_45 : decode cX1_stand 45 = .ok (.if_icmp .ne 10, 3) := by decide +kernel
theorem dX1_stand_48 : decode cX1_stand 48 = .ok (.aload_n 0, 1) := by decide +kernel
theorem dX1_stand_49 : decode cX1_stand 49 = .ok (.getfield 34, 3) := by decide +kernel
theorem dX1_stand_52 : decode cX1_stand 52 = .ok (.iload_n 1, 1) := by decide +kernel
theorem dX1_stand_53 : decode cX1_stand 53 = .ok (.iload_n 3, 1) := by decide +kernel
theorem dX1_stand_54 : decode cX1_stand 54 = .ok (.iastore, 1) := by decide +kernel
theorem dX1_stand_55 : decode cX1_stand 55 = .ok (.return_, 1) := by decide +kernel
theorem dX1_standing_0 : decode cX1_standing 0 = .ok (.iconst 0, 1) := by decide +kernel
theorem dX1_standing_1 : decode cX1_standing 1 = .ok (.istore_n 1, 1) := by decide +kernel
theorem dX1_standing_2 : decode cX1_standing 2 = .ok (.iconst 0, 1) := by decide +kernel
theorem dX1_standing_3 : decode cX1_standing 3 = .ok (.istore_n 2, 1) := by decide +kernel
theorem dX1_standing_4 : decode cX1_standing 4 = .ok (.iload_n 2, 1) := by decide +kernel
theorem dX1_standing_5 : decode cX1_standing 5 = .ok (.aload_n 0, 1) := by decide +kernel
theorem dX1_standing_6 : decode cX1_standing 6 = .ok (.getfield 9, 3) := by decide +kernel
theorem dX1_standing_9 : decode cX1_standing 9 = .ok (.if_icmp .ge 29, 3) := by decide +kernel
theorem dX1_standing_12 : decode cX1_standing 12 = .ok (.iload_n 1, 1) := by decide +kernel
theorem dX1_standing_13 : decode cX1_standing 13 = .ok (.aload_n 0, 1) := by decide +kernel
theorem dX1_standing_14 : decode cX1_standing 14 = .ok (.getfield 25, 3) := by decide +kernel
theorem dX1_standing_17 : decode cX1_standing 17 = .ok (.iload_n 2, 1) := by decide +kernel
theorem dX1_standing_18 : decode cX1_standing 18 = .ok (.iaload, 1) := by decide +kernel
theorem dX1_standing_19 : decode cX1_standing 19 = .ok (.iconst (-1), 1) := by decide +kernel
theorem dX1_standing_20 : decode cX1_standing 20 = .ok (.if_icmp .ne 9, 3) := by decide +kernel
theorem dX1_standing_23 : decode cX1_standing 23 = .ok (.iconst 1, 1) := by decide +kernel
theorem dX1_standing_24 : decode cX1_standing 24 = .ok (.iload_n 2, 1) := by decide +kernel
theorem dX1_standing_25 : decode cX1_standing 25 = .ok (.ishl, 1) := by decide +kernel
theorem dX1_standing_26 : decode cX1_standing 26 = .ok (.goto 4, 3) := by decide +kernel
theorem dX1_standing_29 : decode cX1_standing 29 = .ok (.iconst 0, 1) := by decide +kernel
theorem dX1_standing_30 : decode cX1_standing 30 = .ok (.ior, 1) := by decide +kernel
theorem dX1_standing_31 : decode cX1_standing 31 = .ok (.istore_n 1, 1) := by decide +kernel
theorem dX1_standing_32 : decode cX1_standing 32 = .ok (.iinc 2 1, 3) := by decide +kernel
theorem dX1_standing_35 : decode cX1_standing 35 = .ok (.goto (-31), 3) := by decide +kernel
theorem dX1_standing_38 : decode cX1_standing 38 = .ok (.iload_n 1, 1) := by decide +kernel
theorem dX1_standing_39 : decode cX1_standing 39 = .ok (.ireturn, 1) := by decide +kernel
theorem dX1_stands_0 : decode cX1_stands 0 = .ok (.aload_n 0, 1) := by decide +kernel
theorem dX1_stands_1 : decode cX1_stands 1 = .ok (.iload_n 1, 1) := by decide +kernel
theorem dX1_stands_2 : decode cX1_stands 2 = .ok (.invokevirtual 43, 3) := by decide +kernel
theorem dX1_stands_5 : decode cX1_stands 5 = .ok (.ifCond .eq 17, 3) := by decide +kernel
theorem dX1_stands_8 : decode cX1_stands 8 = .ok (.aload_n 0, 1) := by decide +kernel
theorem dX1_stands_9 : decode cX1_stands 9 = .ok (.getfield 25, 3) := by decide +kernel
theorem dX1_stands_12 : decode cX1_stands 12 = .ok (.iload_n 1, 1) := by decide +kernel
theorem dX1_stands_13 : decode cX1_stands 13 = .ok (.iaload, 1) := by decide +kernel
theorem dX1_stands_14 : decode cX1_stands 14 = .ok (.iconst (-1), 1) := by decide +kernel
theorem dX1_stands_15 : decode cX1_stands 15 = .ok (.if_icmp .ne 7, 3) := by decide +kernel
theorem dX1_stands_18 : decode cX1_stands 18 = .ok (.iconst 1, 1) := by decide +kernel
theorem dX1_stands_19 : decode cX1_stands 19 = .ok (.goto 4, 3) := by decide +kernel
theorem dX1_stands_22 : decode cX1_stands 22 = .ok (.iconst 0, 1) := by decide +kernel
theorem dX1_stands_23 : decode cX1_stands 23 = .ok (.ireturn, 1) := by decide +kernel
theorem dX2_read_0 : decode cX2_read 0 = .ok (.aload_n 0, 1) := by decide +kernel
theorem dX2_read_1 : decode cX2_read 1 = .ok (.invokevirtual 9, 3) := by decide +kernel
theorem dX2_read_4 : decode cX2_read 4 = .ok (.aload_n 1, 1) := by decide +kernel
theorem dX2_read_5 : decode cX2_read 5 = .ok (.invokevirtual 14, 3) := by decide +kernel
theorem dX2_read_8 : decode cX2_read 8 = .ok (.iconst 0, 1) := by decide +kernel
theorem dX2_read_9 : decode cX2_read 9 = .ok (.istore_n 2, 1) := by decide +kernel
theorem dX2_read_10 : decode cX2_read 10 = .ok (.iload_n 2, 1) := by decide +kernel
theorem dX2_read_11 : decode cX2_read 11 = .ok (.bipush 24, 2) := by decide +kernel
theorem dX2_read_13 : decode cX2_read 13 = .ok (.if_icmp .gt 66, 3) := by decide +kernel
theorem dX2_read_16 : decode cX2_read 16 = .ok (.aload_n 0, 1) := by decide +kernel
theorem dX2_read_17 : decode cX2_read 17 = .ok (.aload_n 1, 1) := by decide +kernel
theorem dX2_read_18 : decode cX2_read 18 = .ok (.iload_n 2, 1) := by decide +kernel
theorem dX2_read_19 : decode cX2_read 19 = .ok (.invokestatic 21, 3) := by decide +kernel
theorem dX2_read_22 : decode cX2_read 22 = .ok (.ifCond .ne 8, 3) := by decide +kernel
theorem dX2_read_25 : decode cX2_read 25 = .ok (.aload_n 0, 1) := by decide +kernel
theorem dX2_read_26 : decode cX2_read 26 = .ok (.getfield 25, 3) := by decide +kernel
theorem dX2_read_29 : decode cX2_read 29 = .ok (.ireturn, 1) := by decide +kernel
theorem dX2_read_30 : decode cX2_read 30 = .ok (.aload_n 0, 1) := by decide +kernel
theorem dX2_read_31 : decode cX2_read 31 = .ok (.invokevirtual 29, 3) := by decide +kernel
theorem dX2_read_34 : decode cX2_read 34 = .ok (.istore_n 3, 1) := by decide +kernel
theorem dX2_read_35 : decode cX2_read 35 = .ok (.iload_n 3, 1) := by decide +kernel
theorem dX2_read_36 : decode cX2_read 36 = .ok (.iconst (-1), 1) := by decide +kernel
theorem dX2_read_37 : decode cX2_read 37 = .ok (.if_icmp .ne 5, 3) := by decide +kernel
theorem dX2_read_40 : decode cX2_read 40 = .ok (.iconst 0, 1) := by decide +kernel
theorem dX2_read_41 : decode cX2_read 41 = .ok (.ireturn, 1) := by decide +kernel
theorem dX2_read_42 : decode cX2_read 42 = .ok (.iload_n 3, 1) := by decide +kernel
theorem dX2_read_43 : decode cX2_read 43 = .ok (.bipush 59, 2) := by decide +kernel
theorem dX2_read_45 : decode cX2_read 45 = .ok (.if_icmp .eq 18, 3) := by decide +kernel
theorem dX2_read_48 : decode cX2_read 48 = .ok (.aload_n 0, 1) := by decide +kernel
theorem dX2_read_49 : decode cX2_read 49 = .ok (.aload_n 0, 1) := by decide +kernel
theorem dX2_read_50 : decode cX2_read 50 = .ok (.getfield 33, 3) := by decide +kernel
theorem dX2_read_53 : decode cX2_read 53 = .ok (.iconst 0, 1) := by decide +kernel
theorem dX2_read_54 : decode cX2_read 54 = .ok (.invokevirtual 36, 3) := by decide +kernel
theorem dX2_read_57 : decode cX2_read 57 = .ok (.pop, 1) := by decide +kernel
theorem dX2_read_58 : decode cX2_read 58 = .ok (.aload_n 0, 1) := by decide +kernel
theorem dX2_read_59 : decode cX2_read 59 = .ok (.getfield 25, 3) := by decide +kernel
theorem dX2_read_62 : decode cX2_read 62 = .ok (.ireturn, 1) := by decide +kernel
theorem dX2_read_63 : decode cX2_read 63 = .ok (.aload_n 0, 1) := by decide +kernel
theorem dX2_read_64 : decode cX2_read 64 = .ok (.dup, 1) := by decide +kernel
theorem dX2_read_65 : decode cX2_read 65 = .ok (.getfield 33, 3) := by decide +kernel
theorem dX2_read_68 : decode cX2_read 68 = .ok (.iconst 1, 1) := by decide +kernel
theorem dX2_read_69 : decode cX2_read 69 = .ok (.iadd, 1) := by decide +kernel
theorem dX2_read_70 : decode cX2_read 70 = .ok (.putfield 33, 3) := by decide +kernel
theorem dX2_read_73 : decode cX2_read 73 = .ok (.iinc 2 1, 3) := by decide +kernel
theorem dX2_read_76 : decode cX2_read 76 = .ok (.goto (-66), 3) := by decide +kernel
theorem dX2_read_79 : decode cX2_read 79 = .ok (.aload_n 0, 1) := by decide +kernel
theorem dX2_read_80 : decode cX2_read 80 = .ok (.getfield 25, 3) := by decide +kernel
theorem dX2_read_83 : decode cX2_read 83 = .ok (.ireturn, 1) := by decide +kernel
theorem dX2_readClause_0 : decode cX2_readClause 0 = .ok (.aload_n 0, 1) := by decide +kernel
theorem dX2_readClause_1 : decode cX2_readClause 1 = .ok (.invokevirtual 40, 3) := by decide +kernel
theorem dX2_readClause_4 : decode cX2_readClause 4 = .ok (.istore_n 3, 1) := by decide +kernel
theorem dX2_readClause_5 : decode cX2_readClause 5 = .ok (.iload_n 3, 1) := by decide +kernel
theorem dX2_readClause_6 : decode cX2_readClause 6 = .ok (.ifCond .eq 19, 3) := by decide +kernel
theorem dX2_readClause_9 : decode cX2_readClause 9 = .ok (.iload_n 3, 1) := by decide +kernel
theorem dX2_readClause_10 : decode cX2_readClause 10 = .ok (.bipush 8, 2) := by decide +kernel
theorem dX2_readClause_12 : decode cX2_readClause 12 = .ok (.if_icmp .eq 13, 3) := by decide +kernel
theorem dX2_readClause_15 : decode cX2_readClause 15 = .ok (.aload_n 0, 1) := by decide +kernel
theorem dX2_readClause_16 : decode cX2_readClause 16 = .ok (.aload_n 0, 1) := by decide +kernel
theorem dX2_readClause_17 : decode cX2_readClause 17 = .ok (.getfield 33, 3) := by decide +kernel
theorem dX2_readClause_20 : decode cX2_readClause 20 = .ok (.iconst 0, 1) := by decide +kernel
theorem dX2_readClause_21 : decode cX2_readClause 21 = .ok (.invokevirtual 36, 3) := by decide +kernel
theorem dX2_readClause_24 : decode cX2_readClause 24 = .ok (.ireturn, 1) := by decide +kernel
theorem dX2_readClause_25 : decode cX2_readClause 25 = .ok (.iload_n 3, 1) := by decide +kernel
theorem dX2_readClause_26 : decode cX2_readClause 26 = .ok (.ifCond .ne 23, 3) := by decide +kernel
theorem dX2_readClause_29 : decode cX2_readClause 29 = .ok (.aload_n 1, 1) := by decide +kernel
theorem dX2_readClause_30 : decode cX2_readClause 30 = .ok (.getfield 43, 3) := by decide +kernel
theorem dX2_readClause_33 : decode cX2_readClause 33 = .ok (.getfield 47, 3) := by decide +kernel
theorem dX2_readClause_36 : decode cX2_readClause 36 = .ok (.bipush 14, 2) := by decide +kernel
theorem dX2_readClause_38 : decode cX2_readClause 38 = .ok (.if_icmp .lt 7, 3) := by decide +kernel
theorem dX2_readClause_41 : decode cX2_readClause 41 = .ok (.iconst 1, 1) := by decide +kernel
theorem dX2_readClause_42 : decode cX2_readClause 42 = .ok (.goto 24, 3) := by decide +kernel
theorem dX2_readClause_45 : decode cX2_readClause 45 = .ok (.iconst 0, 1) := by decide +kernel
theorem dX2_readClause_46 : decode cX2_readClause 46 = .ok (.goto 20, 3) := by decide +kernel
theorem dX2_readClause_49 : decode cX2_readClause 49 = .ok (.aload_n 1, 1) := by decide +kernel
theorem dX2_readClause_50 : decode cX2_readClause 50 = .ok (.getfield 52, 3) := by decide +kernel
theorem dX2_readClause_53 : decode cX2_readClause 53 = .ok (.getfield 56, 3) := by decide +kernel
theorem dX2_readClause_56 : decode cX2_readClause 56 = .ok (.bipush 6, 2) := by decide +kernel
theorem dX2_readClause_58 : decode cX2_readClause 58 = .ok (.if_icmp .lt 7, 3) := by decide +kernel
theorem dX2_readClause_61 : decode cX2_readClause 61 = .ok (.iconst 1, 1) := by decide +kernel
theorem dX2_readClause_62 : decode cX2_readClause 62 = .ok (.goto 4, 3) := by decide +kernel
theorem dX2_readClause_65 : decode cX2_readClause 65 = .ok (.iconst 0, 1) := by decide +kernel
theorem dX2_readClause_66 : decode cX2_readClause 66 = .ok (.istore 4, 2) := by decide +kernel
theorem dX2_readClause_68 : decode cX2_readClause 68 = .ok (.iload 4, 2) := by decide +kernel
theorem dX2_readClause_70 : decode cX2_readClause 70 = .ok (.ifCond .ne 9, 3) := by decide +kernel
theorem dX2_readClause_73 : decode cX2_readClause 73 = .ok (.iload_n 2, 1) := by decide +kernel
theorem dX2_readClause_74 : decode cX2_readClause 74 = .ok (.bipush 24, 2) := by decide +kernel
theorem dX2_readClause_76 : decode cX2_readClause 76 = .ok (.if_icmp .lt 13, 3) := by decide +kernel
theorem dX2_readClause_79 : decode cX2_readClause 79 = .ok (.aload_n 0, 1) := by decide +kernel
theorem dX2_readClause_80 : decode cX2_readClause 80 = .ok (.aload_n 0, 1) := by decide +kernel
theorem dX2_readClause_81 : decode cX2_readClause 81 = .ok (.getfield 33, 3) := by decide +kernel
theorem dX2_readClause_84 : decode cX2_readClause 84 = .ok (.iconst 4, 1) := by decide +kernel
theorem dX2_readClause_85 : decode cX2_readClause 85 = .ok (.invokevirtual 36, 3) := by decide +kernel
theorem dX2_readClause_88 : decode cX2_readClause 88 = .ok (.ireturn, 1) := by decide +kernel
theorem dX2_readClause_89 : decode cX2_readClause 89 = .ok (.aload_n 0, 1) := by decide +kernel
theorem dX2_readClause_90 : decode cX2_readClause 90 = .ok (.invokevirtual 59, 3) := by decide +kernel
theorem dX2_readClause_93 : decode cX2_readClause 93 = .ok (.iload_n 3, 1) := by decide +kernel
theorem dX2_readClause_94 : decode cX2_readClause 94 = .ok (.ifCond .ne 14, 3) := by decide +kernel
theorem dX2_readClause_97 : decode cX2_readClause 97 = .ok (.aload_n 0, 1) := by decide +kernel
theorem dX2_readClause_98 : decode cX2_readClause 98 = .ok (.aload_n 1, 1) := by decide +kernel
theorem dX2_readClause_99 : decode cX2_readClause 99 = .ok (.getfield 43, 3) := by decide +kernel
theorem dX2_readClause_102 : decode cX2_readClause 102 = .ok (.invokestatic 62, 3) := by decide +kernel
theorem dX2_readClause_105 : decode cX2_readClause 105 = .ok (.goto 11, 3) := by decide +kernel
theorem dX2_readClause_108 : decode cX2_readClause 108 = .ok (.aload_n 0, 1) := by decide +kernel
theorem dX2_readClause_109 : decode cX2_readClause 109 = .ok (.aload_n 1, 1) := by decide +kernel
theorem dX2_readClause_110 : decode cX2_readClause 110 = .ok (.getfield 52, 3) := by decide +kernel
theorem dX2_readClause_113 : decode cX2_readClause 113 = .ok (.invokestatic 66, 3) := by decide +kernel
theorem dX2_readClause_116 : decode cX2_readClause 116 = .ok (.ireturn, 1) := by decide +kernel
theorem dX2_readGoer_0 : decode cX2_readGoer 0 = .ok (.aload_n 0, 1) := by decide +kernel
theorem dX2_readGoer_1 : decode cX2_readGoer 1 = .ok (.iconst 0, 1) := by decide +kernel
theorem dX2_readGoer_2 : decode cX2_readGoer 2 = .ok (.bipush 7, 2) := by decide +kernel
theorem dX2_readGoer_4 : decode cX2_readGoer 4 = .ok (.invokevirtual 70, 3) := by decide +kernel
theorem dX2_readGoer_7 : decode cX2_readGoer 7 = .ok (.ifCond .ne 5, 3) := by decide +kernel
theorem dX2_readGoer_10 : decode cX2_readGoer 10 = .ok (.iconst 0, 1) := by decide +kernel
theorem dX2_readGoer_11 : decode cX2_readGoer 11 = .ok (.ireturn, 1) := by decide +kernel
theorem dX2_readGoer_12 : decode cX2_readGoer 12 = .ok (.aload_n 0, 1) := by decide +kernel
theorem dX2_readGoer_13 : decode cX2_readGoer 13 = .ok (.getfield 73, 3) := by decide +kernel
theorem dX2_readGoer_16 : decode cX2_readGoer 16 = .ok (.istore_n 2, 1) := by decide +kernel
theorem dX2_readGoer_17 : decode cX2_readGoer 17 = .ok (.aload_n 0, 1) := by decide +kernel
theorem dX2_readGoer_18 : decode cX2_readGoer 18 = .ok (.iconst 0, 1) := by decide +kernel
theorem dX2_readGoer_19 : decode cX2_readGoer 19 = .ok (.bipush 7, 2) := by decide +kernel
theorem dX2_readGoer_21 : decode cX2_readGoer 21 = .ok (.invokevirtual 70, 3) := by decide +kernel
theorem dX2_readGoer_24 : decode cX2_readGoer 24 = .ok (.ifCond .ne 5, 3) := by decide +kernel
theorem dX2_readGoer_27 : decode cX2_readGoer 27 = .ok (.iconst 0, 1) := by decide +kernel
theorem dX2_readGoer_28 : decode cX2_readGoer 28 = .ok (.ireturn, 1) := by decide +kernel
theorem dX2_readGoer_29 : decode cX2_readGoer 29 = .ok (.aload_n 0, 1) := by decide +kernel
theorem dX2_readGoer_30 : decode cX2_readGoer 30 = .ok (.getfield 73, 3) := by decide +kernel
theorem dX2_readGoer_33 : decode cX2_readGoer 33 = .ok (.istore_n 3, 1) := by decide +kernel
theorem dX2_readGoer_34 : decode cX2_readGoer 34 = .ok (.aload_n 0, 1) := by decide +kernel
theorem dX2_readGoer_35 : decode cX2_readGoer 35 = .ok (.iconst 0, 1) := by decide +kernel
theorem dX2_readGoer_36 : decode cX2_readGoer 36 = .ok (.sipush 999, 3) := by decide +kernel
theorem dX2_readGoer_39 : decode cX2_readGoer 39 = .ok (.invokevirtual 70, 3) := by decide +kernel
theorem dX2_readGoer_42 : decode cX2_readGoer 42 = .ok (.ifCond .ne 5, 3) := by decide +kernel
theorem dX2_readGoer_45 : decode cX2_readGoer 45 = .ok (.iconst 0, 1) := by decide +kernel
theorem dX2_readGoer_46 : decode cX2_readGoer 46 = .ok (.ireturn, 1) := by decide +kernel
theorem dX2_readGoer_47 : decode cX2_readGoer 47 = .ok (.aload_n 1, 1) := by decide +kernel
theorem dX2_readGoer_48 : decode cX2_readGoer 48 = .ok (.iload_n 2, 1) := by decide +kernel
theorem dX2_readGoer_49 : decode cX2_readGoer 49 = .ok (.iload_n 3, 1) := by decide +kernel
theorem dX2_readGoer_50 : decode cX2_readGoer 50 = .ok (.aload_n 0, 1) := by decide +kernel
theorem dX2_readGoer_51 : decode cX2_readGoer 51 = .ok (.getfield 73, 3) := by decide +kernel
theorem dX2_readGoer_54 : decode cX2_readGoer 54 = .ok (.invokevirtual 80, 3) := by decide +kernel
theorem dX2_readGoer_57 : decode cX2_readGoer 57 = .ok (.iconst 1, 1) := by decide +kernel
theorem dX2_readGoer_58 : decode cX2_readGoer 58 = .ok (.ireturn, 1) := by decide +kernel
theorem dX2_readWay_0 : decode cX2_readWay 0 = .ok (.aload_n 0, 1) := by decide +kernel
theorem dX2_readWay_1 : decode cX2_readWay 1 = .ok (.iconst 0, 1) := by decide +kernel
theorem dX2_readWay_2 : decode cX2_readWay 2 = .ok (.bipush 7, 2) := by decide +kernel
theorem dX2_readWay_4 : decode cX2_readWay 4 = .ok (.invokevirtual 70, 3) := by decide +kernel
theorem dX2_readWay_7 : decode cX2_readWay 7 = .ok (.ifCond .ne 5, 3) := by decide +kernel
theorem dX2_readWay_10 : decode cX2_readWay 10 = .ok (.iconst 0, 1) := by decide +kernel
theorem dX2_readWay_11 : decode cX2_readWay 11 = .ok (.ireturn, 1) := by decide +kernel
theorem dX2_readWay_12 : decode cX2_readWay 12 = .ok (.aload_n 0, 1) := by decide +kernel
theorem dX2_readWay_13 : decode cX2_readWay 13 = .ok (.getfield 73, 3) := by decide +kernel
theorem dX2_readWay_16 : decode cX2_readWay 16 = .ok (.istore_n 2, 1) := by decide +kernel
theorem dX2_readWay_17 : decode cX2_readWay 17 = .ok (.aload_n 0, 1) := by decide +kernel
theorem dX2_readWay_18 : decode cX2_readWay 18 = .ok (.invokevirtual 29, 3) := by decide +kernel
theorem dX2_readWay_21 : decode cX2_readWay 21 = .ok (.pop, 1) := by decide +kernel
theorem dX2_readWay_22 : decode cX2_readWay 22 = .ok (.aload_n 0, 1) := by decide +kernel
theorem dX2_readWay_23 : decode cX2_readWay 23 = .ok (.getfield 33, 3) := by decide +kernel
theorem dX2_readWay_26 : decode cX2_readWay 26 = .ok (.istore_n 3, 1) := by decide +kernel
theorem dX2_readWay_27 : decode cX2_readWay 27 = .ok (.aload_n 0, 1) := by decide +kernel
theorem dX2_readWay_28 : decode cX2_readWay 28 = .ok (.iconst 0, 1) := by decide +kernel
theorem dX2_readWay_29 : decode cX2_readWay 29 = .ok (.bipush 7, 2) := by decide +kernel
theorem dX2_readWay_31 : decode cX2_readWay 31 = .ok (.invokevirtual 70, 3) := by decide +kernel
theorem dX2_readWay_34 : decode cX2_readWay 34 = .ok (.ifCond .ne 5, 3) := by decide +kernel
theorem dX2_readWay_37 : decode cX2_readWay 37 = .ok (.iconst 0, 1) := by decide +kernel
theorem dX2_readWay_38 : decode cX2_readWay 38 = .ok (.ireturn, 1) := by decide +kernel
theorem dX2_readWay_39 : decode cX2_readWay 39 = .ok (.aload_n 0, 1) := by decide +kernel
theorem dX2_readWay_40 : decode cX2_readWay 40 = .ok (.getfield 73, 3) := by decide +kernel
theorem dX2_readWay_43 : decode cX2_readWay 43 = .ok (.istore 4, 2) := by decide +kernel
theorem dX2_readWay_45 : decode cX2_readWay 45 = .ok (.iload 4, 2) := by decide +kernel
theorem dX2_readWay_47 : decode cX2_readWay 47 = .ok (.iload_n 2, 1) := by decide +kernel
theorem dX2_readWay_48 : decode cX2_readWay 48 = .ok (.if_icmp .ne 10, 3) := by decide +kernel
theorem dX2_readWay_51 : decode cX2_readWay 51 = .ok (.aload_n 0, 1) := by decide +kernel
theorem dX2_readWay_52 : decode cX2_readWay 52 = .ok (.iload_n 3, 1) := by decide +kernel
theorem dX2_readWay_53 : decode cX2_readWay 53 = .ok (.iconst 1, 1) := by decide +kernel
theorem dX2_readWay_54 : decode cX2_readWay 54 = .ok (.invokevirtual 36, 3) := by decide +kernel
theorem dX2_readWay_57 : decode cX2_readWay 57 = .ok (.ireturn, 1) := by decide +kernel
theorem dX2_readWay_58 : decode cX2_readWay 58 = .ok (.aload_n 0, 1) := by decide +kernel
theorem dX2_readWay_59 : decode cX2_readWay 59 = .ok (.iconst 1, 1) := by decide +kernel
theorem dX2_readWay_60 : decode cX2_readWay 60 = .ok (.bipush 60, 2) := by decide +kernel
theorem dX2_readWay_62 : decode cX2_readWay 62 = .ok (.invokevirtual 70, 3) := by decide +kernel
theorem dX2_readWay_65 : decode cX2_readWay 65 = .ok (.ifCond .ne 5, 3) := by decide +kernel
theorem dX2_readWay_68 : decode cX2_readWay 68 = .ok (.iconst 0, 1) := by decide +kernel
theorem dX2_readWay_69 : decode cX2_readWay 69 = .ok (.ireturn, 1) := by decide +kernel
theorem dX2_readWay_70 : decode cX2_readWay 70 = .ok (.aload_n 1, 1) := by decide +kernel
theorem dX2_readWay_71 : decode cX2_readWay 71 = .ok (.iload_n 2, 1) := by decide +kernel
theorem dX2_readWay_72 : decode cX2_readWay 72 = .ok (.iload 4, 2) := by decide +kernel
theorem dX2_readWay_74 : decode cX2_readWay 74 = .ok (.aload_n 0, 1) := by decide +kernel
theorem dX2_readWay_75 : decode cX2_readWay 75 = .ok (.getfield 73, 3) := by decide +kernel
theorem dX2_readWay_78 : decode cX2_readWay 78 = .ok (.invokevirtual 76, 3) := by decide +kernel
theorem dX2_readWay_81 : decode cX2_readWay 81 = .ok (.iconst 1, 1) := by decide +kernel
theorem dX2_readWay_82 : decode cX2_readWay 82 = .ok (.ireturn, 1) := by decide +kernel
theorem dX3_arrive_0 : decode cX3_arrive 0 = .ok (.aload_n 0, 1) := by decide +kernel
theorem dX3_arrive_1 : decode cX3_arrive 1 = .ok (.getfield 22, 3) := by decide +kernel
theorem dX3_arrive_4 : decode cX3_arrive 4 = .ok (.getfield 39, 3) := by decide +kernel
theorem dX3_arrive_7 : decode cX3_arrive 7 = .ok (.astore_n 1, 1) := by decide +kernel
theorem dX3_arrive_8 : decode cX3_arrive 8 = .ok (.aload_n 0, 1) := by decide +kernel
theorem dX3_arrive_9 : decode cX3_arrive 9 = .ok (.getfield 22, 3) := by decide +kernel
theorem dX3_arrive_12 : decode cX3_arrive 12 = .ok (.getfield 64, 3) := by decide +kernel
theorem dX3_arrive_15 : decode cX3_arrive 15 = .ok (.iconst 1, 1) := by decide +kernel
theorem dX3_arrive_16 : decode cX3_arrive 16 = .ok (.iadd, 1) := by decide +kernel
theorem dX3_arrive_17 : decode cX3_arrive 17 = .ok (.ldc 67, 2) := by decide +kernel
theorem dX3_arrive_19 : decode cX3_arrive 19 = .ok (.invokestatic 68, 3) := by decide +kernel
theorem dX3_arrive_22 : decode cX3_arrive 22 = .ok (.istore_n 2, 1) := by decide +kernel
theorem dX3_arrive_23 : decode cX3_arrive 23 = .ok (.iconst 0, 1) := by decide +kernel
theorem dX3_arrive_24 : decode cX3_arrive 24 = .ok (.istore_n 3, 1) := by decide +kernel
theorem dX3_arrive_25 : decode cX3_arrive 25 = .ok (.iload_n 3, 1) := by decide +kernel
theorem dX3_arrive_26 : decode cX3_arrive 26 = .ok (.aload_n 1, 1) := by decide +kernel
theorem dX3_arrive_27 : decode cX3_arrive 27 = .ok (.getfield 74, 3) := by decide +kernel
theorem dX3_arrive_30 : decode cX3_arrive 30 = .ok (.if_icmp .ge 79, 3) := by decide +kernel
theorem dX3_arrive_33 : decode cX3_arrive 33 = .ok (.aload_n 1, 1) := by decide +kernel
theorem dX3_arrive_34 : decode cX3_arrive 34 = .ok (.getfield 77, 3) := by decide +kernel
theorem dX3_arrive_37 : decode cX3_arrive 37 = .ok (.iload_n 3, 1) := by decide +kernel
theorem dX3_arrive_38 : decode cX3_arrive 38 = .ok (.iaload, 1) := by decide +kernel
