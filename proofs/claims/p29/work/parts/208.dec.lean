theorem dX11_isInside_0 : decode cX11_isInside 0 = .ok (.iconst 0, 1) := by decide +kernel
theorem dX11_isInside_1 : decode cX11_isInside 1 = .ok (.istore_n 1, 1) := by decide +kernel
theorem dX11_isInside_2 : decode cX11_isInside 2 = .ok (.iload_n 1, 1) := by decide +kernel
theorem dX11_isInside_3 : decode cX11_isInside 3 = .ok (.aload_n 0, 1) := by decide +kernel
theorem dX11_isInside_4 : decode cX11_isInside 4 = .ok (.getfield 162, 3) := by decide +kernel
theorem dX11_isInside_7 : decode cX11_isInside 7 = .ok (.if_icmp .ge 22, 3) := by decide +kernel
theorem dX11_isInside_10 : decode cX11_isInside 10 = .ok (.aload_n 0, 1) := by decide +kernel
theorem dX11_isInside_11 : decode cX11_isInside 11 = .ok (.getfield 32, 3) := by decide +kernel
theorem dX11_isInside_14 : decode cX11_isInside 14 = .ok (.iload_n 1, 1) := by decide +kernel
theorem dX11_isInside_15 : decode cX11_isInside 15 = .ok (.iaload, 1) := by decide +kernel
theorem dX11_isInside_16 : decode cX11_isInside 16 = .ok (.bipush 91, 2) := by decide +kernel
theorem dX11_isInside_18 : decode cX11_isInside 18 = .ok (.if_icmp .ne 5, 3) := by decide +kernel
theorem dX11_isInside_21 : decode cX11_isInside 21 = .ok (.iconst 1, 1) := by decide +kernel
theorem dX11_isInside_22 : decode cX11_isInside 22 = .ok (.ireturn, 1) := by decide +kernel
theorem dX11_isInside_23 : decode cX11_isInside 23 = .ok (.iinc 1 1, 3) := by decide +kernel
theorem dX11_isInside_26 : decode cX11_isInside 26 = .ok (.goto (-24), 3) := by decide +kernel
theorem dX11_isInside_29 : decode cX11_isInside 29 = .ok (.iconst 0, 1) := by decide +kernel
theorem dX11_isInside_30 : decode cX11_isInside 30 = .ok (.ireturn, 1) := by decide +kernel
theorem dX11_isLetter_0 : decode cX11_isLetter 0 = .ok (.iload_n 1, 1) := by decide +kernel
theorem dX11_isLetter_1 : decode cX11_isLetter 1 = .ok (.aload_n 0, 1) := by decide +kernel
theorem dX11_isLetter_2 : decode cX11_isLetter 2 = .ok (.getfield 86, 3) := by decide +kernel
theorem dX11_isLetter_5 : decode cX11_isLetter 5 = .ok (.if_icmp .ge 29, 3) := by decide +kernel
theorem dX11_isLetter_8 : decode cX11_isLetter 8 = .ok (.aload_n 0, 1) := by decide +kernel
theorem dX11_isLetter_9 : decode cX11_isLetter 9 = .ok (.getfield 7, 3) := by decide +kernel
theorem dX11_isLetter_12 : decode cX11_isLetter 12 = .ok (.iload_n 1, 1) := by decide +kernel
theorem dX11_isLetter_13 : decode cX11_isLetter 13 = .ok (.baload, 1) := by decide +kernel
theorem dX11_isLetter_14 : decode cX11_isLetter 14 = .ok (.bipush 97, 2) := by decide +kernel
theorem dX11_isLetter_16 : decode cX11_isLetter 16 = .ok (.if_icmp .lt 18, 3) := by decide +kernel
theorem dX11_isLetter_19 : decode cX11_isLetter 19 = .ok (.aload_n 0, 1) := by decide +kernel
theorem dX11_isLetter_20 : decode cX11_isLetter 20 = .ok (.getfield 7, 3) := by decide +kernel
theorem dX11_isLetter_23 : decode cX11_isLetter 23 = .ok (.iload_n 1, 1) := by decide +kernel
theorem dX11_isLetter_24 : decode cX11_isLetter 24 = .ok (.baload, 1) := by decide +kernel
theorem dX11_isLetter_25 : decode cX11_isLetter 25 = .ok (.bipush 122, 2) := by decide +kernel
theorem dX11_isLetter_27 : decode cX11_isLetter 27 = .ok (.if_icmp .gt 7, 3) := by decide +kernel
theorem dX11_isLetter_30 : decode cX11_isLetter 30 = .ok (.iconst 1, 1) := by decide +kernel
theorem dX11_isLetter_31 : decode cX11_isLetter 31 = .ok (.goto 4, 3) := by decide +kernel
theorem dX11_isLetter_34 : decode cX11_isLetter 34 = .ok (.iconst 0, 1) := by decide +kernel
theorem dX11_isLetter_35 : decode cX11_isLetter 35 = .ok (.ireturn, 1) := by decide +kernel
theorem dX11_isPlace_0 : decode cX11_isPlace 0 = .ok (.iload_n 0, 1) := by decide +kernel
theorem dX11_isPlace_1 : decode cX11_isPlace 1 = .ok (.ifCond .lt 13, 3) := by decide +kernel
theorem dX11_isPlace_4 : decode cX11_isPlace 4 = .ok (.iload_n 0, 1) := by decide +kernel
theorem dX11_isPlace_5 : decode cX11_isPlace 5 = .ok (.bipush 8, 2) := by decide +kernel
theorem dX11_isPlace_7 : decode cX11_isPlace 7 = .ok (.if_icmp .ge 7, 3) := by decide +kernel
theorem dX11_isPlace_10 : decode cX11_isPlace 10 = .ok (.iconst 1, 1) := by decide +kernel
theorem dX11_isPlace_11 : decode cX11_isPlace 11 = .ok (.goto 4, 3) := by decide +kernel
theorem dX11_isPlace_14 : decode cX11_isPlace 14 = .ok (.iconst 0, 1) := by decide +kernel
theorem dX11_isPlace_15 : decode cX11_isPlace 15 = .ok (.ireturn, 1) := by decide +kernel
theorem dX11_isRule_0 : decode cX11_isRule 0 = .ok (.iload_n 1, 1) := by decide +kernel
theorem dX11_isRule_1 : decode cX11_isRule 1 = .ok (.ifCond .lt 15, 3) := by decide +kernel
theorem dX11_isRule_4 : decode cX11_isRule 4 = .ok (.iload_n 1, 1) := by decide +kernel
theorem dX11_isRule_5 : decode cX11_isRule 5 = .ok (.aload_n 0, 1) := by decide +kernel
theorem dX11_isRule_6 : decode cX11_isRule 6 = .ok (.getfield 250, 3) := by decide +kernel
theorem dX11_isRule_9 : decode cX11_isRule 9 = .ok (.if_icmp .ge 7, 3) := by decide +kernel
theorem dX11_isRule_12 : decode cX11_isRule 12 = .ok (.iconst 1, 1) := by decide +kernel
theorem dX11_isRule_13 : decode cX11_isRule 13 = .ok (.goto 4, 3) := by decide +kernel
theorem dX11_isRule_16 : decode cX11_isRule 16 = .ok (.iconst 0, 1) := by decide +kernel
theorem dX11_isRule_17 : decode cX11_isRule 17 = .ok (.ireturn, 1) := by decide +kernel
theorem dX11_isWay_0 : decode cX11_isWay 0 = .ok (.iload_n 1, 1) := by decide +kernel
theorem dX11_isWay_1 : decode cX11_isWay 1 = .ok (.ifCond .lt 17, 3) := by decide +kernel
theorem dX11_isWay_4 : decode cX11_isWay 4 = .ok (.iload_n 1, 1) := by decide +kernel
theorem dX11_isWay_5 : decode cX11_isWay 5 = .ok (.aload_n 0, 1) := by decide +kernel
theorem dX11_isWay_6 : decode cX11_isWay 6 = .ok (.getfield 42, 3) := by decide +kernel
theorem dX11_isWay_9 : decode cX11_isWay 9 = .ok (.iconst 0, 1) := by decide +kernel
theorem dX11_isWay_10 : decode cX11_isWay 10 = .ok (.iaload, 1) := by decide +kernel
theorem dX11_isWay_11 : decode cX11_isWay 11 = .ok (.if_icmp .ge 7, 3) := by decide +kernel
theorem dX11_isWay_14 : decode cX11_isWay 14 = .ok (.iconst 1, 1) := by decide +kernel
theorem dX11_isWay_15 : decode cX11_isWay 15 = .ok (.goto 4, 3) := by decide +kernel
theorem dX11_isWay_18 : decode cX11_isWay 18 = .ok (.iconst 0, 1) := by decide +kernel
theorem dX11_isWay_19 : decode cX11_isWay 19 = .ok (.ireturn, 1) := by decide +kernel
theorem dX11_isWayHere_0 : decode cX11_isWayHere 0 = .ok (.aload_n 0, 1) := by decide +kernel
theorem dX11_isWayHere_1 : decode cX11_isWayHere 1 = .ok (.getfield 225, 3) := by decide +kernel
theorem dX11_isWayHere_4 : decode cX11_isWayHere 4 = .ok (.bipush 14, 2) := by decide +kernel
theorem dX11_isWayHere_6 : decode cX11_isWayHere 6 = .ok (.if_icmp .ne 10, 3) := by decide +kernel
theorem dX11_isWayHere_9 : decode cX11_isWayHere 9 = .ok (.aload_n 0, 1) := by decide +kernel
theorem dX11_isWayHere_10 : decode cX11_isWayHere 10 = .ok (.iconst 4, 1) := by decide +kernel
theorem dX11_isWayHere_11 : decode cX11_isWayHere 11 = .ok (.iload_n 1, 1) := by decide +kernel
theorem dX11_isWayHere_12 : decode cX11_isWayHere 12 = .ok (.invokevirtual 118, 3) := by decide +kernel
theorem dX11_isWayHere_15 : decode cX11_isWayHere 15 = .ok (.ireturn, 1) := by decide +kernel
theorem dX11_isWayHere_16 : decode cX11_isWayHere 16 = .ok (.aload_n 0, 1) := by decide +kernel
theorem dX11_isWayHere_17 : decode cX11_isWayHere 17 = .ok (.invokevirtual 112, 3) := by decide +kernel
theorem dX11_isWayHere_20 : decode cX11_isWayHere 20 = .ok (.iconst 3, 1) := by decide +kernel
theorem dX11_isWayHere_21 : decode cX11_isWayHere 21 = .ok (.aload_n 0, 1) := by decide +kernel
theorem dX11_isWayHere_22 : decode cX11_isWayHere 22 = .ok (.getfield 225, 3) := by decide +kernel
theorem dX11_isWayHere_25 : decode cX11_isWayHere 25 = .ok (.imul, 1) := by decide +kernel
theorem dX11_isWayHere_26 : decode cX11_isWayHere 26 = .ok (.istore_n 2, 1) := by decide +kernel
theorem dX11_isWayHere_27 : decode cX11_isWayHere 27 = .ok (.aload_n 0, 1) := by decide +kernel
theorem dX11_isWayHere_28 : decode cX11_isWayHere 28 = .ok (.iconst 0, 1) := by decide +kernel
theorem dX11_isWayHere_29 : decode cX11_isWayHere 29 = .ok (.bipush 7, 2) := by decide +kernel
theorem dX11_isWayHere_31 : decode cX11_isWayHere 31 = .ok (.invokevirtual 174, 3) := by decide +kernel
theorem dX11_isWayHere_34 : decode cX11_isWayHere 34 = .ok (.ifCond .ne 5, 3) := by decide +kernel
theorem dX11_isWayHere_37 : decode cX11_isWayHere 37 = .ok (.iconst 0, 1) := by decide +kernel
theorem dX11_isWayHere_38 : decode cX11_isWayHere 38 = .ok (.ireturn, 1) := by decide +kernel
theorem dX11_isWayHere_39 : decode cX11_isWayHere 39 = .ok (.aload_n 0, 1) := by decide +kernel
theorem dX11_isWayHere_40 : decode cX11_isWayHere 40 = .ok (.getfield 26, 3) := by decide +kernel
theorem dX11_isWayHere_43 : decode cX11_isWayHere 43 = .ok (.iload_n 2, 1) := by decide +kernel
theorem dX11_isWayHere_44 : decode cX11_isWayHere 44 = .ok (.aload_n 0, 1) := by decide +kernel
theorem dX11_isWayHere_45 : decode cX11_isWayHere 45 = .ok (.getfield 122, 3) := by decide +kernel
theorem dX11_isWayHere_48 : decode cX11_isWayHere 48 = .ok (.iastore, 1) := by decide +kernel
theorem dX11_isWayHere_49 : decode cX11_isWayHere 49 = .ok (.aload_n 0, 1) := by decide +kernel
theorem dX11_isWayHere_50 : decode cX11_isWayHere 50 = .ok (.invokevirtual 100, 3) := by decide +kernel
theorem dX11_isWayHere_53 : decode cX11_isWayHere 53 = .ok (.pop, 1) := by decide +kernel
theorem dX11_isWayHere_54 : decode cX11_isWayHere 54 = .ok (.aload_n 0, 1) := by decide +kernel
theorem dX11_isWayHere_55 : decode cX11_isWayHere 55 = .ok (.getfield 97, 3) := by decide +kernel
theorem dX11_isWayHere_58 : decode cX11_isWayHere 58 = .ok (.istore_n 3, 1) := by decide +kernel
theorem dX11_isWayHere_59 : decode cX11_isWayHere 59 = .ok (.aload_n 0, 1) := by decide +kernel
theorem dX11_isWayHere_60 : decode cX11_isWayHere 60 = .ok (.iconst 0, 1) := by decide +kernel
theorem dX11_isWayHere_61 : decode cX11_isWayHere 61 = .ok (.bipush 7, 2) := by decide +kernel
theorem dX11_isWayHere_63 : decode cX11_isWayHere 63 = .ok (.invokevirtual 174, 3) := by decide +kernel
theorem dX11_isWayHere_66 : decode cX11_isWayHere 66 = .ok (.ifCond .ne 5, 3) := by decide +kernel
theorem dX11_isWayHere_69 : decode cX11_isWayHere 69 = .ok (.iconst 0, 1) := by decide +kernel
theorem dX11_isWayHere_70 : decode cX11_isWayHere 70 = .ok (.ireturn, 1) := by decide +kernel
theorem dX11_isWayHere_71 : decode cX11_isWayHere 71 = .ok (.aload_n 0, 1) := by decide +kernel
theorem dX11_isWayHere_72 : decode cX11_isWayHere 72 = .ok (.getfield 122, 3) := by decide +kernel
theorem dX11_isWayHere_75 : decode cX11_isWayHere 75 = .ok (.aload_n 0, 1) := by decide +kernel
theorem dX11_isWayHere_76 : decode cX11_isWayHere 76 = .ok (.getfield 26, 3) := by decide +kernel
theorem dX11_isWayHere_79 : decode cX11_isWayHere 79 = .ok (.iload_n 2, 1) := by decide +kernel
theorem dX11_isWayHere_80 : decode cX11_isWayHere 80 = .ok (.iaload, 1) := by decide +kernel
theorem dX11_isWayHere_81 : decode cX11_isWayHere 81 = .ok (.if_icmp .ne 10, 3) := by decide +kernel
theorem dX11_isWayHere_84 : decode cX11_isWayHere 84 = .ok (.aload_n 0, 1) := by decide +kernel
theorem dX11_isWayHere_85 : decode cX11_isWayHere 85 = .ok (.iconst 1, 1) := by decide +kernel
theorem dX11_isWayHere_86 : decode cX11_isWayHere 86 = .ok (.iload_n 3, 1) := by decide +kernel
theorem dX11_isWayHere_87 : decode cX11_isWayHere 87 = .ok (.invokevirtual 118, 3) := by decide +kernel
theorem dX11_isWayHere_90 : decode cX11_isWayHere 90 = .ok (.ireturn, 1) := by decide +kernel
theorem dX11_isWayHere_91 : decode cX11_isWayHere 91 = .ok (.aload_n 0, 1) := by decide +kernel
theorem dX11_isWayHere_92 : decode cX11_isWayHere 92 = .ok (.getfield 26, 3) := by decide +kernel
theorem dX11_isWayHere_95 : decode cX11_isWayHere 95 = .ok (.iload_n 2, 1) := by decide +kernel
theorem dX11_isWayHere_96 : decode cX11_isWayHere 96 = .ok (.iconst 1, 1) := by decide +kernel
theorem dX11_isWayHere_97 : decode cX11_isWayHere 97 = .ok (.iadd, 1) := by decide +kernel
theorem dX11_isWayHere_98 : decode cX11_isWayHere 98 = .ok (.aload_n 0, 1) := by decide +kernel
theorem dX11_isWayHere_99 : decode cX11_isWayHere 99 = .ok (.getfield 122, 3) := by decide +kernel
theorem dX11_isWayHere_102 : decode cX11_isWayHere 102 = .ok (.iastore, 1) := by decide +kernel
theorem dX11_isWayHere_103 : decode cX11_isWayHere 103 = .ok (.aload_n 0, 1) := by decide +kernel
theorem dX11_isWayHere_104 : decode cX11_isWayHere 104 = .ok (.iconst 1, 1) := by decide +kernel
theorem dX11_isWayHere_105 : decode cX11_isWayHere 105 = .ok (.bipush 60, 2) := by decide +kernel
theorem dX11_isWayHere_107 : decode cX11_isWayHere 107 = .ok (.invokevirtual 174, 3) := by decide +kernel
theorem dX11_isWayHere_110 : decode cX11_isWayHere 110 = .ok (.ifCond .ne 5, 3) := by decide +kernel
theorem dX11_isWayHere_113 : decode cX11_isWayHere 113 = .ok (.iconst 0, 1) := by decide +kernel
theorem dX11_isWayHere_114 : decode cX11_isWayHere 114 = .ok (.ireturn, 1) := by decide +kernel
theorem dX11_isWayHere_115 : decode cX11_isWayHere 115 = .ok (.aload_n 0, 1) := by decide +kernel
theorem dX11_isWayHere_116 : decode cX11_isWayHere 116 = .ok (.getfield 26, 3) := by decide +kernel
theorem dX11_isWayHere_119 : decode cX11_isWayHere 119 = .ok (.iload_n 2, 1) := by decide +kernel
theorem dX11_isWayHere_120 : decode cX11_isWayHere 120 = .ok (.iconst 2, 1) := by decide +kernel
theorem dX11_isWayHere_121 : decode cX11_isWayHere 121 = .ok (.iadd, 1) := by decide +kernel
theorem dX11_isWayHere_122 : decode cX11_isWayHere 122 = .ok (.aload_n 0, 1) := by decide +kernel
theorem dX11_isWayHere_123 : decode cX11_isWayHere 123 = .ok (.getfield 122, 3) := by decide +kernel
theorem dX11_isWayHere_126 : decode cX11_isWayHere 126 = .ok (.iastore, 1) := by decide +kernel
theorem dX11_isWayHere_127 : decode cX11_isWayHere 127 = .ok (.aload_n 0, 1) := by decide +kernel
theorem dX11_isWayHere_128 : decode cX11_isWayHere 128 = .ok (.dup, 1) := by decide +kernel
theorem dX11_isWayHere_129 : decode cX11_isWayHere 129 = .ok (.getfield 225, 3) := by decide +kernel
theorem dX11_isWayHere_132 : decode cX11_isWayHere 132 = .ok (.iconst 1, 1) := by decide +kernel
theorem dX11_isWayHere_133 : decode cX11_isWayHere 133 = .ok (.iadd, 1) := by decide +kernel
theorem dX11_isWayHere_134 : decode cX11_isWayHere 134 = .ok (.putfield 225, 3) := by decide +kernel
theorem dX11_isWayHere_137 : decode cX11_isWayHere 137 = .ok (.iconst 1, 1) := by decide +kernel
theorem dX11_isWayHere_138 : decode cX11_isWayHere 138 = .ok (.ireturn, 1) := by decide +kernel
theorem dX11_isWord_0 : decode cX11_isWord 0 = .ok (.aload_n 0, 1) := by decide +kernel
theorem dX11_isWord_1 : decode cX11_isWord 1 = .ok (.invokevirtual 100, 3) := by decide +kernel
theorem dX11_isWord_4 : decode cX11_isWord 4 = .ok (.pop, 1) := by decide +kernel
theorem dX11_isWord_5 : decode cX11_isWord 5 = .ok (.lconst 0, 1) := by decide +kernel
theorem dX11_isWord_6 : decode cX11_isWord 6 = .ok (.lstore_n 3, 1) := by decide +kernel
theorem dX11_isWord_7 : decode cX11_isWord 7 = .ok (.iconst 0, 1) := by decide +kernel
theorem dX11_isWord_8 : decode cX11_isWord 8 = .ok (.istore 5, 2) := by decide +kernel
theorem dX11_isWord_10 : decode cX11_isWord 10 = .ok (.aload_n 0, 1) := by decide +kernel
theorem dX11_isWord_11 : decode cX11_isWord 11 = .ok (.aload_n 0, 1) := by decide +kernel
theorem dX11_isWord_12 : decode cX11_isWord 12 = .ok (.getfield 97, 3) := by decide +kernel
theorem dX11_isWord_15 : decode cX11_isWord 15 = .ok (.iload 5, 2) := by decide +kernel
theorem dX11_isWord_17 : decode cX11_isWord 17 = .ok (.iadd, 1) := by decide +kernel
theorem dX11_isWord_18 : decode cX11_isWord 18 = .ok (.invokevirtual 104, 3) := by decide +kernel
theorem dX11_isWord_21 : decode cX11_isWord 21 = .ok (.ifCond .eq 35, 3) := by decide +kernel
theorem dX11_isWord_24 : decode cX11_isWord 24 = .ok (.iload 5, 2) := by decide +kernel
theorem dX11_isWord_26 : decode cX11_isWord 26 = .ok (.bipush 8, 2) := by decide +kernel
theorem dX11_isWord_28 : decode cX11_isWord 28 = .ok (.if_icmp .ge 22, 3) := by decide +kernel
theorem dX11_isWord_31 : decode cX11_isWord 31 = .ok (.lload_n 3, 1) := by decide +kernel
theorem dX11_isWord_32 : decode cX11_isWord 32 = .ok (.bipush 8, 2) := by decide +kernel
theorem dX11_isWord_34 : decode cX11_isWord 34 = .ok (.lshl, 1) := by decide +kernel
theorem dX11_isWord_35 : decode cX11_isWord 35 = .ok (.aload_n 0, 1) := by decide +kernel
theorem dX11_isWord_36 : decode cX11_isWord 36 = .ok (.getfield 7, 3) := by decide +kernel
theorem dX11_isWord_39 : decode cX11_isWord 39 = .ok (.aload_n 0, 1) := by decide +kernel
theorem dX11_isWord_40 : decode cX11_isWord 40 = .ok (.getfield 97, 3) := by decide +kernel
theorem dX11_isWord_43 : decode cX11_isWord 43 = .ok (.iload 5, 2) := by decide +kernel
theorem dX11_isWord_45 : decode cX11_isWord 45 = .ok (.iadd, 1) := by decide +kernel
theorem dX11_isWord_46 : decode cX11_isWord 46 = .ok (.baload, 1) := by decide +kernel
theorem dX11_isWord_47 : decode cX11_isWord 47 = .ok (.i2l, 1) := by decide +kernel
theorem dX11_isWord_48 : decode cX11_isWord 48 = .ok (.lor, 1) := by decide +kernel
theorem dX11_isWord_49 : decode cX11_isWord 49 = .ok (.lstore_n 3, 1) := by decide +kernel
theorem dX11_isWord_50 : decode cX11_isWord 50 = .ok (.iinc 5 1, 3) := by decide +kernel
theorem dX11_isWord_53 : decode cX11_isWord 53 = .ok (.goto (-43), 3) := by decide +kernel
theorem dX11_isWord_56 : decode cX11_isWord 56 = .ok (.iload 5, 2) := by decide +kernel
theorem dX11_isWord_58 : decode cX11_isWord 58 = .ok (.ifCond .le 20, 3) := by decide +kernel
theorem dX11_isWord_61 : decode cX11_isWord 61 = .ok (.iload 5, 2) := by decide +kernel
theorem dX11_isWord_63 : decode cX11_isWord 63 = .ok (.bipush 8, 2) := by decide +kernel
theorem dX11_isWord_65 : decode cX11_isWord 65 = .ok (.if_icmp .ge 13, 3) := by decide +kernel
theorem dX11_isWord_68 : decode cX11_isWord 68 = .ok (.lload_n 3, 1) := by decide +kernel
theorem dX11_isWord_69 : decode cX11_isWord 69 = .ok (.lload_n 1, 1) := by decide +kernel
theorem dX11_isWord_70 : decode cX11_isWord 70 = .ok (.lcmp, 1) := by decide +kernel
theorem dX11_isWord_71 : decode cX11_isWord 71 = .ok (.ifCond .ne 7, 3) := by decide +kernel
theorem dX11_isWord_74 : decode cX11_isWord 74 = .ok (.iconst 1, 1) := by decide +kernel
theorem dX11_isWord_75 : decode cX11_isWord 75 = .ok (.goto 4, 3) := by decide +kernel
theorem dX11_isWord_78 : decode cX11_isWord 78 = .ok (.iconst 0, 1) := by decide +kernel
theorem dX11_isWord_79 : decode cX11_isWord 79 = .ok (.ireturn, 1) := by decide +kernel
theorem dX11_keeps_0 : decode cX11_keeps 0 = .ok (.iconst 0, 1) := by decide +kernel
theorem dX11_keeps_1 : decode cX11_keeps 1 = .ok (.istore_n 1, 1) := by decide +kernel
theorem dX11_keeps_2 : decode cX11_keeps 2 = .ok (.iload_n 1, 1) := by decide +kernel
theorem dX11_keeps_3 : decode cX11_keeps 3 = .ok (.sipush 202, 3) := by decide +kernel
theorem dX11_keeps_6 : decode cX11_keeps 6 = .ok (.if_icmp .ge 21, 3) := by decide +kernel
theorem dX11_keeps_9 : decode cX11_keeps 9 = .ok (.aload_n 0, 1) := by decide +kernel
theorem dX11_keeps_10 : decode cX11_keeps 10 = .ok (.getfield 45, 3) := by decide +kernel
theorem dX11_keeps_13 : decode cX11_keeps 13 = .ok (.iload_n 1, 1) := by decide +kernel
theorem dX11_keeps_14 : decode cX11_keeps 14 = .ok (.aload_n 0, 1) := by decide +kernel
theorem dX11_keeps_15 : decode cX11_keeps 15 = .ok (.getfield 42, 3) := by decide +kernel
theorem dX11_keeps_18 : decode cX11_keeps 18 = .ok (.iload_n 1, 1) := by decide +kernel
theorem dX11_keeps_19 : decode cX11_keeps 19 = .ok (.iaload, 1) := by decide +kernel
theorem dX11_keeps_20 : decode cX11_keeps 20 = .ok (.iastore, 1) := by decide +kernel
theorem dX11_keeps_21 : decode cX11_keeps 21 = .ok (.iinc 1 1, 3) := by decide +kernel
theorem dX11_keeps_24 : decode cX11_keeps 24 = .ok (.goto (-22), 3) := by decide +kernel
theorem dX11_keeps_27 : decode cX11_keeps 27 = .ok (.return_, 1) := by decide +kernel
theorem dX11_land_0 : decode cX11_land 0 = .ok (.aload_n 0, 1) := by decide +kernel
theorem dX11_land_1 : decode cX11_land 1 = .ok (.bipush 6, 2) := by decide +kernel
theorem dX11_land_3 : decode cX11_land 3 = .ok (.putfield 153, 3) := by decide +kernel
theorem dX11_land_6 : decode cX11_land 6 = .ok (.aload_n 0, 1) := by decide +kernel
theorem dX11_land_7 : decode cX11_land 7 = .ok (.iconst 0, 1) := by decide +kernel
theorem dX11_land_8 : decode cX11_land 8 = .ok (.putfield 225, 3) := by decide +kernel
theorem dX11_land_11 : decode cX11_land 11 = .ok (.aload_n 0, 1) := by decide +kernel
theorem dX11_land_12 : decode cX11_land 12 = .ok (.iconst 0, 1) := by decide +kernel
theorem dX11_land_13 : decode cX11_land 13 = .ok (.putfield 228, 3) := by decide +kernel
theorem dX11_land_16 : decode cX11_land 16 = .ok (.aload_n 0, 1) := by decide +kernel
theorem dX11_land_17 : decode cX11_land 17 = .ok (.invokevirtual 253, 3) := by decide +kernel
theorem dX11_land_20 : decode cX11_land 20 = .ok (.ifCond .ne 11, 3) := by decide +kernel
theorem dX11_land_23 : decode cX11_land 23 = .ok (.bipush (-2), 2) := by decide +kernel
theorem dX11_land_25 : decode cX11_land 25 = .ok (.aload_n 0, 1) := by decide +kernel
theorem dX11_land_26 : decode cX11_land 26 = .ok (.getfield 94, 3) := by decide +kernel
theorem dX11_land_29 : decode cX11_land 29 = .ok (.isub, 1) := by decide +kernel
theorem dX11_land_30 : decode cX11_land 30 = .ok (.ireturn, 1) := by decide +kernel
theorem dX11_land_31 : decode cX11_land 31 = .ok (.aload_n 0, 1) := by decide +kernel
theorem dX11_land_32 : decode cX11_land 32 = .ok (.getfield 42, 3) := by decide +kernel
theorem dX11_land_35 : decode cX11_land 35 = .ok (.bipush 7, 2) := by decide +kernel
theorem dX11_land_37 : decode cX11_land 37 = .ok (.iaload, 1) := by decide +kernel
theorem dX11_land_38 : decode cX11_land 38 = .ok (.istore_n 1, 1) := by decide +kernel
theorem dX11_land_39 : decode cX11_land 39 = .ok (.iconst 0, 1) := by decide +kernel
theorem dX11_land_40 : decode cX11_land 40 = .ok (.istore_n 2, 1) := by decide +kernel
theorem dX11_land_41 : decode cX11_land 41 = .ok (.iload_n 2, 1) := by decide +kernel
theorem dX11_land_42 : decode cX11_land 42 = .ok (.sipush 202, 3) := by decide +kernel
theorem dX11_land_45 : decode cX11_land 45 = .ok (.if_icmp .ge 16, 3) := by decide +kernel
theorem dX11_land_48 : decode cX11_land 48 = .ok (.aload_n 0, 1) := by decide +kernel
theorem dX11_land_49 : decode cX11_land 49 = .ok (.getfield 42, 3) := by decide +kernel
theorem dX11_land_52 : decode cX11_land 52 = .ok (.iload_n 2, 1) := by decide +kernel
theorem dX11_land_53 : decode cX11_land 53 = .ok (.iconst 0, 1) := by decide +kernel
theorem dX11_land_54 : decode cX11_land 54 = .ok (.iastore, 1) := by decide +kernel
theorem dX11_land_55 : decode cX11_land 55 = .ok (.iinc 2 1, 3) := by decide +kernel
theorem dX11_land_58 : decode cX11_land 58 = .ok (.goto (-17), 3) := by decide +kernel
theorem dX11_land_61 : decode cX11_land 61 = .ok (.aload_n 0, 1) := by decide +kernel
theorem dX11_land_62 : decode cX11_land 62 = .ok (.getfield 42, 3) := by decide +kernel
theorem dX11_land_65 : decode cX11_land 65 = .ok (.bipush 7, 2) := by decide +kernel
theorem dX11_land_67 : decode cX11_land 67 = .ok (.iload_n 1, 1) := by decide +kernel
theorem dX11_land_68 : decode cX11_land 68 = .ok (.iastore, 1) := by decide +kernel
theorem dX11_land_69 : decode cX11_land 69 = .ok (.aload_n 0, 1) := by decide +kernel
theorem dX11_land_70 : decode cX11_land 70 = .ok (.getfield 42, 3) := by decide +kernel
theorem dX11_land_73 : decode cX11_land 73 = .ok (.iconst 0, 1) := by decide +kernel
theorem dX11_land_74 : decode cX11_land 74 = .ok (.aload_n 0, 1) := by decide +kernel
theorem dX11_land_75 : decode cX11_land 75 = .ok (.getfield 225, 3) := by decide +kernel
theorem dX11_land_78 : decode cX11_land 78 = .ok (.iastore, 1) := by decide +kernel
theorem dX11_land_79 : decode cX11_land 79 = .ok (.aload_n 0, 1) := by decide +kernel
theorem dX11_land_80 : decode cX11_land 80 = .ok (.getfield 42, 3) := by decide +kernel
theorem dX11_land_83 : decode cX11_land 83 = .ok (.iconst 1, 1) := by decide +kernel
theorem dX11_land_84 : decode cX11_land 84 = .ok (.aload_n 0, 1) := by decide +kernel
theorem dX11_land_85 : decode cX11_land 85 = .ok (.getfield 228, 3) := by decide +kernel
theorem dX11_land_88 : decode cX11_land 88 = .ok (.iastore, 1) := by decide +kernel
theorem dX11_land_89 : decode cX11_land 89 = .ok (.iconst 0, 1) := by decide +kernel
theorem dX11_land_90 : decode cX11_land 90 = .ok (.istore_n 2, 1) := by decide +kernel
theorem dX11_land_91 : decode cX11_land 91 = .ok (.iload_n 2, 1) := by decide +kernel
theorem dX11_land_92 : decode cX11_land 92 = .ok (.aload_n 0, 1) := by decide +kernel
theorem dX11_land_93 : decode cX11_land 93 = .ok (.getfield 225, 3) := by decide +kernel
theorem dX11_land_96 : decode cX11_land 96 = .ok (.if_icmp .ge 45, 3) := by decide +kernel
theorem dX11_land_99 : decode cX11_land 99 = .ok (.iconst 0, 1) := by decide +kernel
theorem dX11_land_100 : decode cX11_land 100 = .ok (.istore_n 3, 1) := by decide +kernel
theorem dX11_land_101 : decode cX11_land 101 = .ok (.iload_n 3, 1) := by decide +kernel
theorem dX11_land_102 : decode cX11_land 102 = .ok (.iconst 3, 1) := by decide +kernel
theorem dX11_land_103 : decode cX11_land 103 = .ok (.if_icmp .ge 32, 3) := by decide +kernel
theorem dX11_land_106 : decode cX11_land 106 = .ok (.aload_n 0, 1) := by decide +kernel
theorem dX11_land_107 : decode cX11_land 107 = .ok (.getfield 42, 3) := by decide +kernel
theorem dX11_land_110 : decode cX11_land 110 = .ok (.bipush 10, 2) := by decide +kernel
theorem dX11_land_112 : decode cX11_land 112 = .ok (.iconst 5, 1) := by decide +kernel
theorem dX11_land_113 : decode cX11_land 113 = .ok (.iload_n 2, 1) := by decide +kernel
theorem dX11_land_114 : decode cX11_land 114 = .ok (.imul, 1) := by decide +kernel
theorem dX11_land_115 : decode cX11_land 115 = .ok (.iadd, 1) := by decide +kernel
theorem dX11_land_116 : decode cX11_land 116 = .ok (.iload_n 3, 1) := by decide +kernel
theorem dX11_land_117 : decode cX11_land 117 = .ok (.iadd, 1) := by decide +kernel
theorem dX11_land_118 : decode cX11_land 118 = .ok (.aload_n 0, 1) := by decide +kernel
theorem dX11_land_119 : decode cX11_land 119 = .ok (.getfield 26, 3) := by decide +kernel
theorem dX11_land_122 : decode cX11_land 122 = .ok (.iconst 3, 1) := by decide +kernel
theorem dX11_land_123 : decode cX11_land 123 = .ok (.iload_n 2, 1) := by decide +kernel
theorem dX11_land_124 : decode cX11_land 124 = .ok (.imul, 1) := by decide +kernel
theorem dX11_land_125 : decode cX11_land 125 = .ok (.iload_n 3, 1) := by decide +kernel
theorem dX11_land_126 : decode cX11_land 126 = .ok (.iadd, 1) := by decide +kernel
theorem dX11_land_127 : decode cX11_land 127 = .ok (.iaload, 1) := by decide +kernel
theorem dX11_land_128 : decode cX11_land 128 = .ok (.iastore, 1) := by decide +kernel
theorem dX11_land_129 : decode cX11_land 129 = .ok (.iinc 3 1, 3) := by decide +kernel
theorem dX11_land_132 : decode cX11_land 132 = .ok (.goto (-31), 3) := by decide +kernel
theorem dX11_land_135 : decode cX11_land 135 = .ok (.iinc 2 1, 3) := by decide +kernel
theorem dX11_land_138 : decode cX11_land 138 = .ok (.goto (-47), 3) := by decide +kernel
theorem dX11_land_141 : decode cX11_land 141 = .ok (.iconst 0, 1) := by decide +kernel
theorem dX11_land_142 : decode cX11_land 142 = .ok (.istore_n 2, 1) := by decide +kernel
theorem dX11_land_143 : decode cX11_land 143 = .ok (.iload_n 2, 1) := by decide +kernel
theorem dX11_land_144 : decode cX11_land 144 = .ok (.aload_n 0, 1) := by decide +kernel
theorem dX11_land_145 : decode cX11_land 145 = .ok (.getfield 228, 3) := by decide +kernel
theorem dX11_land_148 : decode cX11_land 148 = .ok (.if_icmp .ge 101, 3) := by decide +kernel
theorem dX11_land_151 : decode cX11_land 151 = .ok (.bipush 80, 2) := by decide +kernel
theorem dX11_land_153 : decode cX11_land 153 = .ok (.bipush 7, 2) := by decide +kernel
theorem dX11_land_155 : decode cX11_land 155 = .ok (.iload_n 2, 1) := by decide +kernel
theorem dX11_land_156 : decode cX11_land 156 = .ok (.imul, 1) := by decide +kernel
theorem dX11_land_157 : decode cX11_land 157 = .ok (.iadd, 1) := by decide +kernel
theorem dX11_land_158 : decode cX11_land 158 = .ok (.istore_n 3, 1) := by decide +kernel
theorem dX11_land_159 : decode cX11_land 159 = .ok (.iconst 0, 1) := by decide +kernel
theorem dX11_land_160 : decode cX11_land 160 = .ok (.istore 4, 2) := by decide +kernel
theorem dX11_land_162 : decode cX11_land 162 = .ok (.iload 4, 2) := by decide +kernel
theorem dX11_land_164 : decode cX11_land 164 = .ok (.iconst 3, 1) := by decide +kernel
theorem dX11_land_165 : decode cX11_land 165 = .ok (.if_icmp .ge 29, 3) := by decide +kernel
theorem dX11_land_168 : decode cX11_land 168 = .ok (.aload_n 0, 1) := by decide +kernel
theorem dX11_land_169 : decode cX11_land 169 = .ok (.getfield 42, 3) := by decide +kernel
theorem dX11_land_172 : decode cX11_land 172 = .ok (.iload_n 3, 1) := by decide +kernel
theorem dX11_land_173 : decode cX11_land 173 = .ok (.iload 4, 2) := by decide +kernel
theorem dX11_land_175 : decode cX11_land 175 = .ok (.iadd, 1) := by decide +kernel
theorem dX11_land_176 : decode cX11_land 176 = .ok (.aload_n 0, 1) := by decide +kernel
theorem dX11_land_177 : decode cX11_land 177 = .ok (.getfield 29, 3) := by decide +kernel
theorem dX11_land_180 : decode cX11_land 180 = .ok (.iconst 3, 1) := by decide +kernel
theorem dX11_land_181 : decode cX11_land 181 = .ok (.iload_n 2, 1) := by decide +kernel
theorem dX11_land_182 : decode cX11_land 182 = .ok (.imul, 1) := by decide +kernel
theorem dX11_land_183 : decode cX11_land 183 = .ok (.iload 4, 2) := by decide +kernel
theorem dX11_land_185 : decode cX11_land 185 = .ok (.iadd, 1) := by decide +kernel
theorem dX11_land_186 : decode cX11_land 186 = .ok (.iaload, 1) := by decide +kernel
theorem dX11_land_187 : decode cX11_land 187 = .ok (.iastore, 1) := by decide +kernel
theorem dX11_land_188 : decode cX11_land 188 = .ok (.iinc 4 1, 3) := by decide +kernel
theorem dX11_land_191 : decode cX11_land 191 = .ok (.goto (-29), 3) := by decide +kernel
theorem dX11_land_194 : decode cX11_land 194 = .ok (.aload_n 0, 1) := by decide +kernel
theorem dX11_land_195 : decode cX11_land 195 = .ok (.getfield 42, 3) := by decide +kernel
theorem dX11_land_198 : decode cX11_land 198 = .ok (.iload_n 3, 1) := by decide +kernel
theorem dX11_land_199 : decode cX11_land 199 = .ok (.iconst 3, 1) := by decide +kernel
theorem dX11_land_200 : decode cX11_land 200 = .ok (.iadd, 1) := by decide +kernel
theorem dX11_land_201 : decode cX11_land 201 = .ok (.iconst (-1), 1) := by decide +kernel
theorem dX11_land_202 : decode cX11_land 202 = .ok (.iastore, 1) := by decide +kernel
theorem dX11_land_203 : decode cX11_land 203 = .ok (.aload_n 0, 1) := by decide +kernel
theorem dX11_land_204 : decode cX11_land 204 = .ok (.getfield 42, 3) := by decide +kernel
theorem dX11_land_207 : decode cX11_land 207 = .ok (.iload_n 3, 1) := by decide +kernel
theorem dX11_land_208 : decode cX11_land 208 = .ok (.iconst 5, 1) := by decide +kernel
theorem dX11_land_209 : decode cX11_land 209 = .ok (.iadd, 1) := by decide +kernel
theorem dX11_land_210 : decode cX11_land 210 = .ok (.aload_n 0, 1) := by decide +kernel
theorem dX11_land_211 : decode cX11_land 211 = .ok (.getfield 42, 3) := by decide +kernel
theorem dX11_land_214 : decode cX11_land 214 = .ok (.iload_n 3, 1) := by decide +kernel
theorem dX11_land_215 : decode cX11_land 215 = .ok (.iaload, 1) := by decide +kernel
theorem dX11_land_216 : decode cX11_land 216 = .ok (.aload_n 0, 1) := by decide +kernel
theorem dX11_land_217 : decode cX11_land 217 = .ok (.getfield 42, 3) := by decide +kernel
theorem dX11_land_220 : decode cX11_land 220 = .ok (.iload_n 3, 1) := by decide +kernel
theorem dX11_land_221 : decode cX11_land 221 = .ok (.iconst 1, 1) := by decide +kernel
theorem dX11_land_222 : decode cX11_land 222 = .ok (.iadd, 1) := by decide +kernel
theorem dX11_land_223 : decode cX11_land 223 = .ok (.iaload, 1) := by decide +kernel
theorem dX11_land_224 : decode cX11_land 224 = .ok (.if_icmp .ne 7, 3) := by decide +kernel
theorem dX11_land_227 : decode cX11_land 227 = .ok (.iconst 0, 1) := by decide +kernel
theorem dX11_land_228 : decode cX11_land 228 = .ok (.goto 4, 3) := by decide +kernel
theorem dX11_land_231 : decode cX11_land 231 = .ok (.iconst (-1), 1) := by decide +kernel
theorem dX11_land_232 : decode cX11_land 232 = .ok (.iastore, 1) := by decide +kernel
theorem dX11_land_233 : decode cX11_land 233 = .ok (.aload_n 0, 1) := by decide +kernel
theorem dX11_land_234 : decode cX11_land 234 = .ok (.getfield 42, 3) := by decide +kernel
theorem dX11_land_237 : decode cX11_land 237 = .ok (.iload_n 3, 1) := by decide +kernel
theorem dX11_land_238 : decode cX11_land 238 = .ok (.bipush 6, 2) := by decide +kernel
theorem dX11_land_240 : decode cX11_land 240 = .ok (.iadd, 1) := by decide +kernel
theorem dX11_land_241 : decode cX11_land 241 = .ok (.iconst (-1), 1) := by decide +kernel
theorem dX11_land_242 : decode cX11_land 242 = .ok (.iastore, 1) := by decide +kernel
theorem dX11_land_243 : decode cX11_land 243 = .ok (.iinc 2 1, 3) := by decide +kernel
theorem dX11_land_246 : decode cX11_land 246 = .ok (.goto (-103), 3) := by decide +kernel
theorem dX11_land_249 : decode cX11_land 249 = .ok (.aload_n 0, 1) := by decide +kernel
theorem dX11_land_250 : decode cX11_land 250 = .ok (.getfield 225, 3) := by decide +kernel
theorem dX11_land_253 : decode cX11_land 253 = .ok (.ireturn, 1) := by decide +kernel
theorem dX11_leading_0 : decode cX11_leading 0 = .ok (.iconst 0, 1) := by decide +kernel
theorem dX11_leading_1 : decode cX11_leading 1 = .ok (.istore 4, 2) := by decide +kernel
theorem dX11_leading_3 : decode cX11_leading 3 = .ok (.iconst 0, 1) := by decide +kernel
theorem dX11_leading_4 : decode cX11_leading 4 = .ok (.istore 5, 2) := by decide +kernel
theorem dX11_leading_6 : decode cX11_leading 6 = .ok (.iload 5, 2) := by decide +kernel
theorem dX11_leading_8 : decode cX11_leading 8 = .ok (.aload_n 0, 1) := by decide +kernel
theorem dX11_leading_9 : decode cX11_leading 9 = .ok (.getfield 42, 3) := by decide +kernel
theorem dX11_leading_12 : decode cX11_leading 12 = .ok (.iconst 0, 1) := by decide +kernel
theorem dX11_leading_13 : decode cX11_leading 13 = .ok (.iaload, 1) := by decide +kernel
theorem dX11_leading_14 : decode cX11_leading 14 = .ok (.if_icmp .ge 31, 3) := by decide +kernel
theorem dX11_leading_17 : decode cX11_leading 17 = .ok (.iload 4, 2) := by decide +kernel
theorem dX11_leading_19 : decode cX11_leading 19 = .ok (.aload_n 0, 1) := by decide +kernel
theorem dX11_leading_20 : decode cX11_leading 20 = .ok (.iload_n 1, 1) := by decide +kernel
theorem dX11_leading_21 : decode cX11_leading 21 = .ok (.iload 5, 2) := by decide +kernel
theorem dX11_leading_23 : decode cX11_leading 23 = .ok (.iload_n 3, 1) := by decide +kernel
theorem dX11_leading_24 : decode cX11_leading 24 = .ok (.invokevirtual 285, 3) := by decide +kernel
theorem dX11_leading_27 : decode cX11_leading 27 = .ok (.iload_n 2, 1) := by decide +kernel
theorem dX11_leading_28 : decode cX11_leading 28 = .ok (.if_icmp .ne 7, 3) := by decide +kernel
theorem dX11_leading_31 : decode cX11_leading 31 = .ok (.iconst 1, 1) := by decide +kernel
theorem dX11_leading_32 : decode cX11_leading 32 = .ok (.goto 4, 3) := by decide +kernel
theorem dX11_leading_35 : decode cX11_leading 35 = .ok (.iconst 0, 1) := by decide +kernel
theorem dX11_leading_36 : decode cX11_leading 36 = .ok (.iadd, 1) := by decide +kernel
theorem dX11_leading_37 : decode cX11_leading 37 = .ok (.istore 4, 2) := by decide +kernel
theorem dX11_leading_39 : decode cX11_leading 39 = .ok (.iinc 5 1, 3) := by decide +kernel
theorem dX11_leading_42 : decode cX11_leading 42 = .ok (.goto (-36), 3) := by decide +kernel
theorem dX11_leading_45 : decode cX11_leading 45 = .ok (.iload 4, 2) := by decide +kernel
theorem dX11_leading_47 : decode cX11_leading 47 = .ok (.ireturn, 1) := by decide +kernel
theorem dX11_leaves_0 : decode cX11_leaves 0 = .ok (.aload_n 0, 1) := by decide +kernel
theorem dX11_leaves_1 : decode cX11_leaves 1 = .ok (.iload_n 2, 1) := by decide +kernel
theorem dX11_leaves_2 : decode cX11_leaves 2 = .ok (.iconst 0, 1) := by decide +kernel
theorem dX11_leaves_3 : decode cX11_leaves 3 = .ok (.invokevirtual 279, 3) := by decide +kernel
theorem dX11_leaves_6 : decode cX11_leaves 6 = .ok (.istore_n 3, 1) := by decide +kernel
theorem dX11_leaves_7 : decode cX11_leaves 7 = .ok (.aload_n 0, 1) := by decide +kernel
theorem dX11_leaves_8 : decode cX11_leaves 8 = .ok (.iload_n 2, 1) := by decide +kernel
theorem dX11_leaves_9 : decode cX11_leaves 9 = .ok (.invokevirtual 417, 3) := by decide +kernel
theorem dX11_leaves_12 : decode cX11_leaves 12 = .ok (.aload_n 0, 1) := by decide +kernel
theorem dX11_leaves_13 : decode cX11_leaves 13 = .ok (.iload_n 2, 1) := by decide +kernel
theorem dX11_leaves_14 : decode cX11_leaves 14 = .ok (.iload_n 3, 1) := by decide +kernel
theorem dX11_leaves_15 : decode cX11_leaves 15 = .ok (.invokevirtual 420, 3) := by decide +kernel
theorem dX11_leaves_18 : decode cX11_leaves 18 = .ok (.aload_n 0, 1) := by decide +kernel
theorem dX11_leaves_19 : decode cX11_leaves 19 = .ok (.iload_n 1, 1) := by decide +kernel
theorem dX11_leaves_20 : decode cX11_leaves 20 = .ok (.iconst 1, 1) := by decide +kernel
theorem dX11_leaves_21 : decode cX11_leaves 21 = .ok (.invokevirtual 423, 3) := by decide +kernel
theorem dX11_leaves_24 : decode cX11_leaves 24 = .ok (.ifCond .lt 4, 3) := by decide +kernel
theorem dX11_leaves_27 : decode cX11_leaves 27 = .ok (.return_, 1) := by decide +kernel
theorem dX11_leaves_28 : decode cX11_leaves 28 = .ok (.iconst (-1), 1) := by decide +kernel
theorem dX11_leaves_29 : decode cX11_leaves 29 = .ok (.istore 4, 2) := by decide +kernel
theorem dX11_leaves_31 : decode cX11_leaves 31 = .ok (.lconst 0, 1) := by decide +kernel
theorem dX11_leaves_32 : decode cX11_leaves 32 = .ok (.lstore 5, 2) := by decide +kernel
theorem dX11_leaves_34 : decode cX11_leaves 34 = .ok (.iconst 0, 1) := by decide +kernel
theorem dX11_leaves_35 : decode cX11_leaves 35 = .ok (.istore 7, 2) := by decide +kernel
theorem dX11_leaves_37 : decode cX11_leaves 37 = .ok (.iload 7, 2) := by decide +kernel
theorem dX11_leaves_39 : decode cX11_leaves 39 = .ok (.aload_n 0, 1) := by decide +kernel
theorem dX11_leaves_40 : decode cX11_leaves 40 = .ok (.getfield 42, 3) := by decide +kernel
theorem dX11_leaves_43 : decode cX11_leaves 43 = .ok (.iconst 0, 1) := by decide +kernel
theorem dX11_leaves_44 : decode cX11_leaves 44 = .ok (.iaload, 1) := by decide +kernel
theorem dX11_leaves_45 : decode cX11_leaves 45 = .ok (.if_icmp .ge 182, 3) := by decide +kernel
theorem dX11_leaves_48 : decode cX11_leaves 48 = .ok (.aload_n 0, 1) := by decide +kernel
theorem dX11_leaves_49 : decode cX11_leaves 49 = .ok (.aload_n 0, 1) := by decide +kernel
theorem dX11_leaves_50 : decode cX11_leaves 50 = .ok (.getfield 42, 3) := by decide +kernel
theorem dX11_leaves_53 : decode cX11_leaves 53 = .ok (.iconst 2, 1) := by decide +kernel
theorem dX11_leaves_54 : decode cX11_leaves 54 = .ok (.iaload, 1) := by decide +kernel
theorem dX11_leaves_55 : decode cX11_leaves 55 = .ok (.iload 7, 2) := by decide +kernel
theorem dX11_leaves_57 : decode cX11_leaves 57 = .ok (.iconst 0, 1) := by decide +kernel
theorem dX11_leaves_58 : decode cX11_leaves 58 = .ok (.invokevirtual 285, 3) := by decide +kernel
theorem dX11_leaves_61 : decode cX11_leaves 61 = .ok (.iload_n 3, 1) := by decide +kernel
theorem dX11_leaves_62 : decode cX11_leaves 62 = .ok (.if_icmp .eq 6, 3) := by decide +kernel
theorem dX11_leaves_65 : decode cX11_leaves 65 = .ok (.goto 156, 3) := by decide +kernel
theorem dX11_leaves_68 : decode cX11_leaves 68 = .ok (.aload_n 0, 1) := by decide +kernel
theorem dX11_leaves_69 : decode cX11_leaves 69 = .ok (.iload_n 2, 1) := by decide +kernel
theorem dX11_leaves_70 : decode cX11_leaves 70 = .ok (.invokevirtual 417, 3) := by decide +kernel
theorem dX11_leaves_73 : decode cX11_leaves 73 = .ok (.aload_n 0, 1) := by decide +kernel
theorem dX11_leaves_74 : decode cX11_leaves 74 = .ok (.iload_n 2, 1) := by decide +kernel
theorem dX11_leaves_75 : decode cX11_leaves 75 = .ok (.aload_n 0, 1) := by decide +kernel
theorem dX11_leaves_76 : decode cX11_leaves 76 = .ok (.aload_n 0, 1) := by decide +kernel
theorem dX11_leaves_77 : decode cX11_leaves 77 = .ok (.getfield 42, 3) := by decide +kernel
theorem dX11_leaves_80 : decode cX11_leaves 80 = .ok (.iconst 2, 1) := by decide +kernel
theorem dX11_leaves_81 : decode cX11_leaves 81 = .ok (.iaload, 1) := by decide +kernel
theorem dX11_leaves_82 : decode cX11_leaves 82 = .ok (.iload 7, 2) := by decide +kernel
theorem dX11_leaves_84 : decode cX11_leaves 84 = .ok (.iconst 1, 1) := by decide +kernel
theorem dX11_leaves_85 : decode cX11_leaves 85 = .ok (.invokevirtual 285, 3) := by decide +kernel
theorem dX11_leaves_88 : decode cX11_leaves 88 = .ok (.invokevirtual 420, 3) := by decide +kernel
theorem dX11_leaves_91 : decode cX11_leaves 91 = .ok (.aload_n 0, 1) := by decide +kernel
theorem dX11_leaves_92 : decode cX11_leaves 92 = .ok (.getfield 39, 3) := by decide +kernel
theorem dX11_leaves_95 : decode cX11_leaves 95 = .ok (.iconst 0, 1) := by decide +kernel
theorem dX11_leaves_96 : decode cX11_leaves 96 = .ok (.iload 7, 2) := by decide +kernel
theorem dX11_leaves_98 : decode cX11_leaves 98 = .ok (.i2l, 1) := by decide +kernel
theorem dX11_leaves_99 : decode cX11_leaves 99 = .ok (.lastore, 1) := by decide +kernel
theorem dX11_leaves_100 : decode cX11_leaves 100 = .ok (.aload_n 0, 1) := by decide +kernel
theorem dX11_leaves_101 : decode cX11_leaves 101 = .ok (.getfield 39, 3) := by decide +kernel
theorem dX11_leaves_104 : decode cX11_leaves 104 = .ok (.iconst 1, 1) := by decide +kernel
theorem dX11_leaves_105 : decode cX11_leaves 105 = .ok (.aload_n 0, 1) := by decide +kernel
theorem dX11_leaves_106 : decode cX11_leaves 106 = .ok (.iload 7, 2) := by decide +kernel
theorem dX11_leaves_108 : decode cX11_leaves 108 = .ok (.iconst 2, 1) := by decide +kernel
theorem dX11_leaves_109 : decode cX11_leaves 109 = .ok (.invokevirtual 275, 3) := by decide +kernel
theorem dX11_leaves_112 : decode cX11_leaves 112 = .ok (.i2l, 1) := by decide +kernel
theorem dX11_leaves_113 : decode cX11_leaves 113 = .ok (.lastore, 1) := by decide +kernel
theorem dX11_leaves_114 : decode cX11_leaves 114 = .ok (.aload_n 0, 1) := by decide +kernel
theorem dX11_leaves_115 : decode cX11_leaves 115 = .ok (.getfield 39, 3) := by decide +kernel
theorem dX11_leaves_118 : decode cX11_leaves 118 = .ok (.iconst 2, 1) := by decide +kernel
theorem dX11_leaves_119 : decode cX11_leaves 119 = .ok (.aload_n 0, 1) := by decide +kernel
theorem dX11_leaves_120 : decode cX11_leaves 120 = .ok (.iload 7, 2) := by decide +kernel
theorem dX11_leaves_122 : decode cX11_leaves 122 = .ok (.iconst 3, 1) := by decide +kernel
theorem dX11_leaves_123 : decode cX11_leaves 123 = .ok (.invokevirtual 275, 3) := by decide +kernel
theorem dX11_leaves_126 : decode cX11_leaves 126 = .ok (.i2l, 1) := by decide +kernel
theorem dX11_leaves_127 : decode cX11_leaves 127 = .ok (.lastore, 1) := by decide +kernel
theorem dX11_leaves_128 : decode cX11_leaves 128 = .ok (.aload_n 0, 1) := by decide +kernel
theorem dX11_leaves_129 : decode cX11_leaves 129 = .ok (.getfield 39, 3) := by decide +kernel
theorem dX11_leaves_132 : decode cX11_leaves 132 = .ok (.iconst 3, 1) := by decide +kernel
theorem dX11_leaves_133 : decode cX11_leaves 133 = .ok (.aload_n 0, 1) := by decide +kernel
theorem dX11_leaves_134 : decode cX11_leaves 134 = .ok (.iload 7, 2) := by decide +kernel
theorem dX11_leaves_136 : decode cX11_leaves 136 = .ok (.iconst 4, 1) := by decide +kernel
theorem dX11_leaves_137 : decode cX11_leaves 137 = .ok (.invokevirtual 275, 3) := by decide +kernel
theorem dX11_leaves_140 : decode cX11_leaves 140 = .ok (.i2l, 1) := by decide +kernel
theorem dX11_leaves_141 : decode cX11_leaves 141 = .ok (.lastore, 1) := by decide +kernel
theorem dX11_leaves_142 : decode cX11_leaves 142 = .ok (.aload_n 0, 1) := by decide +kernel
theorem dX11_leaves_143 : decode cX11_leaves 143 = .ok (.getfield 39, 3) := by decide +kernel
theorem dX11_leaves_146 : decode cX11_leaves 146 = .ok (.bipush 11, 2) := by decide +kernel
theorem dX11_leaves_148 : decode cX11_leaves 148 = .ok (.aload_n 0, 1) := by decide +kernel
theorem dX11_leaves_149 : decode cX11_leaves 149 = .ok (.iload 7, 2) := by decide +kernel
theorem dX11_leaves_151 : decode cX11_leaves 151 = .ok (.invokevirtual 294, 3) := by decide +kernel
theorem dX11_leaves_154 : decode cX11_leaves 154 = .ok (.i2l, 1) := by decide +kernel
theorem dX11_leaves_155 : decode cX11_leaves 155 = .ok (.lastore, 1) := by decide +kernel
theorem dX11_leaves_156 : decode cX11_leaves 156 = .ok (.aload_n 0, 1) := by decide +kernel
theorem dX11_leaves_157 : decode cX11_leaves 157 = .ok (.iload_n 1, 1) := by decide +kernel
theorem dX11_leaves_158 : decode cX11_leaves 158 = .ok (.iconst 0, 1) := by decide +kernel
theorem dX11_leaves_159 : decode cX11_leaves 159 = .ok (.invokevirtual 423, 3) := by decide +kernel
theorem dX11_leaves_162 : decode cX11_leaves 162 = .ok (.istore 8, 2) := by decide +kernel
theorem dX11_leaves_164 : decode cX11_leaves 164 = .ok (.iload 8, 2) := by decide +kernel
