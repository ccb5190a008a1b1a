theorem dX11_one_124 : decode cX11_one 124 = .ok (.lcmp, 1) := by decide +kernel
theorem dX11_one_125 : decode cX11_one 125 = .ok (.ifCond .lt 7, 3) := by decide +kernel
theorem dX11_one_128 : decode cX11_one 128 = .ok (.lconst 1, 1) := by decide +kernel
theorem dX11_one_129 : decode cX11_one 129 = .ok (.goto 4, 3) := by decide +kernel
theorem dX11_one_132 : decode cX11_one 132 = .ok (.lconst 0, 1) := by decide +kernel
theorem dX11_one_133 : decode cX11_one 133 = .ok (.lreturn, 1) := by decide +kernel
theorem dX11_one_134 : decode cX11_one 134 = .ok (.lload_n 1, 1) := by decide +kernel
theorem dX11_one_135 : decode cX11_one 135 = .ok (.lload_n 3, 1) := by decide +kernel
theorem dX11_one_136 : decode cX11_one 136 = .ok (.lcmp, 1) := by decide +kernel
theorem dX11_one_137 : decode cX11_one 137 = .ok (.ifCond .le 7, 3) := by decide +kernel
theorem dX11_one_140 : decode cX11_one 140 = .ok (.lconst 1, 1) := by decide +kernel
theorem dX11_one_141 : decode cX11_one 141 = .ok (.goto 4, 3) := by decide +kernel
theorem dX11_one_144 : decode cX11_one 144 = .ok (.lconst 0, 1) := by decide +kernel
theorem dX11_one_145 : decode cX11_one 145 = .ok (.lreturn, 1) := by decide +kernel
theorem dX11_one_146 : decode cX11_one 146 = .ok (.lload_n 1, 1) := by decide +kernel
theorem dX11_one_147 : decode cX11_one 147 = .ok (.lload_n 3, 1) := by decide +kernel
theorem dX11_one_148 : decode cX11_one 148 = .ok (.land, 1) := by decide +kernel
theorem dX11_one_149 : decode cX11_one 149 = .ok (.lreturn, 1) := by decide +kernel
theorem dX11_one_150 : decode cX11_one 150 = .ok (.lload_n 1, 1) := by decide +kernel
theorem dX11_one_151 : decode cX11_one 151 = .ok (.lload_n 3, 1) := by decide +kernel
theorem dX11_one_152 : decode cX11_one 152 = .ok (.lor, 1) := by decide +kernel
theorem dX11_one_153 : decode cX11_one 153 = .ok (.lreturn, 1) := by decide +kernel
theorem dX11_opens_0 : decode cX11_opens 0 = .ok (.aload_n 0, 1) := by decide +kernel
theorem dX11_opens_1 : decode cX11_opens 1 = .ok (.getfield 159, 3) := by decide +kernel
theorem dX11_opens_4 : decode cX11_opens 4 = .ok (.bipush 10, 2) := by decide +kernel
theorem dX11_opens_6 : decode cX11_opens 6 = .ok (.if_icmp .ne 13, 3) := by decide +kernel
theorem dX11_opens_9 : decode cX11_opens 9 = .ok (.aload_n 0, 1) := by decide +kernel
theorem dX11_opens_10 : decode cX11_opens 10 = .ok (.iconst 2, 1) := by decide +kernel
theorem dX11_opens_11 : decode cX11_opens 11 = .ok (.aload_n 0, 1) := by decide +kernel
theorem dX11_opens_12 : decode cX11_opens 12 = .ok (.getfield 97, 3) := by decide +kernel
theorem dX11_opens_15 : decode cX11_opens 15 = .ok (.invokevirtual 118, 3) := by decide +kernel
theorem dX11_opens_18 : decode cX11_opens 18 = .ok (.ireturn, 1) := by decide +kernel
theorem dX11_opens_19 : decode cX11_opens 19 = .ok (.aload_n 0, 1) := by decide +kernel
theorem dX11_opens_20 : decode cX11_opens 20 = .ok (.dup, 1) := by decide +kernel
theorem dX11_opens_21 : decode cX11_opens 21 = .ok (.getfield 159, 3) := by decide +kernel
theorem dX11_opens_24 : decode cX11_opens 24 = .ok (.iconst 1, 1) := by decide +kernel
theorem dX11_opens_25 : decode cX11_opens 25 = .ok (.iadd, 1) := by decide +kernel
theorem dX11_opens_26 : decode cX11_opens 26 = .ok (.putfield 159, 3) := by decide +kernel
theorem dX11_opens_29 : decode cX11_opens 29 = .ok (.aload_n 0, 1) := by decide +kernel
theorem dX11_opens_30 : decode cX11_opens 30 = .ok (.getfield 32, 3) := by decide +kernel
theorem dX11_opens_33 : decode cX11_opens 33 = .ok (.aload_n 0, 1) := by decide +kernel
theorem dX11_opens_34 : decode cX11_opens 34 = .ok (.getfield 162, 3) := by decide +kernel
theorem dX11_opens_37 : decode cX11_opens 37 = .ok (.iload_n 1, 1) := by decide +kernel
theorem dX11_opens_38 : decode cX11_opens 38 = .ok (.iastore, 1) := by decide +kernel
theorem dX11_opens_39 : decode cX11_opens 39 = .ok (.aload_n 0, 1) := by decide +kernel
theorem dX11_opens_40 : decode cX11_opens 40 = .ok (.dup, 1) := by decide +kernel
theorem dX11_opens_41 : decode cX11_opens 41 = .ok (.getfield 162, 3) := by decide +kernel
theorem dX11_opens_44 : decode cX11_opens 44 = .ok (.iconst 1, 1) := by decide +kernel
theorem dX11_opens_45 : decode cX11_opens 45 = .ok (.iadd, 1) := by decide +kernel
theorem dX11_opens_46 : decode cX11_opens 46 = .ok (.putfield 162, 3) := by decide +kernel
theorem dX11_opens_49 : decode cX11_opens 49 = .ok (.iconst 1, 1) := by decide +kernel
theorem dX11_opens_50 : decode cX11_opens 50 = .ok (.ireturn, 1) := by decide +kernel
theorem dX11_orderOf_0 : decode cX11_orderOf 0 = .ok (.lconst 0, 1) := by decide +kernel
theorem dX11_orderOf_1 : decode cX11_orderOf 1 = .ok (.lstore_n 1, 1) := by decide +kernel
theorem dX11_orderOf_2 : decode cX11_orderOf 2 = .ok (.iconst 0, 1) := by decide +kernel
theorem dX11_orderOf_3 : decode cX11_orderOf 3 = .ok (.istore_n 3, 1) := by decide +kernel
theorem dX11_orderOf_4 : decode cX11_orderOf 4 = .ok (.iload_n 3, 1) := by decide +kernel
theorem dX11_orderOf_5 : decode cX11_orderOf 5 = .ok (.aload_n 0, 1) := by decide +kernel
theorem dX11_orderOf_6 : decode cX11_orderOf 6 = .ok (.getfield 42, 3) := by decide +kernel
theorem dX11_orderOf_9 : decode cX11_orderOf 9 = .ok (.iconst 0, 1) := by decide +kernel
theorem dX11_orderOf_10 : decode cX11_orderOf 10 = .ok (.iaload, 1) := by decide +kernel
theorem dX11_orderOf_11 : decode cX11_orderOf 11 = .ok (.if_icmp .ge 125, 3) := by decide +kernel
theorem dX11_orderOf_14 : decode cX11_orderOf 14 = .ok (.iconst 0, 1) := by decide +kernel
theorem dX11_orderOf_15 : decode cX11_orderOf 15 = .ok (.istore 4, 2) := by decide +kernel
theorem dX11_orderOf_17 : decode cX11_orderOf 17 = .ok (.iconst 0, 1) := by decide +kernel
theorem dX11_orderOf_18 : decode cX11_orderOf 18 = .ok (.istore 5, 2) := by decide +kernel
theorem dX11_orderOf_20 : decode cX11_orderOf 20 = .ok (.iload 5, 2) := by decide +kernel
theorem dX11_orderOf_22 : decode cX11_orderOf 22 = .ok (.aload_n 0, 1) := by decide +kernel
theorem dX11_orderOf_23 : decode cX11_orderOf 23 = .ok (.getfield 42, 3) := by decide +kernel
theorem dX11_orderOf_26 : decode cX11_orderOf 26 = .ok (.iconst 0, 1) := by decide +kernel
theorem dX11_orderOf_27 : decode cX11_orderOf 27 = .ok (.iaload, 1) := by decide +kernel
theorem dX11_orderOf_28 : decode cX11_orderOf 28 = .ok (.if_icmp .ge 92, 3) := by decide +kernel
theorem dX11_orderOf_31 : decode cX11_orderOf 31 = .ok (.aload_n 0, 1) := by decide +kernel
theorem dX11_orderOf_32 : decode cX11_orderOf 32 = .ok (.getfield 68, 3) := by decide +kernel
theorem dX11_orderOf_35 : decode cX11_orderOf 35 = .ok (.iload 5, 2) := by decide +kernel
theorem dX11_orderOf_37 : decode cX11_orderOf 37 = .ok (.iaload, 1) := by decide +kernel
theorem dX11_orderOf_38 : decode cX11_orderOf 38 = .ok (.aload_n 0, 1) := by decide +kernel
theorem dX11_orderOf_39 : decode cX11_orderOf 39 = .ok (.getfield 68, 3) := by decide +kernel
theorem dX11_orderOf_42 : decode cX11_orderOf 42 = .ok (.iload_n 3, 1) := by decide +kernel
theorem dX11_orderOf_43 : decode cX11_orderOf 43 = .ok (.iaload, 1) := by decide +kernel
theorem dX11_orderOf_44 : decode cX11_orderOf 44 = .ok (.if_icmp .ge 7, 3) := by decide +kernel
theorem dX11_orderOf_47 : decode cX11_orderOf 47 = .ok (.iconst 1, 1) := by decide +kernel
theorem dX11_orderOf_48 : decode cX11_orderOf 48 = .ok (.goto 4, 3) := by decide +kernel
theorem dX11_orderOf_51 : decode cX11_orderOf 51 = .ok (.iconst 0, 1) := by decide +kernel
theorem dX11_orderOf_52 : decode cX11_orderOf 52 = .ok (.istore 6, 2) := by decide +kernel
theorem dX11_orderOf_54 : decode cX11_orderOf 54 = .ok (.iconst 0, 1) := by decide +kernel
theorem dX11_orderOf_55 : decode cX11_orderOf 55 = .ok (.istore 7, 2) := by decide +kernel
theorem dX11_orderOf_57 : decode cX11_orderOf 57 = .ok (.iload 7, 2) := by decide +kernel
theorem dX11_orderOf_59 : decode cX11_orderOf 59 = .ok (.iload 5, 2) := by decide +kernel
theorem dX11_orderOf_61 : decode cX11_orderOf 61 = .ok (.if_icmp .ge 38, 3) := by decide +kernel
theorem dX11_orderOf_64 : decode cX11_orderOf 64 = .ok (.iload 6, 2) := by decide +kernel
theorem dX11_orderOf_66 : decode cX11_orderOf 66 = .ok (.ifCond .eq 33, 3) := by decide +kernel
theorem dX11_orderOf_69 : decode cX11_orderOf 69 = .ok (.aload_n 0, 1) := by decide +kernel
theorem dX11_orderOf_70 : decode cX11_orderOf 70 = .ok (.getfield 68, 3) := by decide +kernel
theorem dX11_orderOf_73 : decode cX11_orderOf 73 = .ok (.iload 7, 2) := by decide +kernel
theorem dX11_orderOf_75 : decode cX11_orderOf 75 = .ok (.iaload, 1) := by decide +kernel
theorem dX11_orderOf_76 : decode cX11_orderOf 76 = .ok (.aload_n 0, 1) := by decide +kernel
theorem dX11_orderOf_77 : decode cX11_orderOf 77 = .ok (.getfield 68, 3) := by decide +kernel
theorem dX11_orderOf_80 : decode cX11_orderOf 80 = .ok (.iload 5, 2) := by decide +kernel
theorem dX11_orderOf_82 : decode cX11_orderOf 82 = .ok (.iaload, 1) := by decide +kernel
theorem dX11_orderOf_83 : decode cX11_orderOf 83 = .ok (.if_icmp .eq 7, 3) := by decide +kernel
theorem dX11_orderOf_86 : decode cX11_orderOf 86 = .ok (.iconst 1, 1) := by decide +kernel
theorem dX11_orderOf_87 : decode cX11_orderOf 87 = .ok (.goto 4, 3) := by decide +kernel
theorem dX11_orderOf_90 : decode cX11_orderOf 90 = .ok (.iconst 0, 1) := by decide +kernel
theorem dX11_orderOf_91 : decode cX11_orderOf 91 = .ok (.istore 6, 2) := by decide +kernel
theorem dX11_orderOf_93 : decode cX11_orderOf 93 = .ok (.iinc 7 1, 3) := by decide +kernel
theorem dX11_orderOf_96 : decode cX11_orderOf 96 = .ok (.goto (-39), 3) := by decide +kernel
theorem dX11_orderOf_99 : decode cX11_orderOf 99 = .ok (.iload 4, 2) := by decide +kernel
theorem dX11_orderOf_101 : decode cX11_orderOf 101 = .ok (.iload 6, 2) := by decide +kernel
theorem dX11_orderOf_103 : decode cX11_orderOf 103 = .ok (.ifCond .eq 7, 3) := by decide +kernel
theorem dX11_orderOf_106 : decode cX11_orderOf 106 = .ok (.iconst 1, 1) := by decide +kernel
theorem dX11_orderOf_107 : decode cX11_orderOf 107 = .ok (.goto 4, 3) := by decide +kernel
theorem dX11_orderOf_110 : decode cX11_orderOf 110 = .ok (.iconst 0, 1) := by decide +kernel
theorem dX11_orderOf_111 : decode cX11_orderOf 111 = .ok (.iadd, 1) := by decide +kernel
theorem dX11_orderOf_112 : decode cX11_orderOf 112 = .ok (.istore 4, 2) := by decide +kernel
theorem dX11_orderOf_114 : decode cX11_orderOf 114 = .ok (.iinc 5 1, 3) := by decide +kernel
theorem dX11_orderOf_117 : decode cX11_orderOf 117 = .ok (.goto (-97), 3) := by decide +kernel
theorem dX11_orderOf_120 : decode cX11_orderOf 120 = .ok (.lload_n 1, 1) := by decide +kernel
theorem dX11_orderOf_121 : decode cX11_orderOf 121 = .ok (.ldc2_w 395, 3) := by decide +kernel
theorem dX11_orderOf_124 : decode cX11_orderOf 124 = .ok (.lmul, 1) := by decide +kernel
theorem dX11_orderOf_125 : decode cX11_orderOf 125 = .ok (.iload 4, 2) := by decide +kernel
theorem dX11_orderOf_127 : decode cX11_orderOf 127 = .ok (.i2l, 1) := by decide +kernel
theorem dX11_orderOf_128 : decode cX11_orderOf 128 = .ok (.ladd, 1) := by decide +kernel
theorem dX11_orderOf_129 : decode cX11_orderOf 129 = .ok (.lstore_n 1, 1) := by decide +kernel
theorem dX11_orderOf_130 : decode cX11_orderOf 130 = .ok (.iinc 3 1, 3) := by decide +kernel
theorem dX11_orderOf_133 : decode cX11_orderOf 133 = .ok (.goto (-129), 3) := by decide +kernel
theorem dX11_orderOf_136 : decode cX11_orderOf 136 = .ok (.lload_n 1, 1) := by decide +kernel
theorem dX11_orderOf_137 : decode cX11_orderOf 137 = .ok (.lreturn, 1) := by decide +kernel
theorem dX11_passWord_0 : decode cX11_passWord 0 = .ok (.aload_n 0, 1) := by decide +kernel
theorem dX11_passWord_1 : decode cX11_passWord 1 = .ok (.aload_n 0, 1) := by decide +kernel
theorem dX11_passWord_2 : decode cX11_passWord 2 = .ok (.getfield 97, 3) := by decide +kernel
theorem dX11_passWord_5 : decode cX11_passWord 5 = .ok (.invokevirtual 104, 3) := by decide +kernel
theorem dX11_passWord_8 : decode cX11_passWord 8 = .ok (.ifCond .eq 16, 3) := by decide +kernel
theorem dX11_passWord_11 : decode cX11_passWord 11 = .ok (.aload_n 0, 1) := by decide +kernel
theorem dX11_passWord_12 : decode cX11_passWord 12 = .ok (.dup, 1) := by decide +kernel
theorem dX11_passWord_13 : decode cX11_passWord 13 = .ok (.getfield 97, 3) := by decide +kernel
theorem dX11_passWord_16 : decode cX11_passWord 16 = .ok (.iconst 1, 1) := by decide +kernel
theorem dX11_passWord_17 : decode cX11_passWord 17 = .ok (.iadd, 1) := by decide +kernel
theorem dX11_passWord_18 : decode cX11_passWord 18 = .ok (.putfield 97, 3) := by decide +kernel
theorem dX11_passWord_21 : decode cX11_passWord 21 = .ok (.goto (-21), 3) := by decide +kernel
theorem dX11_passWord_24 : decode cX11_passWord 24 = .ok (.return_, 1) := by decide +kernel
theorem dX11_place_0 : decode cX11_place 0 = .ok (.iload_n 1, 1) := by decide +kernel
theorem dX11_place_1 : decode cX11_place 1 = .ok (.invokestatic 299, 3) := by decide +kernel
theorem dX11_place_4 : decode cX11_place 4 = .ok (.ifCond .eq 15, 3) := by decide +kernel
theorem dX11_place_7 : decode cX11_place 7 = .ok (.iload_n 2, 1) := by decide +kernel
theorem dX11_place_8 : decode cX11_place 8 = .ok (.i2l, 1) := by decide +kernel
theorem dX11_place_9 : decode cX11_place 9 = .ok (.lconst 0, 1) := by decide +kernel
theorem dX11_place_10 : decode cX11_place 10 = .ok (.ldc2_w 302, 3) := by decide +kernel
theorem dX11_place_13 : decode cX11_place 13 = .ok (.invokestatic 125, 3) := by decide +kernel
theorem dX11_place_16 : decode cX11_place 16 = .ok (.ifCond .ne 6, 3) := by decide +kernel
theorem dX11_place_19 : decode cX11_place 19 = .ok (.bipush (-100), 2) := by decide +kernel
theorem dX11_place_21 : decode cX11_place 21 = .ok (.ireturn, 1) := by decide +kernel
theorem dX11_place_22 : decode cX11_place 22 = .ok (.iload_n 2, 1) := by decide +kernel
theorem dX11_place_23 : decode cX11_place 23 = .ok (.iconst 2, 1) := by decide +kernel
theorem dX11_place_24 : decode cX11_place 24 = .ok (.if_icmp .ge 16, 3) := by decide +kernel
theorem dX11_place_27 : decode cX11_place 27 = .ok (.aload_n 0, 1) := by decide +kernel
theorem dX11_place_28 : decode cX11_place 28 = .ok (.aload_n 0, 1) := by decide +kernel
theorem dX11_place_29 : decode cX11_place 29 = .ok (.getfield 42, 3) := by decide +kernel
theorem dX11_place_32 : decode cX11_place 32 = .ok (.iconst 2, 1) := by decide +kernel
theorem dX11_place_33 : decode cX11_place 33 = .ok (.iaload, 1) := by decide +kernel
theorem dX11_place_34 : decode cX11_place 34 = .ok (.iload_n 1, 1) := by decide +kernel
theorem dX11_place_35 : decode cX11_place 35 = .ok (.iload_n 2, 1) := by decide +kernel
theorem dX11_place_36 : decode cX11_place 36 = .ok (.invokevirtual 304, 3) := by decide +kernel
theorem dX11_place_39 : decode cX11_place 39 = .ok (.ireturn, 1) := by decide +kernel
theorem dX11_place_40 : decode cX11_place 40 = .ok (.iload_n 2, 1) := by decide +kernel
theorem dX11_place_41 : decode cX11_place 41 = .ok (.iconst 2, 1) := by decide +kernel
theorem dX11_place_42 : decode cX11_place 42 = .ok (.if_icmp .ne 9, 3) := by decide +kernel
theorem dX11_place_45 : decode cX11_place 45 = .ok (.aload_n 0, 1) := by decide +kernel
theorem dX11_place_46 : decode cX11_place 46 = .ok (.iload_n 1, 1) := by decide +kernel
theorem dX11_place_47 : decode cX11_place 47 = .ok (.invokevirtual 307, 3) := by decide +kernel
theorem dX11_place_50 : decode cX11_place 50 = .ok (.ireturn, 1) := by decide +kernel
theorem dX11_place_51 : decode cX11_place 51 = .ok (.iload_n 2, 1) := by decide +kernel
theorem dX11_place_52 : decode cX11_place 52 = .ok (.iconst 3, 1) := by decide +kernel
theorem dX11_place_53 : decode cX11_place 53 = .ok (.if_icmp .ne 22, 3) := by decide +kernel
theorem dX11_place_56 : decode cX11_place 56 = .ok (.aload_n 0, 1) := by decide +kernel
theorem dX11_place_57 : decode cX11_place 57 = .ok (.aload_n 0, 1) := by decide +kernel
theorem dX11_place_58 : decode cX11_place 58 = .ok (.getfield 42, 3) := by decide +kernel
theorem dX11_place_61 : decode cX11_place 61 = .ok (.iconst 2, 1) := by decide +kernel
theorem dX11_place_62 : decode cX11_place 62 = .ok (.iaload, 1) := by decide +kernel
theorem dX11_place_63 : decode cX11_place 63 = .ok (.iload_n 1, 1) := by decide +kernel
theorem dX11_place_64 : decode cX11_place 64 = .ok (.iconst 0, 1) := by decide +kernel
theorem dX11_place_65 : decode cX11_place 65 = .ok (.invokevirtual 304, 3) := by decide +kernel
theorem dX11_place_68 : decode cX11_place 68 = .ok (.aload_n 0, 1) := by decide +kernel
theorem dX11_place_69 : decode cX11_place 69 = .ok (.iload_n 1, 1) := by decide +kernel
theorem dX11_place_70 : decode cX11_place 70 = .ok (.invokevirtual 307, 3) := by decide +kernel
theorem dX11_place_73 : decode cX11_place 73 = .ok (.isub, 1) := by decide +kernel
theorem dX11_place_74 : decode cX11_place 74 = .ok (.ireturn, 1) := by decide +kernel
theorem dX11_place_75 : decode cX11_place 75 = .ok (.aload_n 0, 1) := by decide +kernel
theorem dX11_place_76 : decode cX11_place 76 = .ok (.iload_n 1, 1) := by decide +kernel
theorem dX11_place_77 : decode cX11_place 77 = .ok (.invokevirtual 310, 3) := by decide +kernel
theorem dX11_place_80 : decode cX11_place 80 = .ok (.iconst 0, 1) := by decide +kernel
theorem dX11_place_81 : decode cX11_place 81 = .ok (.istore_n 3, 1) := by decide +kernel
theorem dX11_place_82 : decode cX11_place 82 = .ok (.iconst 0, 1) := by decide +kernel
theorem dX11_place_83 : decode cX11_place 83 = .ok (.istore 4, 2) := by decide +kernel
theorem dX11_place_85 : decode cX11_place 85 = .ok (.iload 4, 2) := by decide +kernel
theorem dX11_place_87 : decode cX11_place 87 = .ok (.bipush 8, 2) := by decide +kernel
theorem dX11_place_89 : decode cX11_place 89 = .ok (.if_icmp .ge 30, 3) := by decide +kernel
theorem dX11_place_92 : decode cX11_place 92 = .ok (.iload_n 3, 1) := by decide +kernel
theorem dX11_place_93 : decode cX11_place 93 = .ok (.aload_n 0, 1) := by decide +kernel
theorem dX11_place_94 : decode cX11_place 94 = .ok (.getfield 48, 3) := by decide +kernel
theorem dX11_place_97 : decode cX11_place 97 = .ok (.iload 4, 2) := by decide +kernel
theorem dX11_place_99 : decode cX11_place 99 = .ok (.iaload, 1) := by decide +kernel
theorem dX11_place_100 : decode cX11_place 100 = .ok (.ifCond .lt 10, 3) := by decide +kernel
theorem dX11_place_103 : decode cX11_place 103 = .ok (.iconst 1, 1) := by decide +kernel
theorem dX11_place_104 : decode cX11_place 104 = .ok (.iload 4, 2) := by decide +kernel
theorem dX11_place_106 : decode cX11_place 106 = .ok (.ishl, 1) := by decide +kernel
theorem dX11_place_107 : decode cX11_place 107 = .ok (.goto 4, 3) := by decide +kernel
theorem dX11_place_110 : decode cX11_place 110 = .ok (.iconst 0, 1) := by decide +kernel
theorem dX11_place_111 : decode cX11_place 111 = .ok (.ior, 1) := by decide +kernel
theorem dX11_place_112 : decode cX11_place 112 = .ok (.istore_n 3, 1) := by decide +kernel
theorem dX11_place_113 : decode cX11_place 113 = .ok (.iinc 4 1, 3) := by decide +kernel
theorem dX11_place_116 : decode cX11_place 116 = .ok (.goto (-31), 3) := by decide +kernel
theorem dX11_place_119 : decode cX11_place 119 = .ok (.iload_n 3, 1) := by decide +kernel
theorem dX11_place_120 : decode cX11_place 120 = .ok (.ireturn, 1) := by decide +kernel
theorem dX11_placeIn_0 : decode cX11_placeIn 0 = .ok (.iload_n 1, 1) := by decide +kernel
theorem dX11_placeIn_1 : decode cX11_placeIn 1 = .ok (.aload_n 0, 1) := by decide +kernel
theorem dX11_placeIn_2 : decode cX11_placeIn 2 = .ok (.getfield 42, 3) := by decide +kernel
theorem dX11_placeIn_5 : decode cX11_placeIn 5 = .ok (.iconst 0, 1) := by decide +kernel
theorem dX11_placeIn_6 : decode cX11_placeIn 6 = .ok (.iaload, 1) := by decide +kernel
theorem dX11_placeIn_7 : decode cX11_placeIn 7 = .ok (.iconst 3, 1) := by decide +kernel
theorem dX11_placeIn_8 : decode cX11_placeIn 8 = .ok (.iload_n 2, 1) := by decide +kernel
theorem dX11_placeIn_9 : decode cX11_placeIn 9 = .ok (.imul, 1) := by decide +kernel
theorem dX11_placeIn_10 : decode cX11_placeIn 10 = .ok (.iadd, 1) := by decide +kernel
theorem dX11_placeIn_11 : decode cX11_placeIn 11 = .ok (.ishr, 1) := by decide +kernel
theorem dX11_placeIn_12 : decode cX11_placeIn 12 = .ok (.bipush 7, 2) := by decide +kernel
theorem dX11_placeIn_14 : decode cX11_placeIn 14 = .ok (.iand, 1) := by decide +kernel
theorem dX11_placeIn_15 : decode cX11_placeIn 15 = .ok (.ireturn, 1) := by decide +kernel
theorem dX11_placeWords_0 : decode cX11_placeWords 0 = .ok (.aload_n 0, 1) := by decide +kernel
theorem dX11_placeWords_1 : decode cX11_placeWords 1 = .ok (.iload_n 2, 1) := by decide +kernel
theorem dX11_placeWords_2 : decode cX11_placeWords 2 = .ok (.invokevirtual 310, 3) := by decide +kernel
theorem dX11_placeWords_5 : decode cX11_placeWords 5 = .ok (.aload_n 0, 1) := by decide +kernel
theorem dX11_placeWords_6 : decode cX11_placeWords 6 = .ok (.getfield 48, 3) := by decide +kernel
theorem dX11_placeWords_9 : decode cX11_placeWords 9 = .ok (.aload_n 0, 1) := by decide +kernel
theorem dX11_placeWords_10 : decode cX11_placeWords 10 = .ok (.iload_n 1, 1) := by decide +kernel
theorem dX11_placeWords_11 : decode cX11_placeWords 11 = .ok (.iconst 1, 1) := by decide +kernel
theorem dX11_placeWords_12 : decode cX11_placeWords 12 = .ok (.invokevirtual 279, 3) := by decide +kernel
theorem dX11_placeWords_15 : decode cX11_placeWords 15 = .ok (.iaload, 1) := by decide +kernel
theorem dX11_placeWords_16 : decode cX11_placeWords 16 = .ok (.istore_n 3, 1) := by decide +kernel
theorem dX11_placeWords_17 : decode cX11_placeWords 17 = .ok (.aload_n 0, 1) := by decide +kernel
theorem dX11_placeWords_18 : decode cX11_placeWords 18 = .ok (.getfield 39, 3) := by decide +kernel
theorem dX11_placeWords_21 : decode cX11_placeWords 21 = .ok (.iconst 4, 1) := by decide +kernel
theorem dX11_placeWords_22 : decode cX11_placeWords 22 = .ok (.iload_n 2, 1) := by decide +kernel
theorem dX11_placeWords_23 : decode cX11_placeWords 23 = .ok (.i2l, 1) := by decide +kernel
theorem dX11_placeWords_24 : decode cX11_placeWords 24 = .ok (.lastore, 1) := by decide +kernel
theorem dX11_placeWords_25 : decode cX11_placeWords 25 = .ok (.aload_n 0, 1) := by decide +kernel
theorem dX11_placeWords_26 : decode cX11_placeWords 26 = .ok (.getfield 39, 3) := by decide +kernel
theorem dX11_placeWords_29 : decode cX11_placeWords 29 = .ok (.iconst 5, 1) := by decide +kernel
theorem dX11_placeWords_30 : decode cX11_placeWords 30 = .ok (.iload_n 3, 1) := by decide +kernel
theorem dX11_placeWords_31 : decode cX11_placeWords 31 = .ok (.ifCond .ge 9, 3) := by decide +kernel
theorem dX11_placeWords_34 : decode cX11_placeWords 34 = .ok (.ldc2_w 415, 3) := by decide +kernel
theorem dX11_placeWords_37 : decode cX11_placeWords 37 = .ok (.goto 5, 3) := by decide +kernel
theorem dX11_placeWords_40 : decode cX11_placeWords 40 = .ok (.iload_n 3, 1) := by decide +kernel
theorem dX11_placeWords_41 : decode cX11_placeWords 41 = .ok (.i2l, 1) := by decide +kernel
theorem dX11_placeWords_42 : decode cX11_placeWords 42 = .ok (.lastore, 1) := by decide +kernel
theorem dX11_placeWords_43 : decode cX11_placeWords 43 = .ok (.aload_n 0, 1) := by decide +kernel
theorem dX11_placeWords_44 : decode cX11_placeWords 44 = .ok (.getfield 39, 3) := by decide +kernel
theorem dX11_placeWords_47 : decode cX11_placeWords 47 = .ok (.bipush 6, 2) := by decide +kernel
theorem dX11_placeWords_49 : decode cX11_placeWords 49 = .ok (.aload_n 0, 1) := by decide +kernel
theorem dX11_placeWords_50 : decode cX11_placeWords 50 = .ok (.aload_n 0, 1) := by decide +kernel
theorem dX11_placeWords_51 : decode cX11_placeWords 51 = .ok (.getfield 42, 3) := by decide +kernel
theorem dX11_placeWords_54 : decode cX11_placeWords 54 = .ok (.iconst 2, 1) := by decide +kernel
theorem dX11_placeWords_55 : decode cX11_placeWords 55 = .ok (.iaload, 1) := by decide +kernel
theorem dX11_placeWords_56 : decode cX11_placeWords 56 = .ok (.iload_n 2, 1) := by decide +kernel
theorem dX11_placeWords_57 : decode cX11_placeWords 57 = .ok (.iconst 0, 1) := by decide +kernel
theorem dX11_placeWords_58 : decode cX11_placeWords 58 = .ok (.invokevirtual 304, 3) := by decide +kernel
theorem dX11_placeWords_61 : decode cX11_placeWords 61 = .ok (.i2l, 1) := by decide +kernel
theorem dX11_placeWords_62 : decode cX11_placeWords 62 = .ok (.lastore, 1) := by decide +kernel
theorem dX11_placeWords_63 : decode cX11_placeWords 63 = .ok (.aload_n 0, 1) := by decide +kernel
theorem dX11_placeWords_64 : decode cX11_placeWords 64 = .ok (.getfield 39, 3) := by decide +kernel
theorem dX11_placeWords_67 : decode cX11_placeWords 67 = .ok (.bipush 7, 2) := by decide +kernel
theorem dX11_placeWords_69 : decode cX11_placeWords 69 = .ok (.aload_n 0, 1) := by decide +kernel
theorem dX11_placeWords_70 : decode cX11_placeWords 70 = .ok (.iload_n 2, 1) := by decide +kernel
theorem dX11_placeWords_71 : decode cX11_placeWords 71 = .ok (.invokevirtual 307, 3) := by decide +kernel
theorem dX11_placeWords_74 : decode cX11_placeWords 74 = .ok (.i2l, 1) := by decide +kernel
theorem dX11_placeWords_75 : decode cX11_placeWords 75 = .ok (.lastore, 1) := by decide +kernel
theorem dX11_placeWords_76 : decode cX11_placeWords 76 = .ok (.return_, 1) := by decide +kernel
theorem dX11_pop_0 : decode cX11_pop 0 = .ok (.aload_n 0, 1) := by decide +kernel
theorem dX11_pop_1 : decode cX11_pop 1 = .ok (.dup, 1) := by decide +kernel
theorem dX11_pop_2 : decode cX11_pop 2 = .ok (.getfield 256, 3) := by decide +kernel
theorem dX11_pop_5 : decode cX11_pop 5 = .ok (.iconst 1, 1) := by decide +kernel
theorem dX11_pop_6 : decode cX11_pop 6 = .ok (.isub, 1) := by decide +kernel
theorem dX11_pop_7 : decode cX11_pop 7 = .ok (.putfield 256, 3) := by decide +kernel
theorem dX11_pop_10 : decode cX11_pop 10 = .ok (.aload_n 0, 1) := by decide +kernel
theorem dX11_pop_11 : decode cX11_pop 11 = .ok (.getfield 35, 3) := by decide +kernel
theorem dX11_pop_14 : decode cX11_pop 14 = .ok (.aload_n 0, 1) := by decide +kernel
theorem dX11_pop_15 : decode cX11_pop 15 = .ok (.getfield 256, 3) := by decide +kernel
theorem dX11_pop_18 : decode cX11_pop 18 = .ok (.laload, 1) := by decide +kernel
theorem dX11_pop_19 : decode cX11_pop 19 = .ok (.lreturn, 1) := by decide +kernel
theorem dX11_post_0 : decode cX11_post 0 = .ok (.aload_n 0, 1) := by decide +kernel
theorem dX11_post_1 : decode cX11_post 1 = .ok (.iload_n 1, 1) := by decide +kernel
theorem dX11_post_2 : decode cX11_post 2 = .ok (.invokevirtual 313, 3) := by decide +kernel
theorem dX11_post_5 : decode cX11_post 5 = .ok (.ifCond .eq 26, 3) := by decide +kernel
theorem dX11_post_8 : decode cX11_post 8 = .ok (.iload_n 2, 1) := by decide +kernel
theorem dX11_post_9 : decode cX11_post 9 = .ok (.i2l, 1) := by decide +kernel
theorem dX11_post_10 : decode cX11_post 10 = .ok (.lconst 0, 1) := by decide +kernel
theorem dX11_post_11 : decode cX11_post 11 = .ok (.ldc2_w 368, 3) := by decide +kernel
theorem dX11_post_14 : decode cX11_post 14 = .ok (.invokestatic 125, 3) := by decide +kernel
theorem dX11_post_17 : decode cX11_post 17 = .ok (.ifCond .eq 14, 3) := by decide +kernel
theorem dX11_post_20 : decode cX11_post 20 = .ok (.aload_n 0, 1) := by decide +kernel
theorem dX11_post_21 : decode cX11_post 21 = .ok (.getfield 42, 3) := by decide +kernel
theorem dX11_post_24 : decode cX11_post 24 = .ok (.iconst 0, 1) := by decide +kernel
theorem dX11_post_25 : decode cX11_post 25 = .ok (.iaload, 1) := by decide +kernel
theorem dX11_post_26 : decode cX11_post 26 = .ok (.bipush 9, 2) := by decide +kernel
theorem dX11_post_28 : decode cX11_post 28 = .ok (.if_icmp .le 5, 3) := by decide +kernel
theorem dX11_post_31 : decode cX11_post 31 = .ok (.iconst (-1), 1) := by decide +kernel
theorem dX11_post_32 : decode cX11_post 32 = .ok (.ireturn, 1) := by decide +kernel
theorem dX11_post_33 : decode cX11_post 33 = .ok (.aload_n 0, 1) := by decide +kernel
theorem dX11_post_34 : decode cX11_post 34 = .ok (.iconst 1, 1) := by decide +kernel
theorem dX11_post_35 : decode cX11_post 35 = .ok (.iload_n 1, 1) := by decide +kernel
theorem dX11_post_36 : decode cX11_post 36 = .ok (.ishl, 1) := by decide +kernel
theorem dX11_post_37 : decode cX11_post 37 = .ok (.invokevirtual 353, 3) := by decide +kernel
theorem dX11_post_40 : decode cX11_post 40 = .ok (.aload_n 0, 1) := by decide +kernel
theorem dX11_post_41 : decode cX11_post 41 = .ok (.iload_n 1, 1) := by decide +kernel
theorem dX11_post_42 : decode cX11_post 42 = .ok (.iconst 0, 1) := by decide +kernel
theorem dX11_post_43 : decode cX11_post 43 = .ok (.invokevirtual 279, 3) := by decide +kernel
theorem dX11_post_46 : decode cX11_post 46 = .ok (.istore 4, 2) := by decide +kernel
theorem dX11_post_48 : decode cX11_post 48 = .ok (.aload_n 0, 1) := by decide +kernel
theorem dX11_post_49 : decode cX11_post 49 = .ok (.aload_n 0, 1) := by decide +kernel
theorem dX11_post_50 : decode cX11_post 50 = .ok (.getfield 42, 3) := by decide +kernel
theorem dX11_post_53 : decode cX11_post 53 = .ok (.iconst 2, 1) := by decide +kernel
theorem dX11_post_54 : decode cX11_post 54 = .ok (.iaload, 1) := by decide +kernel
theorem dX11_post_55 : decode cX11_post 55 = .ok (.iload 4, 2) := by decide +kernel
theorem dX11_post_57 : decode cX11_post 57 = .ok (.bipush 9, 2) := by decide +kernel
theorem dX11_post_59 : decode cX11_post 59 = .ok (.ishl, 1) := by decide +kernel
theorem dX11_post_60 : decode cX11_post 60 = .ok (.ior, 1) := by decide +kernel
theorem dX11_post_61 : decode cX11_post 61 = .ok (.iconst 1, 1) := by decide +kernel
theorem dX11_post_62 : decode cX11_post 62 = .ok (.bipush 12, 2) := by decide +kernel
theorem dX11_post_64 : decode cX11_post 64 = .ok (.iload 4, 2) := by decide +kernel
theorem dX11_post_66 : decode cX11_post 66 = .ok (.iadd, 1) := by decide +kernel
theorem dX11_post_67 : decode cX11_post 67 = .ok (.ishl, 1) := by decide +kernel
theorem dX11_post_68 : decode cX11_post 68 = .ok (.ior, 1) := by decide +kernel
theorem dX11_post_69 : decode cX11_post 69 = .ok (.iconst (-1), 1) := by decide +kernel
theorem dX11_post_70 : decode cX11_post 70 = .ok (.invokevirtual 344, 3) := by decide +kernel
theorem dX11_post_73 : decode cX11_post 73 = .ok (.iconst 0, 1) := by decide +kernel
theorem dX11_post_74 : decode cX11_post 74 = .ok (.istore 5, 2) := by decide +kernel
theorem dX11_post_76 : decode cX11_post 76 = .ok (.iload 5, 2) := by decide +kernel
theorem dX11_post_78 : decode cX11_post 78 = .ok (.aload_n 0, 1) := by decide +kernel
theorem dX11_post_79 : decode cX11_post 79 = .ok (.getfield 332, 3) := by decide +kernel
theorem dX11_post_82 : decode cX11_post 82 = .ok (.if_icmp .ge 147, 3) := by decide +kernel
theorem dX11_post_85 : decode cX11_post 85 = .ok (.aload_n 0, 1) := by decide +kernel
theorem dX11_post_86 : decode cX11_post 86 = .ok (.getfield 52, 3) := by decide +kernel
theorem dX11_post_89 : decode cX11_post 89 = .ok (.iload 5, 2) := by decide +kernel
theorem dX11_post_91 : decode cX11_post 91 = .ok (.iaload, 1) := by decide +kernel
theorem dX11_post_92 : decode cX11_post 92 = .ok (.istore 6, 2) := by decide +kernel
theorem dX11_post_94 : decode cX11_post 94 = .ok (.iload 6, 2) := by decide +kernel
theorem dX11_post_96 : decode cX11_post 96 = .ok (.bipush 9, 2) := by decide +kernel
theorem dX11_post_98 : decode cX11_post 98 = .ok (.ishr, 1) := by decide +kernel
theorem dX11_post_99 : decode cX11_post 99 = .ok (.bipush 7, 2) := by decide +kernel
theorem dX11_post_101 : decode cX11_post 101 = .ok (.iand, 1) := by decide +kernel
theorem dX11_post_102 : decode cX11_post 102 = .ok (.istore 7, 2) := by decide +kernel
theorem dX11_post_104 : decode cX11_post 104 = .ok (.iload_n 2, 1) := by decide +kernel
theorem dX11_post_105 : decode cX11_post 105 = .ok (.iload 6, 2) := by decide +kernel
theorem dX11_post_107 : decode cX11_post 107 = .ok (.bipush 12, 2) := by decide +kernel
theorem dX11_post_109 : decode cX11_post 109 = .ok (.ishr, 1) := by decide +kernel
theorem dX11_post_110 : decode cX11_post 110 = .ok (.iconst (-1), 1) := by decide +kernel
theorem dX11_post_111 : decode cX11_post 111 = .ok (.ixor, 1) := by decide +kernel
theorem dX11_post_112 : decode cX11_post 112 = .ok (.iand, 1) := by decide +kernel
theorem dX11_post_113 : decode cX11_post 113 = .ok (.ifCond .ne 21, 3) := by decide +kernel
theorem dX11_post_116 : decode cX11_post 116 = .ok (.iload_n 3, 1) := by decide +kernel
theorem dX11_post_117 : decode cX11_post 117 = .ok (.ifCond .eq 10, 3) := by decide +kernel
theorem dX11_post_120 : decode cX11_post 120 = .ok (.iload 7, 2) := by decide +kernel
theorem dX11_post_122 : decode cX11_post 122 = .ok (.iload 4, 2) := by decide +kernel
theorem dX11_post_124 : decode cX11_post 124 = .ok (.if_icmp .ne 10, 3) := by decide +kernel
theorem dX11_post_127 : decode cX11_post 127 = .ok (.aload_n 0, 1) := by decide +kernel
theorem dX11_post_128 : decode cX11_post 128 = .ok (.iload 5, 2) := by decide +kernel
theorem dX11_post_130 : decode cX11_post 130 = .ok (.invokevirtual 360, 3) := by decide +kernel
theorem dX11_post_133 : decode cX11_post 133 = .ok (.ireturn, 1) := by decide +kernel
theorem dX11_post_134 : decode cX11_post 134 = .ok (.iconst 0, 1) := by decide +kernel
theorem dX11_post_135 : decode cX11_post 135 = .ok (.istore 8, 2) := by decide +kernel
theorem dX11_post_137 : decode cX11_post 137 = .ok (.iload 8, 2) := by decide +kernel
theorem dX11_post_139 : decode cX11_post 139 = .ok (.aload_n 0, 1) := by decide +kernel
theorem dX11_post_140 : decode cX11_post 140 = .ok (.getfield 42, 3) := by decide +kernel
theorem dX11_post_143 : decode cX11_post 143 = .ok (.iconst 0, 1) := by decide +kernel
theorem dX11_post_144 : decode cX11_post 144 = .ok (.iaload, 1) := by decide +kernel
theorem dX11_post_145 : decode cX11_post 145 = .ok (.if_icmp .ge 78, 3) := by decide +kernel
theorem dX11_post_148 : decode cX11_post 148 = .ok (.aload_n 0, 1) := by decide +kernel
theorem dX11_post_149 : decode cX11_post 149 = .ok (.getfield 64, 3) := by decide +kernel
theorem dX11_post_152 : decode cX11_post 152 = .ok (.iload 8, 2) := by decide +kernel
theorem dX11_post_154 : decode cX11_post 154 = .ok (.baload, 1) := by decide +kernel
theorem dX11_post_155 : decode cX11_post 155 = .ok (.ifCond .ne 62, 3) := by decide +kernel
theorem dX11_post_158 : decode cX11_post 158 = .ok (.aload_n 0, 1) := by decide +kernel
theorem dX11_post_159 : decode cX11_post 159 = .ok (.iload 6, 2) := by decide +kernel
theorem dX11_post_161 : decode cX11_post 161 = .ok (.iload 8, 2) := by decide +kernel
theorem dX11_post_163 : decode cX11_post 163 = .ok (.iconst 0, 1) := by decide +kernel
theorem dX11_post_164 : decode cX11_post 164 = .ok (.invokevirtual 285, 3) := by decide +kernel
theorem dX11_post_167 : decode cX11_post 167 = .ok (.iload 7, 2) := by decide +kernel
theorem dX11_post_169 : decode cX11_post 169 = .ok (.if_icmp .eq 6, 3) := by decide +kernel
theorem dX11_post_172 : decode cX11_post 172 = .ok (.goto 45, 3) := by decide +kernel
theorem dX11_post_175 : decode cX11_post 175 = .ok (.aload_n 0, 1) := by decide +kernel
theorem dX11_post_176 : decode cX11_post 176 = .ok (.iload 6, 2) := by decide +kernel
theorem dX11_post_178 : decode cX11_post 178 = .ok (.iload 8, 2) := by decide +kernel
theorem dX11_post_180 : decode cX11_post 180 = .ok (.iconst 1, 1) := by decide +kernel
theorem dX11_post_181 : decode cX11_post 181 = .ok (.invokevirtual 285, 3) := by decide +kernel
theorem dX11_post_184 : decode cX11_post 184 = .ok (.istore 9, 2) := by decide +kernel
theorem dX11_post_186 : decode cX11_post 186 = .ok (.aload_n 0, 1) := by decide +kernel
theorem dX11_post_187 : decode cX11_post 187 = .ok (.iload 6, 2) := by decide +kernel
theorem dX11_post_189 : decode cX11_post 189 = .ok (.iconst 1, 1) := by decide +kernel
theorem dX11_post_190 : decode cX11_post 190 = .ok (.iload 8, 2) := by decide +kernel
theorem dX11_post_192 : decode cX11_post 192 = .ok (.ishl, 1) := by decide +kernel
theorem dX11_post_193 : decode cX11_post 193 = .ok (.ixor, 1) := by decide +kernel
theorem dX11_post_194 : decode cX11_post 194 = .ok (.sipush (-3585), 3) := by decide +kernel
theorem dX11_post_197 : decode cX11_post 197 = .ok (.iand, 1) := by decide +kernel
theorem dX11_post_198 : decode cX11_post 198 = .ok (.iload 9, 2) := by decide +kernel
theorem dX11_post_200 : decode cX11_post 200 = .ok (.bipush 9, 2) := by decide +kernel
theorem dX11_post_202 : decode cX11_post 202 = .ok (.ishl, 1) := by decide +kernel
theorem dX11_post_203 : decode cX11_post 203 = .ok (.ior, 1) := by decide +kernel
theorem dX11_post_204 : decode cX11_post 204 = .ok (.iconst 1, 1) := by decide +kernel
theorem dX11_post_205 : decode cX11_post 205 = .ok (.bipush 12, 2) := by decide +kernel
theorem dX11_post_207 : decode cX11_post 207 = .ok (.iload 9, 2) := by decide +kernel
theorem dX11_post_209 : decode cX11_post 209 = .ok (.iadd, 1) := by decide +kernel
theorem dX11_post_210 : decode cX11_post 210 = .ok (.ishl, 1) := by decide +kernel
theorem dX11_post_211 : decode cX11_post 211 = .ok (.ior, 1) := by decide +kernel
theorem dX11_post_212 : decode cX11_post 212 = .ok (.iload 5, 2) := by decide +kernel
theorem dX11_post_214 : decode cX11_post 214 = .ok (.invokevirtual 344, 3) := by decide +kernel
theorem dX11_post_217 : decode cX11_post 217 = .ok (.iinc 8 1, 3) := by decide +kernel
theorem dX11_post_220 : decode cX11_post 220 = .ok (.goto (-83), 3) := by decide +kernel
theorem dX11_post_223 : decode cX11_post 223 = .ok (.iinc 5 1, 3) := by decide +kernel
theorem dX11_post_226 : decode cX11_post 226 = .ok (.goto (-150), 3) := by decide +kernel
theorem dX11_post_229 : decode cX11_post 229 = .ok (.bipush (-2), 2) := by decide +kernel
theorem dX11_post_231 : decode cX11_post 231 = .ok (.ireturn, 1) := by decide +kernel
theorem dX11_push_0 : decode cX11_push 0 = .ok (.aload_n 0, 1) := by decide +kernel
theorem dX11_push_1 : decode cX11_push 1 = .ok (.getfield 35, 3) := by decide +kernel
theorem dX11_push_4 : decode cX11_push 4 = .ok (.aload_n 0, 1) := by decide +kernel
theorem dX11_push_5 : decode cX11_push 5 = .ok (.getfield 256, 3) := by decide +kernel
theorem dX11_push_8 : decode cX11_push 8 = .ok (.lload_n 1, 1) := by decide +kernel
theorem dX11_push_9 : decode cX11_push 9 = .ok (.lastore, 1) := by decide +kernel
theorem dX11_push_10 : decode cX11_push 10 = .ok (.aload_n 0, 1) := by decide +kernel
theorem dX11_push_11 : decode cX11_push 11 = .ok (.dup, 1) := by decide +kernel
theorem dX11_push_12 : decode cX11_push 12 = .ok (.getfield 256, 3) := by decide +kernel
theorem dX11_push_15 : decode cX11_push 15 = .ok (.iconst 1, 1) := by decide +kernel
theorem dX11_push_16 : decode cX11_push 16 = .ok (.iadd, 1) := by decide +kernel
theorem dX11_push_17 : decode cX11_push 17 = .ok (.putfield 256, 3) := by decide +kernel
theorem dX11_push_20 : decode cX11_push 20 = .ok (.return_, 1) := by decide +kernel
theorem dX11_puts_0 : decode cX11_puts 0 = .ok (.aload_n 0, 1) := by decide +kernel
theorem dX11_puts_1 : decode cX11_puts 1 = .ok (.getfield 13, 3) := by decide +kernel
theorem dX11_puts_4 : decode cX11_puts 4 = .ok (.sipush 400, 3) := by decide +kernel
theorem dX11_puts_7 : decode cX11_puts 7 = .ok (.aload_n 0, 1) := by decide +kernel
theorem dX11_puts_8 : decode cX11_puts 8 = .ok (.getfield 153, 3) := by decide +kernel
theorem dX11_puts_11 : decode cX11_puts 11 = .ok (.imul, 1) := by decide +kernel
theorem dX11_puts_12 : decode cX11_puts 12 = .ok (.aload_n 0, 1) := by decide +kernel
theorem dX11_puts_13 : decode cX11_puts 13 = .ok (.getfield 17, 3) := by decide +kernel
theorem dX11_puts_16 : decode cX11_puts 16 = .ok (.aload_n 0, 1) := by decide +kernel
theorem dX11_puts_17 : decode cX11_puts 17 = .ok (.getfield 153, 3) := by decide +kernel
theorem dX11_puts_20 : decode cX11_puts 20 = .ok (.iaload, 1) := by decide +kernel
theorem dX11_puts_21 : decode cX11_puts 21 = .ok (.iadd, 1) := by decide +kernel
theorem dX11_puts_22 : decode cX11_puts 22 = .ok (.iload_n 1, 1) := by decide +kernel
theorem dX11_puts_23 : decode cX11_puts 23 = .ok (.bipush 16, 2) := by decide +kernel
theorem dX11_puts_25 : decode cX11_puts 25 = .ok (.iload_n 2, 1) := by decide +kernel
theorem dX11_puts_26 : decode cX11_puts 26 = .ok (.imul, 1) := by decide +kernel
theorem dX11_puts_27 : decode cX11_puts 27 = .ok (.iadd, 1) := by decide +kernel
theorem dX11_puts_28 : decode cX11_puts 28 = .ok (.iastore, 1) := by decide +kernel
theorem dX11_puts_29 : decode cX11_puts 29 = .ok (.aload_n 0, 1) := by decide +kernel
theorem dX11_puts_30 : decode cX11_puts 30 = .ok (.getfield 17, 3) := by decide +kernel
theorem dX11_puts_33 : decode cX11_puts 33 = .ok (.aload_n 0, 1) := by decide +kernel
theorem dX11_puts_34 : decode cX11_puts 34 = .ok (.getfield 153, 3) := by decide +kernel
theorem dX11_puts_37 : decode cX11_puts 37 = .ok (.dup2, 1) := by decide +kernel
theorem dX11_puts_38 : decode cX11_puts 38 = .ok (.iaload, 1) := by decide +kernel
theorem dX11_puts_39 : decode cX11_puts 39 = .ok (.iconst 1, 1) := by decide +kernel
theorem dX11_puts_40 : decode cX11_puts 40 = .ok (.iadd, 1) := by decide +kernel
theorem dX11_puts_41 : decode cX11_puts 41 = .ok (.iastore, 1) := by decide +kernel
theorem dX11_puts_42 : decode cX11_puts 42 = .ok (.return_, 1) := by decide +kernel
theorem dX11_putsBack_0 : decode cX11_putsBack 0 = .ok (.iconst 0, 1) := by decide +kernel
theorem dX11_putsBack_1 : decode cX11_putsBack 1 = .ok (.istore_n 1, 1) := by decide +kernel
theorem dX11_putsBack_2 : decode cX11_putsBack 2 = .ok (.iload_n 1, 1) := by decide +kernel
theorem dX11_putsBack_3 : decode cX11_putsBack 3 = .ok (.sipush 202, 3) := by decide +kernel
theorem dX11_putsBack_6 : decode cX11_putsBack 6 = .ok (.if_icmp .ge 21, 3) := by decide +kernel
theorem dX11_putsBack_9 : decode cX11_putsBack 9 = .ok (.aload_n 0, 1) := by decide +kernel
theorem dX11_putsBack_10 : decode cX11_putsBack 10 = .ok (.getfield 42, 3) := by decide +kernel
theorem dX11_putsBack_13 : decode cX11_putsBack 13 = .ok (.iload_n 1, 1) := by decide +kernel
theorem dX11_putsBack_14 : decode cX11_putsBack 14 = .ok (.aload_n 0, 1) := by decide +kernel
theorem dX11_putsBack_15 : decode cX11_putsBack 15 = .ok (.getfield 45, 3) := by decide +kernel
theorem dX11_putsBack_18 : decode cX11_putsBack 18 = .ok (.iload_n 1, 1) := by decide +kernel
theorem dX11_putsBack_19 : decode cX11_putsBack 19 = .ok (.iaload, 1) := by decide +kernel
theorem dX11_putsBack_20 : decode cX11_putsBack 20 = .ok (.iastore, 1) := by decide +kernel
theorem dX11_putsBack_21 : decode cX11_putsBack 21 = .ok (.iinc 1 1, 3) := by decide +kernel
theorem dX11_putsBack_24 : decode cX11_putsBack 24 = .ok (.goto (-22), 3) := by decide +kernel
theorem dX11_putsBack_27 : decode cX11_putsBack 27 = .ok (.return_, 1) := by decide +kernel
theorem dX11_readsAll_0 : decode cX11_readsAll 0 = .ok (.aload_n 0, 1) := by decide +kernel
theorem dX11_readsAll_1 : decode cX11_readsAll 1 = .ok (.getfield 17, 3) := by decide +kernel
theorem dX11_readsAll_4 : decode cX11_readsAll 4 = .ok (.aload_n 0, 1) := by decide +kernel
theorem dX11_readsAll_5 : decode cX11_readsAll 5 = .ok (.getfield 153, 3) := by decide +kernel
theorem dX11_readsAll_8 : decode cX11_readsAll 8 = .ok (.iconst 0, 1) := by decide +kernel
theorem dX11_readsAll_9 : decode cX11_readsAll 9 = .ok (.iastore, 1) := by decide +kernel
theorem dX11_readsAll_10 : decode cX11_readsAll 10 = .ok (.aload_n 0, 1) := by decide +kernel
theorem dX11_readsAll_11 : decode cX11_readsAll 11 = .ok (.iconst 0, 1) := by decide +kernel
theorem dX11_readsAll_12 : decode cX11_readsAll 12 = .ok (.putfield 235, 3) := by decide +kernel
theorem dX11_readsAll_15 : decode cX11_readsAll 15 = .ok (.aload_n 0, 1) := by decide +kernel
theorem dX11_readsAll_16 : decode cX11_readsAll 16 = .ok (.iconst 0, 1) := by decide +kernel
theorem dX11_readsAll_17 : decode cX11_readsAll 17 = .ok (.putfield 97, 3) := by decide +kernel
theorem dX11_readsAll_20 : decode cX11_readsAll 20 = .ok (.aload_n 0, 1) := by decide +kernel
theorem dX11_readsAll_21 : decode cX11_readsAll 21 = .ok (.iconst 0, 1) := by decide +kernel
theorem dX11_readsAll_22 : decode cX11_readsAll 22 = .ok (.putfield 94, 3) := by decide +kernel
theorem dX11_readsAll_25 : decode cX11_readsAll 25 = .ok (.aload_n 0, 1) := by decide +kernel
theorem dX11_readsAll_26 : decode cX11_readsAll 26 = .ok (.iconst 0, 1) := by decide +kernel
theorem dX11_readsAll_27 : decode cX11_readsAll 27 = .ok (.putfield 156, 3) := by decide +kernel
theorem dX11_readsAll_30 : decode cX11_readsAll 30 = .ok (.aload_n 0, 1) := by decide +kernel
theorem dX11_readsAll_31 : decode cX11_readsAll 31 = .ok (.invokevirtual 247, 3) := by decide +kernel
theorem dX11_readsAll_34 : decode cX11_readsAll 34 = .ok (.istore_n 1, 1) := by decide +kernel
theorem dX11_readsAll_35 : decode cX11_readsAll 35 = .ok (.iload_n 1, 1) := by decide +kernel
theorem dX11_readsAll_36 : decode cX11_readsAll 36 = .ok (.ifCond .eq 30, 3) := by decide +kernel
