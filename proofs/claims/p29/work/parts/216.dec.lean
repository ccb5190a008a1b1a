theorem dX3_lookAtWay_51 : decode cX3_lookAtWay 51 = .ok (.aload_n 0, 1) := by decide +kernel
theorem dX3_lookAtWay_52 : decode cX3_lookAtWay 52 = .ok (.getfield 22, 3) := by decide +kernel
theorem dX3_lookAtWay_55 : decode cX3_lookAtWay 55 = .ok (.getfield 83, 3) := by decide +kernel
theorem dX3_lookAtWay_58 : decode cX3_lookAtWay 58 = .ok (.getfield 191, 3) := by decide +kernel
theorem dX3_lookAtWay_61 : decode cX3_lookAtWay 61 = .ok (.iload_n 1, 1) := by decide +kernel
theorem dX3_lookAtWay_62 : decode cX3_lookAtWay 62 = .ok (.iaload, 1) := by decide +kernel
theorem dX3_lookAtWay_63 : decode cX3_lookAtWay 63 = .ok (.i2l, 1) := by decide +kernel
theorem dX3_lookAtWay_64 : decode cX3_lookAtWay 64 = .ok (.lastore, 1) := by decide +kernel
theorem dX3_lookAtWay_65 : decode cX3_lookAtWay 65 = .ok (.aload_n 0, 1) := by decide +kernel
theorem dX3_lookAtWay_66 : decode cX3_lookAtWay 66 = .ok (.getfield 26, 3) := by decide +kernel
theorem dX3_lookAtWay_69 : decode cX3_lookAtWay 69 = .ok (.bipush 11, 2) := by decide +kernel
theorem dX3_lookAtWay_71 : decode cX3_lookAtWay 71 = .ok (.invokevirtual 112, 3) := by decide +kernel
theorem dX3_lookAtWay_74 : decode cX3_lookAtWay 74 = .ok (.ifCond .eq 22, 3) := by decide +kernel
theorem dX3_lookAtWay_77 : decode cX3_lookAtWay 77 = .ok (.aload_n 0, 1) := by decide +kernel
theorem dX3_lookAtWay_78 : decode cX3_lookAtWay 78 = .ok (.getfield 32, 3) := by decide +kernel
theorem dX3_lookAtWay_81 : decode cX3_lookAtWay 81 = .ok (.bipush 11, 2) := by decide +kernel
theorem dX3_lookAtWay_83 : decode cX3_lookAtWay 83 = .ok (.aload_n 0, 1) := by decide +kernel
theorem dX3_lookAtWay_84 : decode cX3_lookAtWay 84 = .ok (.getfield 22, 3) := by decide +kernel
theorem dX3_lookAtWay_87 : decode cX3_lookAtWay 87 = .ok (.getfield 39, 3) := by decide +kernel
theorem dX3_lookAtWay_90 : decode cX3_lookAtWay 90 = .ok (.iload_n 1, 1) := by decide +kernel
theorem dX3_lookAtWay_91 : decode cX3_lookAtWay 91 = .ok (.invokevirtual 194, 3) := by decide +kernel
theorem dX3_lookAtWay_94 : decode cX3_lookAtWay 94 = .ok (.i2l, 1) := by decide +kernel
theorem dX3_lookAtWay_95 : decode cX3_lookAtWay 95 = .ok (.lastore, 1) := by decide +kernel
theorem dX3_lookAtWay_96 : decode cX3_lookAtWay 96 = .ok (.return_, 1) := by decide +kernel
theorem dX3_pass_0 : decode cX3_pass 0 = .ok (.aload_n 1, 1) := by decide +kernel
theorem dX3_pass_1 : decode cX3_pass 1 = .ok (.ifnull 7, 3) := by decide +kernel
theorem dX3_pass_4 : decode cX3_pass 4 = .ok (.aload_n 2, 1) := by decide +kernel
theorem dX3_pass_5 : decode cX3_pass 5 = .ok (.ifnonnull 4, 3) := by decide +kernel
theorem dX3_pass_8 : decode cX3_pass 8 = .ok (.return_, 1) := by decide +kernel
theorem dX3_pass_9 : decode cX3_pass 9 = .ok (.aload_n 0, 1) := by decide +kernel
theorem dX3_pass_10 : decode cX3_pass 10 = .ok (.aload_n 1, 1) := by decide +kernel
theorem dX3_pass_11 : decode cX3_pass 11 = .ok (.putfield 22, 3) := by decide +kernel
theorem dX3_pass_14 : decode cX3_pass 14 = .ok (.aload_n 0, 1) := by decide +kernel
theorem dX3_pass_15 : decode cX3_pass 15 = .ok (.aload_n 2, 1) := by decide +kernel
theorem dX3_pass_16 : decode cX3_pass 16 = .ok (.putfield 26, 3) := by decide +kernel
theorem dX3_pass_19 : decode cX3_pass 19 = .ok (.iconst 0, 1) := by decide +kernel
theorem dX3_pass_20 : decode cX3_pass 20 = .ok (.istore 4, 2) := by decide +kernel
theorem dX3_pass_22 : decode cX3_pass 22 = .ok (.iload 4, 2) := by decide +kernel
theorem dX3_pass_24 : decode cX3_pass 24 = .ok (.bipush 8, 2) := by decide +kernel
theorem dX3_pass_26 : decode cX3_pass 26 = .ok (.if_icmp .ge 17, 3) := by decide +kernel
theorem dX3_pass_29 : decode cX3_pass 29 = .ok (.aload_n 0, 1) := by decide +kernel
theorem dX3_pass_30 : decode cX3_pass 30 = .ok (.getfield 19, 3) := by decide +kernel
theorem dX3_pass_33 : decode cX3_pass 33 = .ok (.iload 4, 2) := by decide +kernel
theorem dX3_pass_35 : decode cX3_pass 35 = .ok (.iconst (-1), 1) := by decide +kernel
theorem dX3_pass_36 : decode cX3_pass 36 = .ok (.iastore, 1) := by decide +kernel
theorem dX3_pass_37 : decode cX3_pass 37 = .ok (.iinc 4 1, 3) := by decide +kernel
theorem dX3_pass_40 : decode cX3_pass 40 = .ok (.goto (-18), 3) := by decide +kernel
theorem dX3_pass_43 : decode cX3_pass 43 = .ok (.iconst 0, 1) := by decide +kernel
theorem dX3_pass_44 : decode cX3_pass 44 = .ok (.istore 4, 2) := by decide +kernel
theorem dX3_pass_46 : decode cX3_pass 46 = .ok (.iload 4, 2) := by decide +kernel
theorem dX3_pass_48 : decode cX3_pass 48 = .ok (.iload_n 3, 1) := by decide +kernel
theorem dX3_pass_49 : decode cX3_pass 49 = .ok (.if_icmp .ge 73, 3) := by decide +kernel
theorem dX3_pass_52 : decode cX3_pass 52 = .ok (.aload_n 0, 1) := by decide +kernel
theorem dX3_pass_53 : decode cX3_pass 53 = .ok (.getfield 22, 3) := by decide +kernel
theorem dX3_pass_56 : decode cX3_pass 56 = .ok (.getfield 39, 3) := by decide +kernel
theorem dX3_pass_59 : decode cX3_pass 59 = .ok (.invokevirtual 45, 3) := by decide +kernel
theorem dX3_pass_62 : decode cX3_pass 62 = .ok (.ifCond .ne 33, 3) := by decide +kernel
theorem dX3_pass_65 : decode cX3_pass 65 = .ok (.aload_n 0, 1) := by decide +kernel
theorem dX3_pass_66 : decode cX3_pass 66 = .ok (.invokevirtual 51, 3) := by decide +kernel
theorem dX3_pass_69 : decode cX3_pass 69 = .ok (.aload_n 0, 1) := by decide +kernel
theorem dX3_pass_70 : decode cX3_pass 70 = .ok (.invokevirtual 54, 3) := by decide +kernel
theorem dX3_pass_73 : decode cX3_pass 73 = .ok (.aload_n 0, 1) := by decide +kernel
theorem dX3_pass_74 : decode cX3_pass 74 = .ok (.getfield 22, 3) := by decide +kernel
theorem dX3_pass_77 : decode cX3_pass 77 = .ok (.dup, 1) := by decide +kernel
theorem dX3_pass_78 : decode cX3_pass 78 = .ok (.getfield 57, 3) := by decide +kernel
theorem dX3_pass_81 : decode cX3_pass 81 = .ok (.aload_n 0, 1) := by decide +kernel
theorem dX3_pass_82 : decode cX3_pass 82 = .ok (.getfield 22, 3) := by decide +kernel
theorem dX3_pass_85 : decode cX3_pass 85 = .ok (.getfield 39, 3) := by decide +kernel
theorem dX3_pass_88 : decode cX3_pass 88 = .ok (.invokevirtual 60, 3) := by decide +kernel
theorem dX3_pass_91 : decode cX3_pass 91 = .ok (.iadd, 1) := by decide +kernel
theorem dX3_pass_92 : decode cX3_pass 92 = .ok (.putfield 57, 3) := by decide +kernel
theorem dX3_pass_95 : decode cX3_pass 95 = .ok (.aload_n 0, 1) := by decide +kernel
theorem dX3_pass_96 : decode cX3_pass 96 = .ok (.getfield 22, 3) := by decide +kernel
theorem dX3_pass_99 : decode cX3_pass 99 = .ok (.aload_n 0, 1) := by decide +kernel
theorem dX3_pass_100 : decode cX3_pass 100 = .ok (.getfield 22, 3) := by decide +kernel
theorem dX3_pass_103 : decode cX3_pass 103 = .ok (.getfield 64, 3) := by decide +kernel
theorem dX3_pass_106 : decode cX3_pass 106 = .ok (.iconst 1, 1) := by decide +kernel
theorem dX3_pass_107 : decode cX3_pass 107 = .ok (.iadd, 1) := by decide +kernel
theorem dX3_pass_108 : decode cX3_pass 108 = .ok (.ldc 67, 2) := by decide +kernel
theorem dX3_pass_110 : decode cX3_pass 110 = .ok (.invokestatic 68, 3) := by decide +kernel
theorem dX3_pass_113 : decode cX3_pass 113 = .ok (.putfield 64, 3) := by decide +kernel
theorem dX3_pass_116 : decode cX3_pass 116 = .ok (.iinc 4 1, 3) := by decide +kernel
theorem dX3_pass_119 : decode cX3_pass 119 = .ok (.goto (-73), 3) := by decide +kernel
theorem dX3_pass_122 : decode cX3_pass 122 = .ok (.return_, 1) := by decide +kernel
theorem dX3_setOut_0 : decode cX3_setOut 0 = .ok (.aload_n 0, 1) := by decide +kernel
theorem dX3_setOut_1 : decode cX3_setOut 1 = .ok (.getfield 22, 3) := by decide +kernel
theorem dX3_setOut_4 : decode cX3_setOut 4 = .ok (.getfield 39, 3) := by decide +kernel
theorem dX3_setOut_7 : decode cX3_setOut 7 = .ok (.astore_n 1, 1) := by decide +kernel
theorem dX3_setOut_8 : decode cX3_setOut 8 = .ok (.iconst 0, 1) := by decide +kernel
theorem dX3_setOut_9 : decode cX3_setOut 9 = .ok (.istore_n 2, 1) := by decide +kernel
theorem dX3_setOut_10 : decode cX3_setOut 10 = .ok (.iload_n 2, 1) := by decide +kernel
theorem dX3_setOut_11 : decode cX3_setOut 11 = .ok (.aload_n 1, 1) := by decide +kernel
theorem dX3_setOut_12 : decode cX3_setOut 12 = .ok (.getfield 74, 3) := by decide +kernel
theorem dX3_setOut_15 : decode cX3_setOut 15 = .ok (.if_icmp .ge 169, 3) := by decide +kernel
theorem dX3_setOut_18 : decode cX3_setOut 18 = .ok (.aload_n 1, 1) := by decide +kernel
theorem dX3_setOut_19 : decode cX3_setOut 19 = .ok (.getfield 77, 3) := by decide +kernel
theorem dX3_setOut_22 : decode cX3_setOut 22 = .ok (.iload_n 2, 1) := by decide +kernel
theorem dX3_setOut_23 : decode cX3_setOut 23 = .ok (.iaload, 1) := by decide +kernel
theorem dX3_setOut_24 : decode cX3_setOut 24 = .ok (.iconst (-1), 1) := by decide +kernel
theorem dX3_setOut_25 : decode cX3_setOut 25 = .ok (.if_icmp .ne 38, 3) := by decide +kernel
theorem dX3_setOut_28 : decode cX3_setOut 28 = .ok (.aload_n 1, 1) := by decide +kernel
theorem dX3_setOut_29 : decode cX3_setOut 29 = .ok (.getfield 103, 3) := by decide +kernel
theorem dX3_setOut_32 : decode cX3_setOut 32 = .ok (.iload_n 2, 1) := by decide +kernel
theorem dX3_setOut_33 : decode cX3_setOut 33 = .ok (.iaload, 1) := by decide +kernel
theorem dX3_setOut_34 : decode cX3_setOut 34 = .ok (.aload_n 1, 1) := by decide +kernel
theorem dX3_setOut_35 : decode cX3_setOut 35 = .ok (.getfield 106, 3) := by decide +kernel
theorem dX3_setOut_38 : decode cX3_setOut 38 = .ok (.iload_n 2, 1) := by decide +kernel
theorem dX3_setOut_39 : decode cX3_setOut 39 = .ok (.iaload, 1) := by decide +kernel
theorem dX3_setOut_40 : decode cX3_setOut 40 = .ok (.if_icmp .eq 23, 3) := by decide +kernel
theorem dX3_setOut_43 : decode cX3_setOut 43 = .ok (.aload_n 0, 1) := by decide +kernel
theorem dX3_setOut_44 : decode cX3_setOut 44 = .ok (.getfield 22, 3) := by decide +kernel
theorem dX3_setOut_47 : decode cX3_setOut 47 = .ok (.getfield 64, 3) := by decide +kernel
theorem dX3_setOut_50 : decode cX3_setOut 50 = .ok (.aload_n 1, 1) := by decide +kernel
theorem dX3_setOut_51 : decode cX3_setOut 51 = .ok (.getfield 109, 3) := by decide +kernel
theorem dX3_setOut_54 : decode cX3_setOut 54 = .ok (.iload_n 2, 1) := by decide +kernel
theorem dX3_setOut_55 : decode cX3_setOut 55 = .ok (.iaload, 1) := by decide +kernel
theorem dX3_setOut_56 : decode cX3_setOut 56 = .ok (.if_icmp .lt 7, 3) := by decide +kernel
theorem dX3_setOut_59 : decode cX3_setOut 59 = .ok (.iconst 1, 1) := by decide +kernel
theorem dX3_setOut_60 : decode cX3_setOut 60 = .ok (.goto 4, 3) := by decide +kernel
theorem dX3_setOut_63 : decode cX3_setOut 63 = .ok (.iconst 0, 1) := by decide +kernel
theorem dX3_setOut_64 : decode cX3_setOut 64 = .ok (.istore_n 3, 1) := by decide +kernel
theorem dX3_setOut_65 : decode cX3_setOut 65 = .ok (.iload_n 3, 1) := by decide +kernel
theorem dX3_setOut_66 : decode cX3_setOut 66 = .ok (.ifCond .ne 6, 3) := by decide +kernel
theorem dX3_setOut_69 : decode cX3_setOut 69 = .ok (.goto 109, 3) := by decide +kernel
theorem dX3_setOut_72 : decode cX3_setOut 72 = .ok (.aload_n 0, 1) := by decide +kernel
theorem dX3_setOut_73 : decode cX3_setOut 73 = .ok (.iload_n 2, 1) := by decide +kernel
theorem dX3_setOut_74 : decode cX3_setOut 74 = .ok (.putfield 35, 3) := by decide +kernel
theorem dX3_setOut_77 : decode cX3_setOut 77 = .ok (.aload_n 0, 1) := by decide +kernel
theorem dX3_setOut_78 : decode cX3_setOut 78 = .ok (.getfield 32, 3) := by decide +kernel
theorem dX3_setOut_81 : decode cX3_setOut 81 = .ok (.bipush 8, 2) := by decide +kernel
theorem dX3_setOut_83 : decode cX3_setOut 83 = .ok (.iload_n 2, 1) := by decide +kernel
theorem dX3_setOut_84 : decode cX3_setOut 84 = .ok (.i2l, 1) := by decide +kernel
theorem dX3_setOut_85 : decode cX3_setOut 85 = .ok (.lastore, 1) := by decide +kernel
theorem dX3_setOut_86 : decode cX3_setOut 86 = .ok (.aload_n 0, 1) := by decide +kernel
theorem dX3_setOut_87 : decode cX3_setOut 87 = .ok (.getfield 32, 3) := by decide +kernel
theorem dX3_setOut_90 : decode cX3_setOut 90 = .ok (.bipush 9, 2) := by decide +kernel
theorem dX3_setOut_92 : decode cX3_setOut 92 = .ok (.aload_n 1, 1) := by decide +kernel
theorem dX3_setOut_93 : decode cX3_setOut 93 = .ok (.getfield 106, 3) := by decide +kernel
theorem dX3_setOut_96 : decode cX3_setOut 96 = .ok (.iload_n 2, 1) := by decide +kernel
theorem dX3_setOut_97 : decode cX3_setOut 97 = .ok (.iaload, 1) := by decide +kernel
theorem dX3_setOut_98 : decode cX3_setOut 98 = .ok (.i2l, 1) := by decide +kernel
theorem dX3_setOut_99 : decode cX3_setOut 99 = .ok (.lastore, 1) := by decide +kernel
theorem dX3_setOut_100 : decode cX3_setOut 100 = .ok (.aload_n 0, 1) := by decide +kernel
theorem dX3_setOut_101 : decode cX3_setOut 101 = .ok (.getfield 32, 3) := by decide +kernel
theorem dX3_setOut_104 : decode cX3_setOut 104 = .ok (.bipush 10, 2) := by decide +kernel
theorem dX3_setOut_106 : decode cX3_setOut 106 = .ok (.aload_n 0, 1) := by decide +kernel
theorem dX3_setOut_107 : decode cX3_setOut 107 = .ok (.getfield 22, 3) := by decide +kernel
theorem dX3_setOut_110 : decode cX3_setOut 110 = .ok (.getfield 64, 3) := by decide +kernel
theorem dX3_setOut_113 : decode cX3_setOut 113 = .ok (.i2l, 1) := by decide +kernel
theorem dX3_setOut_114 : decode cX3_setOut 114 = .ok (.lastore, 1) := by decide +kernel
theorem dX3_setOut_115 : decode cX3_setOut 115 = .ok (.aload_n 0, 1) := by decide +kernel
theorem dX3_setOut_116 : decode cX3_setOut 116 = .ok (.getfield 26, 3) := by decide +kernel
theorem dX3_setOut_119 : decode cX3_setOut 119 = .ok (.iconst 5, 1) := by decide +kernel
theorem dX3_setOut_120 : decode cX3_setOut 120 = .ok (.invokevirtual 112, 3) := by decide +kernel
theorem dX3_setOut_123 : decode cX3_setOut 123 = .ok (.ifCond .eq 13, 3) := by decide +kernel
theorem dX3_setOut_126 : decode cX3_setOut 126 = .ok (.aload_n 0, 1) := by decide +kernel
theorem dX3_setOut_127 : decode cX3_setOut 127 = .ok (.aload_n 1, 1) := by decide +kernel
theorem dX3_setOut_128 : decode cX3_setOut 128 = .ok (.getfield 106, 3) := by decide +kernel
theorem dX3_setOut_131 : decode cX3_setOut 131 = .ok (.iload_n 2, 1) := by decide +kernel
theorem dX3_setOut_132 : decode cX3_setOut 132 = .ok (.iaload, 1) := by decide +kernel
theorem dX3_setOut_133 : decode cX3_setOut 133 = .ok (.invokevirtual 118, 3) := by decide +kernel
theorem dX3_setOut_136 : decode cX3_setOut 136 = .ok (.aload_n 0, 1) := by decide +kernel
theorem dX3_setOut_137 : decode cX3_setOut 137 = .ok (.invokevirtual 121, 3) := by decide +kernel
theorem dX3_setOut_140 : decode cX3_setOut 140 = .ok (.ifCond .eq 7, 3) := by decide +kernel
theorem dX3_setOut_143 : decode cX3_setOut 143 = .ok (.iconst (-1), 1) := by decide +kernel
theorem dX3_setOut_144 : decode cX3_setOut 144 = .ok (.goto 7, 3) := by decide +kernel
theorem dX3_setOut_147 : decode cX3_setOut 147 = .ok (.aload_n 0, 1) := by decide +kernel
theorem dX3_setOut_148 : decode cX3_setOut 148 = .ok (.invokevirtual 124, 3) := by decide +kernel
theorem dX3_setOut_151 : decode cX3_setOut 151 = .ok (.istore 4, 2) := by decide +kernel
theorem dX3_setOut_153 : decode cX3_setOut 153 = .ok (.iload 4, 2) := by decide +kernel
theorem dX3_setOut_155 : decode cX3_setOut 155 = .ok (.iconst (-1), 1) := by decide +kernel
theorem dX3_setOut_156 : decode cX3_setOut 156 = .ok (.if_icmp .eq 22, 3) := by decide +kernel
theorem dX3_setOut_159 : decode cX3_setOut 159 = .ok (.aload_n 1, 1) := by decide +kernel
theorem dX3_setOut_160 : decode cX3_setOut 160 = .ok (.iload_n 2, 1) := by decide +kernel
theorem dX3_setOut_161 : decode cX3_setOut 161 = .ok (.iload 4, 2) := by decide +kernel
theorem dX3_setOut_163 : decode cX3_setOut 163 = .ok (.aload_n 0, 1) := by decide +kernel
theorem dX3_setOut_164 : decode cX3_setOut 164 = .ok (.getfield 22, 3) := by decide +kernel
theorem dX3_setOut_167 : decode cX3_setOut 167 = .ok (.getfield 83, 3) := by decide +kernel
theorem dX3_setOut_170 : decode cX3_setOut 170 = .ok (.iload 4, 2) := by decide +kernel
theorem dX3_setOut_172 : decode cX3_setOut 172 = .ok (.invokevirtual 127, 3) := by decide +kernel
theorem dX3_setOut_175 : decode cX3_setOut 175 = .ok (.invokevirtual 131, 3) := by decide +kernel
theorem dX3_setOut_178 : decode cX3_setOut 178 = .ok (.iinc 2 1, 3) := by decide +kernel
theorem dX3_setOut_181 : decode cX3_setOut 181 = .ok (.goto (-171), 3) := by decide +kernel
theorem dX3_setOut_184 : decode cX3_setOut 184 = .ok (.return_, 1) := by decide +kernel
theorem dX3_takeClause_0 : decode cX3_takeClause 0 = .ok (.iconst 0, 1) := by decide +kernel
theorem dX3_takeClause_1 : decode cX3_takeClause 1 = .ok (.istore_n 1, 1) := by decide +kernel
theorem dX3_takeClause_2 : decode cX3_takeClause 2 = .ok (.iload_n 1, 1) := by decide +kernel
theorem dX3_takeClause_3 : decode cX3_takeClause 3 = .ok (.aload_n 0, 1) := by decide +kernel
theorem dX3_takeClause_4 : decode cX3_takeClause 4 = .ok (.getfield 26, 3) := by decide +kernel
theorem dX3_takeClause_7 : decode cX3_takeClause 7 = .ok (.getfield 139, 3) := by decide +kernel
theorem dX3_takeClause_10 : decode cX3_takeClause 10 = .ok (.if_icmp .ge 61, 3) := by decide +kernel
theorem dX3_takeClause_13 : decode cX3_takeClause 13 = .ok (.aload_n 0, 1) := by decide +kernel
theorem dX3_takeClause_14 : decode cX3_takeClause 14 = .ok (.getfield 26, 3) := by decide +kernel
theorem dX3_takeClause_17 : decode cX3_takeClause 17 = .ok (.iload_n 1, 1) := by decide +kernel
theorem dX3_takeClause_18 : decode cX3_takeClause 18 = .ok (.invokevirtual 142, 3) := by decide +kernel
theorem dX3_takeClause_21 : decode cX3_takeClause 21 = .ok (.ifCond .eq 6, 3) := by decide +kernel
theorem dX3_takeClause_24 : decode cX3_takeClause 24 = .ok (.goto 41, 3) := by decide +kernel
theorem dX3_takeClause_27 : decode cX3_takeClause 27 = .ok (.aload_n 0, 1) := by decide +kernel
theorem dX3_takeClause_28 : decode cX3_takeClause 28 = .ok (.getfield 26, 3) := by decide +kernel
theorem dX3_takeClause_31 : decode cX3_takeClause 31 = .ok (.iload_n 1, 1) := by decide +kernel
theorem dX3_takeClause_32 : decode cX3_takeClause 32 = .ok (.invokevirtual 168, 3) := by decide +kernel
theorem dX3_takeClause_35 : decode cX3_takeClause 35 = .ok (.ifCond .eq 28, 3) := by decide +kernel
theorem dX3_takeClause_38 : decode cX3_takeClause 38 = .ok (.aload_n 0, 1) := by decide +kernel
theorem dX3_takeClause_39 : decode cX3_takeClause 39 = .ok (.aload_n 0, 1) := by decide +kernel
theorem dX3_takeClause_40 : decode cX3_takeClause 40 = .ok (.getfield 26, 3) := by decide +kernel
theorem dX3_takeClause_43 : decode cX3_takeClause 43 = .ok (.iload_n 1, 1) := by decide +kernel
theorem dX3_takeClause_44 : decode cX3_takeClause 44 = .ok (.invokevirtual 145, 3) := by decide +kernel
theorem dX3_takeClause_47 : decode cX3_takeClause 47 = .ok (.aload_n 0, 1) := by decide +kernel
theorem dX3_takeClause_48 : decode cX3_takeClause 48 = .ok (.getfield 26, 3) := by decide +kernel
theorem dX3_takeClause_51 : decode cX3_takeClause 51 = .ok (.iload_n 1, 1) := by decide +kernel
theorem dX3_takeClause_52 : decode cX3_takeClause 52 = .ok (.invokevirtual 148, 3) := by decide +kernel
theorem dX3_takeClause_55 : decode cX3_takeClause 55 = .ok (.invokevirtual 151, 3) := by decide +kernel
theorem dX3_takeClause_58 : decode cX3_takeClause 58 = .ok (.lconst 0, 1) := by decide +kernel
theorem dX3_takeClause_59 : decode cX3_takeClause 59 = .ok (.lcmp, 1) := by decide +kernel
theorem dX3_takeClause_60 : decode cX3_takeClause 60 = .ok (.ifCond .eq 5, 3) := by decide +kernel
theorem dX3_takeClause_63 : decode cX3_takeClause 63 = .ok (.iload_n 1, 1) := by decide +kernel
theorem dX3_takeClause_64 : decode cX3_takeClause 64 = .ok (.ireturn, 1) := by decide +kernel
theorem dX3_takeClause_65 : decode cX3_takeClause 65 = .ok (.iinc 1 1, 3) := by decide +kernel
theorem dX3_takeClause_68 : decode cX3_takeClause 68 = .ok (.goto (-66), 3) := by decide +kernel
theorem dX3_takeClause_71 : decode cX3_takeClause 71 = .ok (.iconst (-1), 1) := by decide +kernel
theorem dX3_takeClause_72 : decode cX3_takeClause 72 = .ok (.ireturn, 1) := by decide +kernel
theorem dX3_waits_0 : decode cX3_waits 0 = .ok (.aload_n 0, 1) := by decide +kernel
theorem dX3_waits_1 : decode cX3_waits 1 = .ok (.getfield 26, 3) := by decide +kernel
theorem dX3_waits_4 : decode cX3_waits 4 = .ok (.getfield 134, 3) := by decide +kernel
theorem dX3_waits_7 : decode cX3_waits 7 = .ok (.ifCond .ne 5, 3) := by decide +kernel
theorem dX3_waits_10 : decode cX3_waits 10 = .ok (.iconst 0, 1) := by decide +kernel
theorem dX3_waits_11 : decode cX3_waits 11 = .ok (.ireturn, 1) := by decide +kernel
theorem dX3_waits_12 : decode cX3_waits 12 = .ok (.aload_n 0, 1) := by decide +kernel
theorem dX3_waits_13 : decode cX3_waits 13 = .ok (.aload_n 0, 1) := by decide +kernel
theorem dX3_waits_14 : decode cX3_waits 14 = .ok (.getfield 22, 3) := by decide +kernel
theorem dX3_waits_17 : decode cX3_waits 17 = .ok (.getfield 39, 3) := by decide +kernel
theorem dX3_waits_20 : decode cX3_waits 20 = .ok (.getfield 103, 3) := by decide +kernel
theorem dX3_waits_23 : decode cX3_waits 23 = .ok (.aload_n 0, 1) := by decide +kernel
theorem dX3_waits_24 : decode cX3_waits 24 = .ok (.getfield 35, 3) := by decide +kernel
theorem dX3_waits_27 : decode cX3_waits 27 = .ok (.iaload, 1) := by decide +kernel
theorem dX3_waits_28 : decode cX3_waits 28 = .ok (.invokevirtual 136, 3) := by decide +kernel
theorem dX3_waits_31 : decode cX3_waits 31 = .ok (.aload_n 0, 1) := by decide +kernel
theorem dX3_waits_32 : decode cX3_waits 32 = .ok (.getfield 32, 3) := by decide +kernel
theorem dX3_waits_35 : decode cX3_waits 35 = .ok (.iconst 0, 1) := by decide +kernel
theorem dX3_waits_36 : decode cX3_waits 36 = .ok (.lconst 0, 1) := by decide +kernel
theorem dX3_waits_37 : decode cX3_waits 37 = .ok (.lastore, 1) := by decide +kernel
theorem dX3_waits_38 : decode cX3_waits 38 = .ok (.aload_n 0, 1) := by decide +kernel
theorem dX3_waits_39 : decode cX3_waits 39 = .ok (.getfield 32, 3) := by decide +kernel
theorem dX3_waits_42 : decode cX3_waits 42 = .ok (.iconst 1, 1) := by decide +kernel
theorem dX3_waits_43 : decode cX3_waits 43 = .ok (.lconst 0, 1) := by decide +kernel
theorem dX3_waits_44 : decode cX3_waits 44 = .ok (.lastore, 1) := by decide +kernel
theorem dX3_waits_45 : decode cX3_waits 45 = .ok (.aload_n 0, 1) := by decide +kernel
theorem dX3_waits_46 : decode cX3_waits 46 = .ok (.getfield 32, 3) := by decide +kernel
theorem dX3_waits_49 : decode cX3_waits 49 = .ok (.iconst 2, 1) := by decide +kernel
theorem dX3_waits_50 : decode cX3_waits 50 = .ok (.lconst 0, 1) := by decide +kernel
theorem dX3_waits_51 : decode cX3_waits 51 = .ok (.lastore, 1) := by decide +kernel
theorem dX3_waits_52 : decode cX3_waits 52 = .ok (.aload_n 0, 1) := by decide +kernel
theorem dX3_waits_53 : decode cX3_waits 53 = .ok (.getfield 32, 3) := by decide +kernel
theorem dX3_waits_56 : decode cX3_waits 56 = .ok (.iconst 3, 1) := by decide +kernel
theorem dX3_waits_57 : decode cX3_waits 57 = .ok (.lconst 0, 1) := by decide +kernel
theorem dX3_waits_58 : decode cX3_waits 58 = .ok (.lastore, 1) := by decide +kernel
theorem dX3_waits_59 : decode cX3_waits 59 = .ok (.aload_n 0, 1) := by decide +kernel
theorem dX3_waits_60 : decode cX3_waits 60 = .ok (.getfield 32, 3) := by decide +kernel
theorem dX3_waits_63 : decode cX3_waits 63 = .ok (.bipush 11, 2) := by decide +kernel
theorem dX3_waits_65 : decode cX3_waits 65 = .ok (.lconst 0, 1) := by decide +kernel
theorem dX3_waits_66 : decode cX3_waits 66 = .ok (.lastore, 1) := by decide +kernel
theorem dX3_waits_67 : decode cX3_waits 67 = .ok (.iconst 0, 1) := by decide +kernel
theorem dX3_waits_68 : decode cX3_waits 68 = .ok (.istore_n 1, 1) := by decide +kernel
theorem dX3_waits_69 : decode cX3_waits 69 = .ok (.iload_n 1, 1) := by decide +kernel
theorem dX3_waits_70 : decode cX3_waits 70 = .ok (.aload_n 0, 1) := by decide +kernel
theorem dX3_waits_71 : decode cX3_waits 71 = .ok (.getfield 26, 3) := by decide +kernel
theorem dX3_waits_74 : decode cX3_waits 74 = .ok (.getfield 139, 3) := by decide +kernel
theorem dX3_waits_77 : decode cX3_waits 77 = .ok (.if_icmp .ge 47, 3) := by decide +kernel
theorem dX3_waits_80 : decode cX3_waits 80 = .ok (.aload_n 0, 1) := by decide +kernel
theorem dX3_waits_81 : decode cX3_waits 81 = .ok (.getfield 26, 3) := by decide +kernel
theorem dX3_waits_84 : decode cX3_waits 84 = .ok (.iload_n 1, 1) := by decide +kernel
theorem dX3_waits_85 : decode cX3_waits 85 = .ok (.invokevirtual 142, 3) := by decide +kernel
theorem dX3_waits_88 : decode cX3_waits 88 = .ok (.ifCond .eq 30, 3) := by decide +kernel
theorem dX3_waits_91 : decode cX3_waits 91 = .ok (.aload_n 0, 1) := by decide +kernel
theorem dX3_waits_92 : decode cX3_waits 92 = .ok (.aload_n 0, 1) := by decide +kernel
theorem dX3_waits_93 : decode cX3_waits 93 = .ok (.getfield 26, 3) := by decide +kernel
theorem dX3_waits_96 : decode cX3_waits 96 = .ok (.iload_n 1, 1) := by decide +kernel
theorem dX3_waits_97 : decode cX3_waits 97 = .ok (.invokevirtual 145, 3) := by decide +kernel
theorem dX3_waits_100 : decode cX3_waits 100 = .ok (.aload_n 0, 1) := by decide +kernel
theorem dX3_waits_101 : decode cX3_waits 101 = .ok (.getfield 26, 3) := by decide +kernel
theorem dX3_waits_104 : decode cX3_waits 104 = .ok (.iload_n 1, 1) := by decide +kernel
theorem dX3_waits_105 : decode cX3_waits 105 = .ok (.invokevirtual 148, 3) := by decide +kernel
theorem dX3_waits_108 : decode cX3_waits 108 = .ok (.invokevirtual 151, 3) := by decide +kernel
theorem dX3_waits_111 : decode cX3_waits 111 = .ok (.lconst 0, 1) := by decide +kernel
theorem dX3_waits_112 : decode cX3_waits 112 = .ok (.lcmp, 1) := by decide +kernel
theorem dX3_waits_113 : decode cX3_waits 113 = .ok (.ifCond .eq 5, 3) := by decide +kernel
theorem dX3_waits_116 : decode cX3_waits 116 = .ok (.iconst 1, 1) := by decide +kernel
theorem dX3_waits_117 : decode cX3_waits 117 = .ok (.ireturn, 1) := by decide +kernel
theorem dX3_waits_118 : decode cX3_waits 118 = .ok (.iinc 1 1, 3) := by decide +kernel
theorem dX3_waits_121 : decode cX3_waits 121 = .ok (.goto (-52), 3) := by decide +kernel
theorem dX3_waits_124 : decode cX3_waits 124 = .ok (.iconst 0, 1) := by decide +kernel
theorem dX3_waits_125 : decode cX3_waits 125 = .ok (.ireturn, 1) := by decide +kernel
theorem dX4_add_0 : decode cX4_add 0 = .ok (.aload_n 0, 1) := by decide +kernel
theorem dX4_add_1 : decode cX4_add 1 = .ok (.getfield 9, 3) := by decide +kernel
theorem dX4_add_4 : decode cX4_add 4 = .ok (.bipush 14, 2) := by decide +kernel
theorem dX4_add_6 : decode cX4_add 6 = .ok (.if_icmp .ge 17, 3) := by decide +kernel
theorem dX4_add_9 : decode cX4_add 9 = .ok (.iload_n 1, 1) := by decide +kernel
theorem dX4_add_10 : decode cX4_add 10 = .ok (.invokestatic 40, 3) := by decide +kernel
theorem dX4_add_13 : decode cX4_add 13 = .ok (.ifCond .eq 10, 3) := by decide +kernel
theorem dX4_add_16 : decode cX4_add 16 = .ok (.iload_n 2, 1) := by decide +kernel
theorem dX4_add_17 : decode cX4_add 17 = .ok (.invokestatic 40, 3) := by decide +kernel
theorem dX4_add_20 : decode cX4_add 20 = .ok (.ifCond .ne 4, 3) := by decide +kernel
theorem dX4_add_23 : decode cX4_add 23 = .ok (.return_, 1) := by decide +kernel
theorem dX4_add_24 : decode cX4_add 24 = .ok (.aload_n 0, 1) := by decide +kernel
theorem dX4_add_25 : decode cX4_add 25 = .ok (.getfield 18, 3) := by decide +kernel
theorem dX4_add_28 : decode cX4_add 28 = .ok (.aload_n 0, 1) := by decide +kernel
theorem dX4_add_29 : decode cX4_add 29 = .ok (.getfield 9, 3) := by decide +kernel
theorem dX4_add_32 : decode cX4_add 32 = .ok (.iload_n 1, 1) := by decide +kernel
theorem dX4_add_33 : decode cX4_add 33 = .ok (.iastore, 1) := by decide +kernel
theorem dX4_add_34 : decode cX4_add 34 = .ok (.aload_n 0, 1) := by decide +kernel
theorem dX4_add_35 : decode cX4_add 35 = .ok (.getfield 22, 3) := by decide +kernel
theorem dX4_add_38 : decode cX4_add 38 = .ok (.aload_n 0, 1) := by decide +kernel
theorem dX4_add_39 : decode cX4_add 39 = .ok (.getfield 9, 3) := by decide +kernel
theorem dX4_add_42 : decode cX4_add 42 = .ok (.iload_n 2, 1) := by decide +kernel
theorem dX4_add_43 : decode cX4_add 43 = .ok (.iastore, 1) := by decide +kernel
theorem dX4_add_44 : decode cX4_add 44 = .ok (.aload_n 0, 1) := by decide +kernel
theorem dX4_add_45 : decode cX4_add 45 = .ok (.getfield 25, 3) := by decide +kernel
theorem dX4_add_48 : decode cX4_add 48 = .ok (.aload_n 0, 1) := by decide +kernel
theorem dX4_add_49 : decode cX4_add 49 = .ok (.getfield 9, 3) := by decide +kernel
theorem dX4_add_52 : decode cX4_add 52 = .ok (.iload_n 3, 1) := by decide +kernel
theorem dX4_add_53 : decode cX4_add 53 = .ok (.iastore, 1) := by decide +kernel
theorem dX4_add_54 : decode cX4_add 54 = .ok (.aload_n 0, 1) := by decide +kernel
theorem dX4_add_55 : decode cX4_add 55 = .ok (.getfield 28, 3) := by decide +kernel
theorem dX4_add_58 : decode cX4_add 58 = .ok (.aload_n 0, 1) := by decide +kernel
theorem dX4_add_59 : decode cX4_add 59 = .ok (.getfield 9, 3) := by decide +kernel
theorem dX4_add_62 : decode cX4_add 62 = .ok (.iconst 0, 1) := by decide +kernel
theorem dX4_add_63 : decode cX4_add 63 = .ok (.iastore, 1) := by decide +kernel
theorem dX4_add_64 : decode cX4_add 64 = .ok (.aload_n 0, 1) := by decide +kernel
theorem dX4_add_65 : decode cX4_add 65 = .ok (.getfield 31, 3) := by decide +kernel
theorem dX4_add_68 : decode cX4_add 68 = .ok (.aload_n 0, 1) := by decide +kernel
theorem dX4_add_69 : decode cX4_add 69 = .ok (.getfield 9, 3) := by decide +kernel
theorem dX4_add_72 : decode cX4_add 72 = .ok (.iconst 0, 1) := by decide +kernel
theorem dX4_add_73 : decode cX4_add 73 = .ok (.iastore, 1) := by decide +kernel
theorem dX4_add_74 : decode cX4_add 74 = .ok (.aload_n 0, 1) := by decide +kernel
theorem dX4_add_75 : decode cX4_add 75 = .ok (.getfield 34, 3) := by decide +kernel
theorem dX4_add_78 : decode cX4_add 78 = .ok (.iload_n 1, 1) := by decide +kernel
theorem dX4_add_79 : decode cX4_add 79 = .ok (.dup2, 1) := by decide +kernel
theorem dX4_add_80 : decode cX4_add 80 = .ok (.iaload, 1) := by decide +kernel
theorem dX4_add_81 : decode cX4_add 81 = .ok (.iconst 1, 1) := by decide +kernel
theorem dX4_add_82 : decode cX4_add 82 = .ok (.aload_n 0, 1) := by decide +kernel
theorem dX4_add_83 : decode cX4_add 83 = .ok (.getfield 9, 3) := by decide +kernel
theorem dX4_add_86 : decode cX4_add 86 = .ok (.ishl, 1) := by decide +kernel
theorem dX4_add_87 : decode cX4_add 87 = .ok (.ior, 1) := by decide +kernel
theorem dX4_add_88 : decode cX4_add 88 = .ok (.iastore, 1) := by decide +kernel
theorem dX4_add_89 : decode cX4_add 89 = .ok (.aload_n 0, 1) := by decide +kernel
theorem dX4_add_90 : decode cX4_add 90 = .ok (.getfield 37, 3) := by decide +kernel
theorem dX4_add_93 : decode cX4_add 93 = .ok (.iload_n 2, 1) := by decide +kernel
theorem dX4_add_94 : decode cX4_add 94 = .ok (.dup2, 1) := by decide +kernel
theorem dX4_add_95 : decode cX4_add 95 = .ok (.iaload, 1) := by decide +kernel
theorem dX4_add_96 : decode cX4_add 96 = .ok (.iconst 1, 1) := by decide +kernel
theorem dX4_add_97 : decode cX4_add 97 = .ok (.aload_n 0, 1) := by decide +kernel
theorem dX4_add_98 : decode cX4_add 98 = .ok (.getfield 9, 3) := by decide +kernel
theorem dX4_add_101 : decode cX4_add 101 = .ok (.ishl, 1) := by decide +kernel
theorem dX4_add_102 : decode cX4_add 102 = .ok (.ior, 1) := by decide +kernel
theorem dX4_add_103 : decode cX4_add 103 = .ok (.iastore, 1) := by decide +kernel
theorem dX4_add_104 : decode cX4_add 104 = .ok (.aload_n 0, 1) := by decide +kernel
theorem dX4_add_105 : decode cX4_add 105 = .ok (.dup, 1) := by decide +kernel
theorem dX4_add_106 : decode cX4_add 106 = .ok (.getfield 9, 3) := by decide +kernel
theorem dX4_add_109 : decode cX4_add 109 = .ok (.iconst 1, 1) := by decide +kernel
theorem dX4_add_110 : decode cX4_add 110 = .ok (.iadd, 1) := by decide +kernel
theorem dX4_add_111 : decode cX4_add 111 = .ok (.putfield 9, 3) := by decide +kernel
theorem dX4_add_114 : decode cX4_add 114 = .ok (.return_, 1) := by decide +kernel
theorem dX4_allDirections_0 : decode cX4_allDirections 0 = .ok (.iconst 1, 1) := by decide +kernel
theorem dX4_allDirections_1 : decode cX4_allDirections 1 = .ok (.aload_n 0, 1) := by decide +kernel
theorem dX4_allDirections_2 : decode cX4_allDirections 2 = .ok (.getfield 9, 3) := by decide +kernel
theorem dX4_allDirections_5 : decode cX4_allDirections 5 = .ok (.ishl, 1) := by decide +kernel
theorem dX4_allDirections_6 : decode cX4_allDirections 6 = .ok (.ireturn, 1) := by decide +kernel
theorem dX4_away_0 : decode cX4_away 0 = .ok (.aload_n 0, 1) := by decide +kernel
theorem dX4_away_1 : decode cX4_away 1 = .ok (.getfield 34, 3) := by decide +kernel
theorem dX4_away_4 : decode cX4_away 4 = .ok (.iload_n 1, 1) := by decide +kernel
theorem dX4_away_5 : decode cX4_away 5 = .ok (.iaload, 1) := by decide +kernel
theorem dX4_away_6 : decode cX4_away 6 = .ok (.aload_n 0, 1) := by decide +kernel
theorem dX4_away_7 : decode cX4_away 7 = .ok (.getfield 15, 3) := by decide +kernel
theorem dX4_away_10 : decode cX4_away 10 = .ok (.iconst (-1), 1) := by decide +kernel
theorem dX4_away_11 : decode cX4_away 11 = .ok (.ixor, 1) := by decide +kernel
theorem dX4_away_12 : decode cX4_away 12 = .ok (.iand, 1) := by decide +kernel
theorem dX4_away_13 : decode cX4_away 13 = .ok (.aload_n 0, 1) := by decide +kernel
theorem dX4_away_14 : decode cX4_away 14 = .ok (.getfield 37, 3) := by decide +kernel
theorem dX4_away_17 : decode cX4_away 17 = .ok (.iload_n 1, 1) := by decide +kernel
theorem dX4_away_18 : decode cX4_away 18 = .ok (.iaload, 1) := by decide +kernel
theorem dX4_away_19 : decode cX4_away 19 = .ok (.aload_n 0, 1) := by decide +kernel
theorem dX4_away_20 : decode cX4_away 20 = .ok (.getfield 15, 3) := by decide +kernel
theorem dX4_away_23 : decode cX4_away 23 = .ok (.iand, 1) := by decide +kernel
theorem dX4_away_24 : decode cX4_away 24 = .ok (.ior, 1) := by decide +kernel
theorem dX4_away_25 : decode cX4_away 25 = .ok (.ireturn, 1) := by decide +kernel
theorem dX4_clear_0 : decode cX4_clear 0 = .ok (.aload_n 0, 1) := by decide +kernel
theorem dX4_clear_1 : decode cX4_clear 1 = .ok (.iconst 0, 1) := by decide +kernel
theorem dX4_clear_2 : decode cX4_clear 2 = .ok (.putfield 9, 3) := by decide +kernel
theorem dX4_clear_5 : decode cX4_clear 5 = .ok (.aload_n 0, 1) := by decide +kernel
theorem dX4_clear_6 : decode cX4_clear 6 = .ok (.iconst 0, 1) := by decide +kernel
theorem dX4_clear_7 : decode cX4_clear 7 = .ok (.putfield 15, 3) := by decide +kernel
theorem dX4_clear_10 : decode cX4_clear 10 = .ok (.iconst 0, 1) := by decide +kernel
theorem dX4_clear_11 : decode cX4_clear 11 = .ok (.istore_n 1, 1) := by decide +kernel
theorem dX4_clear_12 : decode cX4_clear 12 = .ok (.iload_n 1, 1) := by decide +kernel
theorem dX4_clear_13 : decode cX4_clear 13 = .ok (.bipush 8, 2) := by decide +kernel
theorem dX4_clear_15 : decode cX4_clear 15 = .ok (.if_icmp .ge 23, 3) := by decide +kernel
theorem dX4_clear_18 : decode cX4_clear 18 = .ok (.aload_n 0, 1) := by decide +kernel
theorem dX4_clear_19 : decode cX4_clear 19 = .ok (.getfield 34, 3) := by decide +kernel
theorem dX4_clear_22 : decode cX4_clear 22 = .ok (.iload_n 1, 1) := by decide +kernel
theorem dX4_clear_23 : decode cX4_clear 23 = .ok (.iconst 0, 1) := by decide +kernel
theorem dX4_clear_24 : decode cX4_clear 24 = .ok (.iastore, 1) := by decide +kernel
theorem dX4_clear_25 : decode cX4_clear 25 = .ok (.aload_n 0, 1) := by decide +kernel
theorem dX4_clear_26 : decode cX4_clear 26 = .ok (.getfield 37, 3) := by decide +kernel
theorem dX4_clear_29 : decode cX4_clear 29 = .ok (.iload_n 1, 1) := by decide +kernel
theorem dX4_clear_30 : decode cX4_clear 30 = .ok (.iconst 0, 1) := by decide +kernel
theorem dX4_clear_31 : decode cX4_clear 31 = .ok (.iastore, 1) := by decide +kernel
theorem dX4_clear_32 : decode cX4_clear 32 = .ok (.iinc 1 1, 3) := by decide +kernel
theorem dX4_clear_35 : decode cX4_clear 35 = .ok (.goto (-23), 3) := by decide +kernel
theorem dX4_clear_38 : decode cX4_clear 38 = .ok (.return_, 1) := by decide +kernel
theorem dX4_copyFrom_0 : decode cX4_copyFrom 0 = .ok (.aload_n 0, 1) := by decide +kernel
theorem dX4_copyFrom_1 : decode cX4_copyFrom 1 = .ok (.aload_n 1, 1) := by decide +kernel
theorem dX4_copyFrom_2 : decode cX4_copyFrom 2 = .ok (.getfield 9, 3) := by decide +kernel
theorem dX4_copyFrom_5 : decode cX4_copyFrom 5 = .ok (.putfield 9, 3) := by decide +kernel
theorem dX4_copyFrom_8 : decode cX4_copyFrom 8 = .ok (.aload_n 0, 1) := by decide +kernel
theorem dX4_copyFrom_9 : decode cX4_copyFrom 9 = .ok (.aload_n 1, 1) := by decide +kernel
theorem dX4_copyFrom_10 : decode cX4_copyFrom 10 = .ok (.getfield 15, 3) := by decide +kernel
theorem dX4_copyFrom_13 : decode cX4_copyFrom 13 = .ok (.putfield 15, 3) := by decide +kernel
theorem dX4_copyFrom_16 : decode cX4_copyFrom 16 = .ok (.aload_n 1, 1) := by decide +kernel
theorem dX4_copyFrom_17 : decode cX4_copyFrom 17 = .ok (.getfield 18, 3) := by decide +kernel
theorem dX4_copyFrom_20 : decode cX4_copyFrom 20 = .ok (.iconst 0, 1) := by decide +kernel
theorem dX4_copyFrom_21 : decode cX4_copyFrom 21 = .ok (.aload_n 0, 1) := by decide +kernel
theorem dX4_copyFrom_22 : decode cX4_copyFrom 22 = .ok (.getfield 18, 3) := by decide +kernel
theorem dX4_copyFrom_25 : decode cX4_copyFrom 25 = .ok (.iconst 0, 1) := by decide +kernel
theorem dX4_copyFrom_26 : decode cX4_copyFrom 26 = .ok (.aload_n 0, 1) := by decide +kernel
theorem dX4_copyFrom_27 : decode cX4_copyFrom 27 = .ok (.getfield 9, 3) := by decide +kernel
theorem dX4_copyFrom_30 : decode cX4_copyFrom 30 = .ok (.invokestatic 44, 3) := by decide +kernel
theorem dX4_copyFrom_33 : decode cX4_copyFrom 33 = .ok (.aload_n 1, 1) := by decide +kernel
theorem dX4_copyFrom_34 : decode cX4_copyFrom 34 = .ok (.getfield 22, 3) := by decide +kernel
theorem dX4_copyFrom_37 : decode cX4_copyFrom 37 = .ok (.iconst 0, 1) := by decide +kernel
theorem dX4_copyFrom_38 : decode cX4_copyFrom 38 = .ok (.aload_n 0, 1) := by decide +kernel
theorem dX4_copyFrom_39 : decode cX4_copyFrom 39 = .ok (.getfield 22, 3) := by decide +kernel
theorem dX4_copyFrom_42 : decode cX4_copyFrom 42 = .ok (.iconst 0, 1) := by decide +kernel
theorem dX4_copyFrom_43 : decode cX4_copyFrom 43 = .ok (.aload_n 0, 1) := by decide +kernel
theorem dX4_copyFrom_44 : decode cX4_copyFrom 44 = .ok (.getfield 9, 3) := by decide +kernel
theorem dX4_copyFrom_47 : decode cX4_copyFrom 47 = .ok (.invokestatic 44, 3) := by decide +kernel
theorem dX4_copyFrom_50 : decode cX4_copyFrom 50 = .ok (.aload_n 1, 1) := by decide +kernel
theorem dX4_copyFrom_51 : decode cX4_copyFrom 51 = .ok (.getfield 25, 3) := by decide +kernel
theorem dX4_copyFrom_54 : decode cX4_copyFrom 54 = .ok (.iconst 0, 1) := by decide +kernel
theorem dX4_copyFrom_55 : decode cX4_copyFrom 55 = .ok (.aload_n 0, 1) := by decide +kernel
theorem dX4_copyFrom_56 : decode cX4_copyFrom 56 = .ok (.getfield 25, 3) := by decide +kernel
theorem dX4_copyFrom_59 : decode cX4_copyFrom 59 = .ok (.iconst 0, 1) := by decide +kernel
theorem dX4_copyFrom_60 : decode cX4_copyFrom 60 = .ok (.aload_n 0, 1) := by decide +kernel
theorem dX4_copyFrom_61 : decode cX4_copyFrom 61 = .ok (.getfield 9, 3) := by decide +kernel
theorem dX4_copyFrom_64 : decode cX4_copyFrom 64 = .ok (.invokestatic 44, 3) := by decide +kernel
theorem dX4_copyFrom_67 : decode cX4_copyFrom 67 = .ok (.aload_n 1, 1) := by decide +kernel
theorem dX4_copyFrom_68 : decode cX4_copyFrom 68 = .ok (.getfield 28, 3) := by decide +kernel
theorem dX4_copyFrom_71 : decode cX4_copyFrom 71 = .ok (.iconst 0, 1) := by decide +kernel
theorem dX4_copyFrom_72 : decode cX4_copyFrom 72 = .ok (.aload_n 0, 1) := by decide +kernel
theorem dX4_copyFrom_73 : decode cX4_copyFrom 73 = .ok (.getfield 28, 3) := by decide +kernel
theorem dX4_copyFrom_76 : decode cX4_copyFrom 76 = .ok (.iconst 0, 1) := by decide +kernel
theorem dX4_copyFrom_77 : decode cX4_copyFrom 77 = .ok (.aload_n 0, 1) := by decide +kernel
theorem dX4_copyFrom_78 : decode cX4_copyFrom 78 = .ok (.getfield 9, 3) := by decide +kernel
theorem dX4_copyFrom_81 : decode cX4_copyFrom 81 = .ok (.invokestatic 44, 3) := by decide +kernel
theorem dX4_copyFrom_84 : decode cX4_copyFrom 84 = .ok (.aload_n 1, 1) := by decide +kernel
theorem dX4_copyFrom_85 : decode cX4_copyFrom 85 = .ok (.getfield 31, 3) := by decide +kernel
theorem dX4_copyFrom_88 : decode cX4_copyFrom 88 = .ok (.iconst 0, 1) := by decide +kernel
theorem dX4_copyFrom_89 : decode cX4_copyFrom 89 = .ok (.aload_n 0, 1) := by decide +kernel
theorem dX4_copyFrom_90 : decode cX4_copyFrom 90 = .ok (.getfield 31, 3) := by decide +kernel
theorem dX4_copyFrom_93 : decode cX4_copyFrom 93 = .ok (.iconst 0, 1) := by decide +kernel
theorem dX4_copyFrom_94 : decode cX4_copyFrom 94 = .ok (.aload_n 0, 1) := by decide +kernel
theorem dX4_copyFrom_95 : decode cX4_copyFrom 95 = .ok (.getfield 9, 3) := by decide +kernel
theorem dX4_copyFrom_98 : decode cX4_copyFrom 98 = .ok (.invokestatic 44, 3) := by decide +kernel
theorem dX4_copyFrom_101 : decode cX4_copyFrom 101 = .ok (.aload_n 1, 1) := by decide +kernel
theorem dX4_copyFrom_102 : decode cX4_copyFrom 102 = .ok (.getfield 34, 3) := by decide +kernel
theorem dX4_copyFrom_105 : decode cX4_copyFrom 105 = .ok (.iconst 0, 1) := by decide +kernel
theorem dX4_copyFrom_106 : decode cX4_copyFrom 106 = .ok (.aload_n 0, 1) := by decide +kernel
theorem dX4_copyFrom_107 : decode cX4_copyFrom 107 = .ok (.getfield 34, 3) := by decide +kernel
theorem dX4_copyFrom_110 : decode cX4_copyFrom 110 = .ok (.iconst 0, 1) := by decide +kernel
theorem dX4_copyFrom_111 : decode cX4_copyFrom 111 = .ok (.bipush 8, 2) := by decide +kernel
theorem dX4_copyFrom_113 : decode cX4_copyFrom 113 = .ok (.invokestatic 44, 3) := by decide +kernel
theorem dX4_copyFrom_116 : decode cX4_copyFrom 116 = .ok (.aload_n 1, 1) := by decide +kernel
theorem dX4_copyFrom_117 : decode cX4_copyFrom 117 = .ok (.getfield 37, 3) := by decide +kernel
theorem dX4_copyFrom_120 : decode cX4_copyFrom 120 = .ok (.iconst 0, 1) := by decide +kernel
theorem dX4_copyFrom_121 : decode cX4_copyFrom 121 = .ok (.aload_n 0, 1) := by decide +kernel
theorem dX4_copyFrom_122 : decode cX4_copyFrom 122 = .ok (.getfield 37, 3) := by decide +kernel
theorem dX4_copyFrom_125 : decode cX4_copyFrom 125 = .ok (.iconst 0, 1) := by decide +kernel
theorem dX4_copyFrom_126 : decode cX4_copyFrom 126 = .ok (.bipush 8, 2) := by decide +kernel
theorem dX4_copyFrom_128 : decode cX4_copyFrom 128 = .ok (.invokestatic 44, 3) := by decide +kernel
theorem dX4_copyFrom_131 : decode cX4_copyFrom 131 = .ok (.return_, 1) := by decide +kernel
theorem dX4_directionsOf_0 : decode cX4_directionsOf 0 = .ok (.iconst 0, 1) := by decide +kernel
theorem dX4_directionsOf_1 : decode cX4_directionsOf 1 = .ok (.istore_n 3, 1) := by decide +kernel
theorem dX4_directionsOf_2 : decode cX4_directionsOf 2 = .ok (.lconst 0, 1) := by decide +kernel
theorem dX4_directionsOf_3 : decode cX4_directionsOf 3 = .ok (.lstore 4, 2) := by decide +kernel
theorem dX4_directionsOf_5 : decode cX4_directionsOf 5 = .ok (.iconst 0, 1) := by decide +kernel
theorem dX4_directionsOf_6 : decode cX4_directionsOf 6 = .ok (.istore 6, 2) := by decide +kernel
theorem dX4_directionsOf_8 : decode cX4_directionsOf 8 = .ok (.iconst 0, 1) := by decide +kernel
theorem dX4_directionsOf_9 : decode cX4_directionsOf 9 = .ok (.istore 7, 2) := by decide +kernel
theorem dX4_directionsOf_11 : decode cX4_directionsOf 11 = .ok (.iload 7, 2) := by decide +kernel
theorem dX4_directionsOf_13 : decode cX4_directionsOf 13 = .ok (.aload_n 0, 1) := by decide +kernel
theorem dX4_directionsOf_14 : decode cX4_directionsOf 14 = .ok (.getfield 9, 3) := by decide +kernel
theorem dX4_directionsOf_17 : decode cX4_directionsOf 17 = .ok (.if_icmp .ge 24, 3) := by decide +kernel
theorem dX4_directionsOf_20 : decode cX4_directionsOf 20 = .ok (.lload 4, 2) := by decide +kernel
theorem dX4_directionsOf_22 : decode cX4_directionsOf 22 = .ok (.aload_n 0, 1) := by decide +kernel
theorem dX4_directionsOf_23 : decode cX4_directionsOf 23 = .ok (.getfield 18, 3) := by decide +kernel
theorem dX4_directionsOf_26 : decode cX4_directionsOf 26 = .ok (.iload 7, 2) := by decide +kernel
theorem dX4_directionsOf_28 : decode cX4_directionsOf 28 = .ok (.iaload, 1) := by decide +kernel
theorem dX4_directionsOf_29 : decode cX4_directionsOf 29 = .ok (.invokestatic 60, 3) := by decide +kernel
theorem dX4_directionsOf_32 : decode cX4_directionsOf 32 = .ok (.ladd, 1) := by decide +kernel
theorem dX4_directionsOf_33 : decode cX4_directionsOf 33 = .ok (.lstore 4, 2) := by decide +kernel
theorem dX4_directionsOf_35 : decode cX4_directionsOf 35 = .ok (.iinc 7 1, 3) := by decide +kernel
