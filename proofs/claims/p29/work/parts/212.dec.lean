theorem dX11_settles_26 : decode cX11_settles 26 = .ok (.dup, 1) := by decide +kernel
theorem dX11_settles_27 : decode cX11_settles 27 = .ok (.getfield 162, 3) := by decide +kernel
theorem dX11_settles_30 : decode cX11_settles 30 = .ok (.iconst 1, 1) := by decide +kernel
theorem dX11_settles_31 : decode cX11_settles 31 = .ok (.isub, 1) := by decide +kernel
theorem dX11_settles_32 : decode cX11_settles 32 = .ok (.putfield 162, 3) := by decide +kernel
theorem dX11_settles_35 : decode cX11_settles 35 = .ok (.aload_n 0, 1) := by decide +kernel
theorem dX11_settles_36 : decode cX11_settles 36 = .ok (.aload_n 0, 1) := by decide +kernel
theorem dX11_settles_37 : decode cX11_settles 37 = .ok (.getfield 32, 3) := by decide +kernel
theorem dX11_settles_40 : decode cX11_settles 40 = .ok (.aload_n 0, 1) := by decide +kernel
theorem dX11_settles_41 : decode cX11_settles 41 = .ok (.getfield 162, 3) := by decide +kernel
theorem dX11_settles_44 : decode cX11_settles 44 = .ok (.iaload, 1) := by decide +kernel
theorem dX11_settles_45 : decode cX11_settles 45 = .ok (.iconst 0, 1) := by decide +kernel
theorem dX11_settles_46 : decode cX11_settles 46 = .ok (.invokevirtual 169, 3) := by decide +kernel
theorem dX11_settles_49 : decode cX11_settles 49 = .ok (.aload_n 0, 1) := by decide +kernel
theorem dX11_settles_50 : decode cX11_settles 50 = .ok (.getfield 32, 3) := by decide +kernel
theorem dX11_settles_53 : decode cX11_settles 53 = .ok (.aload_n 0, 1) := by decide +kernel
theorem dX11_settles_54 : decode cX11_settles 54 = .ok (.getfield 162, 3) := by decide +kernel
theorem dX11_settles_57 : decode cX11_settles 57 = .ok (.iaload, 1) := by decide +kernel
theorem dX11_settles_58 : decode cX11_settles 58 = .ok (.bipush 11, 2) := by decide +kernel
theorem dX11_settles_60 : decode cX11_settles 60 = .ok (.if_icmp .ne (-60), 3) := by decide +kernel
theorem dX11_settles_63 : decode cX11_settles 63 = .ok (.aload_n 0, 1) := by decide +kernel
theorem dX11_settles_64 : decode cX11_settles 64 = .ok (.dup, 1) := by decide +kernel
theorem dX11_settles_65 : decode cX11_settles 65 = .ok (.getfield 159, 3) := by decide +kernel
theorem dX11_settles_68 : decode cX11_settles 68 = .ok (.iconst 1, 1) := by decide +kernel
theorem dX11_settles_69 : decode cX11_settles 69 = .ok (.isub, 1) := by decide +kernel
theorem dX11_settles_70 : decode cX11_settles 70 = .ok (.putfield 159, 3) := by decide +kernel
theorem dX11_settles_73 : decode cX11_settles 73 = .ok (.goto (-73), 3) := by decide +kernel
theorem dX11_settles_76 : decode cX11_settles 76 = .ok (.return_, 1) := by decide +kernel
theorem dX11_settles__0 : decode cX11_settles_ 0 = .ok (.aload_n 0, 1) := by decide +kernel
theorem dX11_settles__1 : decode cX11_settles_ 1 = .ok (.iload_n 1, 1) := by decide +kernel
theorem dX11_settles__2 : decode cX11_settles_ 2 = .ok (.invokevirtual 379, 3) := by decide +kernel
theorem dX11_settles__5 : decode cX11_settles_ 5 = .ok (.ifCond .eq 13, 3) := by decide +kernel
theorem dX11_settles__8 : decode cX11_settles_ 8 = .ok (.iload_n 2, 1) := by decide +kernel
theorem dX11_settles__9 : decode cX11_settles_ 9 = .ok (.i2l, 1) := by decide +kernel
theorem dX11_settles__10 : decode cX11_settles_ 10 = .ok (.lconst 0, 1) := by decide +kernel
theorem dX11_settles__11 : decode cX11_settles_ 11 = .ok (.lconst 1, 1) := by decide +kernel
theorem dX11_settles__12 : decode cX11_settles_ 12 = .ok (.invokestatic 125, 3) := by decide +kernel
theorem dX11_settles__15 : decode cX11_settles_ 15 = .ok (.ifCond .ne 5, 3) := by decide +kernel
theorem dX11_settles__18 : decode cX11_settles_ 18 = .ok (.iconst (-1), 1) := by decide +kernel
theorem dX11_settles__19 : decode cX11_settles_ 19 = .ok (.ireturn, 1) := by decide +kernel
theorem dX11_settles__20 : decode cX11_settles_ 20 = .ok (.aload_n 0, 1) := by decide +kernel
theorem dX11_settles__21 : decode cX11_settles_ 21 = .ok (.iload_n 1, 1) := by decide +kernel
theorem dX11_settles__22 : decode cX11_settles_ 22 = .ok (.invokevirtual 386, 3) := by decide +kernel
theorem dX11_settles__25 : decode cX11_settles_ 25 = .ok (.iconst 0, 1) := by decide +kernel
theorem dX11_settles__26 : decode cX11_settles_ 26 = .ok (.istore_n 3, 1) := by decide +kernel
theorem dX11_settles__27 : decode cX11_settles_ 27 = .ok (.iload_n 3, 1) := by decide +kernel
theorem dX11_settles__28 : decode cX11_settles_ 28 = .ok (.sipush 2000, 3) := by decide +kernel
theorem dX11_settles__31 : decode cX11_settles_ 31 = .ok (.if_icmp .gt 108, 3) := by decide +kernel
theorem dX11_settles__34 : decode cX11_settles_ 34 = .ok (.aload_n 0, 1) := by decide +kernel
theorem dX11_settles__35 : decode cX11_settles_ 35 = .ok (.getfield 71, 3) := by decide +kernel
theorem dX11_settles__38 : decode cX11_settles_ 38 = .ok (.iload_n 3, 1) := by decide +kernel
theorem dX11_settles__39 : decode cX11_settles_ 39 = .ok (.aload_n 0, 1) := by decide +kernel
theorem dX11_settles__40 : decode cX11_settles_ 40 = .ok (.getfield 373, 3) := by decide +kernel
theorem dX11_settles__43 : decode cX11_settles_ 43 = .ok (.iconst 3, 1) := by decide +kernel
theorem dX11_settles__44 : decode cX11_settles_ 44 = .ok (.ishl, 1) := by decide +kernel
theorem dX11_settles__45 : decode cX11_settles_ 45 = .ok (.aload_n 0, 1) := by decide +kernel
theorem dX11_settles__46 : decode cX11_settles_ 46 = .ok (.getfield 370, 3) := by decide +kernel
theorem dX11_settles__49 : decode cX11_settles_ 49 = .ok (.ior, 1) := by decide +kernel
theorem dX11_settles__50 : decode cX11_settles_ 50 = .ok (.iastore, 1) := by decide +kernel
theorem dX11_settles__51 : decode cX11_settles_ 51 = .ok (.aload_n 0, 1) := by decide +kernel
theorem dX11_settles__52 : decode cX11_settles_ 52 = .ok (.getfield 74, 3) := by decide +kernel
theorem dX11_settles__55 : decode cX11_settles_ 55 = .ok (.iload_n 3, 1) := by decide +kernel
theorem dX11_settles__56 : decode cX11_settles_ 56 = .ok (.aload_n 0, 1) := by decide +kernel
theorem dX11_settles__57 : decode cX11_settles_ 57 = .ok (.invokevirtual 397, 3) := by decide +kernel
theorem dX11_settles__60 : decode cX11_settles_ 60 = .ok (.lastore, 1) := by decide +kernel
theorem dX11_settles__61 : decode cX11_settles_ 61 = .ok (.iconst 0, 1) := by decide +kernel
theorem dX11_settles__62 : decode cX11_settles_ 62 = .ok (.istore 4, 2) := by decide +kernel
theorem dX11_settles__64 : decode cX11_settles_ 64 = .ok (.iload 4, 2) := by decide +kernel
theorem dX11_settles__66 : decode cX11_settles_ 66 = .ok (.iload_n 3, 1) := by decide +kernel
theorem dX11_settles__67 : decode cX11_settles_ 67 = .ok (.if_icmp .ge 56, 3) := by decide +kernel
theorem dX11_settles__70 : decode cX11_settles_ 70 = .ok (.aload_n 0, 1) := by decide +kernel
theorem dX11_settles__71 : decode cX11_settles_ 71 = .ok (.getfield 71, 3) := by decide +kernel
theorem dX11_settles__74 : decode cX11_settles_ 74 = .ok (.iload 4, 2) := by decide +kernel
theorem dX11_settles__76 : decode cX11_settles_ 76 = .ok (.iaload, 1) := by decide +kernel
theorem dX11_settles__77 : decode cX11_settles_ 77 = .ok (.aload_n 0, 1) := by decide +kernel
theorem dX11_settles__78 : decode cX11_settles_ 78 = .ok (.getfield 71, 3) := by decide +kernel
theorem dX11_settles__81 : decode cX11_settles_ 81 = .ok (.iload_n 3, 1) := by decide +kernel
theorem dX11_settles__82 : decode cX11_settles_ 82 = .ok (.iaload, 1) := by decide +kernel
theorem dX11_settles__83 : decode cX11_settles_ 83 = .ok (.if_icmp .ne 34, 3) := by decide +kernel
theorem dX11_settles__86 : decode cX11_settles_ 86 = .ok (.aload_n 0, 1) := by decide +kernel
theorem dX11_settles__87 : decode cX11_settles_ 87 = .ok (.getfield 74, 3) := by decide +kernel
theorem dX11_settles__90 : decode cX11_settles_ 90 = .ok (.iload 4, 2) := by decide +kernel
theorem dX11_settles__92 : decode cX11_settles_ 92 = .ok (.laload, 1) := by decide +kernel
theorem dX11_settles__93 : decode cX11_settles_ 93 = .ok (.aload_n 0, 1) := by decide +kernel
theorem dX11_settles__94 : decode cX11_settles_ 94 = .ok (.getfield 74, 3) := by decide +kernel
theorem dX11_settles__97 : decode cX11_settles_ 97 = .ok (.iload_n 3, 1) := by decide +kernel
theorem dX11_settles__98 : decode cX11_settles_ 98 = .ok (.laload, 1) := by decide +kernel
theorem dX11_settles__99 : decode cX11_settles_ 99 = .ok (.lcmp, 1) := by decide +kernel
theorem dX11_settles__100 : decode cX11_settles_ 100 = .ok (.ifCond .ne 17, 3) := by decide +kernel
theorem dX11_settles__103 : decode cX11_settles_ 103 = .ok (.iload_n 2, 1) := by decide +kernel
theorem dX11_settles__104 : decode cX11_settles_ 104 = .ok (.ifCond .ne 8, 3) := by decide +kernel
theorem dX11_settles__107 : decode cX11_settles_ 107 = .ok (.iload 4, 2) := by decide +kernel
theorem dX11_settles__109 : decode cX11_settles_ 109 = .ok (.goto 7, 3) := by decide +kernel
theorem dX11_settles__112 : decode cX11_settles_ 112 = .ok (.iload_n 3, 1) := by decide +kernel
theorem dX11_settles__113 : decode cX11_settles_ 113 = .ok (.iload 4, 2) := by decide +kernel
theorem dX11_settles__115 : decode cX11_settles_ 115 = .ok (.isub, 1) := by decide +kernel
theorem dX11_settles__116 : decode cX11_settles_ 116 = .ok (.ireturn, 1) := by decide +kernel
theorem dX11_settles__117 : decode cX11_settles_ 117 = .ok (.iinc 4 1, 3) := by decide +kernel
theorem dX11_settles__120 : decode cX11_settles_ 120 = .ok (.goto (-56), 3) := by decide +kernel
theorem dX11_settles__123 : decode cX11_settles_ 123 = .ok (.aload_n 0, 1) := by decide +kernel
theorem dX11_settles__124 : decode cX11_settles_ 124 = .ok (.invokevirtual 389, 3) := by decide +kernel
theorem dX11_settles__127 : decode cX11_settles_ 127 = .ok (.ifCond .ne 6, 3) := by decide +kernel
theorem dX11_settles__130 : decode cX11_settles_ 130 = .ok (.bipush (-2), 2) := by decide +kernel
theorem dX11_settles__132 : decode cX11_settles_ 132 = .ok (.ireturn, 1) := by decide +kernel
theorem dX11_settles__133 : decode cX11_settles_ 133 = .ok (.iinc 3 1, 3) := by decide +kernel
theorem dX11_settles__136 : decode cX11_settles_ 136 = .ok (.goto (-109), 3) := by decide +kernel
theorem dX11_settles__139 : decode cX11_settles_ 139 = .ok (.bipush (-2), 2) := by decide +kernel
theorem dX11_settles__141 : decode cX11_settles_ 141 = .ok (.ireturn, 1) := by decide +kernel
theorem dX11_spreads_0 : decode cX11_spreads 0 = .ok (.iconst 0, 1) := by decide +kernel
theorem dX11_spreads_1 : decode cX11_spreads 1 = .ok (.istore_n 2, 1) := by decide +kernel
theorem dX11_spreads_2 : decode cX11_spreads 2 = .ok (.iload_n 2, 1) := by decide +kernel
theorem dX11_spreads_3 : decode cX11_spreads 3 = .ok (.bipush 8, 2) := by decide +kernel
theorem dX11_spreads_5 : decode cX11_spreads 5 = .ok (.if_icmp .ge 16, 3) := by decide +kernel
theorem dX11_spreads_8 : decode cX11_spreads 8 = .ok (.aload_n 0, 1) := by decide +kernel
theorem dX11_spreads_9 : decode cX11_spreads 9 = .ok (.getfield 48, 3) := by decide +kernel
theorem dX11_spreads_12 : decode cX11_spreads 12 = .ok (.iload_n 2, 1) := by decide +kernel
theorem dX11_spreads_13 : decode cX11_spreads 13 = .ok (.iconst (-1), 1) := by decide +kernel
theorem dX11_spreads_14 : decode cX11_spreads 14 = .ok (.iastore, 1) := by decide +kernel
theorem dX11_spreads_15 : decode cX11_spreads 15 = .ok (.iinc 2 1, 3) := by decide +kernel
theorem dX11_spreads_18 : decode cX11_spreads 18 = .ok (.goto (-16), 3) := by decide +kernel
theorem dX11_spreads_21 : decode cX11_spreads 21 = .ok (.aload_n 0, 1) := by decide +kernel
theorem dX11_spreads_22 : decode cX11_spreads 22 = .ok (.getfield 48, 3) := by decide +kernel
theorem dX11_spreads_25 : decode cX11_spreads 25 = .ok (.iload_n 1, 1) := by decide +kernel
theorem dX11_spreads_26 : decode cX11_spreads 26 = .ok (.iconst 0, 1) := by decide +kernel
theorem dX11_spreads_27 : decode cX11_spreads 27 = .ok (.iastore, 1) := by decide +kernel
theorem dX11_spreads_28 : decode cX11_spreads 28 = .ok (.iconst 1, 1) := by decide +kernel
theorem dX11_spreads_29 : decode cX11_spreads 29 = .ok (.istore_n 2, 1) := by decide +kernel
theorem dX11_spreads_30 : decode cX11_spreads 30 = .ok (.iload_n 2, 1) := by decide +kernel
theorem dX11_spreads_31 : decode cX11_spreads 31 = .ok (.ifCond .eq 114, 3) := by decide +kernel
theorem dX11_spreads_34 : decode cX11_spreads 34 = .ok (.iconst 0, 1) := by decide +kernel
theorem dX11_spreads_35 : decode cX11_spreads 35 = .ok (.istore_n 2, 1) := by decide +kernel
theorem dX11_spreads_36 : decode cX11_spreads 36 = .ok (.iconst 0, 1) := by decide +kernel
theorem dX11_spreads_37 : decode cX11_spreads 37 = .ok (.istore_n 3, 1) := by decide +kernel
theorem dX11_spreads_38 : decode cX11_spreads 38 = .ok (.iload_n 3, 1) := by decide +kernel
theorem dX11_spreads_39 : decode cX11_spreads 39 = .ok (.aload_n 0, 1) := by decide +kernel
theorem dX11_spreads_40 : decode cX11_spreads 40 = .ok (.getfield 42, 3) := by decide +kernel
theorem dX11_spreads_43 : decode cX11_spreads 43 = .ok (.iconst 0, 1) := by decide +kernel
theorem dX11_spreads_44 : decode cX11_spreads 44 = .ok (.iaload, 1) := by decide +kernel
theorem dX11_spreads_45 : decode cX11_spreads 45 = .ok (.if_icmp .ge 97, 3) := by decide +kernel
theorem dX11_spreads_48 : decode cX11_spreads 48 = .ok (.aload_n 0, 1) := by decide +kernel
theorem dX11_spreads_49 : decode cX11_spreads 49 = .ok (.aload_n 0, 1) := by decide +kernel
theorem dX11_spreads_50 : decode cX11_spreads 50 = .ok (.getfield 42, 3) := by decide +kernel
theorem dX11_spreads_53 : decode cX11_spreads 53 = .ok (.iconst 2, 1) := by decide +kernel
theorem dX11_spreads_54 : decode cX11_spreads 54 = .ok (.iaload, 1) := by decide +kernel
theorem dX11_spreads_55 : decode cX11_spreads 55 = .ok (.iload_n 3, 1) := by decide +kernel
theorem dX11_spreads_56 : decode cX11_spreads 56 = .ok (.iconst 0, 1) := by decide +kernel
theorem dX11_spreads_57 : decode cX11_spreads 57 = .ok (.invokevirtual 285, 3) := by decide +kernel
theorem dX11_spreads_60 : decode cX11_spreads 60 = .ok (.istore 4, 2) := by decide +kernel
theorem dX11_spreads_62 : decode cX11_spreads 62 = .ok (.aload_n 0, 1) := by decide +kernel
theorem dX11_spreads_63 : decode cX11_spreads 63 = .ok (.aload_n 0, 1) := by decide +kernel
theorem dX11_spreads_64 : decode cX11_spreads 64 = .ok (.getfield 42, 3) := by decide +kernel
theorem dX11_spreads_67 : decode cX11_spreads 67 = .ok (.iconst 2, 1) := by decide +kernel
theorem dX11_spreads_68 : decode cX11_spreads 68 = .ok (.iaload, 1) := by decide +kernel
theorem dX11_spreads_69 : decode cX11_spreads 69 = .ok (.iload_n 3, 1) := by decide +kernel
theorem dX11_spreads_70 : decode cX11_spreads 70 = .ok (.iconst 1, 1) := by decide +kernel
theorem dX11_spreads_71 : decode cX11_spreads 71 = .ok (.invokevirtual 285, 3) := by decide +kernel
theorem dX11_spreads_74 : decode cX11_spreads 74 = .ok (.istore 5, 2) := by decide +kernel
theorem dX11_spreads_76 : decode cX11_spreads 76 = .ok (.aload_n 0, 1) := by decide +kernel
theorem dX11_spreads_77 : decode cX11_spreads 77 = .ok (.getfield 48, 3) := by decide +kernel
theorem dX11_spreads_80 : decode cX11_spreads 80 = .ok (.iload 4, 2) := by decide +kernel
theorem dX11_spreads_82 : decode cX11_spreads 82 = .ok (.iaload, 1) := by decide +kernel
theorem dX11_spreads_83 : decode cX11_spreads 83 = .ok (.ifCond .lt 53, 3) := by decide +kernel
theorem dX11_spreads_86 : decode cX11_spreads 86 = .ok (.aload_n 0, 1) := by decide +kernel
theorem dX11_spreads_87 : decode cX11_spreads 87 = .ok (.getfield 48, 3) := by decide +kernel
theorem dX11_spreads_90 : decode cX11_spreads 90 = .ok (.iload 5, 2) := by decide +kernel
theorem dX11_spreads_92 : decode cX11_spreads 92 = .ok (.iaload, 1) := by decide +kernel
theorem dX11_spreads_93 : decode cX11_spreads 93 = .ok (.ifCond .lt 25, 3) := by decide +kernel
theorem dX11_spreads_96 : decode cX11_spreads 96 = .ok (.aload_n 0, 1) := by decide +kernel
theorem dX11_spreads_97 : decode cX11_spreads 97 = .ok (.getfield 48, 3) := by decide +kernel
theorem dX11_spreads_100 : decode cX11_spreads 100 = .ok (.iload 5, 2) := by decide +kernel
theorem dX11_spreads_102 : decode cX11_spreads 102 = .ok (.iaload, 1) := by decide +kernel
theorem dX11_spreads_103 : decode cX11_spreads 103 = .ok (.aload_n 0, 1) := by decide +kernel
theorem dX11_spreads_104 : decode cX11_spreads 104 = .ok (.getfield 48, 3) := by decide +kernel
theorem dX11_spreads_107 : decode cX11_spreads 107 = .ok (.iload 4, 2) := by decide +kernel
theorem dX11_spreads_109 : decode cX11_spreads 109 = .ok (.iaload, 1) := by decide +kernel
theorem dX11_spreads_110 : decode cX11_spreads 110 = .ok (.iconst 1, 1) := by decide +kernel
theorem dX11_spreads_111 : decode cX11_spreads 111 = .ok (.iadd, 1) := by decide +kernel
theorem dX11_spreads_112 : decode cX11_spreads 112 = .ok (.if_icmp .gt 6, 3) := by decide +kernel
theorem dX11_spreads_115 : decode cX11_spreads 115 = .ok (.goto 21, 3) := by decide +kernel
theorem dX11_spreads_118 : decode cX11_spreads 118 = .ok (.aload_n 0, 1) := by decide +kernel
theorem dX11_spreads_119 : decode cX11_spreads 119 = .ok (.getfield 48, 3) := by decide +kernel
theorem dX11_spreads_122 : decode cX11_spreads 122 = .ok (.iload 5, 2) := by decide +kernel
theorem dX11_spreads_124 : decode cX11_spreads 124 = .ok (.aload_n 0, 1) := by decide +kernel
theorem dX11_spreads_125 : decode cX11_spreads 125 = .ok (.getfield 48, 3) := by decide +kernel
theorem dX11_spreads_128 : decode cX11_spreads 128 = .ok (.iload 4, 2) := by decide +kernel
theorem dX11_spreads_130 : decode cX11_spreads 130 = .ok (.iaload, 1) := by decide +kernel
theorem dX11_spreads_131 : decode cX11_spreads 131 = .ok (.iconst 1, 1) := by decide +kernel
theorem dX11_spreads_132 : decode cX11_spreads 132 = .ok (.iadd, 1) := by decide +kernel
theorem dX11_spreads_133 : decode cX11_spreads 133 = .ok (.iastore, 1) := by decide +kernel
theorem dX11_spreads_134 : decode cX11_spreads 134 = .ok (.iconst 1, 1) := by decide +kernel
theorem dX11_spreads_135 : decode cX11_spreads 135 = .ok (.istore_n 2, 1) := by decide +kernel
theorem dX11_spreads_136 : decode cX11_spreads 136 = .ok (.iinc 3 1, 3) := by decide +kernel
theorem dX11_spreads_139 : decode cX11_spreads 139 = .ok (.goto (-101), 3) := by decide +kernel
theorem dX11_spreads_142 : decode cX11_spreads 142 = .ok (.goto (-112), 3) := by decide +kernel
theorem dX11_spreads_145 : decode cX11_spreads 145 = .ok (.return_, 1) := by decide +kernel
theorem dX11_standing_0 : decode cX11_standing 0 = .ok (.iconst 0, 1) := by decide +kernel
theorem dX11_standing_1 : decode cX11_standing 1 = .ok (.istore_n 2, 1) := by decide +kernel
theorem dX11_standing_2 : decode cX11_standing 2 = .ok (.iconst 0, 1) := by decide +kernel
theorem dX11_standing_3 : decode cX11_standing 3 = .ok (.istore_n 3, 1) := by decide +kernel
theorem dX11_standing_4 : decode cX11_standing 4 = .ok (.iload_n 3, 1) := by decide +kernel
theorem dX11_standing_5 : decode cX11_standing 5 = .ok (.aload_n 0, 1) := by decide +kernel
theorem dX11_standing_6 : decode cX11_standing 6 = .ok (.getfield 42, 3) := by decide +kernel
theorem dX11_standing_9 : decode cX11_standing 9 = .ok (.iconst 1, 1) := by decide +kernel
theorem dX11_standing_10 : decode cX11_standing 10 = .ok (.iaload, 1) := by decide +kernel
theorem dX11_standing_11 : decode cX11_standing 11 = .ok (.if_icmp .ge 27, 3) := by decide +kernel
theorem dX11_standing_14 : decode cX11_standing 14 = .ok (.iload_n 2, 1) := by decide +kernel
theorem dX11_standing_15 : decode cX11_standing 15 = .ok (.aload_n 0, 1) := by decide +kernel
theorem dX11_standing_16 : decode cX11_standing 16 = .ok (.iload_n 3, 1) := by decide +kernel
theorem dX11_standing_17 : decode cX11_standing 17 = .ok (.iconst 0, 1) := by decide +kernel
theorem dX11_standing_18 : decode cX11_standing 18 = .ok (.invokevirtual 279, 3) := by decide +kernel
theorem dX11_standing_21 : decode cX11_standing 21 = .ok (.iload_n 1, 1) := by decide +kernel
theorem dX11_standing_22 : decode cX11_standing 22 = .ok (.if_icmp .ne 7, 3) := by decide +kernel
theorem dX11_standing_25 : decode cX11_standing 25 = .ok (.iconst 1, 1) := by decide +kernel
theorem dX11_standing_26 : decode cX11_standing 26 = .ok (.goto 4, 3) := by decide +kernel
theorem dX11_standing_29 : decode cX11_standing 29 = .ok (.iconst 0, 1) := by decide +kernel
theorem dX11_standing_30 : decode cX11_standing 30 = .ok (.iadd, 1) := by decide +kernel
theorem dX11_standing_31 : decode cX11_standing 31 = .ok (.istore_n 2, 1) := by decide +kernel
theorem dX11_standing_32 : decode cX11_standing 32 = .ok (.iinc 3 1, 3) := by decide +kernel
theorem dX11_standing_35 : decode cX11_standing 35 = .ok (.goto (-31), 3) := by decide +kernel
theorem dX11_standing_38 : decode cX11_standing 38 = .ok (.iload_n 2, 1) := by decide +kernel
theorem dX11_standing_39 : decode cX11_standing 39 = .ok (.ireturn, 1) := by decide +kernel
theorem dX11_stands_0 : decode cX11_stands 0 = .ok (.aload_n 0, 1) := by decide +kernel
theorem dX11_stands_1 : decode cX11_stands 1 = .ok (.iload_n 1, 1) := by decide +kernel
theorem dX11_stands_2 : decode cX11_stands 2 = .ok (.invokevirtual 282, 3) := by decide +kernel
theorem dX11_stands_5 : decode cX11_stands 5 = .ok (.ifCond .eq 17, 3) := by decide +kernel
theorem dX11_stands_8 : decode cX11_stands 8 = .ok (.aload_n 0, 1) := by decide +kernel
theorem dX11_stands_9 : decode cX11_stands 9 = .ok (.iload_n 1, 1) := by decide +kernel
theorem dX11_stands_10 : decode cX11_stands 10 = .ok (.iconst 3, 1) := by decide +kernel
theorem dX11_stands_11 : decode cX11_stands 11 = .ok (.invokevirtual 279, 3) := by decide +kernel
theorem dX11_stands_14 : decode cX11_stands 14 = .ok (.iconst (-1), 1) := by decide +kernel
theorem dX11_stands_15 : decode cX11_stands 15 = .ok (.if_icmp .ne 7, 3) := by decide +kernel
theorem dX11_stands_18 : decode cX11_stands 18 = .ok (.iconst 1, 1) := by decide +kernel
theorem dX11_stands_19 : decode cX11_stands 19 = .ok (.goto 4, 3) := by decide +kernel
theorem dX11_stands_22 : decode cX11_stands 22 = .ok (.iconst 0, 1) := by decide +kernel
theorem dX11_stands_23 : decode cX11_stands 23 = .ok (.ireturn, 1) := by decide +kernel
theorem dX11_step_0 : decode cX11_step 0 = .ok (.aload_n 0, 1) := by decide +kernel
theorem dX11_step_1 : decode cX11_step 1 = .ok (.iload_n 1, 1) := by decide +kernel
theorem dX11_step_2 : decode cX11_step 2 = .ok (.invokevirtual 350, 3) := by decide +kernel
theorem dX11_step_5 : decode cX11_step 5 = .ok (.ifCond .eq 15, 3) := by decide +kernel
theorem dX11_step_8 : decode cX11_step 8 = .ok (.iload_n 2, 1) := by decide +kernel
theorem dX11_step_9 : decode cX11_step 9 = .ok (.i2l, 1) := by decide +kernel
theorem dX11_step_10 : decode cX11_step 10 = .ok (.lconst 0, 1) := by decide +kernel
theorem dX11_step_11 : decode cX11_step 11 = .ok (.ldc2_w 363, 3) := by decide +kernel
theorem dX11_step_14 : decode cX11_step 14 = .ok (.invokestatic 125, 3) := by decide +kernel
theorem dX11_step_17 : decode cX11_step 17 = .ok (.ifCond .ne 5, 3) := by decide +kernel
theorem dX11_step_20 : decode cX11_step 20 = .ok (.iconst (-1), 1) := by decide +kernel
theorem dX11_step_21 : decode cX11_step 21 = .ok (.ireturn, 1) := by decide +kernel
theorem dX11_step_22 : decode cX11_step 22 = .ok (.aload_n 0, 1) := by decide +kernel
theorem dX11_step_23 : decode cX11_step 23 = .ok (.iload_n 1, 1) := by decide +kernel
theorem dX11_step_24 : decode cX11_step 24 = .ok (.invokevirtual 353, 3) := by decide +kernel
theorem dX11_step_27 : decode cX11_step 27 = .ok (.aload_n 0, 1) := by decide +kernel
theorem dX11_step_28 : decode cX11_step 28 = .ok (.iconst 1, 1) := by decide +kernel
theorem dX11_step_29 : decode cX11_step 29 = .ok (.iconst (-1), 1) := by decide +kernel
theorem dX11_step_30 : decode cX11_step 30 = .ok (.invokevirtual 356, 3) := by decide +kernel
theorem dX11_step_33 : decode cX11_step 33 = .ok (.istore_n 3, 1) := by decide +kernel
theorem dX11_step_34 : decode cX11_step 34 = .ok (.iload_n 3, 1) := by decide +kernel
theorem dX11_step_35 : decode cX11_step 35 = .ok (.ifCond .lt 12, 3) := by decide +kernel
theorem dX11_step_38 : decode cX11_step 38 = .ok (.iload_n 2, 1) := by decide +kernel
theorem dX11_step_39 : decode cX11_step 39 = .ok (.aload_n 0, 1) := by decide +kernel
theorem dX11_step_40 : decode cX11_step 40 = .ok (.iload_n 3, 1) := by decide +kernel
theorem dX11_step_41 : decode cX11_step 41 = .ok (.invokevirtual 360, 3) := by decide +kernel
theorem dX11_step_44 : decode cX11_step 44 = .ok (.if_icmp .lt 6, 3) := by decide +kernel
theorem dX11_step_47 : decode cX11_step 47 = .ok (.bipush (-2), 2) := by decide +kernel
theorem dX11_step_49 : decode cX11_step 49 = .ok (.ireturn, 1) := by decide +kernel
theorem dX11_step_50 : decode cX11_step 50 = .ok (.aload_n 0, 1) := by decide +kernel
theorem dX11_step_51 : decode cX11_step 51 = .ok (.iload_n 3, 1) := by decide +kernel
theorem dX11_step_52 : decode cX11_step 52 = .ok (.invokevirtual 360, 3) := by decide +kernel
theorem dX11_step_55 : decode cX11_step 55 = .ok (.iconst 1, 1) := by decide +kernel
theorem dX11_step_56 : decode cX11_step 56 = .ok (.isub, 1) := by decide +kernel
theorem dX11_step_57 : decode cX11_step 57 = .ok (.iload_n 2, 1) := by decide +kernel
theorem dX11_step_58 : decode cX11_step 58 = .ok (.isub, 1) := by decide +kernel
theorem dX11_step_59 : decode cX11_step 59 = .ok (.istore 4, 2) := by decide +kernel
theorem dX11_step_61 : decode cX11_step 61 = .ok (.iconst 0, 1) := by decide +kernel
theorem dX11_step_62 : decode cX11_step 62 = .ok (.istore 5, 2) := by decide +kernel
theorem dX11_step_64 : decode cX11_step 64 = .ok (.iload 5, 2) := by decide +kernel
theorem dX11_step_66 : decode cX11_step 66 = .ok (.iload 4, 2) := by decide +kernel
theorem dX11_step_68 : decode cX11_step 68 = .ok (.if_icmp .ge 16, 3) := by decide +kernel
theorem dX11_step_71 : decode cX11_step 71 = .ok (.aload_n 0, 1) := by decide +kernel
theorem dX11_step_72 : decode cX11_step 72 = .ok (.getfield 55, 3) := by decide +kernel
theorem dX11_step_75 : decode cX11_step 75 = .ok (.iload_n 3, 1) := by decide +kernel
theorem dX11_step_76 : decode cX11_step 76 = .ok (.iaload, 1) := by decide +kernel
theorem dX11_step_77 : decode cX11_step 77 = .ok (.istore_n 3, 1) := by decide +kernel
theorem dX11_step_78 : decode cX11_step 78 = .ok (.iinc 5 1, 3) := by decide +kernel
theorem dX11_step_81 : decode cX11_step 81 = .ok (.goto (-17), 3) := by decide +kernel
theorem dX11_step_84 : decode cX11_step 84 = .ok (.aload_n 0, 1) := by decide +kernel
theorem dX11_step_85 : decode cX11_step 85 = .ok (.getfield 52, 3) := by decide +kernel
theorem dX11_step_88 : decode cX11_step 88 = .ok (.iload_n 3, 1) := by decide +kernel
theorem dX11_step_89 : decode cX11_step 89 = .ok (.iaload, 1) := by decide +kernel
theorem dX11_step_90 : decode cX11_step 90 = .ok (.istore 5, 2) := by decide +kernel
theorem dX11_step_92 : decode cX11_step 92 = .ok (.aload_n 0, 1) := by decide +kernel
theorem dX11_step_93 : decode cX11_step 93 = .ok (.getfield 52, 3) := by decide +kernel
theorem dX11_step_96 : decode cX11_step 96 = .ok (.aload_n 0, 1) := by decide +kernel
theorem dX11_step_97 : decode cX11_step 97 = .ok (.getfield 55, 3) := by decide +kernel
theorem dX11_step_100 : decode cX11_step 100 = .ok (.iload_n 3, 1) := by decide +kernel
theorem dX11_step_101 : decode cX11_step 101 = .ok (.iaload, 1) := by decide +kernel
theorem dX11_step_102 : decode cX11_step 102 = .ok (.iaload, 1) := by decide +kernel
theorem dX11_step_103 : decode cX11_step 103 = .ok (.istore 6, 2) := by decide +kernel
theorem dX11_step_105 : decode cX11_step 105 = .ok (.iconst 0, 1) := by decide +kernel
theorem dX11_step_106 : decode cX11_step 106 = .ok (.istore 7, 2) := by decide +kernel
theorem dX11_step_108 : decode cX11_step 108 = .ok (.aload_n 0, 1) := by decide +kernel
theorem dX11_step_109 : decode cX11_step 109 = .ok (.iload 5, 2) := by decide +kernel
theorem dX11_step_111 : decode cX11_step 111 = .ok (.iload 7, 2) := by decide +kernel
theorem dX11_step_113 : decode cX11_step 113 = .ok (.invokevirtual 338, 3) := by decide +kernel
theorem dX11_step_116 : decode cX11_step 116 = .ok (.aload_n 0, 1) := by decide +kernel
theorem dX11_step_117 : decode cX11_step 117 = .ok (.iload 6, 2) := by decide +kernel
theorem dX11_step_119 : decode cX11_step 119 = .ok (.iload 7, 2) := by decide +kernel
theorem dX11_step_121 : decode cX11_step 121 = .ok (.invokevirtual 338, 3) := by decide +kernel
theorem dX11_step_124 : decode cX11_step 124 = .ok (.if_icmp .ne 9, 3) := by decide +kernel
theorem dX11_step_127 : decode cX11_step 127 = .ok (.iinc 7 1, 3) := by decide +kernel
theorem dX11_step_130 : decode cX11_step 130 = .ok (.goto (-22), 3) := by decide +kernel
theorem dX11_step_133 : decode cX11_step 133 = .ok (.iconst 0, 1) := by decide +kernel
theorem dX11_step_134 : decode cX11_step 134 = .ok (.istore 8, 2) := by decide +kernel
theorem dX11_step_136 : decode cX11_step 136 = .ok (.iload 5, 2) := by decide +kernel
theorem dX11_step_138 : decode cX11_step 138 = .ok (.iload 8, 2) := by decide +kernel
theorem dX11_step_140 : decode cX11_step 140 = .ok (.ishr, 1) := by decide +kernel
theorem dX11_step_141 : decode cX11_step 141 = .ok (.iconst 1, 1) := by decide +kernel
theorem dX11_step_142 : decode cX11_step 142 = .ok (.iand, 1) := by decide +kernel
theorem dX11_step_143 : decode cX11_step 143 = .ok (.iload 6, 2) := by decide +kernel
theorem dX11_step_145 : decode cX11_step 145 = .ok (.iload 8, 2) := by decide +kernel
theorem dX11_step_147 : decode cX11_step 147 = .ok (.ishr, 1) := by decide +kernel
theorem dX11_step_148 : decode cX11_step 148 = .ok (.iconst 1, 1) := by decide +kernel
theorem dX11_step_149 : decode cX11_step 149 = .ok (.iand, 1) := by decide +kernel
theorem dX11_step_150 : decode cX11_step 150 = .ok (.if_icmp .ne 9, 3) := by decide +kernel
theorem dX11_step_153 : decode cX11_step 153 = .ok (.iinc 8 1, 3) := by decide +kernel
theorem dX11_step_156 : decode cX11_step 156 = .ok (.goto (-20), 3) := by decide +kernel
theorem dX11_step_159 : decode cX11_step 159 = .ok (.bipush 16, 2) := by decide +kernel
theorem dX11_step_161 : decode cX11_step 161 = .ok (.aload_n 0, 1) := by decide +kernel
theorem dX11_step_162 : decode cX11_step 162 = .ok (.getfield 61, 3) := by decide +kernel
theorem dX11_step_165 : decode cX11_step 165 = .ok (.iload 7, 2) := by decide +kernel
theorem dX11_step_167 : decode cX11_step 167 = .ok (.iaload, 1) := by decide +kernel
theorem dX11_step_168 : decode cX11_step 168 = .ok (.imul, 1) := by decide +kernel
theorem dX11_step_169 : decode cX11_step 169 = .ok (.iload 8, 2) := by decide +kernel
theorem dX11_step_171 : decode cX11_step 171 = .ok (.iadd, 1) := by decide +kernel
theorem dX11_step_172 : decode cX11_step 172 = .ok (.ireturn, 1) := by decide +kernel
theorem dX11_stepsOn_0 : decode cX11_stepsOn 0 = .ok (.iconst (-1), 1) := by decide +kernel
theorem dX11_stepsOn_1 : decode cX11_stepsOn 1 = .ok (.istore_n 1, 1) := by decide +kernel
theorem dX11_stepsOn_2 : decode cX11_stepsOn 2 = .ok (.iconst 0, 1) := by decide +kernel
theorem dX11_stepsOn_3 : decode cX11_stepsOn 3 = .ok (.istore_n 2, 1) := by decide +kernel
theorem dX11_stepsOn_4 : decode cX11_stepsOn 4 = .ok (.iload_n 2, 1) := by decide +kernel
theorem dX11_stepsOn_5 : decode cX11_stepsOn 5 = .ok (.aload_n 0, 1) := by decide +kernel
theorem dX11_stepsOn_6 : decode cX11_stepsOn 6 = .ok (.getfield 42, 3) := by decide +kernel
theorem dX11_stepsOn_9 : decode cX11_stepsOn 9 = .ok (.iconst 0, 1) := by decide +kernel
theorem dX11_stepsOn_10 : decode cX11_stepsOn 10 = .ok (.iaload, 1) := by decide +kernel
theorem dX11_stepsOn_11 : decode cX11_stepsOn 11 = .ok (.if_icmp .ge 47, 3) := by decide +kernel
theorem dX11_stepsOn_14 : decode cX11_stepsOn 14 = .ok (.aload_n 0, 1) := by decide +kernel
theorem dX11_stepsOn_15 : decode cX11_stepsOn 15 = .ok (.aload_n 0, 1) := by decide +kernel
theorem dX11_stepsOn_16 : decode cX11_stepsOn 16 = .ok (.getfield 373, 3) := by decide +kernel
theorem dX11_stepsOn_19 : decode cX11_stepsOn 19 = .ok (.iload_n 2, 1) := by decide +kernel
theorem dX11_stepsOn_20 : decode cX11_stepsOn 20 = .ok (.iconst 0, 1) := by decide +kernel
theorem dX11_stepsOn_21 : decode cX11_stepsOn 21 = .ok (.invokevirtual 285, 3) := by decide +kernel
theorem dX11_stepsOn_24 : decode cX11_stepsOn 24 = .ok (.aload_n 0, 1) := by decide +kernel
theorem dX11_stepsOn_25 : decode cX11_stepsOn 25 = .ok (.getfield 370, 3) := by decide +kernel
theorem dX11_stepsOn_28 : decode cX11_stepsOn 28 = .ok (.if_icmp .ne 24, 3) := by decide +kernel
theorem dX11_stepsOn_31 : decode cX11_stepsOn 31 = .ok (.iload_n 1, 1) := by decide +kernel
theorem dX11_stepsOn_32 : decode cX11_stepsOn 32 = .ok (.ifCond .lt 18, 3) := by decide +kernel
theorem dX11_stepsOn_35 : decode cX11_stepsOn 35 = .ok (.aload_n 0, 1) := by decide +kernel
theorem dX11_stepsOn_36 : decode cX11_stepsOn 36 = .ok (.getfield 68, 3) := by decide +kernel
theorem dX11_stepsOn_39 : decode cX11_stepsOn 39 = .ok (.iload_n 2, 1) := by decide +kernel
theorem dX11_stepsOn_40 : decode cX11_stepsOn 40 = .ok (.iaload, 1) := by decide +kernel
theorem dX11_stepsOn_41 : decode cX11_stepsOn 41 = .ok (.aload_n 0, 1) := by decide +kernel
theorem dX11_stepsOn_42 : decode cX11_stepsOn 42 = .ok (.getfield 68, 3) := by decide +kernel
theorem dX11_stepsOn_45 : decode cX11_stepsOn 45 = .ok (.iload_n 1, 1) := by decide +kernel
theorem dX11_stepsOn_46 : decode cX11_stepsOn 46 = .ok (.iaload, 1) := by decide +kernel
theorem dX11_stepsOn_47 : decode cX11_stepsOn 47 = .ok (.if_icmp .ge 5, 3) := by decide +kernel
theorem dX11_stepsOn_50 : decode cX11_stepsOn 50 = .ok (.iload_n 2, 1) := by decide +kernel
theorem dX11_stepsOn_51 : decode cX11_stepsOn 51 = .ok (.istore_n 1, 1) := by decide +kernel
theorem dX11_stepsOn_52 : decode cX11_stepsOn 52 = .ok (.iinc 2 1, 3) := by decide +kernel
theorem dX11_stepsOn_55 : decode cX11_stepsOn 55 = .ok (.goto (-51), 3) := by decide +kernel
theorem dX11_stepsOn_58 : decode cX11_stepsOn 58 = .ok (.iload_n 1, 1) := by decide +kernel
theorem dX11_stepsOn_59 : decode cX11_stepsOn 59 = .ok (.ifCond .ge 5, 3) := by decide +kernel
theorem dX11_stepsOn_62 : decode cX11_stepsOn 62 = .ok (.iconst 0, 1) := by decide +kernel
theorem dX11_stepsOn_63 : decode cX11_stepsOn 63 = .ok (.ireturn, 1) := by decide +kernel
theorem dX11_stepsOn_64 : decode cX11_stepsOn 64 = .ok (.aload_n 0, 1) := by decide +kernel
theorem dX11_stepsOn_65 : decode cX11_stepsOn 65 = .ok (.aload_n 0, 1) := by decide +kernel
theorem dX11_stepsOn_66 : decode cX11_stepsOn 66 = .ok (.aload_n 0, 1) := by decide +kernel
theorem dX11_stepsOn_67 : decode cX11_stepsOn 67 = .ok (.getfield 373, 3) := by decide +kernel
theorem dX11_stepsOn_70 : decode cX11_stepsOn 70 = .ok (.iload_n 1, 1) := by decide +kernel
theorem dX11_stepsOn_71 : decode cX11_stepsOn 71 = .ok (.iconst 1, 1) := by decide +kernel
theorem dX11_stepsOn_72 : decode cX11_stepsOn 72 = .ok (.invokevirtual 285, 3) := by decide +kernel
theorem dX11_stepsOn_75 : decode cX11_stepsOn 75 = .ok (.putfield 370, 3) := by decide +kernel
theorem dX11_stepsOn_78 : decode cX11_stepsOn 78 = .ok (.aload_n 0, 1) := by decide +kernel
theorem dX11_stepsOn_79 : decode cX11_stepsOn 79 = .ok (.dup, 1) := by decide +kernel
theorem dX11_stepsOn_80 : decode cX11_stepsOn 80 = .ok (.getfield 373, 3) := by decide +kernel
theorem dX11_stepsOn_83 : decode cX11_stepsOn 83 = .ok (.iconst 1, 1) := by decide +kernel
theorem dX11_stepsOn_84 : decode cX11_stepsOn 84 = .ok (.iload_n 1, 1) := by decide +kernel
theorem dX11_stepsOn_85 : decode cX11_stepsOn 85 = .ok (.ishl, 1) := by decide +kernel
theorem dX11_stepsOn_86 : decode cX11_stepsOn 86 = .ok (.ixor, 1) := by decide +kernel
theorem dX11_stepsOn_87 : decode cX11_stepsOn 87 = .ok (.putfield 373, 3) := by decide +kernel
theorem dX11_stepsOn_90 : decode cX11_stepsOn 90 = .ok (.aload_n 0, 1) := by decide +kernel
theorem dX11_stepsOn_91 : decode cX11_stepsOn 91 = .ok (.dup, 1) := by decide +kernel
theorem dX11_stepsOn_92 : decode cX11_stepsOn 92 = .ok (.getfield 376, 3) := by decide +kernel
theorem dX11_stepsOn_95 : decode cX11_stepsOn 95 = .ok (.iconst 1, 1) := by decide +kernel
theorem dX11_stepsOn_96 : decode cX11_stepsOn 96 = .ok (.iadd, 1) := by decide +kernel
theorem dX11_stepsOn_97 : decode cX11_stepsOn 97 = .ok (.putfield 376, 3) := by decide +kernel
theorem dX11_stepsOn_100 : decode cX11_stepsOn 100 = .ok (.aload_n 0, 1) := by decide +kernel
theorem dX11_stepsOn_101 : decode cX11_stepsOn 101 = .ok (.getfield 68, 3) := by decide +kernel
theorem dX11_stepsOn_104 : decode cX11_stepsOn 104 = .ok (.iload_n 1, 1) := by decide +kernel
theorem dX11_stepsOn_105 : decode cX11_stepsOn 105 = .ok (.aload_n 0, 1) := by decide +kernel
theorem dX11_stepsOn_106 : decode cX11_stepsOn 106 = .ok (.getfield 376, 3) := by decide +kernel
theorem dX11_stepsOn_109 : decode cX11_stepsOn 109 = .ok (.iastore, 1) := by decide +kernel
theorem dX11_stepsOn_110 : decode cX11_stepsOn 110 = .ok (.iconst 1, 1) := by decide +kernel
theorem dX11_stepsOn_111 : decode cX11_stepsOn 111 = .ok (.ireturn, 1) := by decide +kernel
theorem dX11_strength_0 : decode cX11_strength 0 = .ok (.iload_n 0, 1) := by decide +kernel
theorem dX11_strength_1 : decode cX11_strength 1 = .ok (.bipush 13, 2) := by decide +kernel
theorem dX11_strength_3 : decode cX11_strength 3 = .ok (.if_icmp .ne 7, 3) := by decide +kernel
theorem dX11_strength_6 : decode cX11_strength 6 = .ok (.iconst 1, 1) := by decide +kernel
theorem dX11_strength_7 : decode cX11_strength 7 = .ok (.goto 24, 3) := by decide +kernel
theorem dX11_strength_10 : decode cX11_strength 10 = .ok (.iload_n 0, 1) := by decide +kernel
theorem dX11_strength_11 : decode cX11_strength 11 = .ok (.bipush 12, 2) := by decide +kernel
theorem dX11_strength_13 : decode cX11_strength 13 = .ok (.if_icmp .ne 7, 3) := by decide +kernel
theorem dX11_strength_16 : decode cX11_strength 16 = .ok (.iconst 2, 1) := by decide +kernel
theorem dX11_strength_17 : decode cX11_strength 17 = .ok (.goto 14, 3) := by decide +kernel
theorem dX11_strength_20 : decode cX11_strength 20 = .ok (.iload_n 0, 1) := by decide +kernel
theorem dX11_strength_21 : decode cX11_strength 21 = .ok (.bipush 11, 2) := by decide +kernel
theorem dX11_strength_23 : decode cX11_strength 23 = .ok (.if_icmp .ne 7, 3) := by decide +kernel
theorem dX11_strength_26 : decode cX11_strength 26 = .ok (.iconst 3, 1) := by decide +kernel
theorem dX11_strength_27 : decode cX11_strength 27 = .ok (.goto 4, 3) := by decide +kernel
theorem dX11_strength_30 : decode cX11_strength 30 = .ok (.iconst 0, 1) := by decide +kernel
theorem dX11_strength_31 : decode cX11_strength 31 = .ok (.ireturn, 1) := by decide +kernel
theorem dX11_sum_0 : decode cX11_sum 0 = .ok (.aload_n 0, 1) := by decide +kernel
theorem dX11_sum_1 : decode cX11_sum 1 = .ok (.invokevirtual 187, 3) := by decide +kernel
theorem dX11_sum_4 : decode cX11_sum 4 = .ok (.ifCond .ne 5, 3) := by decide +kernel
theorem dX11_sum_7 : decode cX11_sum 7 = .ok (.iconst 0, 1) := by decide +kernel
theorem dX11_sum_8 : decode cX11_sum 8 = .ok (.ireturn, 1) := by decide +kernel
theorem dX11_sum_9 : decode cX11_sum 9 = .ok (.aload_n 0, 1) := by decide +kernel
theorem dX11_sum_10 : decode cX11_sum 10 = .ok (.invokevirtual 100, 3) := by decide +kernel
theorem dX11_sum_13 : decode cX11_sum 13 = .ok (.bipush 43, 2) := by decide +kernel
theorem dX11_sum_15 : decode cX11_sum 15 = .ok (.if_icmp .eq 12, 3) := by decide +kernel
theorem dX11_sum_18 : decode cX11_sum 18 = .ok (.aload_n 0, 1) := by decide +kernel
theorem dX11_sum_19 : decode cX11_sum 19 = .ok (.invokevirtual 100, 3) := by decide +kernel
theorem dX11_sum_22 : decode cX11_sum 22 = .ok (.bipush 45, 2) := by decide +kernel
theorem dX11_sum_24 : decode cX11_sum 24 = .ok (.if_icmp .ne 51, 3) := by decide +kernel
theorem dX11_sum_27 : decode cX11_sum 27 = .ok (.aload_n 0, 1) := by decide +kernel
theorem dX11_sum_28 : decode cX11_sum 28 = .ok (.getfield 7, 3) := by decide +kernel
theorem dX11_sum_31 : decode cX11_sum 31 = .ok (.aload_n 0, 1) := by decide +kernel
theorem dX11_sum_32 : decode cX11_sum 32 = .ok (.getfield 97, 3) := by decide +kernel
theorem dX11_sum_35 : decode cX11_sum 35 = .ok (.baload, 1) := by decide +kernel
theorem dX11_sum_36 : decode cX11_sum 36 = .ok (.bipush 43, 2) := by decide +kernel
theorem dX11_sum_38 : decode cX11_sum 38 = .ok (.if_icmp .ne 7, 3) := by decide +kernel
theorem dX11_sum_41 : decode cX11_sum 41 = .ok (.iconst 2, 1) := by decide +kernel
theorem dX11_sum_42 : decode cX11_sum 42 = .ok (.goto 4, 3) := by decide +kernel
theorem dX11_sum_45 : decode cX11_sum 45 = .ok (.iconst 3, 1) := by decide +kernel
theorem dX11_sum_46 : decode cX11_sum 46 = .ok (.istore_n 1, 1) := by decide +kernel
theorem dX11_sum_47 : decode cX11_sum 47 = .ok (.aload_n 0, 1) := by decide +kernel
theorem dX11_sum_48 : decode cX11_sum 48 = .ok (.dup, 1) := by decide +kernel
theorem dX11_sum_49 : decode cX11_sum 49 = .ok (.getfield 97, 3) := by decide +kernel
theorem dX11_sum_52 : decode cX11_sum 52 = .ok (.iconst 1, 1) := by decide +kernel
theorem dX11_sum_53 : decode cX11_sum 53 = .ok (.iadd, 1) := by decide +kernel
theorem dX11_sum_54 : decode cX11_sum 54 = .ok (.putfield 97, 3) := by decide +kernel
theorem dX11_sum_57 : decode cX11_sum 57 = .ok (.aload_n 0, 1) := by decide +kernel
theorem dX11_sum_58 : decode cX11_sum 58 = .ok (.invokevirtual 187, 3) := by decide +kernel
theorem dX11_sum_61 : decode cX11_sum 61 = .ok (.ifCond .ne 5, 3) := by decide +kernel
theorem dX11_sum_64 : decode cX11_sum 64 = .ok (.iconst 0, 1) := by decide +kernel
theorem dX11_sum_65 : decode cX11_sum 65 = .ok (.ireturn, 1) := by decide +kernel
theorem dX11_sum_66 : decode cX11_sum 66 = .ok (.aload_n 0, 1) := by decide +kernel
theorem dX11_sum_67 : decode cX11_sum 67 = .ok (.iload_n 1, 1) := by decide +kernel
theorem dX11_sum_68 : decode cX11_sum 68 = .ok (.iconst 0, 1) := by decide +kernel
theorem dX11_sum_69 : decode cX11_sum 69 = .ok (.invokevirtual 169, 3) := by decide +kernel
theorem dX11_sum_72 : decode cX11_sum 72 = .ok (.goto (-63), 3) := by decide +kernel
theorem dX11_sum_75 : decode cX11_sum 75 = .ok (.iconst 1, 1) := by decide +kernel
theorem dX11_sum_76 : decode cX11_sum 76 = .ok (.ireturn, 1) := by decide +kernel
theorem dX11_takesBegin_0 : decode cX11_takesBegin 0 = .ok (.aload_n 0, 1) := by decide +kernel
theorem dX11_takesBegin_1 : decode cX11_takesBegin 1 = .ok (.aload_n 0, 1) := by decide +kernel
theorem dX11_takesBegin_2 : decode cX11_takesBegin 2 = .ok (.iload_n 1, 1) := by decide +kernel
theorem dX11_takesBegin_3 : decode cX11_takesBegin 3 = .ok (.iconst 0, 1) := by decide +kernel
theorem dX11_takesBegin_4 : decode cX11_takesBegin 4 = .ok (.invokevirtual 279, 3) := by decide +kernel
theorem dX11_takesBegin_7 : decode cX11_takesBegin 7 = .ok (.putfield 370, 3) := by decide +kernel
theorem dX11_takesBegin_10 : decode cX11_takesBegin 10 = .ok (.aload_n 0, 1) := by decide +kernel
theorem dX11_takesBegin_11 : decode cX11_takesBegin 11 = .ok (.aload_n 0, 1) := by decide +kernel
theorem dX11_takesBegin_12 : decode cX11_takesBegin 12 = .ok (.getfield 42, 3) := by decide +kernel
theorem dX11_takesBegin_15 : decode cX11_takesBegin 15 = .ok (.iconst 2, 1) := by decide +kernel
theorem dX11_takesBegin_16 : decode cX11_takesBegin 16 = .ok (.iaload, 1) := by decide +kernel
theorem dX11_takesBegin_17 : decode cX11_takesBegin 17 = .ok (.putfield 373, 3) := by decide +kernel
theorem dX11_takesBegin_20 : decode cX11_takesBegin 20 = .ok (.aload_n 0, 1) := by decide +kernel
theorem dX11_takesBegin_21 : decode cX11_takesBegin 21 = .ok (.aload_n 0, 1) := by decide +kernel
theorem dX11_takesBegin_22 : decode cX11_takesBegin 22 = .ok (.getfield 42, 3) := by decide +kernel
theorem dX11_takesBegin_25 : decode cX11_takesBegin 25 = .ok (.iconst 3, 1) := by decide +kernel
theorem dX11_takesBegin_26 : decode cX11_takesBegin 26 = .ok (.iaload, 1) := by decide +kernel
theorem dX11_takesBegin_27 : decode cX11_takesBegin 27 = .ok (.putfield 376, 3) := by decide +kernel
theorem dX11_takesBegin_30 : decode cX11_takesBegin 30 = .ok (.iconst 0, 1) := by decide +kernel
theorem dX11_takesBegin_31 : decode cX11_takesBegin 31 = .ok (.istore_n 2, 1) := by decide +kernel
theorem dX11_takesBegin_32 : decode cX11_takesBegin 32 = .ok (.iload_n 2, 1) := by decide +kernel
theorem dX11_takesBegin_33 : decode cX11_takesBegin 33 = .ok (.aload_n 0, 1) := by decide +kernel
theorem dX11_takesBegin_34 : decode cX11_takesBegin 34 = .ok (.getfield 42, 3) := by decide +kernel
theorem dX11_takesBegin_37 : decode cX11_takesBegin 37 = .ok (.iconst 0, 1) := by decide +kernel
theorem dX11_takesBegin_38 : decode cX11_takesBegin 38 = .ok (.iaload, 1) := by decide +kernel
theorem dX11_takesBegin_39 : decode cX11_takesBegin 39 = .ok (.if_icmp .ge 21, 3) := by decide +kernel
theorem dX11_takesBegin_42 : decode cX11_takesBegin 42 = .ok (.aload_n 0, 1) := by decide +kernel
theorem dX11_takesBegin_43 : decode cX11_takesBegin 43 = .ok (.getfield 68, 3) := by decide +kernel
theorem dX11_takesBegin_46 : decode cX11_takesBegin 46 = .ok (.iload_n 2, 1) := by decide +kernel
theorem dX11_takesBegin_47 : decode cX11_takesBegin 47 = .ok (.aload_n 0, 1) := by decide +kernel
theorem dX11_takesBegin_48 : decode cX11_takesBegin 48 = .ok (.iload_n 2, 1) := by decide +kernel
theorem dX11_takesBegin_49 : decode cX11_takesBegin 49 = .ok (.iconst 4, 1) := by decide +kernel
theorem dX11_takesBegin_50 : decode cX11_takesBegin 50 = .ok (.invokevirtual 275, 3) := by decide +kernel
theorem dX11_takesBegin_53 : decode cX11_takesBegin 53 = .ok (.iastore, 1) := by decide +kernel
theorem dX11_takesBegin_54 : decode cX11_takesBegin 54 = .ok (.iinc 2 1, 3) := by decide +kernel
theorem dX11_takesBegin_57 : decode cX11_takesBegin 57 = .ok (.goto (-25), 3) := by decide +kernel
theorem dX11_takesBegin_60 : decode cX11_takesBegin 60 = .ok (.return_, 1) := by decide +kernel
theorem dX11_takesWord_0 : decode cX11_takesWord 0 = .ok (.aload_n 0, 1) := by decide +kernel
theorem dX11_takesWord_1 : decode cX11_takesWord 1 = .ok (.lload_n 1, 1) := by decide +kernel
