theorem dX11_readsAll_39 : decode cX11_readsAll 39 = .ok (.aload_n 0, 1) := by decide +kernel
theorem dX11_readsAll_40 : decode cX11_readsAll 40 = .ok (.invokevirtual 100, 3) := by decide +kernel
theorem dX11_readsAll_43 : decode cX11_readsAll 43 = .ok (.bipush 59, 2) := by decide +kernel
theorem dX11_readsAll_45 : decode cX11_readsAll 45 = .ok (.if_icmp .ne 21, 3) := by decide +kernel
theorem dX11_readsAll_48 : decode cX11_readsAll 48 = .ok (.aload_n 0, 1) := by decide +kernel
theorem dX11_readsAll_49 : decode cX11_readsAll 49 = .ok (.dup, 1) := by decide +kernel
theorem dX11_readsAll_50 : decode cX11_readsAll 50 = .ok (.getfield 97, 3) := by decide +kernel
theorem dX11_readsAll_53 : decode cX11_readsAll 53 = .ok (.iconst 1, 1) := by decide +kernel
theorem dX11_readsAll_54 : decode cX11_readsAll 54 = .ok (.iadd, 1) := by decide +kernel
theorem dX11_readsAll_55 : decode cX11_readsAll 55 = .ok (.putfield 97, 3) := by decide +kernel
theorem dX11_readsAll_58 : decode cX11_readsAll 58 = .ok (.aload_n 0, 1) := by decide +kernel
theorem dX11_readsAll_59 : decode cX11_readsAll 59 = .ok (.invokevirtual 247, 3) := by decide +kernel
theorem dX11_readsAll_62 : decode cX11_readsAll 62 = .ok (.istore_n 1, 1) := by decide +kernel
theorem dX11_readsAll_63 : decode cX11_readsAll 63 = .ok (.goto (-28), 3) := by decide +kernel
theorem dX11_readsAll_66 : decode cX11_readsAll 66 = .ok (.iload_n 1, 1) := by decide +kernel
theorem dX11_readsAll_67 : decode cX11_readsAll 67 = .ok (.ifCond .eq 21, 3) := by decide +kernel
theorem dX11_readsAll_70 : decode cX11_readsAll 70 = .ok (.aload_n 0, 1) := by decide +kernel
theorem dX11_readsAll_71 : decode cX11_readsAll 71 = .ok (.invokevirtual 100, 3) := by decide +kernel
theorem dX11_readsAll_74 : decode cX11_readsAll 74 = .ok (.iconst (-1), 1) := by decide +kernel
theorem dX11_readsAll_75 : decode cX11_readsAll 75 = .ok (.if_icmp .eq 13, 3) := by decide +kernel
theorem dX11_readsAll_78 : decode cX11_readsAll 78 = .ok (.aload_n 0, 1) := by decide +kernel
theorem dX11_readsAll_79 : decode cX11_readsAll 79 = .ok (.iconst 0, 1) := by decide +kernel
theorem dX11_readsAll_80 : decode cX11_readsAll 80 = .ok (.aload_n 0, 1) := by decide +kernel
theorem dX11_readsAll_81 : decode cX11_readsAll 81 = .ok (.getfield 97, 3) := by decide +kernel
theorem dX11_readsAll_84 : decode cX11_readsAll 84 = .ok (.invokevirtual 118, 3) := by decide +kernel
theorem dX11_readsAll_87 : decode cX11_readsAll 87 = .ok (.pop, 1) := by decide +kernel
theorem dX11_readsAll_88 : decode cX11_readsAll 88 = .ok (.aload_n 0, 1) := by decide +kernel
theorem dX11_readsAll_89 : decode cX11_readsAll 89 = .ok (.iconst 0, 1) := by decide +kernel
theorem dX11_readsAll_90 : decode cX11_readsAll 90 = .ok (.putfield 86, 3) := by decide +kernel
theorem dX11_readsAll_93 : decode cX11_readsAll 93 = .ok (.aload_n 0, 1) := by decide +kernel
theorem dX11_readsAll_94 : decode cX11_readsAll 94 = .ok (.getfield 94, 3) := by decide +kernel
theorem dX11_readsAll_97 : decode cX11_readsAll 97 = .ok (.ifCond .ne 7, 3) := by decide +kernel
theorem dX11_readsAll_100 : decode cX11_readsAll 100 = .ok (.iconst 1, 1) := by decide +kernel
theorem dX11_readsAll_101 : decode cX11_readsAll 101 = .ok (.goto 4, 3) := by decide +kernel
theorem dX11_readsAll_104 : decode cX11_readsAll 104 = .ok (.iconst 0, 1) := by decide +kernel
theorem dX11_readsAll_105 : decode cX11_readsAll 105 = .ok (.ireturn, 1) := by decide +kernel
theorem dX11_reckons_0 : decode cX11_reckons 0 = .ok (.aload_n 0, 1) := by decide +kernel
theorem dX11_reckons_1 : decode cX11_reckons 1 = .ok (.iconst 0, 1) := by decide +kernel
theorem dX11_reckons_2 : decode cX11_reckons 2 = .ok (.putfield 256, 3) := by decide +kernel
theorem dX11_reckons_5 : decode cX11_reckons 5 = .ok (.iload_n 2, 1) := by decide +kernel
theorem dX11_reckons_6 : decode cX11_reckons 6 = .ok (.istore 4, 2) := by decide +kernel
theorem dX11_reckons_8 : decode cX11_reckons 8 = .ok (.iload 4, 2) := by decide +kernel
theorem dX11_reckons_10 : decode cX11_reckons 10 = .ok (.iload_n 3, 1) := by decide +kernel
theorem dX11_reckons_11 : decode cX11_reckons 11 = .ok (.if_icmp .ge 124, 3) := by decide +kernel
theorem dX11_reckons_14 : decode cX11_reckons 14 = .ok (.aload_n 0, 1) := by decide +kernel
theorem dX11_reckons_15 : decode cX11_reckons 15 = .ok (.getfield 13, 3) := by decide +kernel
theorem dX11_reckons_18 : decode cX11_reckons 18 = .ok (.sipush 400, 3) := by decide +kernel
theorem dX11_reckons_21 : decode cX11_reckons 21 = .ok (.iload_n 1, 1) := by decide +kernel
theorem dX11_reckons_22 : decode cX11_reckons 22 = .ok (.imul, 1) := by decide +kernel
theorem dX11_reckons_23 : decode cX11_reckons 23 = .ok (.iload 4, 2) := by decide +kernel
theorem dX11_reckons_25 : decode cX11_reckons 25 = .ok (.iadd, 1) := by decide +kernel
theorem dX11_reckons_26 : decode cX11_reckons 26 = .ok (.iaload, 1) := by decide +kernel
theorem dX11_reckons_27 : decode cX11_reckons 27 = .ok (.bipush 15, 2) := by decide +kernel
theorem dX11_reckons_29 : decode cX11_reckons 29 = .ok (.iand, 1) := by decide +kernel
theorem dX11_reckons_30 : decode cX11_reckons 30 = .ok (.istore 5, 2) := by decide +kernel
theorem dX11_reckons_32 : decode cX11_reckons 32 = .ok (.aload_n 0, 1) := by decide +kernel
theorem dX11_reckons_33 : decode cX11_reckons 33 = .ok (.getfield 13, 3) := by decide +kernel
theorem dX11_reckons_36 : decode cX11_reckons 36 = .ok (.sipush 400, 3) := by decide +kernel
theorem dX11_reckons_39 : decode cX11_reckons 39 = .ok (.iload_n 1, 1) := by decide +kernel
theorem dX11_reckons_40 : decode cX11_reckons 40 = .ok (.imul, 1) := by decide +kernel
theorem dX11_reckons_41 : decode cX11_reckons 41 = .ok (.iload 4, 2) := by decide +kernel
theorem dX11_reckons_43 : decode cX11_reckons 43 = .ok (.iadd, 1) := by decide +kernel
theorem dX11_reckons_44 : decode cX11_reckons 44 = .ok (.iaload, 1) := by decide +kernel
theorem dX11_reckons_45 : decode cX11_reckons 45 = .ok (.iconst 4, 1) := by decide +kernel
theorem dX11_reckons_46 : decode cX11_reckons 46 = .ok (.ishr, 1) := by decide +kernel
theorem dX11_reckons_47 : decode cX11_reckons 47 = .ok (.istore 6, 2) := by decide +kernel
theorem dX11_reckons_49 : decode cX11_reckons 49 = .ok (.iload 5, 2) := by decide +kernel
theorem dX11_reckons_51 : decode cX11_reckons 51 = .ok (.ifCond .ne 13, 3) := by decide +kernel
theorem dX11_reckons_54 : decode cX11_reckons 54 = .ok (.aload_n 0, 1) := by decide +kernel
theorem dX11_reckons_55 : decode cX11_reckons 55 = .ok (.iload 6, 2) := by decide +kernel
theorem dX11_reckons_57 : decode cX11_reckons 57 = .ok (.i2l, 1) := by decide +kernel
theorem dX11_reckons_58 : decode cX11_reckons 58 = .ok (.invokevirtual 259, 3) := by decide +kernel
theorem dX11_reckons_61 : decode cX11_reckons 61 = .ok (.goto 68, 3) := by decide +kernel
theorem dX11_reckons_64 : decode cX11_reckons 64 = .ok (.iload 5, 2) := by decide +kernel
theorem dX11_reckons_66 : decode cX11_reckons 66 = .ok (.iconst 1, 1) := by decide +kernel
theorem dX11_reckons_67 : decode cX11_reckons 67 = .ok (.if_icmp .ne 17, 3) := by decide +kernel
theorem dX11_reckons_70 : decode cX11_reckons 70 = .ok (.aload_n 0, 1) := by decide +kernel
theorem dX11_reckons_71 : decode cX11_reckons 71 = .ok (.aload_n 0, 1) := by decide +kernel
theorem dX11_reckons_72 : decode cX11_reckons 72 = .ok (.getfield 39, 3) := by decide +kernel
theorem dX11_reckons_75 : decode cX11_reckons 75 = .ok (.iload 6, 2) := by decide +kernel
theorem dX11_reckons_77 : decode cX11_reckons 77 = .ok (.laload, 1) := by decide +kernel
theorem dX11_reckons_78 : decode cX11_reckons 78 = .ok (.invokevirtual 259, 3) := by decide +kernel
theorem dX11_reckons_81 : decode cX11_reckons 81 = .ok (.goto 48, 3) := by decide +kernel
theorem dX11_reckons_84 : decode cX11_reckons 84 = .ok (.iload 5, 2) := by decide +kernel
theorem dX11_reckons_86 : decode cX11_reckons 86 = .ok (.bipush 11, 2) := by decide +kernel
theorem dX11_reckons_88 : decode cX11_reckons 88 = .ok (.if_icmp .ne 16, 3) := by decide +kernel
theorem dX11_reckons_91 : decode cX11_reckons 91 = .ok (.aload_n 0, 1) := by decide +kernel
theorem dX11_reckons_92 : decode cX11_reckons 92 = .ok (.lconst 1, 1) := by decide +kernel
theorem dX11_reckons_93 : decode cX11_reckons 93 = .ok (.aload_n 0, 1) := by decide +kernel
theorem dX11_reckons_94 : decode cX11_reckons 94 = .ok (.invokevirtual 263, 3) := by decide +kernel
theorem dX11_reckons_97 : decode cX11_reckons 97 = .ok (.lsub, 1) := by decide +kernel
theorem dX11_reckons_98 : decode cX11_reckons 98 = .ok (.invokevirtual 259, 3) := by decide +kernel
theorem dX11_reckons_101 : decode cX11_reckons 101 = .ok (.goto 28, 3) := by decide +kernel
theorem dX11_reckons_104 : decode cX11_reckons 104 = .ok (.aload_n 0, 1) := by decide +kernel
theorem dX11_reckons_105 : decode cX11_reckons 105 = .ok (.invokevirtual 263, 3) := by decide +kernel
theorem dX11_reckons_108 : decode cX11_reckons 108 = .ok (.lstore 7, 2) := by decide +kernel
theorem dX11_reckons_110 : decode cX11_reckons 110 = .ok (.aload_n 0, 1) := by decide +kernel
theorem dX11_reckons_111 : decode cX11_reckons 111 = .ok (.invokevirtual 263, 3) := by decide +kernel
theorem dX11_reckons_114 : decode cX11_reckons 114 = .ok (.lstore 9, 2) := by decide +kernel
theorem dX11_reckons_116 : decode cX11_reckons 116 = .ok (.aload_n 0, 1) := by decide +kernel
theorem dX11_reckons_117 : decode cX11_reckons 117 = .ok (.iload 5, 2) := by decide +kernel
theorem dX11_reckons_119 : decode cX11_reckons 119 = .ok (.lload 9, 2) := by decide +kernel
theorem dX11_reckons_121 : decode cX11_reckons 121 = .ok (.lload 7, 2) := by decide +kernel
theorem dX11_reckons_123 : decode cX11_reckons 123 = .ok (.invokestatic 267, 3) := by decide +kernel
theorem dX11_reckons_126 : decode cX11_reckons 126 = .ok (.invokevirtual 259, 3) := by decide +kernel
theorem dX11_reckons_129 : decode cX11_reckons 129 = .ok (.iinc 4 1, 3) := by decide +kernel
theorem dX11_reckons_132 : decode cX11_reckons 132 = .ok (.goto (-124), 3) := by decide +kernel
theorem dX11_reckons_135 : decode cX11_reckons 135 = .ok (.aload_n 0, 1) := by decide +kernel
theorem dX11_reckons_136 : decode cX11_reckons 136 = .ok (.invokevirtual 263, 3) := by decide +kernel
theorem dX11_reckons_139 : decode cX11_reckons 139 = .ok (.lreturn, 1) := by decide +kernel
theorem dX11_row_0 : decode cX11_row 0 = .ok (.iload_n 1, 1) := by decide +kernel
theorem dX11_row_1 : decode cX11_row 1 = .ok (.iconst (-1), 1) := by decide +kernel
theorem dX11_row_2 : decode cX11_row 2 = .ok (.if_icmp .ne 13, 3) := by decide +kernel
theorem dX11_row_5 : decode cX11_row 5 = .ok (.aload_n 0, 1) := by decide +kernel
theorem dX11_row_6 : decode cX11_row 6 = .ok (.getfield 42, 3) := by decide +kernel
theorem dX11_row_9 : decode cX11_row 9 = .ok (.bipush 6, 2) := by decide +kernel
theorem dX11_row_11 : decode cX11_row 11 = .ok (.iconst 0, 1) := by decide +kernel
theorem dX11_row_12 : decode cX11_row 12 = .ok (.iastore, 1) := by decide +kernel
theorem dX11_row_13 : decode cX11_row 13 = .ok (.iconst 0, 1) := by decide +kernel
theorem dX11_row_14 : decode cX11_row 14 = .ok (.ireturn, 1) := by decide +kernel
theorem dX11_row_15 : decode cX11_row 15 = .ok (.aload_n 0, 1) := by decide +kernel
theorem dX11_row_16 : decode cX11_row 16 = .ok (.iload_n 1, 1) := by decide +kernel
theorem dX11_row_17 : decode cX11_row 17 = .ok (.invokevirtual 282, 3) := by decide +kernel
theorem dX11_row_20 : decode cX11_row 20 = .ok (.ifCond .eq 23, 3) := by decide +kernel
theorem dX11_row_23 : decode cX11_row 23 = .ok (.aload_n 0, 1) := by decide +kernel
theorem dX11_row_24 : decode cX11_row 24 = .ok (.iload_n 2, 1) := by decide +kernel
theorem dX11_row_25 : decode cX11_row 25 = .ok (.invokevirtual 289, 3) := by decide +kernel
theorem dX11_row_28 : decode cX11_row 28 = .ok (.ifCond .eq 15, 3) := by decide +kernel
theorem dX11_row_31 : decode cX11_row 31 = .ok (.aload_n 0, 1) := by decide +kernel
theorem dX11_row_32 : decode cX11_row 32 = .ok (.getfield 42, 3) := by decide +kernel
theorem dX11_row_35 : decode cX11_row 35 = .ok (.bipush 6, 2) := by decide +kernel
theorem dX11_row_37 : decode cX11_row 37 = .ok (.iaload, 1) := by decide +kernel
theorem dX11_row_38 : decode cX11_row 38 = .ok (.bipush 40, 2) := by decide +kernel
theorem dX11_row_40 : decode cX11_row 40 = .ok (.if_icmp .ne 6, 3) := by decide +kernel
theorem dX11_row_43 : decode cX11_row 43 = .ok (.bipush (-2), 2) := by decide +kernel
theorem dX11_row_45 : decode cX11_row 45 = .ok (.ireturn, 1) := by decide +kernel
theorem dX11_row_46 : decode cX11_row 46 = .ok (.aload_n 0, 1) := by decide +kernel
theorem dX11_row_47 : decode cX11_row 47 = .ok (.getfield 42, 3) := by decide +kernel
theorem dX11_row_50 : decode cX11_row 50 = .ok (.bipush 122, 2) := by decide +kernel
theorem dX11_row_52 : decode cX11_row 52 = .ok (.iconst 2, 1) := by decide +kernel
theorem dX11_row_53 : decode cX11_row 53 = .ok (.aload_n 0, 1) := by decide +kernel
theorem dX11_row_54 : decode cX11_row 54 = .ok (.getfield 42, 3) := by decide +kernel
theorem dX11_row_57 : decode cX11_row 57 = .ok (.bipush 6, 2) := by decide +kernel
theorem dX11_row_59 : decode cX11_row 59 = .ok (.iaload, 1) := by decide +kernel
theorem dX11_row_60 : decode cX11_row 60 = .ok (.imul, 1) := by decide +kernel
theorem dX11_row_61 : decode cX11_row 61 = .ok (.iadd, 1) := by decide +kernel
theorem dX11_row_62 : decode cX11_row 62 = .ok (.iload_n 1, 1) := by decide +kernel
theorem dX11_row_63 : decode cX11_row 63 = .ok (.iastore, 1) := by decide +kernel
theorem dX11_row_64 : decode cX11_row 64 = .ok (.aload_n 0, 1) := by decide +kernel
theorem dX11_row_65 : decode cX11_row 65 = .ok (.getfield 42, 3) := by decide +kernel
theorem dX11_row_68 : decode cX11_row 68 = .ok (.bipush 122, 2) := by decide +kernel
theorem dX11_row_70 : decode cX11_row 70 = .ok (.iconst 2, 1) := by decide +kernel
theorem dX11_row_71 : decode cX11_row 71 = .ok (.aload_n 0, 1) := by decide +kernel
theorem dX11_row_72 : decode cX11_row 72 = .ok (.getfield 42, 3) := by decide +kernel
theorem dX11_row_75 : decode cX11_row 75 = .ok (.bipush 6, 2) := by decide +kernel
theorem dX11_row_77 : decode cX11_row 77 = .ok (.iaload, 1) := by decide +kernel
theorem dX11_row_78 : decode cX11_row 78 = .ok (.imul, 1) := by decide +kernel
theorem dX11_row_79 : decode cX11_row 79 = .ok (.iadd, 1) := by decide +kernel
theorem dX11_row_80 : decode cX11_row 80 = .ok (.iconst 1, 1) := by decide +kernel
theorem dX11_row_81 : decode cX11_row 81 = .ok (.iadd, 1) := by decide +kernel
theorem dX11_row_82 : decode cX11_row 82 = .ok (.iload_n 2, 1) := by decide +kernel
theorem dX11_row_83 : decode cX11_row 83 = .ok (.iastore, 1) := by decide +kernel
theorem dX11_row_84 : decode cX11_row 84 = .ok (.aload_n 0, 1) := by decide +kernel
theorem dX11_row_85 : decode cX11_row 85 = .ok (.getfield 42, 3) := by decide +kernel
theorem dX11_row_88 : decode cX11_row 88 = .ok (.bipush 6, 2) := by decide +kernel
theorem dX11_row_90 : decode cX11_row 90 = .ok (.dup2, 1) := by decide +kernel
theorem dX11_row_91 : decode cX11_row 91 = .ok (.iaload, 1) := by decide +kernel
theorem dX11_row_92 : decode cX11_row 92 = .ok (.iconst 1, 1) := by decide +kernel
theorem dX11_row_93 : decode cX11_row 93 = .ok (.iadd, 1) := by decide +kernel
theorem dX11_row_94 : decode cX11_row 94 = .ok (.iastore, 1) := by decide +kernel
theorem dX11_row_95 : decode cX11_row 95 = .ok (.aload_n 0, 1) := by decide +kernel
theorem dX11_row_96 : decode cX11_row 96 = .ok (.getfield 42, 3) := by decide +kernel
theorem dX11_row_99 : decode cX11_row 99 = .ok (.bipush 6, 2) := by decide +kernel
theorem dX11_row_101 : decode cX11_row 101 = .ok (.iaload, 1) := by decide +kernel
theorem dX11_row_102 : decode cX11_row 102 = .ok (.ireturn, 1) := by decide +kernel
theorem dX11_rowBegins_0 : decode cX11_rowBegins 0 = .ok (.aload_n 0, 1) := by decide +kernel
theorem dX11_rowBegins_1 : decode cX11_rowBegins 1 = .ok (.aload_n 0, 1) := by decide +kernel
theorem dX11_rowBegins_2 : decode cX11_rowBegins 2 = .ok (.getfield 42, 3) := by decide +kernel
theorem dX11_rowBegins_5 : decode cX11_rowBegins 5 = .ok (.iconst 2, 1) := by decide +kernel
theorem dX11_rowBegins_6 : decode cX11_rowBegins 6 = .ok (.iaload, 1) := by decide +kernel
theorem dX11_rowBegins_7 : decode cX11_rowBegins 7 = .ok (.putfield 400, 3) := by decide +kernel
theorem dX11_rowBegins_10 : decode cX11_rowBegins 10 = .ok (.iconst 0, 1) := by decide +kernel
theorem dX11_rowBegins_11 : decode cX11_rowBegins 11 = .ok (.istore_n 1, 1) := by decide +kernel
theorem dX11_rowBegins_12 : decode cX11_rowBegins 12 = .ok (.iload_n 1, 1) := by decide +kernel
theorem dX11_rowBegins_13 : decode cX11_rowBegins 13 = .ok (.aload_n 0, 1) := by decide +kernel
theorem dX11_rowBegins_14 : decode cX11_rowBegins 14 = .ok (.getfield 42, 3) := by decide +kernel
theorem dX11_rowBegins_17 : decode cX11_rowBegins 17 = .ok (.iconst 1, 1) := by decide +kernel
theorem dX11_rowBegins_18 : decode cX11_rowBegins 18 = .ok (.iaload, 1) := by decide +kernel
theorem dX11_rowBegins_19 : decode cX11_rowBegins 19 = .ok (.if_icmp .ge 21, 3) := by decide +kernel
theorem dX11_rowBegins_22 : decode cX11_rowBegins 22 = .ok (.aload_n 0, 1) := by decide +kernel
theorem dX11_rowBegins_23 : decode cX11_rowBegins 23 = .ok (.getfield 77, 3) := by decide +kernel
theorem dX11_rowBegins_26 : decode cX11_rowBegins 26 = .ok (.iload_n 1, 1) := by decide +kernel
theorem dX11_rowBegins_27 : decode cX11_rowBegins 27 = .ok (.aload_n 0, 1) := by decide +kernel
theorem dX11_rowBegins_28 : decode cX11_rowBegins 28 = .ok (.iload_n 1, 1) := by decide +kernel
theorem dX11_rowBegins_29 : decode cX11_rowBegins 29 = .ok (.iconst 0, 1) := by decide +kernel
theorem dX11_rowBegins_30 : decode cX11_rowBegins 30 = .ok (.invokevirtual 279, 3) := by decide +kernel
theorem dX11_rowBegins_33 : decode cX11_rowBegins 33 = .ok (.iastore, 1) := by decide +kernel
theorem dX11_rowBegins_34 : decode cX11_rowBegins 34 = .ok (.iinc 1 1, 3) := by decide +kernel
theorem dX11_rowBegins_37 : decode cX11_rowBegins 37 = .ok (.goto (-25), 3) := by decide +kernel
theorem dX11_rowBegins_40 : decode cX11_rowBegins 40 = .ok (.return_, 1) := by decide +kernel
theorem dX11_rowGoes_0 : decode cX11_rowGoes 0 = .ok (.aload_n 0, 1) := by decide +kernel
theorem dX11_rowGoes_1 : decode cX11_rowGoes 1 = .ok (.getfield 42, 3) := by decide +kernel
theorem dX11_rowGoes_4 : decode cX11_rowGoes 4 = .ok (.bipush 122, 2) := by decide +kernel
theorem dX11_rowGoes_6 : decode cX11_rowGoes 6 = .ok (.iconst 2, 1) := by decide +kernel
theorem dX11_rowGoes_7 : decode cX11_rowGoes 7 = .ok (.iload_n 1, 1) := by decide +kernel
theorem dX11_rowGoes_8 : decode cX11_rowGoes 8 = .ok (.imul, 1) := by decide +kernel
theorem dX11_rowGoes_9 : decode cX11_rowGoes 9 = .ok (.iadd, 1) := by decide +kernel
theorem dX11_rowGoes_10 : decode cX11_rowGoes 10 = .ok (.iaload, 1) := by decide +kernel
theorem dX11_rowGoes_11 : decode cX11_rowGoes 11 = .ok (.istore_n 2, 1) := by decide +kernel
theorem dX11_rowGoes_12 : decode cX11_rowGoes 12 = .ok (.aload_n 0, 1) := by decide +kernel
theorem dX11_rowGoes_13 : decode cX11_rowGoes 13 = .ok (.getfield 42, 3) := by decide +kernel
theorem dX11_rowGoes_16 : decode cX11_rowGoes 16 = .ok (.bipush 122, 2) := by decide +kernel
theorem dX11_rowGoes_18 : decode cX11_rowGoes 18 = .ok (.iconst 2, 1) := by decide +kernel
theorem dX11_rowGoes_19 : decode cX11_rowGoes 19 = .ok (.iload_n 1, 1) := by decide +kernel
theorem dX11_rowGoes_20 : decode cX11_rowGoes 20 = .ok (.imul, 1) := by decide +kernel
theorem dX11_rowGoes_21 : decode cX11_rowGoes 21 = .ok (.iadd, 1) := by decide +kernel
theorem dX11_rowGoes_22 : decode cX11_rowGoes 22 = .ok (.iconst 1, 1) := by decide +kernel
theorem dX11_rowGoes_23 : decode cX11_rowGoes 23 = .ok (.iadd, 1) := by decide +kernel
theorem dX11_rowGoes_24 : decode cX11_rowGoes 24 = .ok (.iaload, 1) := by decide +kernel
theorem dX11_rowGoes_25 : decode cX11_rowGoes 25 = .ok (.istore_n 3, 1) := by decide +kernel
theorem dX11_rowGoes_26 : decode cX11_rowGoes 26 = .ok (.aload_n 0, 1) := by decide +kernel
theorem dX11_rowGoes_27 : decode cX11_rowGoes 27 = .ok (.getfield 77, 3) := by decide +kernel
theorem dX11_rowGoes_30 : decode cX11_rowGoes 30 = .ok (.iload_n 2, 1) := by decide +kernel
theorem dX11_rowGoes_31 : decode cX11_rowGoes 31 = .ok (.iaload, 1) := by decide +kernel
theorem dX11_rowGoes_32 : decode cX11_rowGoes 32 = .ok (.bipush 8, 2) := by decide +kernel
theorem dX11_rowGoes_34 : decode cX11_rowGoes 34 = .ok (.if_icmp .eq 30, 3) := by decide +kernel
theorem dX11_rowGoes_37 : decode cX11_rowGoes 37 = .ok (.aload_n 0, 1) := by decide +kernel
theorem dX11_rowGoes_38 : decode cX11_rowGoes 38 = .ok (.iload_n 3, 1) := by decide +kernel
theorem dX11_rowGoes_39 : decode cX11_rowGoes 39 = .ok (.invokevirtual 294, 3) := by decide +kernel
theorem dX11_rowGoes_42 : decode cX11_rowGoes 42 = .ok (.ifCond .gt 22, 3) := by decide +kernel
theorem dX11_rowGoes_45 : decode cX11_rowGoes 45 = .ok (.aload_n 0, 1) := by decide +kernel
theorem dX11_rowGoes_46 : decode cX11_rowGoes 46 = .ok (.aload_n 0, 1) := by decide +kernel
theorem dX11_rowGoes_47 : decode cX11_rowGoes 47 = .ok (.getfield 400, 3) := by decide +kernel
theorem dX11_rowGoes_50 : decode cX11_rowGoes 50 = .ok (.iload_n 3, 1) := by decide +kernel
theorem dX11_rowGoes_51 : decode cX11_rowGoes 51 = .ok (.iconst 0, 1) := by decide +kernel
theorem dX11_rowGoes_52 : decode cX11_rowGoes 52 = .ok (.invokevirtual 285, 3) := by decide +kernel
theorem dX11_rowGoes_55 : decode cX11_rowGoes 55 = .ok (.aload_n 0, 1) := by decide +kernel
theorem dX11_rowGoes_56 : decode cX11_rowGoes 56 = .ok (.getfield 77, 3) := by decide +kernel
theorem dX11_rowGoes_59 : decode cX11_rowGoes 59 = .ok (.iload_n 2, 1) := by decide +kernel
theorem dX11_rowGoes_60 : decode cX11_rowGoes 60 = .ok (.iaload, 1) := by decide +kernel
theorem dX11_rowGoes_61 : decode cX11_rowGoes 61 = .ok (.if_icmp .eq 5, 3) := by decide +kernel
theorem dX11_rowGoes_64 : decode cX11_rowGoes 64 = .ok (.iconst 0, 1) := by decide +kernel
theorem dX11_rowGoes_65 : decode cX11_rowGoes 65 = .ok (.ireturn, 1) := by decide +kernel
theorem dX11_rowGoes_66 : decode cX11_rowGoes 66 = .ok (.aload_n 0, 1) := by decide +kernel
theorem dX11_rowGoes_67 : decode cX11_rowGoes 67 = .ok (.getfield 77, 3) := by decide +kernel
theorem dX11_rowGoes_70 : decode cX11_rowGoes 70 = .ok (.iload_n 2, 1) := by decide +kernel
theorem dX11_rowGoes_71 : decode cX11_rowGoes 71 = .ok (.aload_n 0, 1) := by decide +kernel
theorem dX11_rowGoes_72 : decode cX11_rowGoes 72 = .ok (.aload_n 0, 1) := by decide +kernel
theorem dX11_rowGoes_73 : decode cX11_rowGoes 73 = .ok (.getfield 400, 3) := by decide +kernel
theorem dX11_rowGoes_76 : decode cX11_rowGoes 76 = .ok (.iload_n 3, 1) := by decide +kernel
theorem dX11_rowGoes_77 : decode cX11_rowGoes 77 = .ok (.iconst 1, 1) := by decide +kernel
theorem dX11_rowGoes_78 : decode cX11_rowGoes 78 = .ok (.invokevirtual 285, 3) := by decide +kernel
theorem dX11_rowGoes_81 : decode cX11_rowGoes 81 = .ok (.iastore, 1) := by decide +kernel
theorem dX11_rowGoes_82 : decode cX11_rowGoes 82 = .ok (.aload_n 0, 1) := by decide +kernel
theorem dX11_rowGoes_83 : decode cX11_rowGoes 83 = .ok (.dup, 1) := by decide +kernel
theorem dX11_rowGoes_84 : decode cX11_rowGoes 84 = .ok (.getfield 400, 3) := by decide +kernel
theorem dX11_rowGoes_87 : decode cX11_rowGoes 87 = .ok (.iconst 1, 1) := by decide +kernel
theorem dX11_rowGoes_88 : decode cX11_rowGoes 88 = .ok (.iload_n 3, 1) := by decide +kernel
theorem dX11_rowGoes_89 : decode cX11_rowGoes 89 = .ok (.ishl, 1) := by decide +kernel
theorem dX11_rowGoes_90 : decode cX11_rowGoes 90 = .ok (.ixor, 1) := by decide +kernel
theorem dX11_rowGoes_91 : decode cX11_rowGoes 91 = .ok (.putfield 400, 3) := by decide +kernel
theorem dX11_rowGoes_94 : decode cX11_rowGoes 94 = .ok (.iconst 1, 1) := by decide +kernel
theorem dX11_rowGoes_95 : decode cX11_rowGoes 95 = .ok (.ireturn, 1) := by decide +kernel
theorem dX11_rowState_0 : decode cX11_rowState 0 = .ok (.aload_n 0, 1) := by decide +kernel
theorem dX11_rowState_1 : decode cX11_rowState 1 = .ok (.getfield 400, 3) := by decide +kernel
theorem dX11_rowState_4 : decode cX11_rowState 4 = .ok (.i2l, 1) := by decide +kernel
theorem dX11_rowState_5 : decode cX11_rowState 5 = .ok (.lstore_n 1, 1) := by decide +kernel
theorem dX11_rowState_6 : decode cX11_rowState 6 = .ok (.iconst 0, 1) := by decide +kernel
theorem dX11_rowState_7 : decode cX11_rowState 7 = .ok (.istore_n 3, 1) := by decide +kernel
theorem dX11_rowState_8 : decode cX11_rowState 8 = .ok (.iload_n 3, 1) := by decide +kernel
theorem dX11_rowState_9 : decode cX11_rowState 9 = .ok (.aload_n 0, 1) := by decide +kernel
theorem dX11_rowState_10 : decode cX11_rowState 10 = .ok (.getfield 42, 3) := by decide +kernel
theorem dX11_rowState_13 : decode cX11_rowState 13 = .ok (.iconst 1, 1) := by decide +kernel
theorem dX11_rowState_14 : decode cX11_rowState 14 = .ok (.iaload, 1) := by decide +kernel
theorem dX11_rowState_15 : decode cX11_rowState 15 = .ok (.if_icmp .ge 23, 3) := by decide +kernel
theorem dX11_rowState_18 : decode cX11_rowState 18 = .ok (.lload_n 1, 1) := by decide +kernel
theorem dX11_rowState_19 : decode cX11_rowState 19 = .ok (.ldc2_w 395, 3) := by decide +kernel
theorem dX11_rowState_22 : decode cX11_rowState 22 = .ok (.lmul, 1) := by decide +kernel
theorem dX11_rowState_23 : decode cX11_rowState 23 = .ok (.aload_n 0, 1) := by decide +kernel
theorem dX11_rowState_24 : decode cX11_rowState 24 = .ok (.getfield 77, 3) := by decide +kernel
theorem dX11_rowState_27 : decode cX11_rowState 27 = .ok (.iload_n 3, 1) := by decide +kernel
theorem dX11_rowState_28 : decode cX11_rowState 28 = .ok (.iaload, 1) := by decide +kernel
theorem dX11_rowState_29 : decode cX11_rowState 29 = .ok (.i2l, 1) := by decide +kernel
theorem dX11_rowState_30 : decode cX11_rowState 30 = .ok (.ladd, 1) := by decide +kernel
theorem dX11_rowState_31 : decode cX11_rowState 31 = .ok (.lstore_n 1, 1) := by decide +kernel
theorem dX11_rowState_32 : decode cX11_rowState 32 = .ok (.iinc 3 1, 3) := by decide +kernel
theorem dX11_rowState_35 : decode cX11_rowState 35 = .ok (.goto (-27), 3) := by decide +kernel
theorem dX11_rowState_38 : decode cX11_rowState 38 = .ok (.lload_n 1, 1) := by decide +kernel
theorem dX11_rowState_39 : decode cX11_rowState 39 = .ok (.lreturn, 1) := by decide +kernel
theorem dX11_rule_0 : decode cX11_rule 0 = .ok (.aload_n 0, 1) := by decide +kernel
theorem dX11_rule_1 : decode cX11_rule 1 = .ok (.getfield 250, 3) := by decide +kernel
theorem dX11_rule_4 : decode cX11_rule 4 = .ok (.bipush 6, 2) := by decide +kernel
theorem dX11_rule_6 : decode cX11_rule 6 = .ok (.if_icmp .ne 5, 3) := by decide +kernel
theorem dX11_rule_9 : decode cX11_rule 9 = .ok (.iconst (-1), 1) := by decide +kernel
theorem dX11_rule_10 : decode cX11_rule 10 = .ok (.ireturn, 1) := by decide +kernel
theorem dX11_rule_11 : decode cX11_rule 11 = .ok (.aload_n 0, 1) := by decide +kernel
theorem dX11_rule_12 : decode cX11_rule 12 = .ok (.aload_n 0, 1) := by decide +kernel
theorem dX11_rule_13 : decode cX11_rule 13 = .ok (.getfield 250, 3) := by decide +kernel
theorem dX11_rule_16 : decode cX11_rule 16 = .ok (.putfield 153, 3) := by decide +kernel
theorem dX11_rule_19 : decode cX11_rule 19 = .ok (.aload_n 0, 1) := by decide +kernel
theorem dX11_rule_20 : decode cX11_rule 20 = .ok (.getfield 23, 3) := by decide +kernel
theorem dX11_rule_23 : decode cX11_rule 23 = .ok (.aload_n 0, 1) := by decide +kernel
theorem dX11_rule_24 : decode cX11_rule 24 = .ok (.getfield 153, 3) := by decide +kernel
theorem dX11_rule_27 : decode cX11_rule 27 = .ok (.iconst 0, 1) := by decide +kernel
theorem dX11_rule_28 : decode cX11_rule 28 = .ok (.iastore, 1) := by decide +kernel
theorem dX11_rule_29 : decode cX11_rule 29 = .ok (.aload_n 0, 1) := by decide +kernel
theorem dX11_rule_30 : decode cX11_rule 30 = .ok (.invokevirtual 253, 3) := by decide +kernel
theorem dX11_rule_33 : decode cX11_rule 33 = .ok (.ifCond .ne 11, 3) := by decide +kernel
theorem dX11_rule_36 : decode cX11_rule 36 = .ok (.bipush (-2), 2) := by decide +kernel
theorem dX11_rule_38 : decode cX11_rule 38 = .ok (.aload_n 0, 1) := by decide +kernel
theorem dX11_rule_39 : decode cX11_rule 39 = .ok (.getfield 94, 3) := by decide +kernel
theorem dX11_rule_42 : decode cX11_rule 42 = .ok (.isub, 1) := by decide +kernel
theorem dX11_rule_43 : decode cX11_rule 43 = .ok (.ireturn, 1) := by decide +kernel
theorem dX11_rule_44 : decode cX11_rule 44 = .ok (.aload_n 0, 1) := by decide +kernel
theorem dX11_rule_45 : decode cX11_rule 45 = .ok (.dup, 1) := by decide +kernel
theorem dX11_rule_46 : decode cX11_rule 46 = .ok (.getfield 250, 3) := by decide +kernel
theorem dX11_rule_49 : decode cX11_rule 49 = .ok (.iconst 1, 1) := by decide +kernel
theorem dX11_rule_50 : decode cX11_rule 50 = .ok (.iadd, 1) := by decide +kernel
theorem dX11_rule_51 : decode cX11_rule 51 = .ok (.putfield 250, 3) := by decide +kernel
theorem dX11_rule_54 : decode cX11_rule 54 = .ok (.aload_n 0, 1) := by decide +kernel
theorem dX11_rule_55 : decode cX11_rule 55 = .ok (.getfield 250, 3) := by decide +kernel
theorem dX11_rule_58 : decode cX11_rule 58 = .ok (.iconst 1, 1) := by decide +kernel
theorem dX11_rule_59 : decode cX11_rule 59 = .ok (.isub, 1) := by decide +kernel
theorem dX11_rule_60 : decode cX11_rule 60 = .ok (.ireturn, 1) := by decide +kernel
theorem dX11_searches_0 : decode cX11_searches 0 = .ok (.aload_n 0, 1) := by decide +kernel
theorem dX11_searches_1 : decode cX11_searches 1 = .ok (.invokevirtual 341, 3) := by decide +kernel
theorem dX11_searches_4 : decode cX11_searches 4 = .ok (.istore_n 3, 1) := by decide +kernel
theorem dX11_searches_5 : decode cX11_searches 5 = .ok (.aload_n 0, 1) := by decide +kernel
theorem dX11_searches_6 : decode cX11_searches 6 = .ok (.iload_n 3, 1) := by decide +kernel
theorem dX11_searches_7 : decode cX11_searches 7 = .ok (.iconst (-1), 1) := by decide +kernel
theorem dX11_searches_8 : decode cX11_searches 8 = .ok (.invokevirtual 344, 3) := by decide +kernel
theorem dX11_searches_11 : decode cX11_searches 11 = .ok (.iconst 0, 1) := by decide +kernel
theorem dX11_searches_12 : decode cX11_searches 12 = .ok (.istore 4, 2) := by decide +kernel
theorem dX11_searches_14 : decode cX11_searches 14 = .ok (.iload 4, 2) := by decide +kernel
theorem dX11_searches_16 : decode cX11_searches 16 = .ok (.aload_n 0, 1) := by decide +kernel
theorem dX11_searches_17 : decode cX11_searches 17 = .ok (.getfield 332, 3) := by decide +kernel
theorem dX11_searches_20 : decode cX11_searches 20 = .ok (.if_icmp .ge 184, 3) := by decide +kernel
theorem dX11_searches_23 : decode cX11_searches 23 = .ok (.aload_n 0, 1) := by decide +kernel
theorem dX11_searches_24 : decode cX11_searches 24 = .ok (.getfield 52, 3) := by decide +kernel
theorem dX11_searches_27 : decode cX11_searches 27 = .ok (.iload 4, 2) := by decide +kernel
theorem dX11_searches_29 : decode cX11_searches 29 = .ok (.iaload, 1) := by decide +kernel
theorem dX11_searches_30 : decode cX11_searches 30 = .ok (.istore 5, 2) := by decide +kernel
theorem dX11_searches_32 : decode cX11_searches 32 = .ok (.iload_n 1, 1) := by decide +kernel
theorem dX11_searches_33 : decode cX11_searches 33 = .ok (.ifCond .eq 47, 3) := by decide +kernel
theorem dX11_searches_36 : decode cX11_searches 36 = .ok (.iload_n 2, 1) := by decide +kernel
theorem dX11_searches_37 : decode cX11_searches 37 = .ok (.ifCond .ge 19, 3) := by decide +kernel
theorem dX11_searches_40 : decode cX11_searches 40 = .ok (.aload_n 0, 1) := by decide +kernel
theorem dX11_searches_41 : decode cX11_searches 41 = .ok (.iload 5, 2) := by decide +kernel
theorem dX11_searches_43 : decode cX11_searches 43 = .ok (.aload_n 0, 1) := by decide +kernel
theorem dX11_searches_44 : decode cX11_searches 44 = .ok (.getfield 335, 3) := by decide +kernel
theorem dX11_searches_47 : decode cX11_searches 47 = .ok (.invokevirtual 347, 3) := by decide +kernel
theorem dX11_searches_50 : decode cX11_searches 50 = .ok (.ifCond .eq 30, 3) := by decide +kernel
theorem dX11_searches_53 : decode cX11_searches 53 = .ok (.goto 24, 3) := by decide +kernel
theorem dX11_searches_56 : decode cX11_searches 56 = .ok (.aload_n 0, 1) := by decide +kernel
theorem dX11_searches_57 : decode cX11_searches 57 = .ok (.iload 5, 2) := by decide +kernel
theorem dX11_searches_59 : decode cX11_searches 59 = .ok (.iload_n 2, 1) := by decide +kernel
theorem dX11_searches_60 : decode cX11_searches 60 = .ok (.invokevirtual 338, 3) := by decide +kernel
theorem dX11_searches_63 : decode cX11_searches 63 = .ok (.aload_n 0, 1) := by decide +kernel
theorem dX11_searches_64 : decode cX11_searches 64 = .ok (.aload_n 0, 1) := by decide +kernel
theorem dX11_searches_65 : decode cX11_searches 65 = .ok (.getfield 61, 3) := by decide +kernel
theorem dX11_searches_68 : decode cX11_searches 68 = .ok (.iload_n 2, 1) := by decide +kernel
theorem dX11_searches_69 : decode cX11_searches 69 = .ok (.iaload, 1) := by decide +kernel
theorem dX11_searches_70 : decode cX11_searches 70 = .ok (.iconst 1, 1) := by decide +kernel
theorem dX11_searches_71 : decode cX11_searches 71 = .ok (.invokevirtual 279, 3) := by decide +kernel
theorem dX11_searches_74 : decode cX11_searches 74 = .ok (.if_icmp .ne 6, 3) := by decide +kernel
theorem dX11_searches_77 : decode cX11_searches 77 = .ok (.iload 4, 2) := by decide +kernel
theorem dX11_searches_79 : decode cX11_searches 79 = .ok (.ireturn, 1) := by decide +kernel
theorem dX11_searches_80 : decode cX11_searches 80 = .ok (.iconst 0, 1) := by decide +kernel
theorem dX11_searches_81 : decode cX11_searches 81 = .ok (.istore 6, 2) := by decide +kernel
theorem dX11_searches_83 : decode cX11_searches 83 = .ok (.iload 6, 2) := by decide +kernel
theorem dX11_searches_85 : decode cX11_searches 85 = .ok (.aload_n 0, 1) := by decide +kernel
theorem dX11_searches_86 : decode cX11_searches 86 = .ok (.getfield 335, 3) := by decide +kernel
theorem dX11_searches_89 : decode cX11_searches 89 = .ok (.if_icmp .ge 109, 3) := by decide +kernel
theorem dX11_searches_92 : decode cX11_searches 92 = .ok (.iconst 0, 1) := by decide +kernel
theorem dX11_searches_93 : decode cX11_searches 93 = .ok (.istore 7, 2) := by decide +kernel
theorem dX11_searches_95 : decode cX11_searches 95 = .ok (.iload 7, 2) := by decide +kernel
theorem dX11_searches_97 : decode cX11_searches 97 = .ok (.aload_n 0, 1) := by decide +kernel
theorem dX11_searches_98 : decode cX11_searches 98 = .ok (.getfield 42, 3) := by decide +kernel
theorem dX11_searches_101 : decode cX11_searches 101 = .ok (.iconst 0, 1) := by decide +kernel
theorem dX11_searches_102 : decode cX11_searches 102 = .ok (.iaload, 1) := by decide +kernel
theorem dX11_searches_103 : decode cX11_searches 103 = .ok (.if_icmp .ge 89, 3) := by decide +kernel
theorem dX11_searches_106 : decode cX11_searches 106 = .ok (.aload_n 0, 1) := by decide +kernel
theorem dX11_searches_107 : decode cX11_searches 107 = .ok (.getfield 64, 3) := by decide +kernel
theorem dX11_searches_110 : decode cX11_searches 110 = .ok (.iload 7, 2) := by decide +kernel
theorem dX11_searches_112 : decode cX11_searches 112 = .ok (.baload, 1) := by decide +kernel
theorem dX11_searches_113 : decode cX11_searches 113 = .ok (.ifCond .ne 73, 3) := by decide +kernel
theorem dX11_searches_116 : decode cX11_searches 116 = .ok (.aload_n 0, 1) := by decide +kernel
theorem dX11_searches_117 : decode cX11_searches 117 = .ok (.iload 5, 2) := by decide +kernel
theorem dX11_searches_119 : decode cX11_searches 119 = .ok (.iload 7, 2) := by decide +kernel
theorem dX11_searches_121 : decode cX11_searches 121 = .ok (.iconst 0, 1) := by decide +kernel
theorem dX11_searches_122 : decode cX11_searches 122 = .ok (.invokevirtual 285, 3) := by decide +kernel
theorem dX11_searches_125 : decode cX11_searches 125 = .ok (.aload_n 0, 1) := by decide +kernel
theorem dX11_searches_126 : decode cX11_searches 126 = .ok (.iload 5, 2) := by decide +kernel
theorem dX11_searches_128 : decode cX11_searches 128 = .ok (.iload 6, 2) := by decide +kernel
theorem dX11_searches_130 : decode cX11_searches 130 = .ok (.invokevirtual 338, 3) := by decide +kernel
theorem dX11_searches_133 : decode cX11_searches 133 = .ok (.if_icmp .eq 6, 3) := by decide +kernel
theorem dX11_searches_136 : decode cX11_searches 136 = .ok (.goto 50, 3) := by decide +kernel
theorem dX11_searches_139 : decode cX11_searches 139 = .ok (.aload_n 0, 1) := by decide +kernel
theorem dX11_searches_140 : decode cX11_searches 140 = .ok (.getfield 42, 3) := by decide +kernel
theorem dX11_searches_143 : decode cX11_searches 143 = .ok (.iconst 0, 1) := by decide +kernel
theorem dX11_searches_144 : decode cX11_searches 144 = .ok (.iaload, 1) := by decide +kernel
theorem dX11_searches_145 : decode cX11_searches 145 = .ok (.iconst 3, 1) := by decide +kernel
theorem dX11_searches_146 : decode cX11_searches 146 = .ok (.iload 6, 2) := by decide +kernel
theorem dX11_searches_148 : decode cX11_searches 148 = .ok (.imul, 1) := by decide +kernel
theorem dX11_searches_149 : decode cX11_searches 149 = .ok (.iadd, 1) := by decide +kernel
theorem dX11_searches_150 : decode cX11_searches 150 = .ok (.istore 8, 2) := by decide +kernel
theorem dX11_searches_152 : decode cX11_searches 152 = .ok (.aload_n 0, 1) := by decide +kernel
theorem dX11_searches_153 : decode cX11_searches 153 = .ok (.iload 5, 2) := by decide +kernel
theorem dX11_searches_155 : decode cX11_searches 155 = .ok (.iconst 1, 1) := by decide +kernel
theorem dX11_searches_156 : decode cX11_searches 156 = .ok (.iload 7, 2) := by decide +kernel
theorem dX11_searches_158 : decode cX11_searches 158 = .ok (.ishl, 1) := by decide +kernel
theorem dX11_searches_159 : decode cX11_searches 159 = .ok (.ixor, 1) := by decide +kernel
theorem dX11_searches_160 : decode cX11_searches 160 = .ok (.bipush 7, 2) := by decide +kernel
theorem dX11_searches_162 : decode cX11_searches 162 = .ok (.iload 8, 2) := by decide +kernel
theorem dX11_searches_164 : decode cX11_searches 164 = .ok (.ishl, 1) := by decide +kernel
theorem dX11_searches_165 : decode cX11_searches 165 = .ok (.iconst (-1), 1) := by decide +kernel
theorem dX11_searches_166 : decode cX11_searches 166 = .ok (.ixor, 1) := by decide +kernel
theorem dX11_searches_167 : decode cX11_searches 167 = .ok (.iand, 1) := by decide +kernel
theorem dX11_searches_168 : decode cX11_searches 168 = .ok (.aload_n 0, 1) := by decide +kernel
theorem dX11_searches_169 : decode cX11_searches 169 = .ok (.iload 5, 2) := by decide +kernel
theorem dX11_searches_171 : decode cX11_searches 171 = .ok (.iload 7, 2) := by decide +kernel
theorem dX11_searches_173 : decode cX11_searches 173 = .ok (.iconst 1, 1) := by decide +kernel
theorem dX11_searches_174 : decode cX11_searches 174 = .ok (.invokevirtual 285, 3) := by decide +kernel
theorem dX11_searches_177 : decode cX11_searches 177 = .ok (.iload 8, 2) := by decide +kernel
theorem dX11_searches_179 : decode cX11_searches 179 = .ok (.ishl, 1) := by decide +kernel
theorem dX11_searches_180 : decode cX11_searches 180 = .ok (.ior, 1) := by decide +kernel
theorem dX11_searches_181 : decode cX11_searches 181 = .ok (.iload 4, 2) := by decide +kernel
theorem dX11_searches_183 : decode cX11_searches 183 = .ok (.invokevirtual 344, 3) := by decide +kernel
theorem dX11_searches_186 : decode cX11_searches 186 = .ok (.iinc 7 1, 3) := by decide +kernel
theorem dX11_searches_189 : decode cX11_searches 189 = .ok (.goto (-94), 3) := by decide +kernel
theorem dX11_searches_192 : decode cX11_searches 192 = .ok (.iinc 6 1, 3) := by decide +kernel
theorem dX11_searches_195 : decode cX11_searches 195 = .ok (.goto (-112), 3) := by decide +kernel
theorem dX11_searches_198 : decode cX11_searches 198 = .ok (.iinc 4 1, 3) := by decide +kernel
theorem dX11_searches_201 : decode cX11_searches 201 = .ok (.goto (-187), 3) := by decide +kernel
theorem dX11_searches_204 : decode cX11_searches 204 = .ok (.iconst (-1), 1) := by decide +kernel
theorem dX11_searches_205 : decode cX11_searches 205 = .ok (.ireturn, 1) := by decide +kernel
theorem dX11_see_0 : decode cX11_see 0 = .ok (.aload_n 0, 1) := by decide +kernel
theorem dX11_see_1 : decode cX11_see 1 = .ok (.getfield 97, 3) := by decide +kernel
theorem dX11_see_4 : decode cX11_see 4 = .ok (.aload_n 0, 1) := by decide +kernel
theorem dX11_see_5 : decode cX11_see 5 = .ok (.getfield 86, 3) := by decide +kernel
theorem dX11_see_8 : decode cX11_see 8 = .ok (.if_icmp .ge 30, 3) := by decide +kernel
theorem dX11_see_11 : decode cX11_see 11 = .ok (.aload_n 0, 1) := by decide +kernel
theorem dX11_see_12 : decode cX11_see 12 = .ok (.getfield 7, 3) := by decide +kernel
theorem dX11_see_15 : decode cX11_see 15 = .ok (.aload_n 0, 1) := by decide +kernel
theorem dX11_see_16 : decode cX11_see 16 = .ok (.getfield 97, 3) := by decide +kernel
theorem dX11_see_19 : decode cX11_see 19 = .ok (.baload, 1) := by decide +kernel
theorem dX11_see_20 : decode cX11_see 20 = .ok (.bipush 32, 2) := by decide +kernel
theorem dX11_see_22 : decode cX11_see 22 = .ok (.if_icmp .ne 16, 3) := by decide +kernel
theorem dX11_see_25 : decode cX11_see 25 = .ok (.aload_n 0, 1) := by decide +kernel
theorem dX11_see_26 : decode cX11_see 26 = .ok (.dup, 1) := by decide +kernel
theorem dX11_see_27 : decode cX11_see 27 = .ok (.getfield 97, 3) := by decide +kernel
theorem dX11_see_30 : decode cX11_see 30 = .ok (.iconst 1, 1) := by decide +kernel
theorem dX11_see_31 : decode cX11_see 31 = .ok (.iadd, 1) := by decide +kernel
theorem dX11_see_32 : decode cX11_see 32 = .ok (.putfield 97, 3) := by decide +kernel
theorem dX11_see_35 : decode cX11_see 35 = .ok (.goto (-35), 3) := by decide +kernel
theorem dX11_see_38 : decode cX11_see 38 = .ok (.aload_n 0, 1) := by decide +kernel
theorem dX11_see_39 : decode cX11_see 39 = .ok (.getfield 97, 3) := by decide +kernel
theorem dX11_see_42 : decode cX11_see 42 = .ok (.aload_n 0, 1) := by decide +kernel
theorem dX11_see_43 : decode cX11_see 43 = .ok (.getfield 86, 3) := by decide +kernel
theorem dX11_see_46 : decode cX11_see 46 = .ok (.if_icmp .ge 19, 3) := by decide +kernel
theorem dX11_see_49 : decode cX11_see 49 = .ok (.aload_n 0, 1) := by decide +kernel
theorem dX11_see_50 : decode cX11_see 50 = .ok (.getfield 7, 3) := by decide +kernel
theorem dX11_see_53 : decode cX11_see 53 = .ok (.aload_n 0, 1) := by decide +kernel
theorem dX11_see_54 : decode cX11_see 54 = .ok (.getfield 97, 3) := by decide +kernel
theorem dX11_see_57 : decode cX11_see 57 = .ok (.baload, 1) := by decide +kernel
theorem dX11_see_58 : decode cX11_see 58 = .ok (.sipush 255, 3) := by decide +kernel
theorem dX11_see_61 : decode cX11_see 61 = .ok (.iand, 1) := by decide +kernel
theorem dX11_see_62 : decode cX11_see 62 = .ok (.goto 4, 3) := by decide +kernel
theorem dX11_see_65 : decode cX11_see 65 = .ok (.iconst (-1), 1) := by decide +kernel
theorem dX11_see_66 : decode cX11_see 66 = .ok (.ireturn, 1) := by decide +kernel
theorem dX11_seed_0 : decode cX11_seed 0 = .ok (.iload_n 1, 1) := by decide +kernel
theorem dX11_seed_1 : decode cX11_seed 1 = .ok (.ifCond .ge 5, 3) := by decide +kernel
theorem dX11_seed_4 : decode cX11_seed 4 = .ok (.iconst (-1), 1) := by decide +kernel
theorem dX11_seed_5 : decode cX11_seed 5 = .ok (.ireturn, 1) := by decide +kernel
theorem dX11_seed_6 : decode cX11_seed 6 = .ok (.aload_n 0, 1) := by decide +kernel
theorem dX11_seed_7 : decode cX11_seed 7 = .ok (.getfield 42, 3) := by decide +kernel
theorem dX11_seed_10 : decode cX11_seed 10 = .ok (.bipush 7, 2) := by decide +kernel
theorem dX11_seed_12 : decode cX11_seed 12 = .ok (.iaload, 1) := by decide +kernel
theorem dX11_seed_13 : decode cX11_seed 13 = .ok (.istore_n 2, 1) := by decide +kernel
theorem dX11_seed_14 : decode cX11_seed 14 = .ok (.aload_n 0, 1) := by decide +kernel
theorem dX11_seed_15 : decode cX11_seed 15 = .ok (.getfield 42, 3) := by decide +kernel
theorem dX11_seed_18 : decode cX11_seed 18 = .ok (.bipush 7, 2) := by decide +kernel
theorem dX11_seed_20 : decode cX11_seed 20 = .ok (.iload_n 1, 1) := by decide +kernel
theorem dX11_seed_21 : decode cX11_seed 21 = .ok (.iastore, 1) := by decide +kernel
theorem dX11_seed_22 : decode cX11_seed 22 = .ok (.iload_n 2, 1) := by decide +kernel
theorem dX11_seed_23 : decode cX11_seed 23 = .ok (.ireturn, 1) := by decide +kernel
theorem dX11_settles_0 : decode cX11_settles 0 = .ok (.aload_n 0, 1) := by decide +kernel
theorem dX11_settles_1 : decode cX11_settles 1 = .ok (.getfield 162, 3) := by decide +kernel
theorem dX11_settles_4 : decode cX11_settles 4 = .ok (.ifCond .le 72, 3) := by decide +kernel
theorem dX11_settles_7 : decode cX11_settles 7 = .ok (.aload_n 0, 1) := by decide +kernel
theorem dX11_settles_8 : decode cX11_settles 8 = .ok (.getfield 32, 3) := by decide +kernel
theorem dX11_settles_11 : decode cX11_settles 11 = .ok (.aload_n 0, 1) := by decide +kernel
theorem dX11_settles_12 : decode cX11_settles 12 = .ok (.getfield 162, 3) := by decide +kernel
theorem dX11_settles_15 : decode cX11_settles 15 = .ok (.iconst 1, 1) := by decide +kernel
theorem dX11_settles_16 : decode cX11_settles 16 = .ok (.isub, 1) := by decide +kernel
theorem dX11_settles_17 : decode cX11_settles 17 = .ok (.iaload, 1) := by decide +kernel
theorem dX11_settles_18 : decode cX11_settles 18 = .ok (.invokestatic 165, 3) := by decide +kernel
theorem dX11_settles_21 : decode cX11_settles 21 = .ok (.iload_n 1, 1) := by decide +kernel
theorem dX11_settles_22 : decode cX11_settles 22 = .ok (.if_icmp .lt 54, 3) := by decide +kernel
theorem dX11_settles_25 : decode cX11_settles 25 = .ok (.aload_n 0, 1) := by decide +kernel
