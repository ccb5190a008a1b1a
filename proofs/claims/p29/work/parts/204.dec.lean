theorem dX11_alike_33 : decode cX11_alike 33 = .ok (.iload_n 2, 1) := by decide +kernel
theorem dX11_alike_34 : decode cX11_alike 34 = .ok (.iload 4, 2) := by decide +kernel
theorem dX11_alike_36 : decode cX11_alike 36 = .ok (.iconst 0, 1) := by decide +kernel
theorem dX11_alike_37 : decode cX11_alike 37 = .ok (.invokevirtual 304, 3) := by decide +kernel
theorem dX11_alike_40 : decode cX11_alike 40 = .ok (.aload_n 0, 1) := by decide +kernel
theorem dX11_alike_41 : decode cX11_alike 41 = .ok (.aload_n 0, 1) := by decide +kernel
theorem dX11_alike_42 : decode cX11_alike 42 = .ok (.getfield 42, 3) := by decide +kernel
theorem dX11_alike_45 : decode cX11_alike 45 = .ok (.iconst 2, 1) := by decide +kernel
theorem dX11_alike_46 : decode cX11_alike 46 = .ok (.iaload, 1) := by decide +kernel
theorem dX11_alike_47 : decode cX11_alike 47 = .ok (.iload 4, 2) := by decide +kernel
theorem dX11_alike_49 : decode cX11_alike 49 = .ok (.iconst 0, 1) := by decide +kernel
theorem dX11_alike_50 : decode cX11_alike 50 = .ok (.invokevirtual 304, 3) := by decide +kernel
theorem dX11_alike_53 : decode cX11_alike 53 = .ok (.if_icmp .ne 7, 3) := by decide +kernel
theorem dX11_alike_56 : decode cX11_alike 56 = .ok (.iconst 1, 1) := by decide +kernel
theorem dX11_alike_57 : decode cX11_alike 57 = .ok (.goto 4, 3) := by decide +kernel
theorem dX11_alike_60 : decode cX11_alike 60 = .ok (.iconst 0, 1) := by decide +kernel
theorem dX11_alike_61 : decode cX11_alike 61 = .ok (.istore_n 3, 1) := by decide +kernel
theorem dX11_alike_62 : decode cX11_alike 62 = .ok (.iinc 4 1, 3) := by decide +kernel
theorem dX11_alike_65 : decode cX11_alike 65 = .ok (.goto (-44), 3) := by decide +kernel
theorem dX11_alike_68 : decode cX11_alike 68 = .ok (.iload_n 1, 1) := by decide +kernel
theorem dX11_alike_69 : decode cX11_alike 69 = .ok (.iload_n 3, 1) := by decide +kernel
theorem dX11_alike_70 : decode cX11_alike 70 = .ok (.ifCond .eq 7, 3) := by decide +kernel
theorem dX11_alike_73 : decode cX11_alike 73 = .ok (.iconst 1, 1) := by decide +kernel
theorem dX11_alike_74 : decode cX11_alike 74 = .ok (.goto 4, 3) := by decide +kernel
theorem dX11_alike_77 : decode cX11_alike 77 = .ok (.iconst 0, 1) := by decide +kernel
theorem dX11_alike_78 : decode cX11_alike 78 = .ok (.iadd, 1) := by decide +kernel
theorem dX11_alike_79 : decode cX11_alike 79 = .ok (.istore_n 1, 1) := by decide +kernel
theorem dX11_alike_80 : decode cX11_alike 80 = .ok (.iinc 2 1, 3) := by decide +kernel
theorem dX11_alike_83 : decode cX11_alike 83 = .ok (.goto (-79), 3) := by decide +kernel
theorem dX11_alike_86 : decode cX11_alike 86 = .ok (.iload_n 1, 1) := by decide +kernel
theorem dX11_alike_87 : decode cX11_alike 87 = .ok (.ireturn, 1) := by decide +kernel
theorem dX11_areGoers_0 : decode cX11_areGoers 0 = .ok (.iload_n 1, 1) := by decide +kernel
theorem dX11_areGoers_1 : decode cX11_areGoers 1 = .ok (.iconst 1, 1) := by decide +kernel
theorem dX11_areGoers_2 : decode cX11_areGoers 2 = .ok (.if_icmp .lt 26, 3) := by decide +kernel
theorem dX11_areGoers_5 : decode cX11_areGoers 5 = .ok (.iload_n 1, 1) := by decide +kernel
theorem dX11_areGoers_6 : decode cX11_areGoers 6 = .ok (.iconst 1, 1) := by decide +kernel
theorem dX11_areGoers_7 : decode cX11_areGoers 7 = .ok (.aload_n 0, 1) := by decide +kernel
theorem dX11_areGoers_8 : decode cX11_areGoers 8 = .ok (.getfield 42, 3) := by decide +kernel
theorem dX11_areGoers_11 : decode cX11_areGoers 11 = .ok (.iconst 1, 1) := by decide +kernel
theorem dX11_areGoers_12 : decode cX11_areGoers 12 = .ok (.iaload, 1) := by decide +kernel
theorem dX11_areGoers_13 : decode cX11_areGoers 13 = .ok (.ishl, 1) := by decide +kernel
theorem dX11_areGoers_14 : decode cX11_areGoers 14 = .ok (.if_icmp .ge 14, 3) := by decide +kernel
theorem dX11_areGoers_17 : decode cX11_areGoers 17 = .ok (.aload_n 0, 1) := by decide +kernel
theorem dX11_areGoers_18 : decode cX11_areGoers 18 = .ok (.iload_n 1, 1) := by decide +kernel
theorem dX11_areGoers_19 : decode cX11_areGoers 19 = .ok (.invokestatic 326, 3) := by decide +kernel
theorem dX11_areGoers_22 : decode cX11_areGoers 22 = .ok (.invokevirtual 329, 3) := by decide +kernel
theorem dX11_areGoers_25 : decode cX11_areGoers 25 = .ok (.ifCond .ne 5, 3) := by decide +kernel
theorem dX11_areGoers_28 : decode cX11_areGoers 28 = .ok (.iconst 0, 1) := by decide +kernel
theorem dX11_areGoers_29 : decode cX11_areGoers 29 = .ok (.ireturn, 1) := by decide +kernel
theorem dX11_areGoers_30 : decode cX11_areGoers 30 = .ok (.iconst 0, 1) := by decide +kernel
theorem dX11_areGoers_31 : decode cX11_areGoers 31 = .ok (.istore_n 2, 1) := by decide +kernel
theorem dX11_areGoers_32 : decode cX11_areGoers 32 = .ok (.iload_n 2, 1) := by decide +kernel
theorem dX11_areGoers_33 : decode cX11_areGoers 33 = .ok (.aload_n 0, 1) := by decide +kernel
theorem dX11_areGoers_34 : decode cX11_areGoers 34 = .ok (.getfield 42, 3) := by decide +kernel
theorem dX11_areGoers_37 : decode cX11_areGoers 37 = .ok (.iconst 1, 1) := by decide +kernel
theorem dX11_areGoers_38 : decode cX11_areGoers 38 = .ok (.iaload, 1) := by decide +kernel
theorem dX11_areGoers_39 : decode cX11_areGoers 39 = .ok (.if_icmp .ge 28, 3) := by decide +kernel
theorem dX11_areGoers_42 : decode cX11_areGoers 42 = .ok (.iload_n 1, 1) := by decide +kernel
theorem dX11_areGoers_43 : decode cX11_areGoers 43 = .ok (.iload_n 2, 1) := by decide +kernel
theorem dX11_areGoers_44 : decode cX11_areGoers 44 = .ok (.ishr, 1) := by decide +kernel
theorem dX11_areGoers_45 : decode cX11_areGoers 45 = .ok (.iconst 1, 1) := by decide +kernel
theorem dX11_areGoers_46 : decode cX11_areGoers 46 = .ok (.iand, 1) := by decide +kernel
theorem dX11_areGoers_47 : decode cX11_areGoers 47 = .ok (.iconst 1, 1) := by decide +kernel
theorem dX11_areGoers_48 : decode cX11_areGoers 48 = .ok (.if_icmp .ne 13, 3) := by decide +kernel
theorem dX11_areGoers_51 : decode cX11_areGoers 51 = .ok (.aload_n 0, 1) := by decide +kernel
theorem dX11_areGoers_52 : decode cX11_areGoers 52 = .ok (.iload_n 2, 1) := by decide +kernel
theorem dX11_areGoers_53 : decode cX11_areGoers 53 = .ok (.invokevirtual 313, 3) := by decide +kernel
theorem dX11_areGoers_56 : decode cX11_areGoers 56 = .ok (.ifCond .ne 5, 3) := by decide +kernel
theorem dX11_areGoers_59 : decode cX11_areGoers 59 = .ok (.iconst 0, 1) := by decide +kernel
theorem dX11_areGoers_60 : decode cX11_areGoers 60 = .ok (.ireturn, 1) := by decide +kernel
theorem dX11_areGoers_61 : decode cX11_areGoers 61 = .ok (.iinc 2 1, 3) := by decide +kernel
theorem dX11_areGoers_64 : decode cX11_areGoers 64 = .ok (.goto (-32), 3) := by decide +kernel
theorem dX11_areGoers_67 : decode cX11_areGoers 67 = .ok (.iconst 1, 1) := by decide +kernel
theorem dX11_areGoers_68 : decode cX11_areGoers 68 = .ok (.ireturn, 1) := by decide +kernel
theorem dX11_areHome_0 : decode cX11_areHome 0 = .ok (.iconst 0, 1) := by decide +kernel
theorem dX11_areHome_1 : decode cX11_areHome 1 = .ok (.istore_n 3, 1) := by decide +kernel
theorem dX11_areHome_2 : decode cX11_areHome 2 = .ok (.iload_n 3, 1) := by decide +kernel
theorem dX11_areHome_3 : decode cX11_areHome 3 = .ok (.iload_n 2, 1) := by decide +kernel
theorem dX11_areHome_4 : decode cX11_areHome 4 = .ok (.if_icmp .ge 31, 3) := by decide +kernel
theorem dX11_areHome_7 : decode cX11_areHome 7 = .ok (.aload_n 0, 1) := by decide +kernel
theorem dX11_areHome_8 : decode cX11_areHome 8 = .ok (.iload_n 1, 1) := by decide +kernel
theorem dX11_areHome_9 : decode cX11_areHome 9 = .ok (.iload_n 3, 1) := by decide +kernel
theorem dX11_areHome_10 : decode cX11_areHome 10 = .ok (.invokevirtual 338, 3) := by decide +kernel
theorem dX11_areHome_13 : decode cX11_areHome 13 = .ok (.aload_n 0, 1) := by decide +kernel
theorem dX11_areHome_14 : decode cX11_areHome 14 = .ok (.aload_n 0, 1) := by decide +kernel
theorem dX11_areHome_15 : decode cX11_areHome 15 = .ok (.getfield 61, 3) := by decide +kernel
theorem dX11_areHome_18 : decode cX11_areHome 18 = .ok (.iload_n 3, 1) := by decide +kernel
theorem dX11_areHome_19 : decode cX11_areHome 19 = .ok (.iaload, 1) := by decide +kernel
theorem dX11_areHome_20 : decode cX11_areHome 20 = .ok (.iconst 1, 1) := by decide +kernel
theorem dX11_areHome_21 : decode cX11_areHome 21 = .ok (.invokevirtual 279, 3) := by decide +kernel
theorem dX11_areHome_24 : decode cX11_areHome 24 = .ok (.if_icmp .eq 5, 3) := by decide +kernel
theorem dX11_areHome_27 : decode cX11_areHome 27 = .ok (.iconst 0, 1) := by decide +kernel
theorem dX11_areHome_28 : decode cX11_areHome 28 = .ok (.ireturn, 1) := by decide +kernel
theorem dX11_areHome_29 : decode cX11_areHome 29 = .ok (.iinc 3 1, 3) := by decide +kernel
theorem dX11_areHome_32 : decode cX11_areHome 32 = .ok (.goto (-30), 3) := by decide +kernel
theorem dX11_areHome_35 : decode cX11_areHome 35 = .ok (.iconst 1, 1) := by decide +kernel
theorem dX11_areHome_36 : decode cX11_areHome 36 = .ok (.ireturn, 1) := by decide +kernel
theorem dX11_arrived_0 : decode cX11_arrived 0 = .ok (.iconst 0, 1) := by decide +kernel
theorem dX11_arrived_1 : decode cX11_arrived 1 = .ok (.istore_n 1, 1) := by decide +kernel
theorem dX11_arrived_2 : decode cX11_arrived 2 = .ok (.iconst 0, 1) := by decide +kernel
theorem dX11_arrived_3 : decode cX11_arrived 3 = .ok (.istore_n 2, 1) := by decide +kernel
theorem dX11_arrived_4 : decode cX11_arrived 4 = .ok (.iload_n 2, 1) := by decide +kernel
theorem dX11_arrived_5 : decode cX11_arrived 5 = .ok (.aload_n 0, 1) := by decide +kernel
theorem dX11_arrived_6 : decode cX11_arrived 6 = .ok (.getfield 42, 3) := by decide +kernel
theorem dX11_arrived_9 : decode cX11_arrived 9 = .ok (.iconst 1, 1) := by decide +kernel
theorem dX11_arrived_10 : decode cX11_arrived 10 = .ok (.iaload, 1) := by decide +kernel
theorem dX11_arrived_11 : decode cX11_arrived 11 = .ok (.if_icmp .ge 32, 3) := by decide +kernel
theorem dX11_arrived_14 : decode cX11_arrived 14 = .ok (.iload_n 1, 1) := by decide +kernel
theorem dX11_arrived_15 : decode cX11_arrived 15 = .ok (.aload_n 0, 1) := by decide +kernel
theorem dX11_arrived_16 : decode cX11_arrived 16 = .ok (.iload_n 2, 1) := by decide +kernel
theorem dX11_arrived_17 : decode cX11_arrived 17 = .ok (.iconst 0, 1) := by decide +kernel
theorem dX11_arrived_18 : decode cX11_arrived 18 = .ok (.invokevirtual 279, 3) := by decide +kernel
theorem dX11_arrived_21 : decode cX11_arrived 21 = .ok (.aload_n 0, 1) := by decide +kernel
theorem dX11_arrived_22 : decode cX11_arrived 22 = .ok (.iload_n 2, 1) := by decide +kernel
theorem dX11_arrived_23 : decode cX11_arrived 23 = .ok (.iconst 1, 1) := by decide +kernel
theorem dX11_arrived_24 : decode cX11_arrived 24 = .ok (.invokevirtual 279, 3) := by decide +kernel
theorem dX11_arrived_27 : decode cX11_arrived 27 = .ok (.if_icmp .ne 7, 3) := by decide +kernel
theorem dX11_arrived_30 : decode cX11_arrived 30 = .ok (.iconst 1, 1) := by decide +kernel
theorem dX11_arrived_31 : decode cX11_arrived 31 = .ok (.goto 4, 3) := by decide +kernel
theorem dX11_arrived_34 : decode cX11_arrived 34 = .ok (.iconst 0, 1) := by decide +kernel
theorem dX11_arrived_35 : decode cX11_arrived 35 = .ok (.iadd, 1) := by decide +kernel
theorem dX11_arrived_36 : decode cX11_arrived 36 = .ok (.istore_n 1, 1) := by decide +kernel
theorem dX11_arrived_37 : decode cX11_arrived 37 = .ok (.iinc 2 1, 3) := by decide +kernel
theorem dX11_arrived_40 : decode cX11_arrived 40 = .ok (.goto (-36), 3) := by decide +kernel
theorem dX11_arrived_43 : decode cX11_arrived 43 = .ok (.iload_n 1, 1) := by decide +kernel
theorem dX11_arrived_44 : decode cX11_arrived 44 = .ok (.ireturn, 1) := by decide +kernel
theorem dX11_arrives_0 : decode cX11_arrives 0 = .ok (.aload_n 0, 1) := by decide +kernel
theorem dX11_arrives_1 : decode cX11_arrives 1 = .ok (.getfield 42, 3) := by decide +kernel
theorem dX11_arrives_4 : decode cX11_arrives 4 = .ok (.iconst 2, 1) := by decide +kernel
theorem dX11_arrives_5 : decode cX11_arrives 5 = .ok (.dup2, 1) := by decide +kernel
theorem dX11_arrives_6 : decode cX11_arrives 6 = .ok (.iaload, 1) := by decide +kernel
theorem dX11_arrives_7 : decode cX11_arrives 7 = .ok (.iconst 1, 1) := by decide +kernel
theorem dX11_arrives_8 : decode cX11_arrives 8 = .ok (.iload_n 2, 1) := by decide +kernel
theorem dX11_arrives_9 : decode cX11_arrives 9 = .ok (.ishl, 1) := by decide +kernel
theorem dX11_arrives_10 : decode cX11_arrives 10 = .ok (.ixor, 1) := by decide +kernel
theorem dX11_arrives_11 : decode cX11_arrives 11 = .ok (.iastore, 1) := by decide +kernel
theorem dX11_arrives_12 : decode cX11_arrives 12 = .ok (.aload_n 0, 1) := by decide +kernel
theorem dX11_arrives_13 : decode cX11_arrives 13 = .ok (.getfield 42, 3) := by decide +kernel
theorem dX11_arrives_16 : decode cX11_arrives 16 = .ok (.iconst 3, 1) := by decide +kernel
theorem dX11_arrives_17 : decode cX11_arrives 17 = .ok (.dup2, 1) := by decide +kernel
theorem dX11_arrives_18 : decode cX11_arrives 18 = .ok (.iaload, 1) := by decide +kernel
theorem dX11_arrives_19 : decode cX11_arrives 19 = .ok (.iconst 1, 1) := by decide +kernel
theorem dX11_arrives_20 : decode cX11_arrives 20 = .ok (.iadd, 1) := by decide +kernel
theorem dX11_arrives_21 : decode cX11_arrives 21 = .ok (.iastore, 1) := by decide +kernel
theorem dX11_arrives_22 : decode cX11_arrives 22 = .ok (.aload_n 0, 1) := by decide +kernel
theorem dX11_arrives_23 : decode cX11_arrives 23 = .ok (.getfield 42, 3) := by decide +kernel
theorem dX11_arrives_26 : decode cX11_arrives 26 = .ok (.bipush 10, 2) := by decide +kernel
theorem dX11_arrives_28 : decode cX11_arrives 28 = .ok (.iconst 5, 1) := by decide +kernel
theorem dX11_arrives_29 : decode cX11_arrives 29 = .ok (.iload_n 2, 1) := by decide +kernel
theorem dX11_arrives_30 : decode cX11_arrives 30 = .ok (.imul, 1) := by decide +kernel
theorem dX11_arrives_31 : decode cX11_arrives 31 = .ok (.iadd, 1) := by decide +kernel
theorem dX11_arrives_32 : decode cX11_arrives 32 = .ok (.iconst 3, 1) := by decide +kernel
theorem dX11_arrives_33 : decode cX11_arrives 33 = .ok (.iadd, 1) := by decide +kernel
theorem dX11_arrives_34 : decode cX11_arrives 34 = .ok (.dup2, 1) := by decide +kernel
theorem dX11_arrives_35 : decode cX11_arrives 35 = .ok (.iaload, 1) := by decide +kernel
theorem dX11_arrives_36 : decode cX11_arrives 36 = .ok (.iconst 1, 1) := by decide +kernel
theorem dX11_arrives_37 : decode cX11_arrives 37 = .ok (.iadd, 1) := by decide +kernel
theorem dX11_arrives_38 : decode cX11_arrives 38 = .ok (.iastore, 1) := by decide +kernel
theorem dX11_arrives_39 : decode cX11_arrives 39 = .ok (.aload_n 0, 1) := by decide +kernel
theorem dX11_arrives_40 : decode cX11_arrives 40 = .ok (.getfield 42, 3) := by decide +kernel
theorem dX11_arrives_43 : decode cX11_arrives 43 = .ok (.bipush 10, 2) := by decide +kernel
theorem dX11_arrives_45 : decode cX11_arrives 45 = .ok (.iconst 5, 1) := by decide +kernel
theorem dX11_arrives_46 : decode cX11_arrives 46 = .ok (.iload_n 2, 1) := by decide +kernel
theorem dX11_arrives_47 : decode cX11_arrives 47 = .ok (.imul, 1) := by decide +kernel
theorem dX11_arrives_48 : decode cX11_arrives 48 = .ok (.iadd, 1) := by decide +kernel
theorem dX11_arrives_49 : decode cX11_arrives 49 = .ok (.iconst 4, 1) := by decide +kernel
theorem dX11_arrives_50 : decode cX11_arrives 50 = .ok (.iadd, 1) := by decide +kernel
theorem dX11_arrives_51 : decode cX11_arrives 51 = .ok (.aload_n 0, 1) := by decide +kernel
theorem dX11_arrives_52 : decode cX11_arrives 52 = .ok (.getfield 42, 3) := by decide +kernel
theorem dX11_arrives_55 : decode cX11_arrives 55 = .ok (.iconst 3, 1) := by decide +kernel
theorem dX11_arrives_56 : decode cX11_arrives 56 = .ok (.iaload, 1) := by decide +kernel
theorem dX11_arrives_57 : decode cX11_arrives 57 = .ok (.iastore, 1) := by decide +kernel
theorem dX11_arrives_58 : decode cX11_arrives 58 = .ok (.bipush 80, 2) := by decide +kernel
theorem dX11_arrives_60 : decode cX11_arrives 60 = .ok (.bipush 7, 2) := by decide +kernel
theorem dX11_arrives_62 : decode cX11_arrives 62 = .ok (.iload_n 1, 1) := by decide +kernel
theorem dX11_arrives_63 : decode cX11_arrives 63 = .ok (.imul, 1) := by decide +kernel
theorem dX11_arrives_64 : decode cX11_arrives 64 = .ok (.iadd, 1) := by decide +kernel
theorem dX11_arrives_65 : decode cX11_arrives 65 = .ok (.istore 5, 2) := by decide +kernel
theorem dX11_arrives_67 : decode cX11_arrives 67 = .ok (.aload_n 0, 1) := by decide +kernel
theorem dX11_arrives_68 : decode cX11_arrives 68 = .ok (.getfield 42, 3) := by decide +kernel
theorem dX11_arrives_71 : decode cX11_arrives 71 = .ok (.iload 5, 2) := by decide +kernel
theorem dX11_arrives_73 : decode cX11_arrives 73 = .ok (.iload_n 3, 1) := by decide +kernel
theorem dX11_arrives_74 : decode cX11_arrives 74 = .ok (.iastore, 1) := by decide +kernel
theorem dX11_arrives_75 : decode cX11_arrives 75 = .ok (.aload_n 0, 1) := by decide +kernel
theorem dX11_arrives_76 : decode cX11_arrives 76 = .ok (.getfield 42, 3) := by decide +kernel
theorem dX11_arrives_79 : decode cX11_arrives 79 = .ok (.iload 5, 2) := by decide +kernel
theorem dX11_arrives_81 : decode cX11_arrives 81 = .ok (.iconst 3, 1) := by decide +kernel
theorem dX11_arrives_82 : decode cX11_arrives 82 = .ok (.iadd, 1) := by decide +kernel
theorem dX11_arrives_83 : decode cX11_arrives 83 = .ok (.iconst (-1), 1) := by decide +kernel
theorem dX11_arrives_84 : decode cX11_arrives 84 = .ok (.iastore, 1) := by decide +kernel
theorem dX11_arrives_85 : decode cX11_arrives 85 = .ok (.aload_n 0, 1) := by decide +kernel
theorem dX11_arrives_86 : decode cX11_arrives 86 = .ok (.getfield 42, 3) := by decide +kernel
theorem dX11_arrives_89 : decode cX11_arrives 89 = .ok (.iload 5, 2) := by decide +kernel
theorem dX11_arrives_91 : decode cX11_arrives 91 = .ok (.iconst 4, 1) := by decide +kernel
theorem dX11_arrives_92 : decode cX11_arrives 92 = .ok (.iadd, 1) := by decide +kernel
theorem dX11_arrives_93 : decode cX11_arrives 93 = .ok (.iconst 0, 1) := by decide +kernel
theorem dX11_arrives_94 : decode cX11_arrives 94 = .ok (.iastore, 1) := by decide +kernel
theorem dX11_arrives_95 : decode cX11_arrives 95 = .ok (.aload_n 0, 1) := by decide +kernel
theorem dX11_arrives_96 : decode cX11_arrives 96 = .ok (.getfield 42, 3) := by decide +kernel
theorem dX11_arrives_99 : decode cX11_arrives 99 = .ok (.iload 5, 2) := by decide +kernel
theorem dX11_arrives_101 : decode cX11_arrives 101 = .ok (.bipush 6, 2) := by decide +kernel
theorem dX11_arrives_103 : decode cX11_arrives 103 = .ok (.iadd, 1) := by decide +kernel
theorem dX11_arrives_104 : decode cX11_arrives 104 = .ok (.iconst (-1), 1) := by decide +kernel
theorem dX11_arrives_105 : decode cX11_arrives 105 = .ok (.iastore, 1) := by decide +kernel
theorem dX11_arrives_106 : decode cX11_arrives 106 = .ok (.iload_n 3, 1) := by decide +kernel
theorem dX11_arrives_107 : decode cX11_arrives 107 = .ok (.aload_n 0, 1) := by decide +kernel
theorem dX11_arrives_108 : decode cX11_arrives 108 = .ok (.getfield 42, 3) := by decide +kernel
theorem dX11_arrives_111 : decode cX11_arrives 111 = .ok (.iload 5, 2) := by decide +kernel
theorem dX11_arrives_113 : decode cX11_arrives 113 = .ok (.iconst 1, 1) := by decide +kernel
theorem dX11_arrives_114 : decode cX11_arrives 114 = .ok (.iadd, 1) := by decide +kernel
theorem dX11_arrives_115 : decode cX11_arrives 115 = .ok (.iaload, 1) := by decide +kernel
theorem dX11_arrives_116 : decode cX11_arrives 116 = .ok (.if_icmp .ne 27, 3) := by decide +kernel
theorem dX11_arrives_119 : decode cX11_arrives 119 = .ok (.aload_n 0, 1) := by decide +kernel
theorem dX11_arrives_120 : decode cX11_arrives 120 = .ok (.getfield 42, 3) := by decide +kernel
theorem dX11_arrives_123 : decode cX11_arrives 123 = .ok (.iload 5, 2) := by decide +kernel
theorem dX11_arrives_125 : decode cX11_arrives 125 = .ok (.iconst 5, 1) := by decide +kernel
theorem dX11_arrives_126 : decode cX11_arrives 126 = .ok (.iadd, 1) := by decide +kernel
theorem dX11_arrives_127 : decode cX11_arrives 127 = .ok (.iaload, 1) := by decide +kernel
theorem dX11_arrives_128 : decode cX11_arrives 128 = .ok (.iconst (-1), 1) := by decide +kernel
theorem dX11_arrives_129 : decode cX11_arrives 129 = .ok (.if_icmp .ne 14, 3) := by decide +kernel
theorem dX11_arrives_132 : decode cX11_arrives 132 = .ok (.aload_n 0, 1) := by decide +kernel
theorem dX11_arrives_133 : decode cX11_arrives 133 = .ok (.getfield 42, 3) := by decide +kernel
theorem dX11_arrives_136 : decode cX11_arrives 136 = .ok (.iload 5, 2) := by decide +kernel
theorem dX11_arrives_138 : decode cX11_arrives 138 = .ok (.iconst 5, 1) := by decide +kernel
theorem dX11_arrives_139 : decode cX11_arrives 139 = .ok (.iadd, 1) := by decide +kernel
theorem dX11_arrives_140 : decode cX11_arrives 140 = .ok (.iload 4, 2) := by decide +kernel
theorem dX11_arrives_142 : decode cX11_arrives 142 = .ok (.iastore, 1) := by decide +kernel
theorem dX11_arrives_143 : decode cX11_arrives 143 = .ok (.return_, 1) := by decide +kernel
theorem dX11_back_0 : decode cX11_back 0 = .ok (.iload_n 1, 1) := by decide +kernel
theorem dX11_back_1 : decode cX11_back 1 = .ok (.i2l, 1) := by decide +kernel
theorem dX11_back_2 : decode cX11_back 2 = .ok (.lconst 0, 1) := by decide +kernel
theorem dX11_back_3 : decode cX11_back 3 = .ok (.ldc2_w 440, 3) := by decide +kernel
theorem dX11_back_6 : decode cX11_back 6 = .ok (.invokestatic 125, 3) := by decide +kernel
theorem dX11_back_9 : decode cX11_back 9 = .ok (.ifCond .eq 12, 3) := by decide +kernel
theorem dX11_back_12 : decode cX11_back 12 = .ok (.aload_n 0, 1) := by decide +kernel
theorem dX11_back_13 : decode cX11_back 13 = .ok (.getfield 83, 3) := by decide +kernel
theorem dX11_back_16 : decode cX11_back 16 = .ok (.iload_n 1, 1) := by decide +kernel
theorem dX11_back_17 : decode cX11_back 17 = .ok (.baload, 1) := by decide +kernel
theorem dX11_back_18 : decode cX11_back 18 = .ok (.ifCond .ne 5, 3) := by decide +kernel
theorem dX11_back_21 : decode cX11_back 21 = .ok (.iconst (-1), 1) := by decide +kernel
theorem dX11_back_22 : decode cX11_back 22 = .ok (.ireturn, 1) := by decide +kernel
theorem dX11_back_23 : decode cX11_back 23 = .ok (.iconst 0, 1) := by decide +kernel
theorem dX11_back_24 : decode cX11_back 24 = .ok (.istore_n 2, 1) := by decide +kernel
theorem dX11_back_25 : decode cX11_back 25 = .ok (.iload_n 2, 1) := by decide +kernel
theorem dX11_back_26 : decode cX11_back 26 = .ok (.sipush 202, 3) := by decide +kernel
theorem dX11_back_29 : decode cX11_back 29 = .ok (.if_icmp .ge 27, 3) := by decide +kernel
theorem dX11_back_32 : decode cX11_back 32 = .ok (.aload_n 0, 1) := by decide +kernel
theorem dX11_back_33 : decode cX11_back 33 = .ok (.getfield 42, 3) := by decide +kernel
theorem dX11_back_36 : decode cX11_back 36 = .ok (.iload_n 2, 1) := by decide +kernel
theorem dX11_back_37 : decode cX11_back 37 = .ok (.aload_n 0, 1) := by decide +kernel
theorem dX11_back_38 : decode cX11_back 38 = .ok (.getfield 80, 3) := by decide +kernel
theorem dX11_back_41 : decode cX11_back 41 = .ok (.sipush 202, 3) := by decide +kernel
theorem dX11_back_44 : decode cX11_back 44 = .ok (.iload_n 1, 1) := by decide +kernel
theorem dX11_back_45 : decode cX11_back 45 = .ok (.imul, 1) := by decide +kernel
theorem dX11_back_46 : decode cX11_back 46 = .ok (.iload_n 2, 1) := by decide +kernel
theorem dX11_back_47 : decode cX11_back 47 = .ok (.iadd, 1) := by decide +kernel
theorem dX11_back_48 : decode cX11_back 48 = .ok (.iaload, 1) := by decide +kernel
theorem dX11_back_49 : decode cX11_back 49 = .ok (.iastore, 1) := by decide +kernel
theorem dX11_back_50 : decode cX11_back 50 = .ok (.iinc 2 1, 3) := by decide +kernel
theorem dX11_back_53 : decode cX11_back 53 = .ok (.goto (-28), 3) := by decide +kernel
theorem dX11_back_56 : decode cX11_back 56 = .ok (.aload_n 0, 1) := by decide +kernel
theorem dX11_back_57 : decode cX11_back 57 = .ok (.getfield 42, 3) := by decide +kernel
theorem dX11_back_60 : decode cX11_back 60 = .ok (.iconst 4, 1) := by decide +kernel
theorem dX11_back_61 : decode cX11_back 61 = .ok (.iaload, 1) := by decide +kernel
theorem dX11_back_62 : decode cX11_back 62 = .ok (.ireturn, 1) := by decide +kernel
theorem dX11_begins_0 : decode cX11_begins 0 = .ok (.iconst 0, 1) := by decide +kernel
theorem dX11_begins_1 : decode cX11_begins 1 = .ok (.istore_n 2, 1) := by decide +kernel
theorem dX11_begins_2 : decode cX11_begins 2 = .ok (.iload_n 2, 1) := by decide +kernel
theorem dX11_begins_3 : decode cX11_begins 3 = .ok (.aload_n 0, 1) := by decide +kernel
theorem dX11_begins_4 : decode cX11_begins 4 = .ok (.getfield 332, 3) := by decide +kernel
theorem dX11_begins_7 : decode cX11_begins 7 = .ok (.if_icmp .ge 21, 3) := by decide +kernel
theorem dX11_begins_10 : decode cX11_begins 10 = .ok (.aload_n 0, 1) := by decide +kernel
theorem dX11_begins_11 : decode cX11_begins 11 = .ok (.getfield 58, 3) := by decide +kernel
theorem dX11_begins_14 : decode cX11_begins 14 = .ok (.aload_n 0, 1) := by decide +kernel
theorem dX11_begins_15 : decode cX11_begins 15 = .ok (.getfield 52, 3) := by decide +kernel
theorem dX11_begins_18 : decode cX11_begins 18 = .ok (.iload_n 2, 1) := by decide +kernel
theorem dX11_begins_19 : decode cX11_begins 19 = .ok (.iaload, 1) := by decide +kernel
theorem dX11_begins_20 : decode cX11_begins 20 = .ok (.iconst 0, 1) := by decide +kernel
theorem dX11_begins_21 : decode cX11_begins 21 = .ok (.iastore, 1) := by decide +kernel
theorem dX11_begins_22 : decode cX11_begins 22 = .ok (.iinc 2 1, 3) := by decide +kernel
theorem dX11_begins_25 : decode cX11_begins 25 = .ok (.goto (-23), 3) := by decide +kernel
theorem dX11_begins_28 : decode cX11_begins 28 = .ok (.aload_n 0, 1) := by decide +kernel
theorem dX11_begins_29 : decode cX11_begins 29 = .ok (.iconst 0, 1) := by decide +kernel
theorem dX11_begins_30 : decode cX11_begins 30 = .ok (.putfield 332, 3) := by decide +kernel
theorem dX11_begins_33 : decode cX11_begins 33 = .ok (.aload_n 0, 1) := by decide +kernel
theorem dX11_begins_34 : decode cX11_begins 34 = .ok (.iconst 0, 1) := by decide +kernel
theorem dX11_begins_35 : decode cX11_begins 35 = .ok (.putfield 335, 3) := by decide +kernel
theorem dX11_begins_38 : decode cX11_begins 38 = .ok (.iconst 0, 1) := by decide +kernel
theorem dX11_begins_39 : decode cX11_begins 39 = .ok (.istore_n 2, 1) := by decide +kernel
theorem dX11_begins_40 : decode cX11_begins 40 = .ok (.iload_n 2, 1) := by decide +kernel
theorem dX11_begins_41 : decode cX11_begins 41 = .ok (.aload_n 0, 1) := by decide +kernel
theorem dX11_begins_42 : decode cX11_begins 42 = .ok (.getfield 42, 3) := by decide +kernel
theorem dX11_begins_45 : decode cX11_begins 45 = .ok (.iconst 1, 1) := by decide +kernel
theorem dX11_begins_46 : decode cX11_begins 46 = .ok (.iaload, 1) := by decide +kernel
theorem dX11_begins_47 : decode cX11_begins 47 = .ok (.if_icmp .ge 40, 3) := by decide +kernel
theorem dX11_begins_50 : decode cX11_begins 50 = .ok (.iload_n 1, 1) := by decide +kernel
theorem dX11_begins_51 : decode cX11_begins 51 = .ok (.iload_n 2, 1) := by decide +kernel
theorem dX11_begins_52 : decode cX11_begins 52 = .ok (.ishr, 1) := by decide +kernel
theorem dX11_begins_53 : decode cX11_begins 53 = .ok (.iconst 1, 1) := by decide +kernel
theorem dX11_begins_54 : decode cX11_begins 54 = .ok (.iand, 1) := by decide +kernel
theorem dX11_begins_55 : decode cX11_begins 55 = .ok (.ifCond .ne 6, 3) := by decide +kernel
theorem dX11_begins_58 : decode cX11_begins 58 = .ok (.goto 23, 3) := by decide +kernel
theorem dX11_begins_61 : decode cX11_begins 61 = .ok (.aload_n 0, 1) := by decide +kernel
theorem dX11_begins_62 : decode cX11_begins 62 = .ok (.getfield 61, 3) := by decide +kernel
theorem dX11_begins_65 : decode cX11_begins 65 = .ok (.aload_n 0, 1) := by decide +kernel
theorem dX11_begins_66 : decode cX11_begins 66 = .ok (.getfield 335, 3) := by decide +kernel
theorem dX11_begins_69 : decode cX11_begins 69 = .ok (.iload_n 2, 1) := by decide +kernel
theorem dX11_begins_70 : decode cX11_begins 70 = .ok (.iastore, 1) := by decide +kernel
theorem dX11_begins_71 : decode cX11_begins 71 = .ok (.aload_n 0, 1) := by decide +kernel
theorem dX11_begins_72 : decode cX11_begins 72 = .ok (.dup, 1) := by decide +kernel
theorem dX11_begins_73 : decode cX11_begins 73 = .ok (.getfield 335, 3) := by decide +kernel
theorem dX11_begins_76 : decode cX11_begins 76 = .ok (.iconst 1, 1) := by decide +kernel
theorem dX11_begins_77 : decode cX11_begins 77 = .ok (.iadd, 1) := by decide +kernel
theorem dX11_begins_78 : decode cX11_begins 78 = .ok (.putfield 335, 3) := by decide +kernel
theorem dX11_begins_81 : decode cX11_begins 81 = .ok (.iinc 2 1, 3) := by decide +kernel
theorem dX11_begins_84 : decode cX11_begins 84 = .ok (.goto (-44), 3) := by decide +kernel
theorem dX11_begins_87 : decode cX11_begins 87 = .ok (.iconst 0, 1) := by decide +kernel
theorem dX11_begins_88 : decode cX11_begins 88 = .ok (.istore_n 2, 1) := by decide +kernel
theorem dX11_begins_89 : decode cX11_begins 89 = .ok (.iload_n 2, 1) := by decide +kernel
theorem dX11_begins_90 : decode cX11_begins 90 = .ok (.aload_n 0, 1) := by decide +kernel
theorem dX11_begins_91 : decode cX11_begins 91 = .ok (.getfield 42, 3) := by decide +kernel
theorem dX11_begins_94 : decode cX11_begins 94 = .ok (.iconst 0, 1) := by decide +kernel
theorem dX11_begins_95 : decode cX11_begins 95 = .ok (.iaload, 1) := by decide +kernel
theorem dX11_begins_96 : decode cX11_begins 96 = .ok (.if_icmp .ge 28, 3) := by decide +kernel
theorem dX11_begins_99 : decode cX11_begins 99 = .ok (.aload_n 0, 1) := by decide +kernel
theorem dX11_begins_100 : decode cX11_begins 100 = .ok (.getfield 64, 3) := by decide +kernel
theorem dX11_begins_103 : decode cX11_begins 103 = .ok (.iload_n 2, 1) := by decide +kernel
theorem dX11_begins_104 : decode cX11_begins 104 = .ok (.aload_n 0, 1) := by decide +kernel
theorem dX11_begins_105 : decode cX11_begins 105 = .ok (.iload_n 2, 1) := by decide +kernel
theorem dX11_begins_106 : decode cX11_begins 106 = .ok (.invokevirtual 294, 3) := by decide +kernel
theorem dX11_begins_109 : decode cX11_begins 109 = .ok (.ifCond .le 7, 3) := by decide +kernel
theorem dX11_begins_112 : decode cX11_begins 112 = .ok (.iconst 1, 1) := by decide +kernel
theorem dX11_begins_113 : decode cX11_begins 113 = .ok (.goto 4, 3) := by decide +kernel
theorem dX11_begins_116 : decode cX11_begins 116 = .ok (.iconst 0, 1) := by decide +kernel
theorem dX11_begins_117 : decode cX11_begins 117 = .ok (.bastore, 1) := by decide +kernel
theorem dX11_begins_118 : decode cX11_begins 118 = .ok (.iinc 2 1, 3) := by decide +kernel
theorem dX11_begins_121 : decode cX11_begins 121 = .ok (.goto (-32), 3) := by decide +kernel
theorem dX11_begins_124 : decode cX11_begins 124 = .ok (.return_, 1) := by decide +kernel
theorem dX11_begun_0 : decode cX11_begun 0 = .ok (.aload_n 0, 1) := by decide +kernel
theorem dX11_begun_1 : decode cX11_begun 1 = .ok (.getfield 42, 3) := by decide +kernel
theorem dX11_begun_4 : decode cX11_begun 4 = .ok (.iconst 2, 1) := by decide +kernel
theorem dX11_begun_5 : decode cX11_begun 5 = .ok (.iaload, 1) := by decide +kernel
theorem dX11_begun_6 : decode cX11_begun 6 = .ok (.istore_n 1, 1) := by decide +kernel
theorem dX11_begun_7 : decode cX11_begun 7 = .ok (.iconst 0, 1) := by decide +kernel
theorem dX11_begun_8 : decode cX11_begun 8 = .ok (.istore_n 2, 1) := by decide +kernel
theorem dX11_begun_9 : decode cX11_begun 9 = .ok (.iload_n 2, 1) := by decide +kernel
theorem dX11_begun_10 : decode cX11_begun 10 = .ok (.aload_n 0, 1) := by decide +kernel
theorem dX11_begun_11 : decode cX11_begun 11 = .ok (.getfield 335, 3) := by decide +kernel
theorem dX11_begun_14 : decode cX11_begun 14 = .ok (.if_icmp .ge 34, 3) := by decide +kernel
theorem dX11_begun_17 : decode cX11_begun 17 = .ok (.iload_n 1, 1) := by decide +kernel
theorem dX11_begun_18 : decode cX11_begun 18 = .ok (.aload_n 0, 1) := by decide +kernel
theorem dX11_begun_19 : decode cX11_begun 19 = .ok (.aload_n 0, 1) := by decide +kernel
theorem dX11_begun_20 : decode cX11_begun 20 = .ok (.getfield 61, 3) := by decide +kernel
theorem dX11_begun_23 : decode cX11_begun 23 = .ok (.iload_n 2, 1) := by decide +kernel
theorem dX11_begun_24 : decode cX11_begun 24 = .ok (.iaload, 1) := by decide +kernel
theorem dX11_begun_25 : decode cX11_begun 25 = .ok (.iconst 0, 1) := by decide +kernel
theorem dX11_begun_26 : decode cX11_begun 26 = .ok (.invokevirtual 279, 3) := by decide +kernel
theorem dX11_begun_29 : decode cX11_begun 29 = .ok (.aload_n 0, 1) := by decide +kernel
theorem dX11_begun_30 : decode cX11_begun 30 = .ok (.getfield 42, 3) := by decide +kernel
theorem dX11_begun_33 : decode cX11_begun 33 = .ok (.iconst 0, 1) := by decide +kernel
theorem dX11_begun_34 : decode cX11_begun 34 = .ok (.iaload, 1) := by decide +kernel
theorem dX11_begun_35 : decode cX11_begun 35 = .ok (.iconst 3, 1) := by decide +kernel
theorem dX11_begun_36 : decode cX11_begun 36 = .ok (.iload_n 2, 1) := by decide +kernel
theorem dX11_begun_37 : decode cX11_begun 37 = .ok (.imul, 1) := by decide +kernel
theorem dX11_begun_38 : decode cX11_begun 38 = .ok (.iadd, 1) := by decide +kernel
theorem dX11_begun_39 : decode cX11_begun 39 = .ok (.ishl, 1) := by decide +kernel
theorem dX11_begun_40 : decode cX11_begun 40 = .ok (.ior, 1) := by decide +kernel
theorem dX11_begun_41 : decode cX11_begun 41 = .ok (.istore_n 1, 1) := by decide +kernel
theorem dX11_begun_42 : decode cX11_begun 42 = .ok (.iinc 2 1, 3) := by decide +kernel
theorem dX11_begun_45 : decode cX11_begun 45 = .ok (.goto (-36), 3) := by decide +kernel
theorem dX11_begun_48 : decode cX11_begun 48 = .ok (.iload_n 1, 1) := by decide +kernel
theorem dX11_begun_49 : decode cX11_begun 49 = .ok (.ireturn, 1) := by decide +kernel
theorem dX11_bits_0 : decode cX11_bits 0 = .ok (.iconst 0, 1) := by decide +kernel
theorem dX11_bits_1 : decode cX11_bits 1 = .ok (.istore_n 1, 1) := by decide +kernel
theorem dX11_bits_2 : decode cX11_bits 2 = .ok (.iload_n 0, 1) := by decide +kernel
theorem dX11_bits_3 : decode cX11_bits 3 = .ok (.istore_n 2, 1) := by decide +kernel
theorem dX11_bits_4 : decode cX11_bits 4 = .ok (.iload_n 2, 1) := by decide +kernel
theorem dX11_bits_5 : decode cX11_bits 5 = .ok (.ifCond .eq 15, 3) := by decide +kernel
theorem dX11_bits_8 : decode cX11_bits 8 = .ok (.iinc 1 1, 3) := by decide +kernel
theorem dX11_bits_11 : decode cX11_bits 11 = .ok (.iload_n 2, 1) := by decide +kernel
theorem dX11_bits_12 : decode cX11_bits 12 = .ok (.iload_n 2, 1) := by decide +kernel
theorem dX11_bits_13 : decode cX11_bits 13 = .ok (.iconst 1, 1) := by decide +kernel
theorem dX11_bits_14 : decode cX11_bits 14 = .ok (.isub, 1) := by decide +kernel
theorem dX11_bits_15 : decode cX11_bits 15 = .ok (.iand, 1) := by decide +kernel
theorem dX11_bits_16 : decode cX11_bits 16 = .ok (.istore_n 2, 1) := by decide +kernel
theorem dX11_bits_17 : decode cX11_bits 17 = .ok (.goto (-13), 3) := by decide +kernel
theorem dX11_bits_20 : decode cX11_bits 20 = .ok (.iload_n 1, 1) := by decide +kernel
theorem dX11_bits_21 : decode cX11_bits 21 = .ok (.ireturn, 1) := by decide +kernel
theorem dX11_canGo_0 : decode cX11_canGo 0 = .ok (.aload_n 0, 1) := by decide +kernel
theorem dX11_canGo_1 : decode cX11_canGo 1 = .ok (.iload_n 1, 1) := by decide +kernel
theorem dX11_canGo_2 : decode cX11_canGo 2 = .ok (.invokevirtual 313, 3) := by decide +kernel
theorem dX11_canGo_5 : decode cX11_canGo 5 = .ok (.ifCond .eq 44, 3) := by decide +kernel
theorem dX11_canGo_8 : decode cX11_canGo 8 = .ok (.aload_n 0, 1) := by decide +kernel
theorem dX11_canGo_9 : decode cX11_canGo 9 = .ok (.iload_n 2, 1) := by decide +kernel
theorem dX11_canGo_10 : decode cX11_canGo 10 = .ok (.invokevirtual 289, 3) := by decide +kernel
theorem dX11_canGo_13 : decode cX11_canGo 13 = .ok (.ifCond .eq 36, 3) := by decide +kernel
theorem dX11_canGo_16 : decode cX11_canGo 16 = .ok (.aload_n 0, 1) := by decide +kernel
theorem dX11_canGo_17 : decode cX11_canGo 17 = .ok (.aload_n 0, 1) := by decide +kernel
theorem dX11_canGo_18 : decode cX11_canGo 18 = .ok (.getfield 42, 3) := by decide +kernel
theorem dX11_canGo_21 : decode cX11_canGo 21 = .ok (.iconst 2, 1) := by decide +kernel
theorem dX11_canGo_22 : decode cX11_canGo 22 = .ok (.iaload, 1) := by decide +kernel
theorem dX11_canGo_23 : decode cX11_canGo 23 = .ok (.iload_n 2, 1) := by decide +kernel
theorem dX11_canGo_24 : decode cX11_canGo 24 = .ok (.iconst 0, 1) := by decide +kernel
theorem dX11_canGo_25 : decode cX11_canGo 25 = .ok (.invokevirtual 285, 3) := by decide +kernel
theorem dX11_canGo_28 : decode cX11_canGo 28 = .ok (.aload_n 0, 1) := by decide +kernel
theorem dX11_canGo_29 : decode cX11_canGo 29 = .ok (.iload_n 1, 1) := by decide +kernel
theorem dX11_canGo_30 : decode cX11_canGo 30 = .ok (.iconst 0, 1) := by decide +kernel
theorem dX11_canGo_31 : decode cX11_canGo 31 = .ok (.invokevirtual 279, 3) := by decide +kernel
theorem dX11_canGo_34 : decode cX11_canGo 34 = .ok (.if_icmp .ne 15, 3) := by decide +kernel
theorem dX11_canGo_37 : decode cX11_canGo 37 = .ok (.aload_n 0, 1) := by decide +kernel
theorem dX11_canGo_38 : decode cX11_canGo 38 = .ok (.iload_n 2, 1) := by decide +kernel
theorem dX11_canGo_39 : decode cX11_canGo 39 = .ok (.invokevirtual 294, 3) := by decide +kernel
theorem dX11_canGo_42 : decode cX11_canGo 42 = .ok (.ifCond .ne 7, 3) := by decide +kernel
theorem dX11_canGo_45 : decode cX11_canGo 45 = .ok (.iconst 1, 1) := by decide +kernel
theorem dX11_canGo_46 : decode cX11_canGo 46 = .ok (.goto 4, 3) := by decide +kernel
theorem dX11_canGo_49 : decode cX11_canGo 49 = .ok (.iconst 0, 1) := by decide +kernel
theorem dX11_canGo_50 : decode cX11_canGo 50 = .ok (.ireturn, 1) := by decide +kernel
theorem dX11_canTake_0 : decode cX11_canTake 0 = .ok (.aload_n 0, 1) := by decide +kernel
theorem dX11_canTake_1 : decode cX11_canTake 1 = .ok (.iload_n 1, 1) := by decide +kernel
theorem dX11_canTake_2 : decode cX11_canTake 2 = .ok (.invokevirtual 313, 3) := by decide +kernel
theorem dX11_canTake_5 : decode cX11_canTake 5 = .ok (.ifCond .eq 14, 3) := by decide +kernel
theorem dX11_canTake_8 : decode cX11_canTake 8 = .ok (.aload_n 0, 1) := by decide +kernel
theorem dX11_canTake_9 : decode cX11_canTake 9 = .ok (.invokevirtual 323, 3) := by decide +kernel
theorem dX11_canTake_12 : decode cX11_canTake 12 = .ok (.ifCond .ne 7, 3) := by decide +kernel
theorem dX11_canTake_15 : decode cX11_canTake 15 = .ok (.iconst 1, 1) := by decide +kernel
theorem dX11_canTake_16 : decode cX11_canTake 16 = .ok (.goto 4, 3) := by decide +kernel
theorem dX11_canTake_19 : decode cX11_canTake 19 = .ok (.iconst 0, 1) := by decide +kernel
theorem dX11_canTake_20 : decode cX11_canTake 20 = .ok (.ireturn, 1) := by decide +kernel
theorem dX11_clauseHere_0 : decode cX11_clauseHere 0 = .ok (.aload_n 0, 1) := by decide +kernel
theorem dX11_clauseHere_1 : decode cX11_clauseHere 1 = .ok (.invokevirtual 100, 3) := by decide +kernel
theorem dX11_clauseHere_4 : decode cX11_clauseHere 4 = .ok (.pop, 1) := by decide +kernel
theorem dX11_clauseHere_5 : decode cX11_clauseHere 5 = .ok (.aload_n 0, 1) := by decide +kernel
theorem dX11_clauseHere_6 : decode cX11_clauseHere 6 = .ok (.getfield 97, 3) := by decide +kernel
theorem dX11_clauseHere_9 : decode cX11_clauseHere 9 = .ok (.istore_n 1, 1) := by decide +kernel
theorem dX11_clauseHere_10 : decode cX11_clauseHere 10 = .ok (.aload_n 0, 1) := by decide +kernel
theorem dX11_clauseHere_11 : decode cX11_clauseHere 11 = .ok (.getfield 153, 3) := by decide +kernel
theorem dX11_clauseHere_14 : decode cX11_clauseHere 14 = .ok (.bipush 6, 2) := by decide +kernel
theorem dX11_clauseHere_16 : decode cX11_clauseHere 16 = .ok (.if_icmp .ne 7, 3) := by decide +kernel
theorem dX11_clauseHere_19 : decode cX11_clauseHere 19 = .ok (.iconst 1, 1) := by decide +kernel
theorem dX11_clauseHere_20 : decode cX11_clauseHere 20 = .ok (.goto 4, 3) := by decide +kernel
theorem dX11_clauseHere_23 : decode cX11_clauseHere 23 = .ok (.iconst 0, 1) := by decide +kernel
theorem dX11_clauseHere_24 : decode cX11_clauseHere 24 = .ok (.istore_n 2, 1) := by decide +kernel
theorem dX11_clauseHere_25 : decode cX11_clauseHere 25 = .ok (.iload_n 2, 1) := by decide +kernel
theorem dX11_clauseHere_26 : decode cX11_clauseHere 26 = .ok (.ifCond .eq 31, 3) := by decide +kernel
theorem dX11_clauseHere_29 : decode cX11_clauseHere 29 = .ok (.aload_n 0, 1) := by decide +kernel
theorem dX11_clauseHere_30 : decode cX11_clauseHere 30 = .ok (.ldc2_w 129, 3) := by decide +kernel
theorem dX11_clauseHere_33 : decode cX11_clauseHere 33 = .ok (.invokevirtual 108, 3) := by decide +kernel
theorem dX11_clauseHere_36 : decode cX11_clauseHere 36 = .ok (.ifCond .ne 13, 3) := by decide +kernel
theorem dX11_clauseHere_39 : decode cX11_clauseHere 39 = .ok (.aload_n 0, 1) := by decide +kernel
theorem dX11_clauseHere_40 : decode cX11_clauseHere 40 = .ok (.ldc2_w 145, 3) := by decide +kernel
theorem dX11_clauseHere_43 : decode cX11_clauseHere 43 = .ok (.invokevirtual 108, 3) := by decide +kernel
theorem dX11_clauseHere_46 : decode cX11_clauseHere 46 = .ok (.ifCond .eq 7, 3) := by decide +kernel
theorem dX11_clauseHere_49 : decode cX11_clauseHere 49 = .ok (.iconst 1, 1) := by decide +kernel
theorem dX11_clauseHere_50 : decode cX11_clauseHere 50 = .ok (.goto 32, 3) := by decide +kernel
theorem dX11_clauseHere_53 : decode cX11_clauseHere 53 = .ok (.iconst 0, 1) := by decide +kernel
theorem dX11_clauseHere_54 : decode cX11_clauseHere 54 = .ok (.goto 28, 3) := by decide +kernel
theorem dX11_clauseHere_57 : decode cX11_clauseHere 57 = .ok (.aload_n 0, 1) := by decide +kernel
theorem dX11_clauseHere_58 : decode cX11_clauseHere 58 = .ok (.ldc2_w 231, 3) := by decide +kernel
theorem dX11_clauseHere_61 : decode cX11_clauseHere 61 = .ok (.invokevirtual 108, 3) := by decide +kernel
theorem dX11_clauseHere_64 : decode cX11_clauseHere 64 = .ok (.ifCond .ne 13, 3) := by decide +kernel
theorem dX11_clauseHere_67 : decode cX11_clauseHere 67 = .ok (.aload_n 0, 1) := by decide +kernel
theorem dX11_clauseHere_68 : decode cX11_clauseHere 68 = .ok (.ldc2_w 233, 3) := by decide +kernel
theorem dX11_clauseHere_71 : decode cX11_clauseHere 71 = .ok (.invokevirtual 108, 3) := by decide +kernel
theorem dX11_clauseHere_74 : decode cX11_clauseHere 74 = .ok (.ifCond .eq 7, 3) := by decide +kernel
theorem dX11_clauseHere_77 : decode cX11_clauseHere 77 = .ok (.iconst 1, 1) := by decide +kernel
theorem dX11_clauseHere_78 : decode cX11_clauseHere 78 = .ok (.goto 4, 3) := by decide +kernel
theorem dX11_clauseHere_81 : decode cX11_clauseHere 81 = .ok (.iconst 0, 1) := by decide +kernel
theorem dX11_clauseHere_82 : decode cX11_clauseHere 82 = .ok (.istore_n 3, 1) := by decide +kernel
theorem dX11_clauseHere_83 : decode cX11_clauseHere 83 = .ok (.iload_n 3, 1) := by decide +kernel
theorem dX11_clauseHere_84 : decode cX11_clauseHere 84 = .ok (.ifCond .ne 10, 3) := by decide +kernel
theorem dX11_clauseHere_87 : decode cX11_clauseHere 87 = .ok (.aload_n 0, 1) := by decide +kernel
theorem dX11_clauseHere_88 : decode cX11_clauseHere 88 = .ok (.iconst 0, 1) := by decide +kernel
theorem dX11_clauseHere_89 : decode cX11_clauseHere 89 = .ok (.iload_n 1, 1) := by decide +kernel
theorem dX11_clauseHere_90 : decode cX11_clauseHere 90 = .ok (.invokevirtual 118, 3) := by decide +kernel
theorem dX11_clauseHere_93 : decode cX11_clauseHere 93 = .ok (.ireturn, 1) := by decide +kernel
theorem dX11_clauseHere_94 : decode cX11_clauseHere 94 = .ok (.aload_n 0, 1) := by decide +kernel
theorem dX11_clauseHere_95 : decode cX11_clauseHere 95 = .ok (.getfield 235, 3) := by decide +kernel
theorem dX11_clauseHere_98 : decode cX11_clauseHere 98 = .ok (.iload_n 2, 1) := by decide +kernel
theorem dX11_clauseHere_99 : decode cX11_clauseHere 99 = .ok (.ifCond .eq 8, 3) := by decide +kernel
theorem dX11_clauseHere_102 : decode cX11_clauseHere 102 = .ok (.bipush 24, 2) := by decide +kernel
theorem dX11_clauseHere_104 : decode cX11_clauseHere 104 = .ok (.goto 5, 3) := by decide +kernel
theorem dX11_clauseHere_107 : decode cX11_clauseHere 107 = .ok (.bipush 12, 2) := by decide +kernel
theorem dX11_clauseHere_109 : decode cX11_clauseHere 109 = .ok (.if_icmp .ne 10, 3) := by decide +kernel
theorem dX11_clauseHere_112 : decode cX11_clauseHere 112 = .ok (.aload_n 0, 1) := by decide +kernel
theorem dX11_clauseHere_113 : decode cX11_clauseHere 113 = .ok (.iconst 4, 1) := by decide +kernel
theorem dX11_clauseHere_114 : decode cX11_clauseHere 114 = .ok (.iload_n 1, 1) := by decide +kernel
theorem dX11_clauseHere_115 : decode cX11_clauseHere 115 = .ok (.invokevirtual 118, 3) := by decide +kernel
theorem dX11_clauseHere_118 : decode cX11_clauseHere 118 = .ok (.ireturn, 1) := by decide +kernel
theorem dX11_clauseHere_119 : decode cX11_clauseHere 119 = .ok (.aload_n 0, 1) := by decide +kernel
theorem dX11_clauseHere_120 : decode cX11_clauseHere 120 = .ok (.dup, 1) := by decide +kernel
theorem dX11_clauseHere_121 : decode cX11_clauseHere 121 = .ok (.getfield 235, 3) := by decide +kernel
theorem dX11_clauseHere_124 : decode cX11_clauseHere 124 = .ok (.iconst 1, 1) := by decide +kernel
theorem dX11_clauseHere_125 : decode cX11_clauseHere 125 = .ok (.iadd, 1) := by decide +kernel
theorem dX11_clauseHere_126 : decode cX11_clauseHere 126 = .ok (.putfield 235, 3) := by decide +kernel
theorem dX11_clauseHere_129 : decode cX11_clauseHere 129 = .ok (.iload_n 2, 1) := by decide +kernel
theorem dX11_clauseHere_130 : decode cX11_clauseHere 130 = .ok (.ifCond .eq 27, 3) := by decide +kernel
theorem dX11_clauseHere_133 : decode cX11_clauseHere 133 = .ok (.aload_n 0, 1) := by decide +kernel
theorem dX11_clauseHere_134 : decode cX11_clauseHere 134 = .ok (.ldc2_w 129, 3) := by decide +kernel
theorem dX11_clauseHere_137 : decode cX11_clauseHere 137 = .ok (.invokevirtual 108, 3) := by decide +kernel
theorem dX11_clauseHere_140 : decode cX11_clauseHere 140 = .ok (.ifCond .eq 11, 3) := by decide +kernel
