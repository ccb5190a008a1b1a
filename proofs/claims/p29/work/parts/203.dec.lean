theorem dX10_outwardsAtAims_52 : decode cX10_outwardsAtAims 52 = .ok (.invokestatic 305, 3) := by decide +kernel
theorem dX10_outwardsAtAims_55 : decode cX10_outwardsAtAims 55 = .ok (.aload_n 0, 1) := by decide +kernel
theorem dX10_outwardsAtAims_56 : decode cX10_outwardsAtAims 56 = .ok (.getfield 34, 3) := by decide +kernel
theorem dX10_outwardsAtAims_59 : decode cX10_outwardsAtAims 59 = .ok (.getfield 126, 3) := by decide +kernel
theorem dX10_outwardsAtAims_62 : decode cX10_outwardsAtAims 62 = .ok (.getfield 136, 3) := by decide +kernel
theorem dX10_outwardsAtAims_65 : decode cX10_outwardsAtAims 65 = .ok (.iload 4, 2) := by decide +kernel
theorem dX10_outwardsAtAims_67 : decode cX10_outwardsAtAims 67 = .ok (.iaload, 1) := by decide +kernel
theorem dX10_outwardsAtAims_68 : decode cX10_outwardsAtAims 68 = .ok (.invokestatic 305, 3) := by decide +kernel
theorem dX10_outwardsAtAims_71 : decode cX10_outwardsAtAims 71 = .ok (.lsub, 1) := by decide +kernel
theorem dX10_outwardsAtAims_72 : decode cX10_outwardsAtAims 72 = .ok (.ladd, 1) := by decide +kernel
theorem dX10_outwardsAtAims_73 : decode cX10_outwardsAtAims 73 = .ok (.lstore_n 2, 1) := by decide +kernel
theorem dX10_outwardsAtAims_74 : decode cX10_outwardsAtAims 74 = .ok (.iinc 4 1, 3) := by decide +kernel
theorem dX10_outwardsAtAims_77 : decode cX10_outwardsAtAims 77 = .ok (.goto (-63), 3) := by decide +kernel
theorem dX10_outwardsAtAims_80 : decode cX10_outwardsAtAims 80 = .ok (.lload_n 2, 1) := by decide +kernel
theorem dX10_outwardsAtAims_81 : decode cX10_outwardsAtAims 81 = .ok (.lreturn, 1) := by decide +kernel
theorem dX10_place_0 : decode cX10_place 0 = .ok (.iload_n 1, 1) := by decide +kernel
theorem dX10_place_1 : decode cX10_place 1 = .ok (.invokestatic 157, 3) := by decide +kernel
theorem dX10_place_4 : decode cX10_place 4 = .ok (.ifCond .ne 6, 3) := by decide +kernel
theorem dX10_place_7 : decode cX10_place 7 = .ok (.bipush (-100), 2) := by decide +kernel
theorem dX10_place_9 : decode cX10_place 9 = .ok (.ireturn, 1) := by decide +kernel
theorem dX10_place_10 : decode cX10_place 10 = .ok (.aload_n 0, 1) := by decide +kernel
theorem dX10_place_11 : decode cX10_place 11 = .ok (.getfield 34, 3) := by decide +kernel
theorem dX10_place_14 : decode cX10_place 14 = .ok (.getfield 91, 3) := by decide +kernel
theorem dX10_place_17 : decode cX10_place 17 = .ok (.iload_n 1, 1) := by decide +kernel
theorem dX10_place_18 : decode cX10_place 18 = .ok (.invokevirtual 160, 3) := by decide +kernel
theorem dX10_place_21 : decode cX10_place 21 = .ok (.invokestatic 163, 3) := by decide +kernel
theorem dX10_place_24 : decode cX10_place 24 = .ok (.istore_n 3, 1) := by decide +kernel
theorem dX10_place_25 : decode cX10_place 25 = .ok (.iload_n 2, 1) := by decide +kernel
theorem dX10_place_26 : decode cX10_place 26 = .ok (.tableswitch 89 0 4 #[34, 36, 51, 63, 77], 34) := by decide +kernel
theorem dX10_place_60 : decode cX10_place 60 = .ok (.iload_n 3, 1) := by decide +kernel
theorem dX10_place_61 : decode cX10_place 61 = .ok (.ireturn, 1) := by decide +kernel
theorem dX10_place_62 : decode cX10_place 62 = .ok (.aload_n 0, 1) := by decide +kernel
theorem dX10_place_63 : decode cX10_place 63 = .ok (.getfield 34, 3) := by decide +kernel
theorem dX10_place_66 : decode cX10_place 66 = .ok (.getfield 91, 3) := by decide +kernel
theorem dX10_place_69 : decode cX10_place 69 = .ok (.iload_n 1, 1) := by decide +kernel
theorem dX10_place_70 : decode cX10_place 70 = .ok (.invokevirtual 168, 3) := by decide +kernel
theorem dX10_place_73 : decode cX10_place 73 = .ok (.invokestatic 163, 3) := by decide +kernel
theorem dX10_place_76 : decode cX10_place 76 = .ok (.ireturn, 1) := by decide +kernel
theorem dX10_place_77 : decode cX10_place 77 = .ok (.aload_n 0, 1) := by decide +kernel
theorem dX10_place_78 : decode cX10_place 78 = .ok (.getfield 34, 3) := by decide +kernel
theorem dX10_place_81 : decode cX10_place 81 = .ok (.getfield 126, 3) := by decide +kernel
theorem dX10_place_84 : decode cX10_place 84 = .ok (.iload_n 1, 1) := by decide +kernel
theorem dX10_place_85 : decode cX10_place 85 = .ok (.invokevirtual 171, 3) := by decide +kernel
theorem dX10_place_88 : decode cX10_place 88 = .ok (.ireturn, 1) := by decide +kernel
theorem dX10_place_89 : decode cX10_place 89 = .ok (.iload_n 3, 1) := by decide +kernel
theorem dX10_place_90 : decode cX10_place 90 = .ok (.aload_n 0, 1) := by decide +kernel
theorem dX10_place_91 : decode cX10_place 91 = .ok (.getfield 34, 3) := by decide +kernel
theorem dX10_place_94 : decode cX10_place 94 = .ok (.getfield 126, 3) := by decide +kernel
theorem dX10_place_97 : decode cX10_place 97 = .ok (.iload_n 1, 1) := by decide +kernel
theorem dX10_place_98 : decode cX10_place 98 = .ok (.invokevirtual 171, 3) := by decide +kernel
theorem dX10_place_101 : decode cX10_place 101 = .ok (.isub, 1) := by decide +kernel
theorem dX10_place_102 : decode cX10_place 102 = .ok (.ireturn, 1) := by decide +kernel
theorem dX10_place_103 : decode cX10_place 103 = .ok (.aload_n 0, 1) := by decide +kernel
theorem dX10_place_104 : decode cX10_place 104 = .ok (.getfield 34, 3) := by decide +kernel
theorem dX10_place_107 : decode cX10_place 107 = .ok (.getfield 91, 3) := by decide +kernel
theorem dX10_place_110 : decode cX10_place 110 = .ok (.iload_n 1, 1) := by decide +kernel
theorem dX10_place_111 : decode cX10_place 111 = .ok (.invokevirtual 174, 3) := by decide +kernel
theorem dX10_place_114 : decode cX10_place 114 = .ok (.ireturn, 1) := by decide +kernel
theorem dX10_place_115 : decode cX10_place 115 = .ok (.bipush (-100), 2) := by decide +kernel
theorem dX10_place_117 : decode cX10_place 117 = .ok (.ireturn, 1) := by decide +kernel
theorem dX10_post_0 : decode cX10_post 0 = .ok (.aload_n 0, 1) := by decide +kernel
theorem dX10_post_1 : decode cX10_post 1 = .ok (.getfield 34, 3) := by decide +kernel
theorem dX10_post_4 : decode cX10_post 4 = .ok (.getfield 126, 3) := by decide +kernel
theorem dX10_post_7 : decode cX10_post 7 = .ok (.iload_n 1, 1) := by decide +kernel
theorem dX10_post_8 : decode cX10_post 8 = .ok (.invokevirtual 229, 3) := by decide +kernel
theorem dX10_post_11 : decode cX10_post 11 = .ok (.ifCond .eq 29, 3) := by decide +kernel
theorem dX10_post_14 : decode cX10_post 14 = .ok (.iload_n 2, 1) := by decide +kernel
theorem dX10_post_15 : decode cX10_post 15 = .ok (.ifCond .lt 25, 3) := by decide +kernel
theorem dX10_post_18 : decode cX10_post 18 = .ok (.iload_n 2, 1) := by decide +kernel
theorem dX10_post_19 : decode cX10_post 19 = .ok (.sipush 255, 3) := by decide +kernel
theorem dX10_post_22 : decode cX10_post 22 = .ok (.if_icmp .gt 18, 3) := by decide +kernel
theorem dX10_post_25 : decode cX10_post 25 = .ok (.aload_n 0, 1) := by decide +kernel
theorem dX10_post_26 : decode cX10_post 26 = .ok (.getfield 34, 3) := by decide +kernel
theorem dX10_post_29 : decode cX10_post 29 = .ok (.getfield 91, 3) := by decide +kernel
theorem dX10_post_32 : decode cX10_post 32 = .ok (.getfield 95, 3) := by decide +kernel
theorem dX10_post_35 : decode cX10_post 35 = .ok (.bipush 9, 2) := by decide +kernel
theorem dX10_post_37 : decode cX10_post 37 = .ok (.if_icmp .le 5, 3) := by decide +kernel
theorem dX10_post_40 : decode cX10_post 40 = .ok (.iconst (-1), 1) := by decide +kernel
theorem dX10_post_41 : decode cX10_post 41 = .ok (.ireturn, 1) := by decide +kernel
theorem dX10_post_42 : decode cX10_post 42 = .ok (.aload_n 0, 1) := by decide +kernel
theorem dX10_post_43 : decode cX10_post 43 = .ok (.getfield 57, 3) := by decide +kernel
theorem dX10_post_46 : decode cX10_post 46 = .ok (.iconst 1, 1) := by decide +kernel
theorem dX10_post_47 : decode cX10_post 47 = .ok (.iload_n 1, 1) := by decide +kernel
theorem dX10_post_48 : decode cX10_post 48 = .ok (.ishl, 1) := by decide +kernel
theorem dX10_post_49 : decode cX10_post 49 = .ok (.invokevirtual 202, 3) := by decide +kernel
theorem dX10_post_52 : decode cX10_post 52 = .ok (.aload_n 0, 1) := by decide +kernel
theorem dX10_post_53 : decode cX10_post 53 = .ok (.getfield 57, 3) := by decide +kernel
theorem dX10_post_56 : decode cX10_post 56 = .ok (.iload_n 2, 1) := by decide +kernel
theorem dX10_post_57 : decode cX10_post 57 = .ok (.iload_n 3, 1) := by decide +kernel
theorem dX10_post_58 : decode cX10_post 58 = .ok (.invokevirtual 238, 3) := by decide +kernel
theorem dX10_post_61 : decode cX10_post 61 = .ok (.istore 4, 2) := by decide +kernel
theorem dX10_post_63 : decode cX10_post 63 = .ok (.iload 4, 2) := by decide +kernel
theorem dX10_post_65 : decode cX10_post 65 = .ok (.ifCond .ge 8, 3) := by decide +kernel
theorem dX10_post_68 : decode cX10_post 68 = .ok (.bipush (-2), 2) := by decide +kernel
theorem dX10_post_70 : decode cX10_post 70 = .ok (.goto 5, 3) := by decide +kernel
theorem dX10_post_73 : decode cX10_post 73 = .ok (.iload 4, 2) := by decide +kernel
theorem dX10_post_75 : decode cX10_post 75 = .ok (.ireturn, 1) := by decide +kernel
theorem dX10_row_0 : decode cX10_row 0 = .ok (.iload_n 1, 1) := by decide +kernel
theorem dX10_row_1 : decode cX10_row 1 = .ok (.iconst (-1), 1) := by decide +kernel
theorem dX10_row_2 : decode cX10_row 2 = .ok (.if_icmp .ne 13, 3) := by decide +kernel
theorem dX10_row_5 : decode cX10_row 5 = .ok (.aload_n 0, 1) := by decide +kernel
theorem dX10_row_6 : decode cX10_row 6 = .ok (.getfield 34, 3) := by decide +kernel
theorem dX10_row_9 : decode cX10_row 9 = .ok (.iconst 0, 1) := by decide +kernel
theorem dX10_row_10 : decode cX10_row 10 = .ok (.putfield 261, 3) := by decide +kernel
theorem dX10_row_13 : decode cX10_row 13 = .ok (.iconst 0, 1) := by decide +kernel
theorem dX10_row_14 : decode cX10_row 14 = .ok (.ireturn, 1) := by decide +kernel
theorem dX10_row_15 : decode cX10_row 15 = .ok (.aload_n 0, 1) := by decide +kernel
theorem dX10_row_16 : decode cX10_row 16 = .ok (.getfield 34, 3) := by decide +kernel
theorem dX10_row_19 : decode cX10_row 19 = .ok (.getfield 126, 3) := by decide +kernel
theorem dX10_row_22 : decode cX10_row 22 = .ok (.iload_n 1, 1) := by decide +kernel
theorem dX10_row_23 : decode cX10_row 23 = .ok (.invokevirtual 135, 3) := by decide +kernel
theorem dX10_row_26 : decode cX10_row 26 = .ok (.ifCond .eq 29, 3) := by decide +kernel
theorem dX10_row_29 : decode cX10_row 29 = .ok (.aload_n 0, 1) := by decide +kernel
theorem dX10_row_30 : decode cX10_row 30 = .ok (.getfield 34, 3) := by decide +kernel
theorem dX10_row_33 : decode cX10_row 33 = .ok (.getfield 91, 3) := by decide +kernel
theorem dX10_row_36 : decode cX10_row 36 = .ok (.iload_n 2, 1) := by decide +kernel
theorem dX10_row_37 : decode cX10_row 37 = .ok (.invokevirtual 106, 3) := by decide +kernel
theorem dX10_row_40 : decode cX10_row 40 = .ok (.ifCond .eq 15, 3) := by decide +kernel
theorem dX10_row_43 : decode cX10_row 43 = .ok (.aload_n 0, 1) := by decide +kernel
theorem dX10_row_44 : decode cX10_row 44 = .ok (.getfield 34, 3) := by decide +kernel
theorem dX10_row_47 : decode cX10_row 47 = .ok (.getfield 261, 3) := by decide +kernel
theorem dX10_row_50 : decode cX10_row 50 = .ok (.bipush 40, 2) := by decide +kernel
theorem dX10_row_52 : decode cX10_row 52 = .ok (.if_icmp .lt 6, 3) := by decide +kernel
theorem dX10_row_55 : decode cX10_row 55 = .ok (.bipush (-2), 2) := by decide +kernel
theorem dX10_row_57 : decode cX10_row 57 = .ok (.ireturn, 1) := by decide +kernel
theorem dX10_row_58 : decode cX10_row 58 = .ok (.aload_n 0, 1) := by decide +kernel
theorem dX10_row_59 : decode cX10_row 59 = .ok (.getfield 34, 3) := by decide +kernel
theorem dX10_row_62 : decode cX10_row 62 = .ok (.getfield 264, 3) := by decide +kernel
theorem dX10_row_65 : decode cX10_row 65 = .ok (.aload_n 0, 1) := by decide +kernel
theorem dX10_row_66 : decode cX10_row 66 = .ok (.getfield 34, 3) := by decide +kernel
theorem dX10_row_69 : decode cX10_row 69 = .ok (.getfield 261, 3) := by decide +kernel
theorem dX10_row_72 : decode cX10_row 72 = .ok (.bipush 16, 2) := by decide +kernel
theorem dX10_row_74 : decode cX10_row 74 = .ok (.iload_n 1, 1) := by decide +kernel
theorem dX10_row_75 : decode cX10_row 75 = .ok (.imul, 1) := by decide +kernel
theorem dX10_row_76 : decode cX10_row 76 = .ok (.iload_n 2, 1) := by decide +kernel
theorem dX10_row_77 : decode cX10_row 77 = .ok (.iadd, 1) := by decide +kernel
theorem dX10_row_78 : decode cX10_row 78 = .ok (.iastore, 1) := by decide +kernel
theorem dX10_row_79 : decode cX10_row 79 = .ok (.aload_n 0, 1) := by decide +kernel
theorem dX10_row_80 : decode cX10_row 80 = .ok (.getfield 34, 3) := by decide +kernel
theorem dX10_row_83 : decode cX10_row 83 = .ok (.dup, 1) := by decide +kernel
theorem dX10_row_84 : decode cX10_row 84 = .ok (.getfield 261, 3) := by decide +kernel
theorem dX10_row_87 : decode cX10_row 87 = .ok (.iconst 1, 1) := by decide +kernel
theorem dX10_row_88 : decode cX10_row 88 = .ok (.iadd, 1) := by decide +kernel
theorem dX10_row_89 : decode cX10_row 89 = .ok (.putfield 261, 3) := by decide +kernel
theorem dX10_row_92 : decode cX10_row 92 = .ok (.aload_n 0, 1) := by decide +kernel
theorem dX10_row_93 : decode cX10_row 93 = .ok (.getfield 34, 3) := by decide +kernel
theorem dX10_row_96 : decode cX10_row 96 = .ok (.getfield 261, 3) := by decide +kernel
theorem dX10_row_99 : decode cX10_row 99 = .ok (.ireturn, 1) := by decide +kernel
theorem dX10_rule_0 : decode cX10_rule 0 = .ok (.aload_n 0, 1) := by decide +kernel
theorem dX10_rule_1 : decode cX10_rule 1 = .ok (.getfield 68, 3) := by decide +kernel
theorem dX10_rule_4 : decode cX10_rule 4 = .ok (.bipush 6, 2) := by decide +kernel
theorem dX10_rule_6 : decode cX10_rule 6 = .ok (.if_icmp .lt 5, 3) := by decide +kernel
theorem dX10_rule_9 : decode cX10_rule 9 = .ok (.iconst (-1), 1) := by decide +kernel
theorem dX10_rule_10 : decode cX10_rule 10 = .ok (.ireturn, 1) := by decide +kernel
theorem dX10_rule_11 : decode cX10_rule 11 = .ok (.aload_n 0, 1) := by decide +kernel
theorem dX10_rule_12 : decode cX10_rule 12 = .ok (.getfield 21, 3) := by decide +kernel
theorem dX10_rule_15 : decode cX10_rule 15 = .ok (.invokevirtual 100, 3) := by decide +kernel
theorem dX10_rule_18 : decode cX10_rule 18 = .ok (.astore_n 1, 1) := by decide +kernel
theorem dX10_rule_19 : decode cX10_rule 19 = .ok (.aload_n 0, 1) := by decide +kernel
theorem dX10_rule_20 : decode cX10_rule 20 = .ok (.getfield 10, 3) := by decide +kernel
theorem dX10_rule_23 : decode cX10_rule 23 = .ok (.iconst 0, 1) := by decide +kernel
theorem dX10_rule_24 : decode cX10_rule 24 = .ok (.putfield 72, 3) := by decide +kernel
theorem dX10_rule_27 : decode cX10_rule 27 = .ok (.aload_n 1, 1) := by decide +kernel
theorem dX10_rule_28 : decode cX10_rule 28 = .ok (.ifnonnull 14, 3) := by decide +kernel
theorem dX10_rule_31 : decode cX10_rule 31 = .ok (.bipush (-2), 2) := by decide +kernel
theorem dX10_rule_33 : decode cX10_rule 33 = .ok (.aload_n 0, 1) := by decide +kernel
theorem dX10_rule_34 : decode cX10_rule 34 = .ok (.getfield 10, 3) := by decide +kernel
theorem dX10_rule_37 : decode cX10_rule 37 = .ok (.getfield 103, 3) := by decide +kernel
theorem dX10_rule_40 : decode cX10_rule 40 = .ok (.isub, 1) := by decide +kernel
theorem dX10_rule_41 : decode cX10_rule 41 = .ok (.ireturn, 1) := by decide +kernel
theorem dX10_rule_42 : decode cX10_rule 42 = .ok (.aload_n 0, 1) := by decide +kernel
theorem dX10_rule_43 : decode cX10_rule 43 = .ok (.getfield 27, 3) := by decide +kernel
theorem dX10_rule_46 : decode cX10_rule 46 = .ok (.aload_n 0, 1) := by decide +kernel
theorem dX10_rule_47 : decode cX10_rule 47 = .ok (.getfield 68, 3) := by decide +kernel
theorem dX10_rule_50 : decode cX10_rule 50 = .ok (.aload_n 1, 1) := by decide +kernel
theorem dX10_rule_51 : decode cX10_rule 51 = .ok (.aastore, 1) := by decide +kernel
theorem dX10_rule_52 : decode cX10_rule 52 = .ok (.aload_n 0, 1) := by decide +kernel
theorem dX10_rule_53 : decode cX10_rule 53 = .ok (.dup, 1) := by decide +kernel
theorem dX10_rule_54 : decode cX10_rule 54 = .ok (.getfield 68, 3) := by decide +kernel
theorem dX10_rule_57 : decode cX10_rule 57 = .ok (.iconst 1, 1) := by decide +kernel
theorem dX10_rule_58 : decode cX10_rule 58 = .ok (.iadd, 1) := by decide +kernel
theorem dX10_rule_59 : decode cX10_rule 59 = .ok (.putfield 68, 3) := by decide +kernel
theorem dX10_rule_62 : decode cX10_rule 62 = .ok (.aload_n 0, 1) := by decide +kernel
theorem dX10_rule_63 : decode cX10_rule 63 = .ok (.getfield 68, 3) := by decide +kernel
theorem dX10_rule_66 : decode cX10_rule 66 = .ok (.iconst 1, 1) := by decide +kernel
theorem dX10_rule_67 : decode cX10_rule 67 = .ok (.isub, 1) := by decide +kernel
theorem dX10_rule_68 : decode cX10_rule 68 = .ok (.ireturn, 1) := by decide +kernel
theorem dX10_seed_0 : decode cX10_seed 0 = .ok (.iload_n 1, 1) := by decide +kernel
theorem dX10_seed_1 : decode cX10_seed 1 = .ok (.ifCond .ge 5, 3) := by decide +kernel
theorem dX10_seed_4 : decode cX10_seed 4 = .ok (.iconst (-1), 1) := by decide +kernel
theorem dX10_seed_5 : decode cX10_seed 5 = .ok (.ireturn, 1) := by decide +kernel
theorem dX10_seed_6 : decode cX10_seed 6 = .ok (.aload_n 0, 1) := by decide +kernel
theorem dX10_seed_7 : decode cX10_seed 7 = .ok (.getfield 34, 3) := by decide +kernel
theorem dX10_seed_10 : decode cX10_seed 10 = .ok (.getfield 85, 3) := by decide +kernel
theorem dX10_seed_13 : decode cX10_seed 13 = .ok (.istore_n 2, 1) := by decide +kernel
theorem dX10_seed_14 : decode cX10_seed 14 = .ok (.aload_n 0, 1) := by decide +kernel
theorem dX10_seed_15 : decode cX10_seed 15 = .ok (.getfield 34, 3) := by decide +kernel
theorem dX10_seed_18 : decode cX10_seed 18 = .ok (.iload_n 1, 1) := by decide +kernel
theorem dX10_seed_19 : decode cX10_seed 19 = .ok (.putfield 85, 3) := by decide +kernel
theorem dX10_seed_22 : decode cX10_seed 22 = .ok (.iload_n 2, 1) := by decide +kernel
theorem dX10_seed_23 : decode cX10_seed 23 = .ok (.ireturn, 1) := by decide +kernel
theorem dX10_settles_0 : decode cX10_settles 0 = .ok (.aload_n 0, 1) := by decide +kernel
theorem dX10_settles_1 : decode cX10_settles 1 = .ok (.iload_n 1, 1) := by decide +kernel
theorem dX10_settles_2 : decode cX10_settles 2 = .ok (.invokevirtual 242, 3) := by decide +kernel
theorem dX10_settles_5 : decode cX10_settles 5 = .ok (.ifCond .eq 12, 3) := by decide +kernel
theorem dX10_settles_8 : decode cX10_settles 8 = .ok (.iload_n 2, 1) := by decide +kernel
theorem dX10_settles_9 : decode cX10_settles 9 = .ok (.ifCond .lt 8, 3) := by decide +kernel
theorem dX10_settles_12 : decode cX10_settles 12 = .ok (.iload_n 2, 1) := by decide +kernel
theorem dX10_settles_13 : decode cX10_settles 13 = .ok (.iconst 1, 1) := by decide +kernel
theorem dX10_settles_14 : decode cX10_settles 14 = .ok (.if_icmp .le 5, 3) := by decide +kernel
theorem dX10_settles_17 : decode cX10_settles 17 = .ok (.iconst (-1), 1) := by decide +kernel
theorem dX10_settles_18 : decode cX10_settles 18 = .ok (.ireturn, 1) := by decide +kernel
theorem dX10_settles_19 : decode cX10_settles 19 = .ok (.aload_n 0, 1) := by decide +kernel
theorem dX10_settles_20 : decode cX10_settles 20 = .ok (.getfield 64, 3) := by decide +kernel
theorem dX10_settles_23 : decode cX10_settles 23 = .ok (.iload_n 1, 1) := by decide +kernel
theorem dX10_settles_24 : decode cX10_settles 24 = .ok (.invokevirtual 245, 3) := by decide +kernel
theorem dX10_settles_27 : decode cX10_settles 27 = .ok (.aload_n 0, 1) := by decide +kernel
theorem dX10_settles_28 : decode cX10_settles 28 = .ok (.getfield 64, 3) := by decide +kernel
theorem dX10_settles_31 : decode cX10_settles 31 = .ok (.invokevirtual 255, 3) := by decide +kernel
theorem dX10_settles_34 : decode cX10_settles 34 = .ok (.istore_n 3, 1) := by decide +kernel
theorem dX10_settles_35 : decode cX10_settles 35 = .ok (.iload_n 3, 1) := by decide +kernel
theorem dX10_settles_36 : decode cX10_settles 36 = .ok (.ifCond .ge 6, 3) := by decide +kernel
theorem dX10_settles_39 : decode cX10_settles 39 = .ok (.bipush (-2), 2) := by decide +kernel
theorem dX10_settles_41 : decode cX10_settles 41 = .ok (.ireturn, 1) := by decide +kernel
theorem dX10_settles_42 : decode cX10_settles 42 = .ok (.iload_n 2, 1) := by decide +kernel
theorem dX10_settles_43 : decode cX10_settles 43 = .ok (.ifCond .ne 14, 3) := by decide +kernel
theorem dX10_settles_46 : decode cX10_settles 46 = .ok (.aload_n 0, 1) := by decide +kernel
theorem dX10_settles_47 : decode cX10_settles 47 = .ok (.getfield 64, 3) := by decide +kernel
theorem dX10_settles_50 : decode cX10_settles 50 = .ok (.iload_n 3, 1) := by decide +kernel
theorem dX10_settles_51 : decode cX10_settles 51 = .ok (.invokevirtual 258, 3) := by decide +kernel
theorem dX10_settles_54 : decode cX10_settles 54 = .ok (.goto 4, 3) := by decide +kernel
theorem dX10_settles_57 : decode cX10_settles 57 = .ok (.iload_n 3, 1) := by decide +kernel
theorem dX10_settles_58 : decode cX10_settles 58 = .ok (.ireturn, 1) := by decide +kernel
theorem dX10_stateBehind_0 : decode cX10_stateBehind 0 = .ok (.aload_n 0, 1) := by decide +kernel
theorem dX10_stateBehind_1 : decode cX10_stateBehind 1 = .ok (.getfield 38, 3) := by decide +kernel
theorem dX10_stateBehind_4 : decode cX10_stateBehind 4 = .ok (.aload_n 0, 1) := by decide +kernel
theorem dX10_stateBehind_5 : decode cX10_stateBehind 5 = .ok (.getfield 34, 3) := by decide +kernel
theorem dX10_stateBehind_8 : decode cX10_stateBehind 8 = .ok (.invokevirtual 88, 3) := by decide +kernel
theorem dX10_stateBehind_11 : decode cX10_stateBehind 11 = .ok (.iload_n 1, 1) := by decide +kernel
theorem dX10_stateBehind_12 : decode cX10_stateBehind 12 = .ok (.ifCond .lt 16, 3) := by decide +kernel
theorem dX10_stateBehind_15 : decode cX10_stateBehind 15 = .ok (.iload_n 1, 1) := by decide +kernel
theorem dX10_stateBehind_16 : decode cX10_stateBehind 16 = .ok (.iconst 1, 1) := by decide +kernel
theorem dX10_stateBehind_17 : decode cX10_stateBehind 17 = .ok (.iadd, 1) := by decide +kernel
theorem dX10_stateBehind_18 : decode cX10_stateBehind 18 = .ok (.aload_n 0, 1) := by decide +kernel
theorem dX10_stateBehind_19 : decode cX10_stateBehind 19 = .ok (.getfield 34, 3) := by decide +kernel
theorem dX10_stateBehind_22 : decode cX10_stateBehind 22 = .ok (.getfield 261, 3) := by decide +kernel
theorem dX10_stateBehind_25 : decode cX10_stateBehind 25 = .ok (.if_icmp .lt 7, 3) := by decide +kernel
theorem dX10_stateBehind_28 : decode cX10_stateBehind 28 = .ok (.ldc2_w 308, 3) := by decide +kernel
theorem dX10_stateBehind_31 : decode cX10_stateBehind 31 = .ok (.lreturn, 1) := by decide +kernel
theorem dX10_stateBehind_32 : decode cX10_stateBehind 32 = .ok (.iload_n 2, 1) := by decide +kernel
theorem dX10_stateBehind_33 : decode cX10_stateBehind 33 = .ok (.ifCond .eq 43, 3) := by decide +kernel
theorem dX10_stateBehind_36 : decode cX10_stateBehind 36 = .ok (.aload_n 0, 1) := by decide +kernel
theorem dX10_stateBehind_37 : decode cX10_stateBehind 37 = .ok (.getfield 38, 3) := by decide +kernel
theorem dX10_stateBehind_40 : decode cX10_stateBehind 40 = .ok (.getfield 264, 3) := by decide +kernel
theorem dX10_stateBehind_43 : decode cX10_stateBehind 43 = .ok (.iload_n 1, 1) := by decide +kernel
theorem dX10_stateBehind_44 : decode cX10_stateBehind 44 = .ok (.aload_n 0, 1) := by decide +kernel
theorem dX10_stateBehind_45 : decode cX10_stateBehind 45 = .ok (.getfield 34, 3) := by decide +kernel
theorem dX10_stateBehind_48 : decode cX10_stateBehind 48 = .ok (.getfield 264, 3) := by decide +kernel
theorem dX10_stateBehind_51 : decode cX10_stateBehind 51 = .ok (.iload_n 1, 1) := by decide +kernel
theorem dX10_stateBehind_52 : decode cX10_stateBehind 52 = .ok (.iconst 1, 1) := by decide +kernel
theorem dX10_stateBehind_53 : decode cX10_stateBehind 53 = .ok (.iadd, 1) := by decide +kernel
theorem dX10_stateBehind_54 : decode cX10_stateBehind 54 = .ok (.iaload, 1) := by decide +kernel
theorem dX10_stateBehind_55 : decode cX10_stateBehind 55 = .ok (.iastore, 1) := by decide +kernel
theorem dX10_stateBehind_56 : decode cX10_stateBehind 56 = .ok (.aload_n 0, 1) := by decide +kernel
theorem dX10_stateBehind_57 : decode cX10_stateBehind 57 = .ok (.getfield 38, 3) := by decide +kernel
theorem dX10_stateBehind_60 : decode cX10_stateBehind 60 = .ok (.getfield 264, 3) := by decide +kernel
theorem dX10_stateBehind_63 : decode cX10_stateBehind 63 = .ok (.iload_n 1, 1) := by decide +kernel
theorem dX10_stateBehind_64 : decode cX10_stateBehind 64 = .ok (.iconst 1, 1) := by decide +kernel
theorem dX10_stateBehind_65 : decode cX10_stateBehind 65 = .ok (.iadd, 1) := by decide +kernel
theorem dX10_stateBehind_66 : decode cX10_stateBehind 66 = .ok (.aload_n 0, 1) := by decide +kernel
theorem dX10_stateBehind_67 : decode cX10_stateBehind 67 = .ok (.getfield 34, 3) := by decide +kernel
theorem dX10_stateBehind_70 : decode cX10_stateBehind 70 = .ok (.getfield 264, 3) := by decide +kernel
theorem dX10_stateBehind_73 : decode cX10_stateBehind 73 = .ok (.iload_n 1, 1) := by decide +kernel
theorem dX10_stateBehind_74 : decode cX10_stateBehind 74 = .ok (.iaload, 1) := by decide +kernel
theorem dX10_stateBehind_75 : decode cX10_stateBehind 75 = .ok (.iastore, 1) := by decide +kernel
theorem dX10_stateBehind_76 : decode cX10_stateBehind 76 = .ok (.aload_n 0, 1) := by decide +kernel
theorem dX10_stateBehind_77 : decode cX10_stateBehind 77 = .ok (.getfield 38, 3) := by decide +kernel
theorem dX10_stateBehind_80 : decode cX10_stateBehind 80 = .ok (.iload_n 1, 1) := by decide +kernel
theorem dX10_stateBehind_81 : decode cX10_stateBehind 81 = .ok (.iconst 2, 1) := by decide +kernel
theorem dX10_stateBehind_82 : decode cX10_stateBehind 82 = .ok (.iadd, 1) := by decide +kernel
theorem dX10_stateBehind_83 : decode cX10_stateBehind 83 = .ok (.invokevirtual 267, 3) := by decide +kernel
theorem dX10_stateBehind_86 : decode cX10_stateBehind 86 = .ok (.iload_n 1, 1) := by decide +kernel
theorem dX10_stateBehind_87 : decode cX10_stateBehind 87 = .ok (.iconst 2, 1) := by decide +kernel
theorem dX10_stateBehind_88 : decode cX10_stateBehind 88 = .ok (.iadd, 1) := by decide +kernel
theorem dX10_stateBehind_89 : decode cX10_stateBehind 89 = .ok (.if_icmp .ne 13, 3) := by decide +kernel
theorem dX10_stateBehind_92 : decode cX10_stateBehind 92 = .ok (.aload_n 0, 1) := by decide +kernel
theorem dX10_stateBehind_93 : decode cX10_stateBehind 93 = .ok (.getfield 38, 3) := by decide +kernel
theorem dX10_stateBehind_96 : decode cX10_stateBehind 96 = .ok (.invokevirtual 310, 3) := by decide +kernel
theorem dX10_stateBehind_99 : decode cX10_stateBehind 99 = .ok (.goto 6, 3) := by decide +kernel
theorem dX10_stateBehind_102 : decode cX10_stateBehind 102 = .ok (.ldc2_w 308, 3) := by decide +kernel
theorem dX10_stateBehind_105 : decode cX10_stateBehind 105 = .ok (.lreturn, 1) := by decide +kernel
theorem dX10_step_0 : decode cX10_step 0 = .ok (.aload_n 0, 1) := by decide +kernel
theorem dX10_step_1 : decode cX10_step 1 = .ok (.iload_n 1, 1) := by decide +kernel
theorem dX10_step_2 : decode cX10_step 2 = .ok (.invokevirtual 199, 3) := by decide +kernel
theorem dX10_step_5 : decode cX10_step 5 = .ok (.ifCond .eq 14, 3) := by decide +kernel
theorem dX10_step_8 : decode cX10_step 8 = .ok (.iload_n 2, 1) := by decide +kernel
theorem dX10_step_9 : decode cX10_step 9 = .ok (.ifCond .lt 10, 3) := by decide +kernel
theorem dX10_step_12 : decode cX10_step 12 = .ok (.iload_n 2, 1) := by decide +kernel
theorem dX10_step_13 : decode cX10_step 13 = .ok (.sipush 999, 3) := by decide +kernel
theorem dX10_step_16 : decode cX10_step 16 = .ok (.if_icmp .le 5, 3) := by decide +kernel
theorem dX10_step_19 : decode cX10_step 19 = .ok (.iconst (-1), 1) := by decide +kernel
theorem dX10_step_20 : decode cX10_step 20 = .ok (.ireturn, 1) := by decide +kernel
theorem dX10_step_21 : decode cX10_step 21 = .ok (.aload_n 0, 1) := by decide +kernel
theorem dX10_step_22 : decode cX10_step 22 = .ok (.getfield 57, 3) := by decide +kernel
theorem dX10_step_25 : decode cX10_step 25 = .ok (.iload_n 1, 1) := by decide +kernel
theorem dX10_step_26 : decode cX10_step 26 = .ok (.invokevirtual 202, 3) := by decide +kernel
theorem dX10_step_29 : decode cX10_step 29 = .ok (.aload_n 0, 1) := by decide +kernel
theorem dX10_step_30 : decode cX10_step 30 = .ok (.getfield 57, 3) := by decide +kernel
theorem dX10_step_33 : decode cX10_step 33 = .ok (.iload_n 2, 1) := by decide +kernel
theorem dX10_step_34 : decode cX10_step 34 = .ok (.invokevirtual 208, 3) := by decide +kernel
theorem dX10_step_37 : decode cX10_step 37 = .ok (.ireturn, 1) := by decide +kernel
theorem dX10_tick_0 : decode cX10_tick 0 = .ok (.aload_n 0, 1) := by decide +kernel
theorem dX10_tick_1 : decode cX10_tick 1 = .ok (.iload_n 1, 1) := by decide +kernel
theorem dX10_tick_2 : decode cX10_tick 2 = .ok (.invokevirtual 274, 3) := by decide +kernel
theorem dX10_tick_5 : decode cX10_tick 5 = .ok (.ifCond .eq 30, 3) := by decide +kernel
theorem dX10_tick_8 : decode cX10_tick 8 = .ok (.iload_n 2, 1) := by decide +kernel
theorem dX10_tick_9 : decode cX10_tick 9 = .ok (.iconst 1, 1) := by decide +kernel
theorem dX10_tick_10 : decode cX10_tick 10 = .ok (.if_icmp .lt 25, 3) := by decide +kernel
theorem dX10_tick_13 : decode cX10_tick 13 = .ok (.iload_n 2, 1) := by decide +kernel
theorem dX10_tick_14 : decode cX10_tick 14 = .ok (.sipush 600, 3) := by decide +kernel
theorem dX10_tick_17 : decode cX10_tick 17 = .ok (.if_icmp .gt 18, 3) := by decide +kernel
theorem dX10_tick_20 : decode cX10_tick 20 = .ok (.aload_n 0, 1) := by decide +kernel
theorem dX10_tick_21 : decode cX10_tick 21 = .ok (.getfield 34, 3) := by decide +kernel
theorem dX10_tick_24 : decode cX10_tick 24 = .ok (.getfield 277, 3) := by decide +kernel
theorem dX10_tick_27 : decode cX10_tick 27 = .ok (.iload_n 2, 1) := by decide +kernel
theorem dX10_tick_28 : decode cX10_tick 28 = .ok (.iadd, 1) := by decide +kernel
theorem dX10_tick_29 : decode cX10_tick 29 = .ok (.ldc_w 280, 3) := by decide +kernel
theorem dX10_tick_32 : decode cX10_tick 32 = .ok (.if_icmp .le 5, 3) := by decide +kernel
theorem dX10_tick_35 : decode cX10_tick 35 = .ok (.iconst (-1), 1) := by decide +kernel
theorem dX10_tick_36 : decode cX10_tick 36 = .ok (.ireturn, 1) := by decide +kernel
theorem dX10_tick_37 : decode cX10_tick 37 = .ok (.aload_n 0, 1) := by decide +kernel
theorem dX10_tick_38 : decode cX10_tick 38 = .ok (.getfield 48, 3) := by decide +kernel
theorem dX10_tick_41 : decode cX10_tick 41 = .ok (.aload_n 0, 1) := by decide +kernel
theorem dX10_tick_42 : decode cX10_tick 42 = .ok (.getfield 34, 3) := by decide +kernel
theorem dX10_tick_45 : decode cX10_tick 45 = .ok (.aload_n 0, 1) := by decide +kernel
theorem dX10_tick_46 : decode cX10_tick 46 = .ok (.getfield 27, 3) := by decide +kernel
theorem dX10_tick_49 : decode cX10_tick 49 = .ok (.iload_n 1, 1) := by decide +kernel
theorem dX10_tick_50 : decode cX10_tick 50 = .ok (.aaload, 1) := by decide +kernel
theorem dX10_tick_51 : decode cX10_tick 51 = .ok (.iload_n 2, 1) := by decide +kernel
theorem dX10_tick_52 : decode cX10_tick 52 = .ok (.invokevirtual 281, 3) := by decide +kernel
theorem dX10_tick_55 : decode cX10_tick 55 = .ok (.aload_n 0, 1) := by decide +kernel
theorem dX10_tick_56 : decode cX10_tick 56 = .ok (.getfield 34, 3) := by decide +kernel
theorem dX10_tick_59 : decode cX10_tick 59 = .ok (.getfield 277, 3) := by decide +kernel
theorem dX10_tick_62 : decode cX10_tick 62 = .ok (.ireturn, 1) := by decide +kernel
theorem dX10_turn_0 : decode cX10_turn 0 = .ok (.iload_n 1, 1) := by decide +kernel
theorem dX10_turn_1 : decode cX10_turn 1 = .ok (.ifCond .lt 30, 3) := by decide +kernel
theorem dX10_turn_4 : decode cX10_turn 4 = .ok (.iload_n 1, 1) := by decide +kernel
theorem dX10_turn_5 : decode cX10_turn 5 = .ok (.aload_n 0, 1) := by decide +kernel
theorem dX10_turn_6 : decode cX10_turn 6 = .ok (.getfield 34, 3) := by decide +kernel
theorem dX10_turn_9 : decode cX10_turn 9 = .ok (.getfield 91, 3) := by decide +kernel
theorem dX10_turn_12 : decode cX10_turn 12 = .ok (.invokevirtual 189, 3) := by decide +kernel
theorem dX10_turn_15 : decode cX10_turn 15 = .ok (.if_icmp .ge 16, 3) := by decide +kernel
theorem dX10_turn_18 : decode cX10_turn 18 = .ok (.aload_n 0, 1) := by decide +kernel
theorem dX10_turn_19 : decode cX10_turn 19 = .ok (.getfield 34, 3) := by decide +kernel
theorem dX10_turn_22 : decode cX10_turn 22 = .ok (.getfield 126, 3) := by decide +kernel
theorem dX10_turn_25 : decode cX10_turn 25 = .ok (.invokevirtual 193, 3) := by decide +kernel
theorem dX10_turn_28 : decode cX10_turn 28 = .ok (.ifCond .eq 5, 3) := by decide +kernel
theorem dX10_turn_31 : decode cX10_turn 31 = .ok (.iconst (-1), 1) := by decide +kernel
theorem dX10_turn_32 : decode cX10_turn 32 = .ok (.ireturn, 1) := by decide +kernel
theorem dX10_turn_33 : decode cX10_turn 33 = .ok (.aload_n 0, 1) := by decide +kernel
theorem dX10_turn_34 : decode cX10_turn 34 = .ok (.getfield 34, 3) := by decide +kernel
theorem dX10_turn_37 : decode cX10_turn 37 = .ok (.getfield 91, 3) := by decide +kernel
theorem dX10_turn_40 : decode cX10_turn 40 = .ok (.getfield 196, 3) := by decide +kernel
theorem dX10_turn_43 : decode cX10_turn 43 = .ok (.istore_n 2, 1) := by decide +kernel
theorem dX10_turn_44 : decode cX10_turn 44 = .ok (.aload_n 0, 1) := by decide +kernel
theorem dX10_turn_45 : decode cX10_turn 45 = .ok (.getfield 34, 3) := by decide +kernel
theorem dX10_turn_48 : decode cX10_turn 48 = .ok (.getfield 91, 3) := by decide +kernel
theorem dX10_turn_51 : decode cX10_turn 51 = .ok (.iload_n 1, 1) := by decide +kernel
theorem dX10_turn_52 : decode cX10_turn 52 = .ok (.putfield 196, 3) := by decide +kernel
theorem dX10_turn_55 : decode cX10_turn 55 = .ok (.iload_n 2, 1) := by decide +kernel
theorem dX10_turn_56 : decode cX10_turn 56 = .ok (.ireturn, 1) := by decide +kernel
theorem dX10_way_0 : decode cX10_way 0 = .ok (.aload_n 0, 1) := by decide +kernel
theorem dX10_way_1 : decode cX10_way 1 = .ok (.getfield 34, 3) := by decide +kernel
theorem dX10_way_4 : decode cX10_way 4 = .ok (.getfield 91, 3) := by decide +kernel
theorem dX10_way_7 : decode cX10_way 7 = .ok (.astore_n 3, 1) := by decide +kernel
theorem dX10_way_8 : decode cX10_way 8 = .ok (.aload_n 3, 1) := by decide +kernel
theorem dX10_way_9 : decode cX10_way 9 = .ok (.iload_n 1, 1) := by decide +kernel
theorem dX10_way_10 : decode cX10_way 10 = .ok (.invokevirtual 106, 3) := by decide +kernel
theorem dX10_way_13 : decode cX10_way 13 = .ok (.ifCond .ne 5, 3) := by decide +kernel
theorem dX10_way_16 : decode cX10_way 16 = .ok (.iconst (-1), 1) := by decide +kernel
theorem dX10_way_17 : decode cX10_way 17 = .ok (.ireturn, 1) := by decide +kernel
theorem dX10_way_18 : decode cX10_way 18 = .ok (.iload_n 2, 1) := by decide +kernel
theorem dX10_way_19 : decode cX10_way 19 = .ok (.tableswitch 82 0 5 #[37, 43, 49, 56, 63, 70], 37) := by decide +kernel
theorem dX10_way_56 : decode cX10_way 56 = .ok (.aload_n 3, 1) := by decide +kernel
theorem dX10_way_57 : decode cX10_way 57 = .ok (.iload_n 1, 1) := by decide +kernel
theorem dX10_way_58 : decode cX10_way 58 = .ok (.invokevirtual 110, 3) := by decide +kernel
theorem dX10_way_61 : decode cX10_way 61 = .ok (.ireturn, 1) := by decide +kernel
theorem dX10_way_62 : decode cX10_way 62 = .ok (.aload_n 3, 1) := by decide +kernel
theorem dX10_way_63 : decode cX10_way 63 = .ok (.iload_n 1, 1) := by decide +kernel
theorem dX10_way_64 : decode cX10_way 64 = .ok (.invokevirtual 114, 3) := by decide +kernel
theorem dX10_way_67 : decode cX10_way 67 = .ok (.ireturn, 1) := by decide +kernel
theorem dX10_way_68 : decode cX10_way 68 = .ok (.aload_n 3, 1) := by decide +kernel
theorem dX10_way_69 : decode cX10_way 69 = .ok (.getfield 117, 3) := by decide +kernel
theorem dX10_way_72 : decode cX10_way 72 = .ok (.iload_n 1, 1) := by decide +kernel
theorem dX10_way_73 : decode cX10_way 73 = .ok (.iaload, 1) := by decide +kernel
theorem dX10_way_74 : decode cX10_way 74 = .ok (.ireturn, 1) := by decide +kernel
theorem dX10_way_75 : decode cX10_way 75 = .ok (.aload_n 3, 1) := by decide +kernel
theorem dX10_way_76 : decode cX10_way 76 = .ok (.getfield 120, 3) := by decide +kernel
theorem dX10_way_79 : decode cX10_way 79 = .ok (.iload_n 1, 1) := by decide +kernel
theorem dX10_way_80 : decode cX10_way 80 = .ok (.iaload, 1) := by decide +kernel
theorem dX10_way_81 : decode cX10_way 81 = .ok (.ireturn, 1) := by decide +kernel
theorem dX10_way_82 : decode cX10_way 82 = .ok (.aload_n 3, 1) := by decide +kernel
theorem dX10_way_83 : decode cX10_way 83 = .ok (.getfield 123, 3) := by decide +kernel
theorem dX10_way_86 : decode cX10_way 86 = .ok (.iload_n 1, 1) := by decide +kernel
theorem dX10_way_87 : decode cX10_way 87 = .ok (.iaload, 1) := by decide +kernel
theorem dX10_way_88 : decode cX10_way 88 = .ok (.ireturn, 1) := by decide +kernel
theorem dX10_way_89 : decode cX10_way 89 = .ok (.aload_n 0, 1) := by decide +kernel
theorem dX10_way_90 : decode cX10_way 90 = .ok (.getfield 34, 3) := by decide +kernel
theorem dX10_way_93 : decode cX10_way 93 = .ok (.getfield 126, 3) := by decide +kernel
theorem dX10_way_96 : decode cX10_way 96 = .ok (.iload_n 1, 1) := by decide +kernel
theorem dX10_way_97 : decode cX10_way 97 = .ok (.invokevirtual 130, 3) := by decide +kernel
theorem dX10_way_100 : decode cX10_way 100 = .ok (.ireturn, 1) := by decide +kernel
theorem dX10_way_101 : decode cX10_way 101 = .ok (.iconst (-1), 1) := by decide +kernel
theorem dX10_way_102 : decode cX10_way 102 = .ok (.ireturn, 1) := by decide +kernel
theorem dX11_ahead_0 : decode cX11_ahead 0 = .ok (.aload_n 0, 1) := by decide +kernel
theorem dX11_ahead_1 : decode cX11_ahead 1 = .ok (.iload_n 1, 1) := by decide +kernel
theorem dX11_ahead_2 : decode cX11_ahead 2 = .ok (.invokevirtual 432, 3) := by decide +kernel
theorem dX11_ahead_5 : decode cX11_ahead 5 = .ok (.ifCond .eq 27, 3) := by decide +kernel
theorem dX11_ahead_8 : decode cX11_ahead 8 = .ok (.iload_n 2, 1) := by decide +kernel
theorem dX11_ahead_9 : decode cX11_ahead 9 = .ok (.i2l, 1) := by decide +kernel
theorem dX11_ahead_10 : decode cX11_ahead 10 = .ok (.lconst 0, 1) := by decide +kernel
theorem dX11_ahead_11 : decode cX11_ahead 11 = .ok (.ldc2_w 435, 3) := by decide +kernel
theorem dX11_ahead_14 : decode cX11_ahead 14 = .ok (.invokestatic 125, 3) := by decide +kernel
theorem dX11_ahead_17 : decode cX11_ahead 17 = .ok (.ifCond .eq 15, 3) := by decide +kernel
theorem dX11_ahead_20 : decode cX11_ahead 20 = .ok (.iload_n 3, 1) := by decide +kernel
theorem dX11_ahead_21 : decode cX11_ahead 21 = .ok (.i2l, 1) := by decide +kernel
theorem dX11_ahead_22 : decode cX11_ahead 22 = .ok (.lconst 0, 1) := by decide +kernel
theorem dX11_ahead_23 : decode cX11_ahead 23 = .ok (.ldc2_w 440, 3) := by decide +kernel
theorem dX11_ahead_26 : decode cX11_ahead 26 = .ok (.invokestatic 125, 3) := by decide +kernel
theorem dX11_ahead_29 : decode cX11_ahead 29 = .ok (.ifCond .ne 5, 3) := by decide +kernel
theorem dX11_ahead_32 : decode cX11_ahead 32 = .ok (.iconst (-1), 1) := by decide +kernel
theorem dX11_ahead_33 : decode cX11_ahead 33 = .ok (.ireturn, 1) := by decide +kernel
theorem dX11_ahead_34 : decode cX11_ahead 34 = .ok (.aload_n 0, 1) := by decide +kernel
theorem dX11_ahead_35 : decode cX11_ahead 35 = .ok (.invokevirtual 442, 3) := by decide +kernel
theorem dX11_ahead_38 : decode cX11_ahead 38 = .ok (.aload_n 0, 1) := by decide +kernel
theorem dX11_ahead_39 : decode cX11_ahead 39 = .ok (.iload_n 1, 1) := by decide +kernel
theorem dX11_ahead_40 : decode cX11_ahead 40 = .ok (.iload_n 2, 1) := by decide +kernel
theorem dX11_ahead_41 : decode cX11_ahead 41 = .ok (.invokevirtual 437, 3) := by decide +kernel
theorem dX11_ahead_44 : decode cX11_ahead 44 = .ok (.iload_n 3, 1) := by decide +kernel
theorem dX11_ahead_45 : decode cX11_ahead 45 = .ok (.ifCond .ne 10, 3) := by decide +kernel
theorem dX11_ahead_48 : decode cX11_ahead 48 = .ok (.aload_n 0, 1) := by decide +kernel
theorem dX11_ahead_49 : decode cX11_ahead 49 = .ok (.invokevirtual 445, 3) := by decide +kernel
theorem dX11_ahead_52 : decode cX11_ahead 52 = .ok (.goto 51, 3) := by decide +kernel
theorem dX11_ahead_55 : decode cX11_ahead 55 = .ok (.iload_n 3, 1) := by decide +kernel
theorem dX11_ahead_56 : decode cX11_ahead 56 = .ok (.iconst 1, 1) := by decide +kernel
theorem dX11_ahead_57 : decode cX11_ahead 57 = .ok (.if_icmp .ne 19, 3) := by decide +kernel
theorem dX11_ahead_60 : decode cX11_ahead 60 = .ok (.aload_n 0, 1) := by decide +kernel
theorem dX11_ahead_61 : decode cX11_ahead 61 = .ok (.getfield 42, 3) := by decide +kernel
theorem dX11_ahead_64 : decode cX11_ahead 64 = .ok (.iconst 5, 1) := by decide +kernel
theorem dX11_ahead_65 : decode cX11_ahead 65 = .ok (.iaload, 1) := by decide +kernel
theorem dX11_ahead_66 : decode cX11_ahead 66 = .ok (.aload_n 0, 1) := by decide +kernel
theorem dX11_ahead_67 : decode cX11_ahead 67 = .ok (.getfield 45, 3) := by decide +kernel
theorem dX11_ahead_70 : decode cX11_ahead 70 = .ok (.iconst 5, 1) := by decide +kernel
theorem dX11_ahead_71 : decode cX11_ahead 71 = .ok (.iaload, 1) := by decide +kernel
theorem dX11_ahead_72 : decode cX11_ahead 72 = .ok (.isub, 1) := by decide +kernel
theorem dX11_ahead_73 : decode cX11_ahead 73 = .ok (.goto 30, 3) := by decide +kernel
theorem dX11_ahead_76 : decode cX11_ahead 76 = .ok (.iload_n 3, 1) := by decide +kernel
theorem dX11_ahead_77 : decode cX11_ahead 77 = .ok (.iconst 2, 1) := by decide +kernel
theorem dX11_ahead_78 : decode cX11_ahead 78 = .ok (.if_icmp .ne 19, 3) := by decide +kernel
theorem dX11_ahead_81 : decode cX11_ahead 81 = .ok (.aload_n 0, 1) := by decide +kernel
theorem dX11_ahead_82 : decode cX11_ahead 82 = .ok (.getfield 42, 3) := by decide +kernel
theorem dX11_ahead_85 : decode cX11_ahead 85 = .ok (.iconst 3, 1) := by decide +kernel
theorem dX11_ahead_86 : decode cX11_ahead 86 = .ok (.iaload, 1) := by decide +kernel
theorem dX11_ahead_87 : decode cX11_ahead 87 = .ok (.aload_n 0, 1) := by decide +kernel
theorem dX11_ahead_88 : decode cX11_ahead 88 = .ok (.getfield 45, 3) := by decide +kernel
theorem dX11_ahead_91 : decode cX11_ahead 91 = .ok (.iconst 3, 1) := by decide +kernel
theorem dX11_ahead_92 : decode cX11_ahead 92 = .ok (.iaload, 1) := by decide +kernel
theorem dX11_ahead_93 : decode cX11_ahead 93 = .ok (.isub, 1) := by decide +kernel
theorem dX11_ahead_94 : decode cX11_ahead 94 = .ok (.goto 9, 3) := by decide +kernel
theorem dX11_ahead_97 : decode cX11_ahead 97 = .ok (.aload_n 0, 1) := by decide +kernel
theorem dX11_ahead_98 : decode cX11_ahead 98 = .ok (.getfield 42, 3) := by decide +kernel
theorem dX11_ahead_101 : decode cX11_ahead 101 = .ok (.iconst 2, 1) := by decide +kernel
theorem dX11_ahead_102 : decode cX11_ahead 102 = .ok (.iaload, 1) := by decide +kernel
theorem dX11_ahead_103 : decode cX11_ahead 103 = .ok (.istore 4, 2) := by decide +kernel
theorem dX11_ahead_105 : decode cX11_ahead 105 = .ok (.aload_n 0, 1) := by decide +kernel
theorem dX11_ahead_106 : decode cX11_ahead 106 = .ok (.invokevirtual 448, 3) := by decide +kernel
theorem dX11_ahead_109 : decode cX11_ahead 109 = .ok (.iload 4, 2) := by decide +kernel
theorem dX11_ahead_111 : decode cX11_ahead 111 = .ok (.ireturn, 1) := by decide +kernel
theorem dX11_alike_0 : decode cX11_alike 0 = .ok (.iconst 0, 1) := by decide +kernel
theorem dX11_alike_1 : decode cX11_alike 1 = .ok (.istore_n 1, 1) := by decide +kernel
theorem dX11_alike_2 : decode cX11_alike 2 = .ok (.iconst 0, 1) := by decide +kernel
theorem dX11_alike_3 : decode cX11_alike 3 = .ok (.istore_n 2, 1) := by decide +kernel
theorem dX11_alike_4 : decode cX11_alike 4 = .ok (.iload_n 2, 1) := by decide +kernel
theorem dX11_alike_5 : decode cX11_alike 5 = .ok (.iconst 1, 1) := by decide +kernel
theorem dX11_alike_6 : decode cX11_alike 6 = .ok (.aload_n 0, 1) := by decide +kernel
theorem dX11_alike_7 : decode cX11_alike 7 = .ok (.getfield 42, 3) := by decide +kernel
theorem dX11_alike_10 : decode cX11_alike 10 = .ok (.iconst 0, 1) := by decide +kernel
theorem dX11_alike_11 : decode cX11_alike 11 = .ok (.iaload, 1) := by decide +kernel
theorem dX11_alike_12 : decode cX11_alike 12 = .ok (.ishl, 1) := by decide +kernel
theorem dX11_alike_13 : decode cX11_alike 13 = .ok (.if_icmp .ge 73, 3) := by decide +kernel
theorem dX11_alike_16 : decode cX11_alike 16 = .ok (.iconst 1, 1) := by decide +kernel
theorem dX11_alike_17 : decode cX11_alike 17 = .ok (.istore_n 3, 1) := by decide +kernel
theorem dX11_alike_18 : decode cX11_alike 18 = .ok (.iconst 0, 1) := by decide +kernel
theorem dX11_alike_19 : decode cX11_alike 19 = .ok (.istore 4, 2) := by decide +kernel
theorem dX11_alike_21 : decode cX11_alike 21 = .ok (.iload 4, 2) := by decide +kernel
theorem dX11_alike_23 : decode cX11_alike 23 = .ok (.bipush 8, 2) := by decide +kernel
theorem dX11_alike_25 : decode cX11_alike 25 = .ok (.if_icmp .ge 43, 3) := by decide +kernel
theorem dX11_alike_28 : decode cX11_alike 28 = .ok (.iload_n 3, 1) := by decide +kernel
theorem dX11_alike_29 : decode cX11_alike 29 = .ok (.ifCond .eq 39, 3) := by decide +kernel
theorem dX11_alike_32 : decode cX11_alike 32 = .ok (.aload_n 0, 1) := by decide +kernel
