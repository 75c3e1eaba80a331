theorem dX10_layThen_12 : decode cX10_layThen 12 = .ok (.iconst 0, 1) := by decide +kernel
theorem dX10_layThen_13 : decode cX10_layThen 13 = .ok (.istore_n 3, 1) := by decide +kernel
theorem dX10_layThen_14 : decode cX10_layThen 14 = .ok (.iload_n 3, 1) := by decide +kernel
theorem dX10_layThen_15 : decode cX10_layThen 15 = .ok (.iconst 2, 1) := by decide +kernel
theorem dX10_layThen_16 : decode cX10_layThen 16 = .ok (.if_icmp .ge 117, 3) := by decide +kernel
theorem dX10_layThen_19 : decode cX10_layThen 19 = .ok (.lconst 0, 1) := by decide +kernel
theorem dX10_layThen_20 : decode cX10_layThen 20 = .ok (.lstore 4, 2) := by decide +kernel
theorem dX10_layThen_22 : decode cX10_layThen 22 = .ok (.iconst 0, 1) := by decide +kernel
theorem dX10_layThen_23 : decode cX10_layThen 23 = .ok (.istore 6, 2) := by decide +kernel
theorem dX10_layThen_25 : decode cX10_layThen 25 = .ok (.iload 6, 2) := by decide +kernel
theorem dX10_layThen_27 : decode cX10_layThen 27 = .ok (.aload_n 0, 1) := by decide +kernel
theorem dX10_layThen_28 : decode cX10_layThen 28 = .ok (.getfield 144, 3) := by decide +kernel
theorem dX10_layThen_31 : decode cX10_layThen 31 = .ok (.if_icmp .ge 84, 3) := by decide +kernel
theorem dX10_layThen_34 : decode cX10_layThen 34 = .ok (.iload_n 1, 1) := by decide +kernel
theorem dX10_layThen_35 : decode cX10_layThen 35 = .ok (.bipush 11, 2) := by decide +kernel
theorem dX10_layThen_37 : decode cX10_layThen 37 = .ok (.if_icmp .ge 78, 3) := by decide +kernel
theorem dX10_layThen_40 : decode cX10_layThen 40 = .ok (.aload_n 0, 1) := by decide +kernel
theorem dX10_layThen_41 : decode cX10_layThen 41 = .ok (.getfield 22, 3) := by decide +kernel
theorem dX10_layThen_44 : decode cX10_layThen 44 = .ok (.bipush 12, 2) := by decide +kernel
theorem dX10_layThen_46 : decode cX10_layThen 46 = .ok (.iload 6, 2) := by decide +kernel
theorem dX10_layThen_48 : decode cX10_layThen 48 = .ok (.imul, 1) := by decide +kernel
theorem dX10_layThen_49 : decode cX10_layThen 49 = .ok (.iload_n 1, 1) := by decide +kernel
theorem dX10_layThen_50 : decode cX10_layThen 50 = .ok (.iadd, 1) := by decide +kernel
theorem dX10_layThen_51 : decode cX10_layThen 51 = .ok (.iconst 1, 1) := by decide +kernel
theorem dX10_layThen_52 : decode cX10_layThen 52 = .ok (.iadd, 1) := by decide +kernel
theorem dX10_layThen_53 : decode cX10_layThen 53 = .ok (.iaload, 1) := by decide +kernel
theorem dX10_layThen_54 : decode cX10_layThen 54 = .ok (.istore 7, 2) := by decide +kernel
theorem dX10_layThen_56 : decode cX10_layThen 56 = .ok (.aload_n 0, 1) := by decide +kernel
theorem dX10_layThen_57 : decode cX10_layThen 57 = .ok (.iload_n 2, 1) := by decide +kernel
theorem dX10_layThen_58 : decode cX10_layThen 58 = .ok (.iload 7, 2) := by decide +kernel
theorem dX10_layThen_60 : decode cX10_layThen 60 = .ok (.iload_n 3, 1) := by decide +kernel
theorem dX10_layThen_61 : decode cX10_layThen 61 = .ok (.iconst 1, 1) := by decide +kernel
theorem dX10_layThen_62 : decode cX10_layThen 62 = .ok (.if_icmp .ne 7, 3) := by decide +kernel
theorem dX10_layThen_65 : decode cX10_layThen 65 = .ok (.iconst 1, 1) := by decide +kernel
theorem dX10_layThen_66 : decode cX10_layThen 66 = .ok (.goto 4, 3) := by decide +kernel
theorem dX10_layThen_69 : decode cX10_layThen 69 = .ok (.iconst 0, 1) := by decide +kernel
theorem dX10_layThen_70 : decode cX10_layThen 70 = .ok (.aload_n 0, 1) := by decide +kernel
theorem dX10_layThen_71 : decode cX10_layThen 71 = .ok (.getfield 19, 3) := by decide +kernel
theorem dX10_layThen_74 : decode cX10_layThen 74 = .ok (.iconst 4, 1) := by decide +kernel
theorem dX10_layThen_75 : decode cX10_layThen 75 = .ok (.iaload, 1) := by decide +kernel
theorem dX10_layThen_76 : decode cX10_layThen 76 = .ok (.invokevirtual 204, 3) := by decide +kernel
theorem dX10_layThen_79 : decode cX10_layThen 79 = .ok (.lload 4, 2) := by decide +kernel
theorem dX10_layThen_81 : decode cX10_layThen 81 = .ok (.aload_n 0, 1) := by decide +kernel
theorem dX10_layThen_82 : decode cX10_layThen 82 = .ok (.getfield 37, 3) := by decide +kernel
theorem dX10_layThen_85 : decode cX10_layThen 85 = .ok (.iload_n 1, 1) := by decide +kernel
theorem dX10_layThen_86 : decode cX10_layThen 86 = .ok (.iconst 1, 1) := by decide +kernel
theorem dX10_layThen_87 : decode cX10_layThen 87 = .ok (.iadd, 1) := by decide +kernel
theorem dX10_layThen_88 : decode cX10_layThen 88 = .ok (.aload_n 0, 1) := by decide +kernel
theorem dX10_layThen_89 : decode cX10_layThen 89 = .ok (.getfield 168, 3) := by decide +kernel
theorem dX10_layThen_92 : decode cX10_layThen 92 = .ok (.iload 7, 2) := by decide +kernel
theorem dX10_layThen_94 : decode cX10_layThen 94 = .ok (.ifCond .le 7, 3) := by decide +kernel
theorem dX10_layThen_97 : decode cX10_layThen 97 = .ok (.iconst 1, 1) := by decide +kernel
theorem dX10_layThen_98 : decode cX10_layThen 98 = .ok (.goto 4, 3) := by decide +kernel
theorem dX10_layThen_101 : decode cX10_layThen 101 = .ok (.iconst 0, 1) := by decide +kernel
theorem dX10_layThen_102 : decode cX10_layThen 102 = .ok (.invokestatic 196, 3) := by decide +kernel
theorem dX10_layThen_105 : decode cX10_layThen 105 = .ok (.laload, 1) := by decide +kernel
theorem dX10_layThen_106 : decode cX10_layThen 106 = .ok (.ladd, 1) := by decide +kernel
theorem dX10_layThen_107 : decode cX10_layThen 107 = .ok (.lstore 4, 2) := by decide +kernel
theorem dX10_layThen_109 : decode cX10_layThen 109 = .ok (.iinc 6 1, 3) := by decide +kernel
theorem dX10_layThen_112 : decode cX10_layThen 112 = .ok (.goto (-87), 3) := by decide +kernel
theorem dX10_layThen_115 : decode cX10_layThen 115 = .ok (.aload_n 0, 1) := by decide +kernel
theorem dX10_layThen_116 : decode cX10_layThen 116 = .ok (.getfield 47, 3) := by decide +kernel
theorem dX10_layThen_119 : decode cX10_layThen 119 = .ok (.iconst 2, 1) := by decide +kernel
theorem dX10_layThen_120 : decode cX10_layThen 120 = .ok (.iload_n 2, 1) := by decide +kernel
theorem dX10_layThen_121 : decode cX10_layThen 121 = .ok (.imul, 1) := by decide +kernel
theorem dX10_layThen_122 : decode cX10_layThen 122 = .ok (.iload_n 3, 1) := by decide +kernel
theorem dX10_layThen_123 : decode cX10_layThen 123 = .ok (.iadd, 1) := by decide +kernel
theorem dX10_layThen_124 : decode cX10_layThen 124 = .ok (.lload 4, 2) := by decide +kernel
theorem dX10_layThen_126 : decode cX10_layThen 126 = .ok (.lastore, 1) := by decide +kernel
theorem dX10_layThen_127 : decode cX10_layThen 127 = .ok (.iinc 3 1, 3) := by decide +kernel
theorem dX10_layThen_130 : decode cX10_layThen 130 = .ok (.goto (-116), 3) := by decide +kernel
theorem dX10_layThen_133 : decode cX10_layThen 133 = .ok (.iinc 2 1, 3) := by decide +kernel
theorem dX10_layThen_136 : decode cX10_layThen 136 = .ok (.goto (-134), 3) := by decide +kernel
theorem dX10_layThen_139 : decode cX10_layThen 139 = .ok (.return_, 1) := by decide +kernel
theorem dX10_allWants_0 : decode cX10_allWants 0 = .ok (.iconst 0, 1) := by decide +kernel
theorem dX10_allWants_1 : decode cX10_allWants 1 = .ok (.istore_n 2, 1) := by decide +kernel
theorem dX10_allWants_2 : decode cX10_allWants 2 = .ok (.iconst 0, 1) := by decide +kernel
theorem dX10_allWants_3 : decode cX10_allWants 3 = .ok (.istore_n 3, 1) := by decide +kernel
theorem dX10_allWants_4 : decode cX10_allWants 4 = .ok (.iload_n 3, 1) := by decide +kernel
theorem dX10_allWants_5 : decode cX10_allWants 5 = .ok (.aload_n 0, 1) := by decide +kernel
theorem dX10_allWants_6 : decode cX10_allWants 6 = .ok (.getfield 138, 3) := by decide +kernel
theorem dX10_allWants_9 : decode cX10_allWants 9 = .ok (.if_icmp .ge 18, 3) := by decide +kernel
theorem dX10_allWants_12 : decode cX10_allWants 12 = .ok (.iload_n 2, 1) := by decide +kernel
theorem dX10_allWants_13 : decode cX10_allWants 13 = .ok (.aload_n 0, 1) := by decide +kernel
theorem dX10_allWants_14 : decode cX10_allWants 14 = .ok (.iload_n 3, 1) := by decide +kernel
theorem dX10_allWants_15 : decode cX10_allWants 15 = .ok (.iload_n 1, 1) := by decide +kernel
theorem dX10_allWants_16 : decode cX10_allWants 16 = .ok (.invokevirtual 190, 3) := by decide +kernel
theorem dX10_allWants_19 : decode cX10_allWants 19 = .ok (.iadd, 1) := by decide +kernel
theorem dX10_allWants_20 : decode cX10_allWants 20 = .ok (.istore_n 2, 1) := by decide +kernel
theorem dX10_allWants_21 : decode cX10_allWants 21 = .ok (.iinc 3 1, 3) := by decide +kernel
theorem dX10_allWants_24 : decode cX10_allWants 24 = .ok (.goto (-20), 3) := by decide +kernel
theorem dX10_allWants_27 : decode cX10_allWants 27 = .ok (.iload_n 2, 1) := by decide +kernel
theorem dX10_allWants_28 : decode cX10_allWants 28 = .ok (.ireturn, 1) := by decide +kernel
theorem dX10_layWise_0 : decode cX10_layWise 0 = .ok (.lconst 1, 1) := by decide +kernel
theorem dX10_layWise_1 : decode cX10_layWise 1 = .ok (.lstore_n 1, 1) := by decide +kernel
theorem dX10_layWise_2 : decode cX10_layWise 2 = .ok (.bipush 11, 2) := by decide +kernel
theorem dX10_layWise_4 : decode cX10_layWise 4 = .ok (.istore_n 3, 1) := by decide +kernel
theorem dX10_layWise_5 : decode cX10_layWise 5 = .ok (.iload_n 3, 1) := by decide +kernel
theorem dX10_layWise_6 : decode cX10_layWise 6 = .ok (.ifCond .lt 67, 3) := by decide +kernel
theorem dX10_layWise_9 : decode cX10_layWise 9 = .ok (.aload_n 0, 1) := by decide +kernel
theorem dX10_layWise_10 : decode cX10_layWise 10 = .ok (.iload_n 3, 1) := by decide +kernel
theorem dX10_layWise_11 : decode cX10_layWise 11 = .ok (.invokevirtual 208, 3) := by decide +kernel
theorem dX10_layWise_14 : decode cX10_layWise 14 = .ok (.iconst 0, 1) := by decide +kernel
theorem dX10_layWise_15 : decode cX10_layWise 15 = .ok (.istore 4, 2) := by decide +kernel
theorem dX10_layWise_17 : decode cX10_layWise 17 = .ok (.iload 4, 2) := by decide +kernel
theorem dX10_layWise_19 : decode cX10_layWise 19 = .ok (.aload_n 0, 1) := by decide +kernel
theorem dX10_layWise_20 : decode cX10_layWise 20 = .ok (.getfield 19, 3) := by decide +kernel
theorem dX10_layWise_23 : decode cX10_layWise 23 = .ok (.iconst 1, 1) := by decide +kernel
theorem dX10_layWise_24 : decode cX10_layWise 24 = .ok (.iaload, 1) := by decide +kernel
theorem dX10_layWise_25 : decode cX10_layWise 25 = .ok (.if_icmp .gt 34, 3) := by decide +kernel
theorem dX10_layWise_28 : decode cX10_layWise 28 = .ok (.iconst 0, 1) := by decide +kernel
theorem dX10_layWise_29 : decode cX10_layWise 29 = .ok (.istore 5, 2) := by decide +kernel
theorem dX10_layWise_31 : decode cX10_layWise 31 = .ok (.iload 5, 2) := by decide +kernel
theorem dX10_layWise_33 : decode cX10_layWise 33 = .ok (.iconst 2, 1) := by decide +kernel
theorem dX10_layWise_34 : decode cX10_layWise 34 = .ok (.if_icmp .ge 19, 3) := by decide +kernel
theorem dX10_layWise_37 : decode cX10_layWise 37 = .ok (.aload_n 0, 1) := by decide +kernel
theorem dX10_layWise_38 : decode cX10_layWise 38 = .ok (.iload_n 3, 1) := by decide +kernel
theorem dX10_layWise_39 : decode cX10_layWise 39 = .ok (.iload 4, 2) := by decide +kernel
theorem dX10_layWise_41 : decode cX10_layWise 41 = .ok (.iload 5, 2) := by decide +kernel
theorem dX10_layWise_43 : decode cX10_layWise 43 = .ok (.lload_n 1, 1) := by decide +kernel
theorem dX10_layWise_44 : decode cX10_layWise 44 = .ok (.invokevirtual 212, 3) := by decide +kernel
theorem dX10_layWise_47 : decode cX10_layWise 47 = .ok (.iinc 5 1, 3) := by decide +kernel
theorem dX10_layWise_50 : decode cX10_layWise 50 = .ok (.goto (-19), 3) := by decide +kernel
theorem dX10_layWise_53 : decode cX10_layWise 53 = .ok (.iinc 4 1, 3) := by decide +kernel
theorem dX10_layWise_56 : decode cX10_layWise 56 = .ok (.goto (-39), 3) := by decide +kernel
theorem dX10_layWise_59 : decode cX10_layWise 59 = .ok (.lload_n 1, 1) := by decide +kernel
theorem dX10_layWise_60 : decode cX10_layWise 60 = .ok (.aload_n 0, 1) := by decide +kernel
theorem dX10_layWise_61 : decode cX10_layWise 61 = .ok (.getfield 144, 3) := by decide +kernel
theorem dX10_layWise_64 : decode cX10_layWise 64 = .ok (.i2l, 1) := by decide +kernel
theorem dX10_layWise_65 : decode cX10_layWise 65 = .ok (.lmul, 1) := by decide +kernel
theorem dX10_layWise_66 : decode cX10_layWise 66 = .ok (.lstore_n 1, 1) := by decide +kernel
theorem dX10_layWise_67 : decode cX10_layWise 67 = .ok (.iinc 3 (-1), 3) := by decide +kernel
theorem dX10_layWise_70 : decode cX10_layWise 70 = .ok (.goto (-65), 3) := by decide +kernel
theorem dX10_layWise_73 : decode cX10_layWise 73 = .ok (.return_, 1) := by decide +kernel
theorem dX10_chooseWise_0 : decode cX10_chooseWise 0 = .ok (.iload_n 1, 1) := by decide +kernel
theorem dX10_chooseWise_1 : decode cX10_chooseWise 1 = .ok (.iload_n 2, 1) := by decide +kernel
theorem dX10_chooseWise_2 : decode cX10_chooseWise 2 = .ok (.iload_n 3, 1) := by decide +kernel
theorem dX10_chooseWise_3 : decode cX10_chooseWise 3 = .ok (.iconst 1, 1) := by decide +kernel
theorem dX10_chooseWise_4 : decode cX10_chooseWise 4 = .ok (.if_icmp .ne 7, 3) := by decide +kernel
theorem dX10_chooseWise_7 : decode cX10_chooseWise 7 = .ok (.iconst 1, 1) := by decide +kernel
theorem dX10_chooseWise_8 : decode cX10_chooseWise 8 = .ok (.goto 4, 3) := by decide +kernel
theorem dX10_chooseWise_11 : decode cX10_chooseWise 11 = .ok (.iconst 0, 1) := by decide +kernel
theorem dX10_chooseWise_12 : decode cX10_chooseWise 12 = .ok (.invokestatic 196, 3) := by decide +kernel
theorem dX10_chooseWise_15 : decode cX10_chooseWise 15 = .ok (.istore 6, 2) := by decide +kernel
theorem dX10_chooseWise_17 : decode cX10_chooseWise 17 = .ok (.iconst 1, 1) := by decide +kernel
theorem dX10_chooseWise_18 : decode cX10_chooseWise 18 = .ok (.istore 7, 2) := by decide +kernel
theorem dX10_chooseWise_20 : decode cX10_chooseWise 20 = .ok (.iconst 0, 1) := by decide +kernel
theorem dX10_chooseWise_21 : decode cX10_chooseWise 21 = .ok (.istore 8, 2) := by decide +kernel
theorem dX10_chooseWise_23 : decode cX10_chooseWise 23 = .ok (.iload 8, 2) := by decide +kernel
theorem dX10_chooseWise_25 : decode cX10_chooseWise 25 = .ok (.aload_n 0, 1) := by decide +kernel
theorem dX10_chooseWise_26 : decode cX10_chooseWise 26 = .ok (.iload_n 1, 1) := by decide +kernel
theorem dX10_chooseWise_27 : decode cX10_chooseWise 27 = .ok (.iload_n 2, 1) := by decide +kernel
theorem dX10_chooseWise_28 : decode cX10_chooseWise 28 = .ok (.invokevirtual 193, 3) := by decide +kernel
theorem dX10_chooseWise_31 : decode cX10_chooseWise 31 = .ok (.if_icmp .gt 142, 3) := by decide +kernel
theorem dX10_chooseWise_34 : decode cX10_chooseWise 34 = .ok (.aload_n 0, 1) := by decide +kernel
theorem dX10_chooseWise_35 : decode cX10_chooseWise 35 = .ok (.iload_n 1, 1) := by decide +kernel
theorem dX10_chooseWise_36 : decode cX10_chooseWise 36 = .ok (.invokevirtual 216, 3) := by decide +kernel
theorem dX10_chooseWise_39 : decode cX10_chooseWise 39 = .ok (.istore 9, 2) := by decide +kernel
theorem dX10_chooseWise_41 : decode cX10_chooseWise 41 = .ok (.iload_n 2, 1) := by decide +kernel
theorem dX10_chooseWise_42 : decode cX10_chooseWise 42 = .ok (.iload 8, 2) := by decide +kernel
theorem dX10_chooseWise_44 : decode cX10_chooseWise 44 = .ok (.iadd, 1) := by decide +kernel
theorem dX10_chooseWise_45 : decode cX10_chooseWise 45 = .ok (.iload 9, 2) := by decide +kernel
theorem dX10_chooseWise_47 : decode cX10_chooseWise 47 = .ok (.if_icmp .ge 10, 3) := by decide +kernel
theorem dX10_chooseWise_50 : decode cX10_chooseWise 50 = .ok (.iload_n 2, 1) := by decide +kernel
theorem dX10_chooseWise_51 : decode cX10_chooseWise 51 = .ok (.iload 8, 2) := by decide +kernel
theorem dX10_chooseWise_53 : decode cX10_chooseWise 53 = .ok (.iadd, 1) := by decide +kernel
theorem dX10_chooseWise_54 : decode cX10_chooseWise 54 = .ok (.goto 5, 3) := by decide +kernel
theorem dX10_chooseWise_57 : decode cX10_chooseWise 57 = .ok (.iload 9, 2) := by decide +kernel
theorem dX10_chooseWise_59 : decode cX10_chooseWise 59 = .ok (.istore 10, 2) := by decide +kernel
theorem dX10_chooseWise_61 : decode cX10_chooseWise 61 = .ok (.iload 10, 2) := by decide +kernel
theorem dX10_chooseWise_63 : decode cX10_chooseWise 63 = .ok (.ifCond .lt 104, 3) := by decide +kernel
theorem dX10_chooseWise_66 : decode cX10_chooseWise 66 = .ok (.aload_n 0, 1) := by decide +kernel
theorem dX10_chooseWise_67 : decode cX10_chooseWise 67 = .ok (.iload_n 2, 1) := by decide +kernel
theorem dX10_chooseWise_68 : decode cX10_chooseWise 68 = .ok (.iload 8, 2) := by decide +kernel
theorem dX10_chooseWise_70 : decode cX10_chooseWise 70 = .ok (.iadd, 1) := by decide +kernel
theorem dX10_chooseWise_71 : decode cX10_chooseWise 71 = .ok (.putfield 168, 3) := by decide +kernel
theorem dX10_chooseWise_74 : decode cX10_chooseWise 74 = .ok (.aload_n 0, 1) := by decide +kernel
theorem dX10_chooseWise_75 : decode cX10_chooseWise 75 = .ok (.iload 8, 2) := by decide +kernel
theorem dX10_chooseWise_77 : decode cX10_chooseWise 77 = .ok (.putfield 180, 3) := by decide +kernel
theorem dX10_chooseWise_80 : decode cX10_chooseWise 80 = .ok (.aload_n 0, 1) := by decide +kernel
theorem dX10_chooseWise_81 : decode cX10_chooseWise 81 = .ok (.iload_n 1, 1) := by decide +kernel
theorem dX10_chooseWise_82 : decode cX10_chooseWise 82 = .ok (.iload 10, 2) := by decide +kernel
theorem dX10_chooseWise_84 : decode cX10_chooseWise 84 = .ok (.iconst 1, 1) := by decide +kernel
theorem dX10_chooseWise_85 : decode cX10_chooseWise 85 = .ok (.iconst 0, 1) := by decide +kernel
theorem dX10_chooseWise_86 : decode cX10_chooseWise 86 = .ok (.invokevirtual 200, 3) := by decide +kernel
theorem dX10_chooseWise_89 : decode cX10_chooseWise 89 = .ok (.aload_n 0, 1) := by decide +kernel
theorem dX10_chooseWise_90 : decode cX10_chooseWise 90 = .ok (.getfield 183, 3) := by decide +kernel
theorem dX10_chooseWise_93 : decode cX10_chooseWise 93 = .ok (.i2l, 1) := by decide +kernel
theorem dX10_chooseWise_94 : decode cX10_chooseWise 94 = .ok (.lload 4, 2) := by decide +kernel
theorem dX10_chooseWise_96 : decode cX10_chooseWise 96 = .ok (.lmul, 1) := by decide +kernel
theorem dX10_chooseWise_97 : decode cX10_chooseWise 97 = .ok (.aload_n 0, 1) := by decide +kernel
theorem dX10_chooseWise_98 : decode cX10_chooseWise 98 = .ok (.getfield 47, 3) := by decide +kernel
theorem dX10_chooseWise_101 : decode cX10_chooseWise 101 = .ok (.iconst 2, 1) := by decide +kernel
theorem dX10_chooseWise_102 : decode cX10_chooseWise 102 = .ok (.aload_n 0, 1) := by decide +kernel
theorem dX10_chooseWise_103 : decode cX10_chooseWise 103 = .ok (.getfield 168, 3) := by decide +kernel
theorem dX10_chooseWise_106 : decode cX10_chooseWise 106 = .ok (.imul, 1) := by decide +kernel
theorem dX10_chooseWise_107 : decode cX10_chooseWise 107 = .ok (.iload_n 3, 1) := by decide +kernel
theorem dX10_chooseWise_108 : decode cX10_chooseWise 108 = .ok (.iadd, 1) := by decide +kernel
theorem dX10_chooseWise_109 : decode cX10_chooseWise 109 = .ok (.laload, 1) := by decide +kernel
theorem dX10_chooseWise_110 : decode cX10_chooseWise 110 = .ok (.ladd, 1) := by decide +kernel
theorem dX10_chooseWise_111 : decode cX10_chooseWise 111 = .ok (.lstore 11, 2) := by decide +kernel
theorem dX10_chooseWise_113 : decode cX10_chooseWise 113 = .ok (.iload 7, 2) := by decide +kernel
theorem dX10_chooseWise_115 : decode cX10_chooseWise 115 = .ok (.ifCond .ne 16, 3) := by decide +kernel
theorem dX10_chooseWise_118 : decode cX10_chooseWise 118 = .ok (.lload 11, 2) := by decide +kernel
theorem dX10_chooseWise_120 : decode cX10_chooseWise 120 = .ok (.aload_n 0, 1) := by decide +kernel
theorem dX10_chooseWise_121 : decode cX10_chooseWise 121 = .ok (.getfield 37, 3) := by decide +kernel
theorem dX10_chooseWise_124 : decode cX10_chooseWise 124 = .ok (.iload 6, 2) := by decide +kernel
theorem dX10_chooseWise_126 : decode cX10_chooseWise 126 = .ok (.laload, 1) := by decide +kernel
theorem dX10_chooseWise_127 : decode cX10_chooseWise 127 = .ok (.lcmp, 1) := by decide +kernel
theorem dX10_chooseWise_128 : decode cX10_chooseWise 128 = .ok (.ifCond .ge 33, 3) := by decide +kernel
theorem dX10_chooseWise_131 : decode cX10_chooseWise 131 = .ok (.aload_n 0, 1) := by decide +kernel
theorem dX10_chooseWise_132 : decode cX10_chooseWise 132 = .ok (.getfield 37, 3) := by decide +kernel
theorem dX10_chooseWise_135 : decode cX10_chooseWise 135 = .ok (.iload 6, 2) := by decide +kernel
theorem dX10_chooseWise_137 : decode cX10_chooseWise 137 = .ok (.lload 11, 2) := by decide +kernel
theorem dX10_chooseWise_139 : decode cX10_chooseWise 139 = .ok (.lastore, 1) := by decide +kernel
theorem dX10_chooseWise_140 : decode cX10_chooseWise 140 = .ok (.aload_n 0, 1) := by decide +kernel
theorem dX10_chooseWise_141 : decode cX10_chooseWise 141 = .ok (.getfield 41, 3) := by decide +kernel
theorem dX10_chooseWise_144 : decode cX10_chooseWise 144 = .ok (.iload 6, 2) := by decide +kernel
theorem dX10_chooseWise_146 : decode cX10_chooseWise 146 = .ok (.iload 8, 2) := by decide +kernel
theorem dX10_chooseWise_148 : decode cX10_chooseWise 148 = .ok (.iastore, 1) := by decide +kernel
theorem dX10_chooseWise_149 : decode cX10_chooseWise 149 = .ok (.aload_n 0, 1) := by decide +kernel
theorem dX10_chooseWise_150 : decode cX10_chooseWise 150 = .ok (.getfield 44, 3) := by decide +kernel
theorem dX10_chooseWise_153 : decode cX10_chooseWise 153 = .ok (.iload 6, 2) := by decide +kernel
theorem dX10_chooseWise_155 : decode cX10_chooseWise 155 = .ok (.iload 10, 2) := by decide +kernel
theorem dX10_chooseWise_157 : decode cX10_chooseWise 157 = .ok (.iastore, 1) := by decide +kernel
theorem dX10_chooseWise_158 : decode cX10_chooseWise 158 = .ok (.iconst 0, 1) := by decide +kernel
theorem dX10_chooseWise_159 : decode cX10_chooseWise 159 = .ok (.istore 7, 2) := by decide +kernel
theorem dX10_chooseWise_161 : decode cX10_chooseWise 161 = .ok (.iinc 10 (-1), 3) := by decide +kernel
theorem dX10_chooseWise_164 : decode cX10_chooseWise 164 = .ok (.goto (-103), 3) := by decide +kernel
theorem dX10_chooseWise_167 : decode cX10_chooseWise 167 = .ok (.iinc 8 1, 3) := by decide +kernel
theorem dX10_chooseWise_170 : decode cX10_chooseWise 170 = .ok (.goto (-147), 3) := by decide +kernel
theorem dX10_chooseWise_173 : decode cX10_chooseWise 173 = .ok (.return_, 1) := by decide +kernel
theorem dX10_goRun_0 : decode cX10_goRun 0 = .ok (.aload_n 0, 1) := by decide +kernel
theorem dX10_goRun_1 : decode cX10_goRun 1 = .ok (.getfield 25, 3) := by decide +kernel
theorem dX10_goRun_4 : decode cX10_goRun 4 = .ok (.iload_n 1, 1) := by decide +kernel
theorem dX10_goRun_5 : decode cX10_goRun 5 = .ok (.iaload, 1) := by decide +kernel
theorem dX10_goRun_6 : decode cX10_goRun 6 = .ok (.iconst 3, 1) := by decide +kernel
theorem dX10_goRun_7 : decode cX10_goRun 7 = .ok (.if_icmp .ne 7, 3) := by decide +kernel
theorem dX10_goRun_10 : decode cX10_goRun 10 = .ok (.aload_n 0, 1) := by decide +kernel
theorem dX10_goRun_11 : decode cX10_goRun 11 = .ok (.invokevirtual 219, 3) := by decide +kernel
theorem dX10_goRun_14 : decode cX10_goRun 14 = .ok (.iconst 0, 1) := by decide +kernel
theorem dX10_goRun_15 : decode cX10_goRun 15 = .ok (.istore_n 2, 1) := by decide +kernel
theorem dX10_goRun_16 : decode cX10_goRun 16 = .ok (.iload_n 2, 1) := by decide +kernel
theorem dX10_goRun_17 : decode cX10_goRun 17 = .ok (.bipush 7, 2) := by decide +kernel
theorem dX10_goRun_19 : decode cX10_goRun 19 = .ok (.if_icmp .ge 16, 3) := by decide +kernel
theorem dX10_goRun_22 : decode cX10_goRun 22 = .ok (.aload_n 0, 1) := by decide +kernel
theorem dX10_goRun_23 : decode cX10_goRun 23 = .ok (.getfield 50, 3) := by decide +kernel
theorem dX10_goRun_26 : decode cX10_goRun 26 = .ok (.iload_n 2, 1) := by decide +kernel
theorem dX10_goRun_27 : decode cX10_goRun 27 = .ok (.iconst 0, 1) := by decide +kernel
theorem dX10_goRun_28 : decode cX10_goRun 28 = .ok (.iastore, 1) := by decide +kernel
theorem dX10_goRun_29 : decode cX10_goRun 29 = .ok (.iinc 2 1, 3) := by decide +kernel
theorem dX10_goRun_32 : decode cX10_goRun 32 = .ok (.goto (-16), 3) := by decide +kernel
theorem dX10_goRun_35 : decode cX10_goRun 35 = .ok (.iconst 0, 1) := by decide +kernel
theorem dX10_goRun_36 : decode cX10_goRun 36 = .ok (.istore_n 2, 1) := by decide +kernel
theorem dX10_goRun_37 : decode cX10_goRun 37 = .ok (.iload_n 2, 1) := by decide +kernel
theorem dX10_goRun_38 : decode cX10_goRun 38 = .ok (.iconst 3, 1) := by decide +kernel
theorem dX10_goRun_39 : decode cX10_goRun 39 = .ok (.if_icmp .ge 16, 3) := by decide +kernel
theorem dX10_goRun_42 : decode cX10_goRun 42 = .ok (.aload_n 0, 1) := by decide +kernel
theorem dX10_goRun_43 : decode cX10_goRun 43 = .ok (.getfield 53, 3) := by decide +kernel
theorem dX10_goRun_46 : decode cX10_goRun 46 = .ok (.iload_n 2, 1) := by decide +kernel
theorem dX10_goRun_47 : decode cX10_goRun 47 = .ok (.iconst 0, 1) := by decide +kernel
theorem dX10_goRun_48 : decode cX10_goRun 48 = .ok (.iastore, 1) := by decide +kernel
theorem dX10_goRun_49 : decode cX10_goRun 49 = .ok (.iinc 2 1, 3) := by decide +kernel
theorem dX10_goRun_52 : decode cX10_goRun 52 = .ok (.goto (-15), 3) := by decide +kernel
theorem dX10_goRun_55 : decode cX10_goRun 55 = .ok (.aload_n 0, 1) := by decide +kernel
theorem dX10_goRun_56 : decode cX10_goRun 56 = .ok (.iconst (-1), 1) := by decide +kernel
theorem dX10_goRun_57 : decode cX10_goRun 57 = .ok (.putfield 222, 3) := by decide +kernel
theorem dX10_goRun_60 : decode cX10_goRun 60 = .ok (.aload_n 0, 1) := by decide +kernel
theorem dX10_goRun_61 : decode cX10_goRun 61 = .ok (.aload_n 0, 1) := by decide +kernel
theorem dX10_goRun_62 : decode cX10_goRun 62 = .ok (.getfield 19, 3) := by decide +kernel
theorem dX10_goRun_65 : decode cX10_goRun 65 = .ok (.iconst 1, 1) := by decide +kernel
theorem dX10_goRun_66 : decode cX10_goRun 66 = .ok (.iaload, 1) := by decide +kernel
theorem dX10_goRun_67 : decode cX10_goRun 67 = .ok (.putfield 168, 3) := by decide +kernel
theorem dX10_goRun_70 : decode cX10_goRun 70 = .ok (.iconst 1, 1) := by decide +kernel
theorem dX10_goRun_71 : decode cX10_goRun 71 = .ok (.istore_n 2, 1) := by decide +kernel
theorem dX10_goRun_72 : decode cX10_goRun 72 = .ok (.iconst 0, 1) := by decide +kernel
theorem dX10_goRun_73 : decode cX10_goRun 73 = .ok (.istore_n 3, 1) := by decide +kernel
theorem dX10_goRun_74 : decode cX10_goRun 74 = .ok (.iload_n 3, 1) := by decide +kernel
theorem dX10_goRun_75 : decode cX10_goRun 75 = .ok (.bipush 12, 2) := by decide +kernel
theorem dX10_goRun_77 : decode cX10_goRun 77 = .ok (.aload_n 0, 1) := by decide +kernel
theorem dX10_goRun_78 : decode cX10_goRun 78 = .ok (.getfield 144, 3) := by decide +kernel
theorem dX10_goRun_81 : decode cX10_goRun 81 = .ok (.imul, 1) := by decide +kernel
theorem dX10_goRun_82 : decode cX10_goRun 82 = .ok (.if_icmp .ge 31, 3) := by decide +kernel
theorem dX10_goRun_85 : decode cX10_goRun 85 = .ok (.aload_n 0, 1) := by decide +kernel
theorem dX10_goRun_86 : decode cX10_goRun 86 = .ok (.iload_n 1, 1) := by decide +kernel
theorem dX10_goRun_87 : decode cX10_goRun 87 = .ok (.iload_n 3, 1) := by decide +kernel
theorem dX10_goRun_88 : decode cX10_goRun 88 = .ok (.iload_n 2, 1) := by decide +kernel
theorem dX10_goRun_89 : decode cX10_goRun 89 = .ok (.invokevirtual 225, 3) := by decide +kernel
theorem dX10_goRun_92 : decode cX10_goRun 92 = .ok (.aload_n 0, 1) := by decide +kernel
theorem dX10_goRun_93 : decode cX10_goRun 93 = .ok (.getfield 22, 3) := by decide +kernel
theorem dX10_goRun_96 : decode cX10_goRun 96 = .ok (.iload_n 3, 1) := by decide +kernel
theorem dX10_goRun_97 : decode cX10_goRun 97 = .ok (.iaload, 1) := by decide +kernel
theorem dX10_goRun_98 : decode cX10_goRun 98 = .ok (.ifCond .le 7, 3) := by decide +kernel
theorem dX10_goRun_101 : decode cX10_goRun 101 = .ok (.iconst 1, 1) := by decide +kernel
theorem dX10_goRun_102 : decode cX10_goRun 102 = .ok (.goto 4, 3) := by decide +kernel
theorem dX10_goRun_105 : decode cX10_goRun 105 = .ok (.iconst 0, 1) := by decide +kernel
theorem dX10_goRun_106 : decode cX10_goRun 106 = .ok (.istore_n 2, 1) := by decide +kernel
theorem dX10_goRun_107 : decode cX10_goRun 107 = .ok (.iinc 3 1, 3) := by decide +kernel
theorem dX10_goRun_110 : decode cX10_goRun 110 = .ok (.goto (-36), 3) := by decide +kernel
theorem dX10_goRun_113 : decode cX10_goRun 113 = .ok (.aload_n 0, 1) := by decide +kernel
theorem dX10_goRun_114 : decode cX10_goRun 114 = .ok (.getfield 50, 3) := by decide +kernel
theorem dX10_goRun_117 : decode cX10_goRun 117 = .ok (.bipush 6, 2) := by decide +kernel
theorem dX10_goRun_119 : decode cX10_goRun 119 = .ok (.aload_n 0, 1) := by decide +kernel
theorem dX10_goRun_120 : decode cX10_goRun 120 = .ok (.getfield 168, 3) := by decide +kernel
theorem dX10_goRun_123 : decode cX10_goRun 123 = .ok (.iastore, 1) := by decide +kernel
theorem dX10_goRun_124 : decode cX10_goRun 124 = .ok (.return_, 1) := by decide +kernel
theorem dX10_goMonth_0 : decode cX10_goMonth 0 = .ok (.aload_n 0, 1) := by decide +kernel
theorem dX10_goMonth_1 : decode cX10_goMonth 1 = .ok (.aload_n 0, 1) := by decide +kernel
theorem dX10_goMonth_2 : decode cX10_goMonth 2 = .ok (.getfield 168, 3) := by decide +kernel
theorem dX10_goMonth_5 : decode cX10_goMonth 5 = .ok (.aload_n 0, 1) := by decide +kernel
theorem dX10_goMonth_6 : decode cX10_goMonth 6 = .ok (.getfield 22, 3) := by decide +kernel
theorem dX10_goMonth_9 : decode cX10_goMonth 9 = .ok (.iload_n 2, 1) := by decide +kernel
theorem dX10_goMonth_10 : decode cX10_goMonth 10 = .ok (.iaload, 1) := by decide +kernel
theorem dX10_goMonth_11 : decode cX10_goMonth 11 = .ok (.iload_n 3, 1) := by decide +kernel
theorem dX10_goMonth_12 : decode cX10_goMonth 12 = .ok (.aload_n 0, 1) := by decide +kernel
theorem dX10_goMonth_13 : decode cX10_goMonth 13 = .ok (.getfield 19, 3) := by decide +kernel
theorem dX10_goMonth_16 : decode cX10_goMonth 16 = .ok (.iconst 4, 1) := by decide +kernel
theorem dX10_goMonth_17 : decode cX10_goMonth 17 = .ok (.iaload, 1) := by decide +kernel
theorem dX10_goMonth_18 : decode cX10_goMonth 18 = .ok (.invokevirtual 204, 3) := by decide +kernel
theorem dX10_goMonth_21 : decode cX10_goMonth 21 = .ok (.aload_n 0, 1) := by decide +kernel
theorem dX10_goMonth_22 : decode cX10_goMonth 22 = .ok (.iload_n 1, 1) := by decide +kernel
theorem dX10_goMonth_23 : decode cX10_goMonth 23 = .ok (.iload_n 2, 1) := by decide +kernel
theorem dX10_goMonth_24 : decode cX10_goMonth 24 = .ok (.bipush 12, 2) := by decide +kernel
theorem dX10_goMonth_26 : decode cX10_goMonth 26 = .ok (.irem, 1) := by decide +kernel
theorem dX10_goMonth_27 : decode cX10_goMonth 27 = .ok (.aload_n 0, 1) := by decide +kernel
theorem dX10_goMonth_28 : decode cX10_goMonth 28 = .ok (.getfield 22, 3) := by decide +kernel
theorem dX10_goMonth_31 : decode cX10_goMonth 31 = .ok (.iload_n 2, 1) := by decide +kernel
theorem dX10_goMonth_32 : decode cX10_goMonth 32 = .ok (.iaload, 1) := by decide +kernel
theorem dX10_goMonth_33 : decode cX10_goMonth 33 = .ok (.ifCond .le 7, 3) := by decide +kernel
theorem dX10_goMonth_36 : decode cX10_goMonth 36 = .ok (.iconst 1, 1) := by decide +kernel
theorem dX10_goMonth_37 : decode cX10_goMonth 37 = .ok (.goto 4, 3) := by decide +kernel
theorem dX10_goMonth_40 : decode cX10_goMonth 40 = .ok (.iconst 0, 1) := by decide +kernel
theorem dX10_goMonth_41 : decode cX10_goMonth 41 = .ok (.invokevirtual 229, 3) := by decide +kernel
theorem dX10_goMonth_44 : decode cX10_goMonth 44 = .ok (.aload_n 0, 1) := by decide +kernel
theorem dX10_goMonth_45 : decode cX10_goMonth 45 = .ok (.aload_n 0, 1) := by decide +kernel
theorem dX10_goMonth_46 : decode cX10_goMonth 46 = .ok (.getfield 222, 3) := by decide +kernel
theorem dX10_goMonth_49 : decode cX10_goMonth 49 = .ok (.iconst (-1), 1) := by decide +kernel
theorem dX10_goMonth_50 : decode cX10_goMonth 50 = .ok (.if_icmp .ne 14, 3) := by decide +kernel
theorem dX10_goMonth_53 : decode cX10_goMonth 53 = .ok (.aload_n 0, 1) := by decide +kernel
theorem dX10_goMonth_54 : decode cX10_goMonth 54 = .ok (.invokevirtual 232, 3) := by decide +kernel
theorem dX10_goMonth_57 : decode cX10_goMonth 57 = .ok (.ifCond .eq 7, 3) := by decide +kernel
theorem dX10_goMonth_60 : decode cX10_goMonth 60 = .ok (.iload_n 2, 1) := by decide +kernel
theorem dX10_goMonth_61 : decode cX10_goMonth 61 = .ok (.goto 7, 3) := by decide +kernel
theorem dX10_goMonth_64 : decode cX10_goMonth 64 = .ok (.aload_n 0, 1) := by decide +kernel
theorem dX10_goMonth_65 : decode cX10_goMonth 65 = .ok (.getfield 222, 3) := by decide +kernel
theorem dX10_goMonth_68 : decode cX10_goMonth 68 = .ok (.putfield 222, 3) := by decide +kernel
theorem dX10_goMonth_71 : decode cX10_goMonth 71 = .ok (.aload_n 0, 1) := by decide +kernel
theorem dX10_goMonth_72 : decode cX10_goMonth 72 = .ok (.getfield 50, 3) := by decide +kernel
theorem dX10_goMonth_75 : decode cX10_goMonth 75 = .ok (.iconst 0, 1) := by decide +kernel
theorem dX10_goMonth_76 : decode cX10_goMonth 76 = .ok (.dup2, 1) := by decide +kernel
theorem dX10_goMonth_77 : decode cX10_goMonth 77 = .ok (.iaload, 1) := by decide +kernel
theorem dX10_goMonth_78 : decode cX10_goMonth 78 = .ok (.aload_n 0, 1) := by decide +kernel
theorem dX10_goMonth_79 : decode cX10_goMonth 79 = .ok (.invokevirtual 232, 3) := by decide +kernel
theorem dX10_goMonth_82 : decode cX10_goMonth 82 = .ok (.ifCond .eq 7, 3) := by decide +kernel
theorem dX10_goMonth_85 : decode cX10_goMonth 85 = .ok (.iconst 1, 1) := by decide +kernel
theorem dX10_goMonth_86 : decode cX10_goMonth 86 = .ok (.goto 4, 3) := by decide +kernel
theorem dX10_goMonth_89 : decode cX10_goMonth 89 = .ok (.iconst 0, 1) := by decide +kernel
theorem dX10_goMonth_90 : decode cX10_goMonth 90 = .ok (.iadd, 1) := by decide +kernel
theorem dX10_goMonth_91 : decode cX10_goMonth 91 = .ok (.iastore, 1) := by decide +kernel
theorem dX10_goMonth_92 : decode cX10_goMonth 92 = .ok (.iconst 0, 1) := by decide +kernel
theorem dX10_goMonth_93 : decode cX10_goMonth 93 = .ok (.istore 4, 2) := by decide +kernel
theorem dX10_goMonth_95 : decode cX10_goMonth 95 = .ok (.iload 4, 2) := by decide +kernel
theorem dX10_goMonth_97 : decode cX10_goMonth 97 = .ok (.aload_n 0, 1) := by decide +kernel
theorem dX10_goMonth_98 : decode cX10_goMonth 98 = .ok (.getfield 138, 3) := by decide +kernel
theorem dX10_goMonth_101 : decode cX10_goMonth 101 = .ok (.if_icmp .ge 42, 3) := by decide +kernel
theorem dX10_goMonth_104 : decode cX10_goMonth 104 = .ok (.aload_n 0, 1) := by decide +kernel
theorem dX10_goMonth_105 : decode cX10_goMonth 105 = .ok (.getfield 50, 3) := by decide +kernel
theorem dX10_goMonth_108 : decode cX10_goMonth 108 = .ok (.iconst 1, 1) := by decide +kernel
theorem dX10_goMonth_109 : decode cX10_goMonth 109 = .ok (.dup2, 1) := by decide +kernel
theorem dX10_goMonth_110 : decode cX10_goMonth 110 = .ok (.iaload, 1) := by decide +kernel
theorem dX10_goMonth_111 : decode cX10_goMonth 111 = .ok (.aload_n 0, 1) := by decide +kernel
theorem dX10_goMonth_112 : decode cX10_goMonth 112 = .ok (.getfield 34, 3) := by decide +kernel
theorem dX10_goMonth_115 : decode cX10_goMonth 115 = .ok (.iload 4, 2) := by decide +kernel
theorem dX10_goMonth_117 : decode cX10_goMonth 117 = .ok (.iaload, 1) := by decide +kernel
theorem dX10_goMonth_118 : decode cX10_goMonth 118 = .ok (.iadd, 1) := by decide +kernel
theorem dX10_goMonth_119 : decode cX10_goMonth 119 = .ok (.iastore, 1) := by decide +kernel
theorem dX10_goMonth_120 : decode cX10_goMonth 120 = .ok (.aload_n 0, 1) := by decide +kernel
theorem dX10_goMonth_121 : decode cX10_goMonth 121 = .ok (.getfield 53, 3) := by decide +kernel
theorem dX10_goMonth_124 : decode cX10_goMonth 124 = .ok (.iload 4, 2) := by decide +kernel
theorem dX10_goMonth_126 : decode cX10_goMonth 126 = .ok (.dup2, 1) := by decide +kernel
theorem dX10_goMonth_127 : decode cX10_goMonth 127 = .ok (.iaload, 1) := by decide +kernel
theorem dX10_goMonth_128 : decode cX10_goMonth 128 = .ok (.aload_n 0, 1) := by decide +kernel
theorem dX10_goMonth_129 : decode cX10_goMonth 129 = .ok (.getfield 34, 3) := by decide +kernel
theorem dX10_goMonth_132 : decode cX10_goMonth 132 = .ok (.iload 4, 2) := by decide +kernel
theorem dX10_goMonth_134 : decode cX10_goMonth 134 = .ok (.iaload, 1) := by decide +kernel
theorem dX10_goMonth_135 : decode cX10_goMonth 135 = .ok (.iadd, 1) := by decide +kernel
theorem dX10_goMonth_136 : decode cX10_goMonth 136 = .ok (.iastore, 1) := by decide +kernel
theorem dX10_goMonth_137 : decode cX10_goMonth 137 = .ok (.iinc 4 1, 3) := by decide +kernel
theorem dX10_goMonth_140 : decode cX10_goMonth 140 = .ok (.goto (-45), 3) := by decide +kernel
theorem dX10_goMonth_143 : decode cX10_goMonth 143 = .ok (.aload_n 0, 1) := by decide +kernel
theorem dX10_goMonth_144 : decode cX10_goMonth 144 = .ok (.getfield 50, 3) := by decide +kernel
theorem dX10_goMonth_147 : decode cX10_goMonth 147 = .ok (.iconst 2, 1) := by decide +kernel
theorem dX10_goMonth_148 : decode cX10_goMonth 148 = .ok (.dup2, 1) := by decide +kernel
theorem dX10_goMonth_149 : decode cX10_goMonth 149 = .ok (.iaload, 1) := by decide +kernel
theorem dX10_goMonth_150 : decode cX10_goMonth 150 = .ok (.aload_n 0, 1) := by decide +kernel
theorem dX10_goMonth_151 : decode cX10_goMonth 151 = .ok (.getfield 183, 3) := by decide +kernel
theorem dX10_goMonth_154 : decode cX10_goMonth 154 = .ok (.iadd, 1) := by decide +kernel
theorem dX10_goMonth_155 : decode cX10_goMonth 155 = .ok (.iastore, 1) := by decide +kernel
theorem dX10_goMonth_156 : decode cX10_goMonth 156 = .ok (.aload_n 0, 1) := by decide +kernel
theorem dX10_goMonth_157 : decode cX10_goMonth 157 = .ok (.getfield 50, 3) := by decide +kernel
theorem dX10_goMonth_160 : decode cX10_goMonth 160 = .ok (.iconst 3, 1) := by decide +kernel
theorem dX10_goMonth_161 : decode cX10_goMonth 161 = .ok (.dup2, 1) := by decide +kernel
theorem dX10_goMonth_162 : decode cX10_goMonth 162 = .ok (.iaload, 1) := by decide +kernel
theorem dX10_goMonth_163 : decode cX10_goMonth 163 = .ok (.aload_n 0, 1) := by decide +kernel
theorem dX10_goMonth_164 : decode cX10_goMonth 164 = .ok (.getfield 171, 3) := by decide +kernel
theorem dX10_goMonth_167 : decode cX10_goMonth 167 = .ok (.iadd, 1) := by decide +kernel
theorem dX10_goMonth_168 : decode cX10_goMonth 168 = .ok (.iastore, 1) := by decide +kernel
theorem dX10_goMonth_169 : decode cX10_goMonth 169 = .ok (.aload_n 0, 1) := by decide +kernel
theorem dX10_goMonth_170 : decode cX10_goMonth 170 = .ok (.getfield 50, 3) := by decide +kernel
theorem dX10_goMonth_173 : decode cX10_goMonth 173 = .ok (.iconst 4, 1) := by decide +kernel
theorem dX10_goMonth_174 : decode cX10_goMonth 174 = .ok (.dup2, 1) := by decide +kernel
theorem dX10_goMonth_175 : decode cX10_goMonth 175 = .ok (.iaload, 1) := by decide +kernel
theorem dX10_goMonth_176 : decode cX10_goMonth 176 = .ok (.aload_n 0, 1) := by decide +kernel
theorem dX10_goMonth_177 : decode cX10_goMonth 177 = .ok (.getfield 180, 3) := by decide +kernel
theorem dX10_goMonth_180 : decode cX10_goMonth 180 = .ok (.iadd, 1) := by decide +kernel
theorem dX10_goMonth_181 : decode cX10_goMonth 181 = .ok (.iastore, 1) := by decide +kernel
theorem dX10_goMonth_182 : decode cX10_goMonth 182 = .ok (.aload_n 0, 1) := by decide +kernel
theorem dX10_goMonth_183 : decode cX10_goMonth 183 = .ok (.getfield 50, 3) := by decide +kernel
theorem dX10_goMonth_186 : decode cX10_goMonth 186 = .ok (.iconst 5, 1) := by decide +kernel
theorem dX10_goMonth_187 : decode cX10_goMonth 187 = .ok (.dup2, 1) := by decide +kernel
theorem dX10_goMonth_188 : decode cX10_goMonth 188 = .ok (.iaload, 1) := by decide +kernel
theorem dX10_goMonth_189 : decode cX10_goMonth 189 = .ok (.aload_n 0, 1) := by decide +kernel
theorem dX10_goMonth_190 : decode cX10_goMonth 190 = .ok (.getfield 174, 3) := by decide +kernel
theorem dX10_goMonth_193 : decode cX10_goMonth 193 = .ok (.iadd, 1) := by decide +kernel
theorem dX10_goMonth_194 : decode cX10_goMonth 194 = .ok (.iastore, 1) := by decide +kernel
theorem dX10_goMonth_195 : decode cX10_goMonth 195 = .ok (.return_, 1) := by decide +kernel
theorem dX10_lacks_0 : decode cX10_lacks 0 = .ok (.aload_n 0, 1) := by decide +kernel
theorem dX10_lacks_1 : decode cX10_lacks 1 = .ok (.getfield 138, 3) := by decide +kernel
theorem dX10_lacks_4 : decode cX10_lacks 4 = .ok (.ifCond .eq 10, 3) := by decide +kernel
theorem dX10_lacks_7 : decode cX10_lacks 7 = .ok (.aload_n 0, 1) := by decide +kernel
theorem dX10_lacks_8 : decode cX10_lacks 8 = .ok (.getfield 144, 3) := by decide +kernel
theorem dX10_lacks_11 : decode cX10_lacks 11 = .ok (.ifCond .ne 7, 3) := by decide +kernel
theorem dX10_lacks_14 : decode cX10_lacks 14 = .ok (.iconst 1, 1) := by decide +kernel
theorem dX10_lacks_15 : decode cX10_lacks 15 = .ok (.goto 4, 3) := by decide +kernel
theorem dX10_lacks_18 : decode cX10_lacks 18 = .ok (.iconst 0, 1) := by decide +kernel
theorem dX10_lacks_19 : decode cX10_lacks 19 = .ok (.ireturn, 1) := by decide +kernel
theorem dX10_run_0 : decode cX10_run 0 = .ok (.aload_n 0, 1) := by decide +kernel
theorem dX10_run_1 : decode cX10_run 1 = .ok (.iload_n 1, 1) := by decide +kernel
theorem dX10_run_2 : decode cX10_run 2 = .ok (.invokevirtual 154, 3) := by decide +kernel
theorem dX10_run_5 : decode cX10_run 5 = .ok (.ifCond .ne 6, 3) := by decide +kernel
theorem dX10_run_8 : decode cX10_run 8 = .ok (.bipush (-101), 2) := by decide +kernel
theorem dX10_run_10 : decode cX10_run 10 = .ok (.ireturn, 1) := by decide +kernel
theorem dX10_run_11 : decode cX10_run 11 = .ok (.aload_n 0, 1) := by decide +kernel
theorem dX10_run_12 : decode cX10_run 12 = .ok (.invokevirtual 236, 3) := by decide +kernel
theorem dX10_run_15 : decode cX10_run 15 = .ok (.ifCond .eq 6, 3) := by decide +kernel
theorem dX10_run_18 : decode cX10_run 18 = .ok (.bipush (-103), 2) := by decide +kernel
theorem dX10_run_20 : decode cX10_run 20 = .ok (.ireturn, 1) := by decide +kernel
theorem dX10_run_21 : decode cX10_run 21 = .ok (.iload_n 2, 1) := by decide +kernel
theorem dX10_run_22 : decode cX10_run 22 = .ok (.i2l, 1) := by decide +kernel
theorem dX10_run_23 : decode cX10_run 23 = .ok (.lconst 0, 1) := by decide +kernel
theorem dX10_run_24 : decode cX10_run 24 = .ok (.ldc2_w 161, 3) := by decide +kernel
theorem dX10_run_27 : decode cX10_run 27 = .ok (.invokestatic 107, 3) := by decide +kernel
theorem dX10_run_30 : decode cX10_run 30 = .ok (.ifCond .ne 20, 3) := by decide +kernel
theorem dX10_run_33 : decode cX10_run 33 = .ok (.iload_n 2, 1) := by decide +kernel
theorem dX10_run_34 : decode cX10_run 34 = .ok (.i2l, 1) := by decide +kernel
theorem dX10_run_35 : decode cX10_run 35 = .ok (.ldc2_w 239, 3) := by decide +kernel
theorem dX10_run_38 : decode cX10_run 38 = .ok (.ldc2_w 241, 3) := by decide +kernel
theorem dX10_run_41 : decode cX10_run 41 = .ok (.invokestatic 107, 3) := by decide +kernel
theorem dX10_run_44 : decode cX10_run 44 = .ok (.ifCond .ne 6, 3) := by decide +kernel
theorem dX10_run_47 : decode cX10_run 47 = .ok (.bipush (-102), 2) := by decide +kernel
theorem dX10_run_49 : decode cX10_run 49 = .ok (.ireturn, 1) := by decide +kernel
theorem dX10_run_50 : decode cX10_run 50 = .ok (.aload_n 0, 1) := by decide +kernel
theorem dX10_run_51 : decode cX10_run 51 = .ok (.iload_n 1, 1) := by decide +kernel
theorem dX10_run_52 : decode cX10_run 52 = .ok (.invokevirtual 243, 3) := by decide +kernel
theorem dX10_run_55 : decode cX10_run 55 = .ok (.iload_n 2, 1) := by decide +kernel
theorem dX10_run_56 : decode cX10_run 56 = .ok (.bipush 7, 2) := by decide +kernel
theorem dX10_run_58 : decode cX10_run 58 = .ok (.if_icmp .ge 12, 3) := by decide +kernel
theorem dX10_run_61 : decode cX10_run 61 = .ok (.aload_n 0, 1) := by decide +kernel
theorem dX10_run_62 : decode cX10_run 62 = .ok (.getfield 50, 3) := by decide +kernel
theorem dX10_run_65 : decode cX10_run 65 = .ok (.iload_n 2, 1) := by decide +kernel
theorem dX10_run_66 : decode cX10_run 66 = .ok (.iaload, 1) := by decide +kernel
theorem dX10_run_67 : decode cX10_run 67 = .ok (.goto 27, 3) := by decide +kernel
theorem dX10_run_70 : decode cX10_run 70 = .ok (.iload_n 2, 1) := by decide +kernel
theorem dX10_run_71 : decode cX10_run 71 = .ok (.bipush 10, 2) := by decide +kernel
theorem dX10_run_73 : decode cX10_run 73 = .ok (.isub, 1) := by decide +kernel
theorem dX10_run_74 : decode cX10_run 74 = .ok (.aload_n 0, 1) := by decide +kernel
theorem dX10_run_75 : decode cX10_run 75 = .ok (.getfield 138, 3) := by decide +kernel
theorem dX10_run_78 : decode cX10_run 78 = .ok (.if_icmp .ge 15, 3) := by decide +kernel
theorem dX10_run_81 : decode cX10_run 81 = .ok (.aload_n 0, 1) := by decide +kernel
theorem dX10_run_82 : decode cX10_run 82 = .ok (.getfield 53, 3) := by decide +kernel
theorem dX10_run_85 : decode cX10_run 85 = .ok (.iload_n 2, 1) := by decide +kernel
theorem dX10_run_86 : decode cX10_run 86 = .ok (.bipush 10, 2) := by decide +kernel
theorem dX10_run_88 : decode cX10_run 88 = .ok (.isub, 1) := by decide +kernel
theorem dX10_run_89 : decode cX10_run 89 = .ok (.iaload, 1) := by decide +kernel
theorem dX10_run_90 : decode cX10_run 90 = .ok (.goto 4, 3) := by decide +kernel
theorem dX10_run_93 : decode cX10_run 93 = .ok (.iconst (-1), 1) := by decide +kernel
theorem dX10_run_94 : decode cX10_run 94 = .ok (.ireturn, 1) := by decide +kernel
theorem dX10_month_0 : decode cX10_month 0 = .ok (.aload_n 0, 1) := by decide +kernel
theorem dX10_month_1 : decode cX10_month 1 = .ok (.iload_n 1, 1) := by decide +kernel
theorem dX10_month_2 : decode cX10_month 2 = .ok (.invokevirtual 154, 3) := by decide +kernel
theorem dX10_month_5 : decode cX10_month 5 = .ok (.ifCond .eq 31, 3) := by decide +kernel
theorem dX10_month_8 : decode cX10_month 8 = .ok (.iload_n 2, 1) := by decide +kernel
theorem dX10_month_9 : decode cX10_month 9 = .ok (.i2l, 1) := by decide +kernel
theorem dX10_month_10 : decode cX10_month 10 = .ok (.lconst 0, 1) := by decide +kernel
theorem dX10_month_11 : decode cX10_month 11 = .ok (.aload_n 0, 1) := by decide +kernel
theorem dX10_month_12 : decode cX10_month 12 = .ok (.getfield 144, 3) := by decide +kernel
theorem dX10_month_15 : decode cX10_month 15 = .ok (.iconst 1, 1) := by decide +kernel
theorem dX10_month_16 : decode cX10_month 16 = .ok (.isub, 1) := by decide +kernel
theorem dX10_month_17 : decode cX10_month 17 = .ok (.i2l, 1) := by decide +kernel
theorem dX10_month_18 : decode cX10_month 18 = .ok (.invokestatic 107, 3) := by decide +kernel
theorem dX10_month_21 : decode cX10_month 21 = .ok (.ifCond .eq 15, 3) := by decide +kernel
theorem dX10_month_24 : decode cX10_month 24 = .ok (.iload_n 3, 1) := by decide +kernel
theorem dX10_month_25 : decode cX10_month 25 = .ok (.i2l, 1) := by decide +kernel
theorem dX10_month_26 : decode cX10_month 26 = .ok (.lconst 0, 1) := by decide +kernel
theorem dX10_month_27 : decode cX10_month 27 = .ok (.ldc2_w 163, 3) := by decide +kernel
theorem dX10_month_30 : decode cX10_month 30 = .ok (.invokestatic 107, 3) := by decide +kernel
theorem dX10_month_33 : decode cX10_month 33 = .ok (.ifCond .ne 6, 3) := by decide +kernel
theorem dX10_month_36 : decode cX10_month 36 = .ok (.bipush (-101), 2) := by decide +kernel
theorem dX10_month_38 : decode cX10_month 38 = .ok (.ireturn, 1) := by decide +kernel
theorem dX10_month_39 : decode cX10_month 39 = .ok (.aload_n 0, 1) := by decide +kernel
theorem dX10_month_40 : decode cX10_month 40 = .ok (.invokevirtual 236, 3) := by decide +kernel
theorem dX10_month_43 : decode cX10_month 43 = .ok (.ifCond .eq 6, 3) := by decide +kernel
theorem dX10_month_46 : decode cX10_month 46 = .ok (.bipush (-103), 2) := by decide +kernel
theorem dX10_month_48 : decode cX10_month 48 = .ok (.ireturn, 1) := by decide +kernel
theorem dX10_month_49 : decode cX10_month 49 = .ok (.iload 4, 2) := by decide +kernel
theorem dX10_month_51 : decode cX10_month 51 = .ok (.i2l, 1) := by decide +kernel
theorem dX10_month_52 : decode cX10_month 52 = .ok (.lconst 0, 1) := by decide +kernel
theorem dX10_month_53 : decode cX10_month 53 = .ok (.ldc2_w 161, 3) := by decide +kernel
theorem dX10_month_56 : decode cX10_month 56 = .ok (.invokestatic 107, 3) := by decide +kernel
theorem dX10_month_59 : decode cX10_month 59 = .ok (.ifCond .ne 6, 3) := by decide +kernel
theorem dX10_month_62 : decode cX10_month 62 = .ok (.bipush (-102), 2) := by decide +kernel
theorem dX10_month_64 : decode cX10_month 64 = .ok (.ireturn, 1) := by decide +kernel
theorem dX10_month_65 : decode cX10_month 65 = .ok (.aload_n 0, 1) := by decide +kernel
theorem dX10_month_66 : decode cX10_month 66 = .ok (.getfield 25, 3) := by decide +kernel
theorem dX10_month_69 : decode cX10_month 69 = .ok (.iload_n 1, 1) := by decide +kernel
theorem dX10_month_70 : decode cX10_month 70 = .ok (.iaload, 1) := by decide +kernel
theorem dX10_month_71 : decode cX10_month 71 = .ok (.iconst 3, 1) := by decide +kernel
theorem dX10_month_72 : decode cX10_month 72 = .ok (.if_icmp .ne 7, 3) := by decide +kernel
theorem dX10_month_75 : decode cX10_month 75 = .ok (.aload_n 0, 1) := by decide +kernel
theorem dX10_month_76 : decode cX10_month 76 = .ok (.invokevirtual 219, 3) := by decide +kernel
theorem dX10_month_79 : decode cX10_month 79 = .ok (.aload_n 0, 1) := by decide +kernel
theorem dX10_month_80 : decode cX10_month 80 = .ok (.aload_n 0, 1) := by decide +kernel
theorem dX10_month_81 : decode cX10_month 81 = .ok (.getfield 19, 3) := by decide +kernel
theorem dX10_month_84 : decode cX10_month 84 = .ok (.iconst 1, 1) := by decide +kernel
theorem dX10_month_85 : decode cX10_month 85 = .ok (.iaload, 1) := by decide +kernel
theorem dX10_month_86 : decode cX10_month 86 = .ok (.putfield 168, 3) := by decide +kernel
theorem dX10_month_89 : decode cX10_month 89 = .ok (.iconst 1, 1) := by decide +kernel
theorem dX10_month_90 : decode cX10_month 90 = .ok (.istore 5, 2) := by decide +kernel
theorem dX10_month_92 : decode cX10_month 92 = .ok (.iconst 0, 1) := by decide +kernel
theorem dX10_month_93 : decode cX10_month 93 = .ok (.istore 6, 2) := by decide +kernel
theorem dX10_month_95 : decode cX10_month 95 = .ok (.iload 6, 2) := by decide +kernel
theorem dX10_month_97 : decode cX10_month 97 = .ok (.bipush 12, 2) := by decide +kernel
theorem dX10_month_99 : decode cX10_month 99 = .ok (.iload_n 2, 1) := by decide +kernel
theorem dX10_month_100 : decode cX10_month 100 = .ok (.imul, 1) := by decide +kernel
theorem dX10_month_101 : decode cX10_month 101 = .ok (.iload_n 3, 1) := by decide +kernel
theorem dX10_month_102 : decode cX10_month 102 = .ok (.iadd, 1) := by decide +kernel
theorem dX10_month_103 : decode cX10_month 103 = .ok (.if_icmp .gt 74, 3) := by decide +kernel
theorem dX10_month_106 : decode cX10_month 106 = .ok (.aload_n 0, 1) := by decide +kernel
theorem dX10_month_107 : decode cX10_month 107 = .ok (.aload_n 0, 1) := by decide +kernel
theorem dX10_month_108 : decode cX10_month 108 = .ok (.getfield 168, 3) := by decide +kernel
theorem dX10_month_111 : decode cX10_month 111 = .ok (.aload_n 0, 1) := by decide +kernel
theorem dX10_month_112 : decode cX10_month 112 = .ok (.getfield 22, 3) := by decide +kernel
theorem dX10_month_115 : decode cX10_month 115 = .ok (.iload 6, 2) := by decide +kernel
theorem dX10_month_117 : decode cX10_month 117 = .ok (.iaload, 1) := by decide +kernel
theorem dX10_month_118 : decode cX10_month 118 = .ok (.iload 5, 2) := by decide +kernel
theorem dX10_month_120 : decode cX10_month 120 = .ok (.aload_n 0, 1) := by decide +kernel
theorem dX10_month_121 : decode cX10_month 121 = .ok (.getfield 19, 3) := by decide +kernel
theorem dX10_month_124 : decode cX10_month 124 = .ok (.iconst 4, 1) := by decide +kernel
theorem dX10_month_125 : decode cX10_month 125 = .ok (.iaload, 1) := by decide +kernel
theorem dX10_month_126 : decode cX10_month 126 = .ok (.invokevirtual 204, 3) := by decide +kernel
theorem dX10_month_129 : decode cX10_month 129 = .ok (.aload_n 0, 1) := by decide +kernel
theorem dX10_month_130 : decode cX10_month 130 = .ok (.iload_n 1, 1) := by decide +kernel
theorem dX10_month_131 : decode cX10_month 131 = .ok (.iload 6, 2) := by decide +kernel
theorem dX10_month_133 : decode cX10_month 133 = .ok (.bipush 12, 2) := by decide +kernel
theorem dX10_month_135 : decode cX10_month 135 = .ok (.irem, 1) := by decide +kernel
theorem dX10_month_136 : decode cX10_month 136 = .ok (.aload_n 0, 1) := by decide +kernel
theorem dX10_month_137 : decode cX10_month 137 = .ok (.getfield 22, 3) := by decide +kernel
theorem dX10_month_140 : decode cX10_month 140 = .ok (.iload 6, 2) := by decide +kernel
theorem dX10_month_142 : decode cX10_month 142 = .ok (.iaload, 1) := by decide +kernel
theorem dX10_month_143 : decode cX10_month 143 = .ok (.ifCond .le 7, 3) := by decide +kernel
theorem dX10_month_146 : decode cX10_month 146 = .ok (.iconst 1, 1) := by decide +kernel
theorem dX10_month_147 : decode cX10_month 147 = .ok (.goto 4, 3) := by decide +kernel
theorem dX10_month_150 : decode cX10_month 150 = .ok (.iconst 0, 1) := by decide +kernel
theorem dX10_month_151 : decode cX10_month 151 = .ok (.invokevirtual 229, 3) := by decide +kernel
theorem dX10_month_154 : decode cX10_month 154 = .ok (.aload_n 0, 1) := by decide +kernel
theorem dX10_month_155 : decode cX10_month 155 = .ok (.getfield 22, 3) := by decide +kernel
theorem dX10_month_158 : decode cX10_month 158 = .ok (.iload 6, 2) := by decide +kernel
theorem dX10_month_160 : decode cX10_month 160 = .ok (.iaload, 1) := by decide +kernel
theorem dX10_month_161 : decode cX10_month 161 = .ok (.ifCond .le 7, 3) := by decide +kernel
theorem dX10_month_164 : decode cX10_month 164 = .ok (.iconst 1, 1) := by decide +kernel
theorem dX10_month_165 : decode cX10_month 165 = .ok (.goto 4, 3) := by decide +kernel
theorem dX10_month_168 : decode cX10_month 168 = .ok (.iconst 0, 1) := by decide +kernel
theorem dX10_month_169 : decode cX10_month 169 = .ok (.istore 5, 2) := by decide +kernel
theorem dX10_month_171 : decode cX10_month 171 = .ok (.iinc 6 1, 3) := by decide +kernel
theorem dX10_month_174 : decode cX10_month 174 = .ok (.goto (-79), 3) := by decide +kernel
theorem dX10_month_177 : decode cX10_month 177 = .ok (.iload 4, 2) := by decide +kernel
theorem dX10_month_179 : decode cX10_month 179 = .ok (.tableswitch 67 0 5 #[37, 42, 47, 52, 57, 62], 37) := by decide +kernel
theorem dX10_month_216 : decode cX10_month 216 = .ok (.aload_n 0, 1) := by decide +kernel
theorem dX10_month_217 : decode cX10_month 217 = .ok (.getfield 165, 3) := by decide +kernel
theorem dX10_month_220 : decode cX10_month 220 = .ok (.ireturn, 1) := by decide +kernel
theorem dX10_month_221 : decode cX10_month 221 = .ok (.aload_n 0, 1) := by decide +kernel
theorem dX10_month_222 : decode cX10_month 222 = .ok (.getfield 171, 3) := by decide +kernel
theorem dX10_month_225 : decode cX10_month 225 = .ok (.ireturn, 1) := by decide +kernel
theorem dX10_month_226 : decode cX10_month 226 = .ok (.aload_n 0, 1) := by decide +kernel
theorem dX10_month_227 : decode cX10_month 227 = .ok (.getfield 174, 3) := by decide +kernel
theorem dX10_month_230 : decode cX10_month 230 = .ok (.ireturn, 1) := by decide +kernel
theorem dX10_month_231 : decode cX10_month 231 = .ok (.aload_n 0, 1) := by decide +kernel
theorem dX10_month_232 : decode cX10_month 232 = .ok (.getfield 180, 3) := by decide +kernel
theorem dX10_month_235 : decode cX10_month 235 = .ok (.ireturn, 1) := by decide +kernel
theorem dX10_month_236 : decode cX10_month 236 = .ok (.aload_n 0, 1) := by decide +kernel
theorem dX10_month_237 : decode cX10_month 237 = .ok (.getfield 177, 3) := by decide +kernel
theorem dX10_month_240 : decode cX10_month 240 = .ok (.ireturn, 1) := by decide +kernel
theorem dX10_month_241 : decode cX10_month 241 = .ok (.aload_n 0, 1) := by decide +kernel
theorem dX10_month_242 : decode cX10_month 242 = .ok (.getfield 168, 3) := by decide +kernel
theorem dX10_month_245 : decode cX10_month 245 = .ok (.ireturn, 1) := by decide +kernel
theorem dX10_month_246 : decode cX10_month 246 = .ok (.aload_n 0, 1) := by decide +kernel
theorem dX10_month_247 : decode cX10_month 247 = .ok (.getfield 183, 3) := by decide +kernel
theorem dX10_month_250 : decode cX10_month 250 = .ok (.ireturn, 1) := by decide +kernel
theorem dX10_goTrial_0 : decode cX10_goTrial 0 = .ok (.aload_n 0, 1) := by decide +kernel
theorem dX10_goTrial_1 : decode cX10_goTrial 1 = .ok (.getfield 19, 3) := by decide +kernel
theorem dX10_goTrial_4 : decode cX10_goTrial 4 = .ok (.iconst 1, 1) := by decide +kernel
theorem dX10_goTrial_5 : decode cX10_goTrial 5 = .ok (.iaload, 1) := by decide +kernel
theorem dX10_goTrial_6 : decode cX10_goTrial 6 = .ok (.istore 4, 2) := by decide +kernel
theorem dX10_goTrial_8 : decode cX10_goTrial 8 = .ok (.aload_n 0, 1) := by decide +kernel
theorem dX10_goTrial_9 : decode cX10_goTrial 9 = .ok (.getfield 19, 3) := by decide +kernel
theorem dX10_goTrial_12 : decode cX10_goTrial 12 = .ok (.iconst 1, 1) := by decide +kernel
theorem dX10_goTrial_13 : decode cX10_goTrial 13 = .ok (.iload_n 3, 1) := by decide +kernel
theorem dX10_goTrial_14 : decode cX10_goTrial 14 = .ok (.iastore, 1) := by decide +kernel
theorem dX10_goTrial_15 : decode cX10_goTrial 15 = .ok (.aload_n 0, 1) := by decide +kernel
theorem dX10_goTrial_16 : decode cX10_goTrial 16 = .ok (.getfield 25, 3) := by decide +kernel
theorem dX10_goTrial_19 : decode cX10_goTrial 19 = .ok (.bipush 7, 2) := by decide +kernel
theorem dX10_goTrial_21 : decode cX10_goTrial 21 = .ok (.iaload, 1) := by decide +kernel
theorem dX10_goTrial_22 : decode cX10_goTrial 22 = .ok (.istore 5, 2) := by decide +kernel
theorem dX10_goTrial_24 : decode cX10_goTrial 24 = .ok (.aload_n 0, 1) := by decide +kernel
theorem dX10_goTrial_25 : decode cX10_goTrial 25 = .ok (.getfield 28, 3) := by decide +kernel
theorem dX10_goTrial_28 : decode cX10_goTrial 28 = .ok (.bipush 7, 2) := by decide +kernel
theorem dX10_goTrial_30 : decode cX10_goTrial 30 = .ok (.iaload, 1) := by decide +kernel
theorem dX10_goTrial_31 : decode cX10_goTrial 31 = .ok (.istore 6, 2) := by decide +kernel
theorem dX10_goTrial_33 : decode cX10_goTrial 33 = .ok (.aload_n 0, 1) := by decide +kernel
theorem dX10_goTrial_34 : decode cX10_goTrial 34 = .ok (.getfield 25, 3) := by decide +kernel
theorem dX10_goTrial_37 : decode cX10_goTrial 37 = .ok (.bipush 7, 2) := by decide +kernel
theorem dX10_goTrial_39 : decode cX10_goTrial 39 = .ok (.iload_n 1, 1) := by decide +kernel
theorem dX10_goTrial_40 : decode cX10_goTrial 40 = .ok (.iastore, 1) := by decide +kernel
theorem dX10_goTrial_41 : decode cX10_goTrial 41 = .ok (.aload_n 0, 1) := by decide +kernel
theorem dX10_goTrial_42 : decode cX10_goTrial 42 = .ok (.getfield 28, 3) := by decide +kernel
theorem dX10_goTrial_45 : decode cX10_goTrial 45 = .ok (.bipush 7, 2) := by decide +kernel
theorem dX10_goTrial_47 : decode cX10_goTrial 47 = .ok (.iload_n 2, 1) := by decide +kernel
theorem dX10_goTrial_48 : decode cX10_goTrial 48 = .ok (.iastore, 1) := by decide +kernel
theorem dX10_goTrial_49 : decode cX10_goTrial 49 = .ok (.aload_n 0, 1) := by decide +kernel
theorem dX10_goTrial_50 : decode cX10_goTrial 50 = .ok (.bipush 7, 2) := by decide +kernel
theorem dX10_goTrial_52 : decode cX10_goTrial 52 = .ok (.invokevirtual 243, 3) := by decide +kernel
theorem dX10_goTrial_55 : decode cX10_goTrial 55 = .ok (.aload_n 0, 1) := by decide +kernel
theorem dX10_goTrial_56 : decode cX10_goTrial 56 = .ok (.getfield 25, 3) := by decide +kernel
theorem dX10_goTrial_59 : decode cX10_goTrial 59 = .ok (.bipush 7, 2) := by decide +kernel
theorem dX10_goTrial_61 : decode cX10_goTrial 61 = .ok (.iload 5, 2) := by decide +kernel
theorem dX10_goTrial_63 : decode cX10_goTrial 63 = .ok (.iastore, 1) := by decide +kernel
theorem dX10_goTrial_64 : decode cX10_goTrial 64 = .ok (.aload_n 0, 1) := by decide +kernel
theorem dX10_goTrial_65 : decode cX10_goTrial 65 = .ok (.getfield 28, 3) := by decide +kernel
theorem dX10_goTrial_68 : decode cX10_goTrial 68 = .ok (.bipush 7, 2) := by decide +kernel
theorem dX10_goTrial_70 : decode cX10_goTrial 70 = .ok (.iload 6, 2) := by decide +kernel
theorem dX10_goTrial_72 : decode cX10_goTrial 72 = .ok (.iastore, 1) := by decide +kernel
theorem dX10_goTrial_73 : decode cX10_goTrial 73 = .ok (.aload_n 0, 1) := by decide +kernel
theorem dX10_goTrial_74 : decode cX10_goTrial 74 = .ok (.getfield 19, 3) := by decide +kernel
theorem dX10_goTrial_77 : decode cX10_goTrial 77 = .ok (.iconst 1, 1) := by decide +kernel
theorem dX10_goTrial_78 : decode cX10_goTrial 78 = .ok (.iload 4, 2) := by decide +kernel
theorem dX10_goTrial_80 : decode cX10_goTrial 80 = .ok (.iastore, 1) := by decide +kernel
theorem dX10_goTrial_81 : decode cX10_goTrial 81 = .ok (.return_, 1) := by decide +kernel
theorem dX10_leastSize_0 : decode cX10_leastSize 0 = .ok (.iconst 0, 1) := by decide +kernel
theorem dX10_leastSize_1 : decode cX10_leastSize 1 = .ok (.istore_n 2, 1) := by decide +kernel
theorem dX10_leastSize_2 : decode cX10_leastSize 2 = .ok (.iload_n 2, 1) := by decide +kernel
theorem dX10_leastSize_3 : decode cX10_leastSize 3 = .ok (.sipush 200, 3) := by decide +kernel
theorem dX10_leastSize_6 : decode cX10_leastSize 6 = .ok (.if_icmp .gt 28, 3) := by decide +kernel
theorem dX10_leastSize_9 : decode cX10_leastSize 9 = .ok (.aload_n 0, 1) := by decide +kernel
theorem dX10_leastSize_10 : decode cX10_leastSize 10 = .ok (.iconst 0, 1) := by decide +kernel
theorem dX10_leastSize_11 : decode cX10_leastSize 11 = .ok (.iconst 0, 1) := by decide +kernel
theorem dX10_leastSize_12 : decode cX10_leastSize 12 = .ok (.iload_n 2, 1) := by decide +kernel
theorem dX10_leastSize_13 : decode cX10_leastSize 13 = .ok (.invokevirtual 246, 3) := by decide +kernel
theorem dX10_leastSize_16 : decode cX10_leastSize 16 = .ok (.aload_n 0, 1) := by decide +kernel
theorem dX10_leastSize_17 : decode cX10_leastSize 17 = .ok (.getfield 50, 3) := by decide +kernel
theorem dX10_leastSize_20 : decode cX10_leastSize 20 = .ok (.iconst 0, 1) := by decide +kernel
theorem dX10_leastSize_21 : decode cX10_leastSize 21 = .ok (.iaload, 1) := by decide +kernel
theorem dX10_leastSize_22 : decode cX10_leastSize 22 = .ok (.iload_n 1, 1) := by decide +kernel
theorem dX10_leastSize_23 : decode cX10_leastSize 23 = .ok (.if_icmp .gt 5, 3) := by decide +kernel
theorem dX10_leastSize_26 : decode cX10_leastSize 26 = .ok (.iload_n 2, 1) := by decide +kernel
theorem dX10_leastSize_27 : decode cX10_leastSize 27 = .ok (.ireturn, 1) := by decide +kernel
theorem dX10_leastSize_28 : decode cX10_leastSize 28 = .ok (.iinc 2 1, 3) := by decide +kernel
theorem dX10_leastSize_31 : decode cX10_leastSize 31 = .ok (.goto (-29), 3) := by decide +kernel
theorem dX10_leastSize_34 : decode cX10_leastSize 34 = .ok (.iconst (-1), 1) := by decide +kernel
theorem dX10_leastSize_35 : decode cX10_leastSize 35 = .ok (.ireturn, 1) := by decide +kernel
theorem dX10_never_0 : decode cX10_never 0 = .ok (.aload_n 0, 1) := by decide +kernel
theorem dX10_never_1 : decode cX10_never 1 = .ok (.invokevirtual 236, 3) := by decide +kernel
theorem dX10_never_4 : decode cX10_never 4 = .ok (.ifCond .eq 6, 3) := by decide +kernel
theorem dX10_never_7 : decode cX10_never 7 = .ok (.bipush (-103), 2) := by decide +kernel
theorem dX10_never_9 : decode cX10_never 9 = .ok (.ireturn, 1) := by decide +kernel
theorem dX10_never_10 : decode cX10_never 10 = .ok (.iload_n 1, 1) := by decide +kernel
theorem dX10_never_11 : decode cX10_never 11 = .ok (.i2l, 1) := by decide +kernel
theorem dX10_never_12 : decode cX10_never 12 = .ok (.lconst 0, 1) := by decide +kernel
theorem dX10_never_13 : decode cX10_never 13 = .ok (.ldc2_w 133, 3) := by decide +kernel
theorem dX10_never_16 : decode cX10_never 16 = .ok (.invokestatic 107, 3) := by decide +kernel
theorem dX10_never_19 : decode cX10_never 19 = .ok (.ifCond .ne 6, 3) := by decide +kernel
theorem dX10_never_22 : decode cX10_never 22 = .ok (.bipush (-102), 2) := by decide +kernel
theorem dX10_never_24 : decode cX10_never 24 = .ok (.ireturn, 1) := by decide +kernel
theorem dX10_never_25 : decode cX10_never 25 = .ok (.aload_n 0, 1) := by decide +kernel
theorem dX10_never_26 : decode cX10_never 26 = .ok (.iconst 0, 1) := by decide +kernel
theorem dX10_never_27 : decode cX10_never 27 = .ok (.invokevirtual 250, 3) := by decide +kernel
theorem dX10_never_30 : decode cX10_never 30 = .ok (.istore_n 2, 1) := by decide +kernel
theorem dX10_never_31 : decode cX10_never 31 = .ok (.iload_n 1, 1) := by decide +kernel
theorem dX10_never_32 : decode cX10_never 32 = .ok (.ifCond .eq 8, 3) := by decide +kernel
theorem dX10_never_35 : decode cX10_never 35 = .ok (.iload_n 2, 1) := by decide +kernel
theorem dX10_never_36 : decode cX10_never 36 = .ok (.iconst 1, 1) := by decide +kernel
theorem dX10_never_37 : decode cX10_never 37 = .ok (.if_icmp .ge 13, 3) := by decide +kernel
theorem dX10_never_40 : decode cX10_never 40 = .ok (.iload_n 1, 1) := by decide +kernel
theorem dX10_never_41 : decode cX10_never 41 = .ok (.ifCond .ne 7, 3) := by decide +kernel
theorem dX10_never_44 : decode cX10_never 44 = .ok (.iload_n 2, 1) := by decide +kernel
theorem dX10_never_45 : decode cX10_never 45 = .ok (.goto 4, 3) := by decide +kernel
theorem dX10_never_48 : decode cX10_never 48 = .ok (.iconst (-1), 1) := by decide +kernel
theorem dX10_never_49 : decode cX10_never 49 = .ok (.ireturn, 1) := by decide +kernel
theorem dX10_never_50 : decode cX10_never 50 = .ok (.aload_n 0, 1) := by decide +kernel
theorem dX10_never_51 : decode cX10_never 51 = .ok (.iconst 0, 1) := by decide +kernel
theorem dX10_never_52 : decode cX10_never 52 = .ok (.iconst 0, 1) := by decide +kernel
theorem dX10_never_53 : decode cX10_never 53 = .ok (.iload_n 2, 1) := by decide +kernel
theorem dX10_never_54 : decode cX10_never 54 = .ok (.iconst 1, 1) := by decide +kernel
theorem dX10_never_55 : decode cX10_never 55 = .ok (.isub, 1) := by decide +kernel
theorem dX10_never_56 : decode cX10_never 56 = .ok (.invokevirtual 246, 3) := by decide +kernel
theorem dX10_never_59 : decode cX10_never 59 = .ok (.iload_n 1, 1) := by decide +kernel
theorem dX10_never_60 : decode cX10_never 60 = .ok (.iconst 1, 1) := by decide +kernel
theorem dX10_never_61 : decode cX10_never 61 = .ok (.if_icmp .ne 13, 3) := by decide +kernel
theorem dX10_never_64 : decode cX10_never 64 = .ok (.aload_n 0, 1) := by decide +kernel
theorem dX10_never_65 : decode cX10_never 65 = .ok (.getfield 222, 3) := by decide +kernel
theorem dX10_never_68 : decode cX10_never 68 = .ok (.bipush 12, 2) := by decide +kernel
theorem dX10_never_70 : decode cX10_never 70 = .ok (.idiv, 1) := by decide +kernel
theorem dX10_never_71 : decode cX10_never 71 = .ok (.goto 10, 3) := by decide +kernel
theorem dX10_never_74 : decode cX10_never 74 = .ok (.aload_n 0, 1) := by decide +kernel
theorem dX10_never_75 : decode cX10_never 75 = .ok (.getfield 222, 3) := by decide +kernel
theorem dX10_never_78 : decode cX10_never 78 = .ok (.bipush 12, 2) := by decide +kernel
theorem dX10_never_80 : decode cX10_never 80 = .ok (.irem, 1) := by decide +kernel
theorem dX10_never_81 : decode cX10_never 81 = .ok (.ireturn, 1) := by decide +kernel
theorem dX10_let_0 : decode cX10_let 0 = .ok (.aload_n 0, 1) := by decide +kernel
theorem dX10_let_1 : decode cX10_let 1 = .ok (.invokevirtual 236, 3) := by decide +kernel
theorem dX10_let_4 : decode cX10_let 4 = .ok (.ifCond .eq 6, 3) := by decide +kernel
theorem dX10_let_7 : decode cX10_let 7 = .ok (.bipush (-103), 2) := by decide +kernel
theorem dX10_let_9 : decode cX10_let 9 = .ok (.ireturn, 1) := by decide +kernel
theorem dX10_let_10 : decode cX10_let 10 = .ok (.iload_n 1, 1) := by decide +kernel
theorem dX10_let_11 : decode cX10_let 11 = .ok (.i2l, 1) := by decide +kernel
theorem dX10_let_12 : decode cX10_let 12 = .ok (.lconst 0, 1) := by decide +kernel
theorem dX10_let_13 : decode cX10_let 13 = .ok (.ldc2_w 253, 3) := by decide +kernel
theorem dX10_let_16 : decode cX10_let 16 = .ok (.invokestatic 107, 3) := by decide +kernel
theorem dX10_let_19 : decode cX10_let 19 = .ok (.ifCond .eq 11, 3) := by decide +kernel
theorem dX10_let_22 : decode cX10_let 22 = .ok (.aload_n 0, 1) := by decide +kernel
theorem dX10_let_23 : decode cX10_let 23 = .ok (.iload_n 1, 1) := by decide +kernel
theorem dX10_let_24 : decode cX10_let 24 = .ok (.invokevirtual 250, 3) := by decide +kernel
theorem dX10_let_27 : decode cX10_let 27 = .ok (.goto 5, 3) := by decide +kernel
theorem dX10_let_30 : decode cX10_let 30 = .ok (.bipush (-102), 2) := by decide +kernel
theorem dX10_let_32 : decode cX10_let 32 = .ok (.ireturn, 1) := by decide +kernel
theorem dX10_cheapest_0 : decode cX10_cheapest 0 = .ok (.aload_n 0, 1) := by decide +kernel
theorem dX10_cheapest_1 : decode cX10_cheapest 1 = .ok (.iload_n 1, 1) := by decide +kernel
theorem dX10_cheapest_2 : decode cX10_cheapest 2 = .ok (.invokevirtual 154, 3) := by decide +kernel
theorem dX10_cheapest_5 : decode cX10_cheapest 5 = .ok (.ifCond .ne 6, 3) := by decide +kernel
theorem dX10_cheapest_8 : decode cX10_cheapest 8 = .ok (.bipush (-101), 2) := by decide +kernel
theorem dX10_cheapest_10 : decode cX10_cheapest 10 = .ok (.ireturn, 1) := by decide +kernel
theorem dX10_cheapest_11 : decode cX10_cheapest 11 = .ok (.aload_n 0, 1) := by decide +kernel
theorem dX10_cheapest_12 : decode cX10_cheapest 12 = .ok (.invokevirtual 236, 3) := by decide +kernel
theorem dX10_cheapest_15 : decode cX10_cheapest 15 = .ok (.ifCond .ne 13, 3) := by decide +kernel
theorem dX10_cheapest_18 : decode cX10_cheapest 18 = .ok (.aload_n 0, 1) := by decide +kernel
theorem dX10_cheapest_19 : decode cX10_cheapest 19 = .ok (.getfield 25, 3) := by decide +kernel
theorem dX10_cheapest_22 : decode cX10_cheapest 22 = .ok (.iload_n 1, 1) := by decide +kernel
theorem dX10_cheapest_23 : decode cX10_cheapest 23 = .ok (.iaload, 1) := by decide +kernel
theorem dX10_cheapest_24 : decode cX10_cheapest 24 = .ok (.iconst 3, 1) := by decide +kernel
theorem dX10_cheapest_25 : decode cX10_cheapest 25 = .ok (.if_icmp .ne 6, 3) := by decide +kernel
theorem dX10_cheapest_28 : decode cX10_cheapest 28 = .ok (.bipush (-103), 2) := by decide +kernel
theorem dX10_cheapest_30 : decode cX10_cheapest 30 = .ok (.ireturn, 1) := by decide +kernel
theorem dX10_cheapest_31 : decode cX10_cheapest 31 = .ok (.iload_n 2, 1) := by decide +kernel
theorem dX10_cheapest_32 : decode cX10_cheapest 32 = .ok (.i2l, 1) := by decide +kernel
theorem dX10_cheapest_33 : decode cX10_cheapest 33 = .ok (.lconst 0, 1) := by decide +kernel
theorem dX10_cheapest_34 : decode cX10_cheapest 34 = .ok (.ldc2_w 255, 3) := by decide +kernel
theorem dX10_cheapest_37 : decode cX10_cheapest 37 = .ok (.invokestatic 107, 3) := by decide +kernel
theorem dX10_cheapest_40 : decode cX10_cheapest 40 = .ok (.ifCond .eq 13, 3) := by decide +kernel
theorem dX10_cheapest_43 : decode cX10_cheapest 43 = .ok (.iload_n 3, 1) := by decide +kernel
theorem dX10_cheapest_44 : decode cX10_cheapest 44 = .ok (.i2l, 1) := by decide +kernel
theorem dX10_cheapest_45 : decode cX10_cheapest 45 = .ok (.lconst 0, 1) := by decide +kernel
theorem dX10_cheapest_46 : decode cX10_cheapest 46 = .ok (.lconst 1, 1) := by decide +kernel
theorem dX10_cheapest_47 : decode cX10_cheapest 47 = .ok (.invokestatic 107, 3) := by decide +kernel
theorem dX10_cheapest_50 : decode cX10_cheapest 50 = .ok (.ifCond .ne 6, 3) := by decide +kernel
theorem dX10_cheapest_53 : decode cX10_cheapest 53 = .ok (.bipush (-102), 2) := by decide +kernel
theorem dX10_cheapest_55 : decode cX10_cheapest 55 = .ok (.ireturn, 1) := by decide +kernel
theorem dX10_cheapest_56 : decode cX10_cheapest 56 = .ok (.aload_n 0, 1) := by decide +kernel
theorem dX10_cheapest_57 : decode cX10_cheapest 57 = .ok (.getfield 257, 3) := by decide +kernel
theorem dX10_cheapest_60 : decode cX10_cheapest 60 = .ok (.bipush 20, 2) := by decide +kernel
theorem dX10_cheapest_62 : decode cX10_cheapest 62 = .ok (.if_icmp .ne 6, 3) := by decide +kernel
theorem dX10_cheapest_65 : decode cX10_cheapest 65 = .ok (.bipush (-103), 2) := by decide +kernel
theorem dX10_cheapest_67 : decode cX10_cheapest 67 = .ok (.ireturn, 1) := by decide +kernel
theorem dX10_cheapest_68 : decode cX10_cheapest 68 = .ok (.aload_n 0, 1) := by decide +kernel
theorem dX10_cheapest_69 : decode cX10_cheapest 69 = .ok (.dup, 1) := by decide +kernel
theorem dX10_cheapest_70 : decode cX10_cheapest 70 = .ok (.getfield 257, 3) := by decide +kernel
theorem dX10_cheapest_73 : decode cX10_cheapest 73 = .ok (.iconst 1, 1) := by decide +kernel
theorem dX10_cheapest_74 : decode cX10_cheapest 74 = .ok (.iadd, 1) := by decide +kernel
theorem dX10_cheapest_75 : decode cX10_cheapest 75 = .ok (.putfield 257, 3) := by decide +kernel
theorem dX10_cheapest_78 : decode cX10_cheapest 78 = .ok (.aload_n 0, 1) := by decide +kernel
theorem dX10_cheapest_79 : decode cX10_cheapest 79 = .ok (.getfield 19, 3) := by decide +kernel
theorem dX10_cheapest_82 : decode cX10_cheapest 82 = .ok (.iconst 1, 1) := by decide +kernel
theorem dX10_cheapest_83 : decode cX10_cheapest 83 = .ok (.iaload, 1) := by decide +kernel
theorem dX10_cheapest_84 : decode cX10_cheapest 84 = .ok (.istore 4, 2) := by decide +kernel
theorem dX10_cheapest_86 : decode cX10_cheapest 86 = .ok (.iconst (-1), 1) := by decide +kernel
theorem dX10_cheapest_87 : decode cX10_cheapest 87 = .ok (.istore 5, 2) := by decide +kernel
theorem dX10_cheapest_89 : decode cX10_cheapest 89 = .ok (.iconst 0, 1) := by decide +kernel
theorem dX10_cheapest_90 : decode cX10_cheapest 90 = .ok (.istore 6, 2) := by decide +kernel
theorem dX10_cheapest_92 : decode cX10_cheapest 92 = .ok (.iconst 0, 1) := by decide +kernel
theorem dX10_cheapest_93 : decode cX10_cheapest 93 = .ok (.istore 7, 2) := by decide +kernel
theorem dX10_cheapest_95 : decode cX10_cheapest 95 = .ok (.iload 7, 2) := by decide +kernel
theorem dX10_cheapest_97 : decode cX10_cheapest 97 = .ok (.sipush 200, 3) := by decide +kernel
theorem dX10_cheapest_100 : decode cX10_cheapest 100 = .ok (.if_icmp .gt 83, 3) := by decide +kernel
theorem dX10_cheapest_103 : decode cX10_cheapest 103 = .ok (.aload_n 0, 1) := by decide +kernel
theorem dX10_cheapest_104 : decode cX10_cheapest 104 = .ok (.getfield 19, 3) := by decide +kernel
theorem dX10_cheapest_107 : decode cX10_cheapest 107 = .ok (.iconst 1, 1) := by decide +kernel
theorem dX10_cheapest_108 : decode cX10_cheapest 108 = .ok (.iload 7, 2) := by decide +kernel
theorem dX10_cheapest_110 : decode cX10_cheapest 110 = .ok (.iastore, 1) := by decide +kernel
theorem dX10_cheapest_111 : decode cX10_cheapest 111 = .ok (.aload_n 0, 1) := by decide +kernel
theorem dX10_cheapest_112 : decode cX10_cheapest 112 = .ok (.iload_n 1, 1) := by decide +kernel
theorem dX10_cheapest_113 : decode cX10_cheapest 113 = .ok (.invokevirtual 243, 3) := by decide +kernel
theorem dX10_cheapest_116 : decode cX10_cheapest 116 = .ok (.iload_n 2, 1) := by decide +kernel
theorem dX10_cheapest_117 : decode cX10_cheapest 117 = .ok (.iload 7, 2) := by decide +kernel
theorem dX10_cheapest_119 : decode cX10_cheapest 119 = .ok (.imul, 1) := by decide +kernel
theorem dX10_cheapest_120 : decode cX10_cheapest 120 = .ok (.aload_n 0, 1) := by decide +kernel
theorem dX10_cheapest_121 : decode cX10_cheapest 121 = .ok (.getfield 50, 3) := by decide +kernel
theorem dX10_cheapest_124 : decode cX10_cheapest 124 = .ok (.iconst 2, 1) := by decide +kernel
theorem dX10_cheapest_125 : decode cX10_cheapest 125 = .ok (.iaload, 1) := by decide +kernel
theorem dX10_cheapest_126 : decode cX10_cheapest 126 = .ok (.iadd, 1) := by decide +kernel
theorem dX10_cheapest_127 : decode cX10_cheapest 127 = .ok (.istore 8, 2) := by decide +kernel
theorem dX10_cheapest_129 : decode cX10_cheapest 129 = .ok (.iload 5, 2) := by decide +kernel
theorem dX10_cheapest_131 : decode cX10_cheapest 131 = .ok (.iconst (-1), 1) := by decide +kernel
theorem dX10_cheapest_132 : decode cX10_cheapest 132 = .ok (.if_icmp .eq 10, 3) := by decide +kernel
theorem dX10_cheapest_135 : decode cX10_cheapest 135 = .ok (.iload 8, 2) := by decide +kernel
theorem dX10_cheapest_137 : decode cX10_cheapest 137 = .ok (.iload 6, 2) := by decide +kernel
theorem dX10_cheapest_139 : decode cX10_cheapest 139 = .ok (.if_icmp .ge 7, 3) := by decide +kernel
theorem dX10_cheapest_142 : decode cX10_cheapest 142 = .ok (.iconst 1, 1) := by decide +kernel
theorem dX10_cheapest_143 : decode cX10_cheapest 143 = .ok (.goto 4, 3) := by decide +kernel
theorem dX10_cheapest_146 : decode cX10_cheapest 146 = .ok (.iconst 0, 1) := by decide +kernel
theorem dX10_cheapest_147 : decode cX10_cheapest 147 = .ok (.istore 9, 2) := by decide +kernel
theorem dX10_cheapest_149 : decode cX10_cheapest 149 = .ok (.iload 9, 2) := by decide +kernel
theorem dX10_cheapest_151 : decode cX10_cheapest 151 = .ok (.ifCond .eq 8, 3) := by decide +kernel
theorem dX10_cheapest_154 : decode cX10_cheapest 154 = .ok (.iload 7, 2) := by decide +kernel
theorem dX10_cheapest_156 : decode cX10_cheapest 156 = .ok (.goto 5, 3) := by decide +kernel
theorem dX10_cheapest_159 : decode cX10_cheapest 159 = .ok (.iload 5, 2) := by decide +kernel
theorem dX10_cheapest_161 : decode cX10_cheapest 161 = .ok (.istore 5, 2) := by decide +kernel
theorem dX10_cheapest_163 : decode cX10_cheapest 163 = .ok (.iload 9, 2) := by decide +kernel
theorem dX10_cheapest_165 : decode cX10_cheapest 165 = .ok (.ifCond .eq 8, 3) := by decide +kernel
theorem dX10_cheapest_168 : decode cX10_cheapest 168 = .ok (.iload 8, 2) := by decide +kernel
theorem dX10_cheapest_170 : decode cX10_cheapest 170 = .ok (.goto 5, 3) := by decide +kernel
theorem dX10_cheapest_173 : decode cX10_cheapest 173 = .ok (.iload 6, 2) := by decide +kernel
theorem dX10_cheapest_175 : decode cX10_cheapest 175 = .ok (.istore 6, 2) := by decide +kernel
theorem dX10_cheapest_177 : decode cX10_cheapest 177 = .ok (.iinc 7 1, 3) := by decide +kernel
theorem dX10_cheapest_180 : decode cX10_cheapest 180 = .ok (.goto (-85), 3) := by decide +kernel
theorem dX10_cheapest_183 : decode cX10_cheapest 183 = .ok (.aload_n 0, 1) := by decide +kernel
theorem dX10_cheapest_184 : decode cX10_cheapest 184 = .ok (.getfield 19, 3) := by decide +kernel
theorem dX10_cheapest_187 : decode cX10_cheapest 187 = .ok (.iconst 1, 1) := by decide +kernel
theorem dX10_cheapest_188 : decode cX10_cheapest 188 = .ok (.iload 4, 2) := by decide +kernel
theorem dX10_cheapest_190 : decode cX10_cheapest 190 = .ok (.iastore, 1) := by decide +kernel
theorem dX10_cheapest_191 : decode cX10_cheapest 191 = .ok (.iload_n 3, 1) := by decide +kernel
theorem dX10_cheapest_192 : decode cX10_cheapest 192 = .ok (.ifCond .ne 8, 3) := by decide +kernel
theorem dX10_cheapest_195 : decode cX10_cheapest 195 = .ok (.iload 5, 2) := by decide +kernel
theorem dX10_cheapest_197 : decode cX10_cheapest 197 = .ok (.goto 5, 3) := by decide +kernel
theorem dX10_cheapest_200 : decode cX10_cheapest 200 = .ok (.iload 6, 2) := by decide +kernel
theorem dX10_cheapest_202 : decode cX10_cheapest 202 = .ok (.ireturn, 1) := by decide +kernel
theorem dX10_share_0 : decode cX10_share 0 = .ok (.aload_n 0, 1) := by decide +kernel
theorem dX10_share_1 : decode cX10_share 1 = .ok (.invokevirtual 236, 3) := by decide +kernel
theorem dX10_share_4 : decode cX10_share 4 = .ok (.ifCond .eq 6, 3) := by decide +kernel
theorem dX10_share_7 : decode cX10_share 7 = .ok (.bipush (-103), 2) := by decide +kernel
theorem dX10_share_9 : decode cX10_share 9 = .ok (.ireturn, 1) := by decide +kernel
theorem dX10_share_10 : decode cX10_share 10 = .ok (.iload_n 1, 1) := by decide +kernel
theorem dX10_share_11 : decode cX10_share 11 = .ok (.i2l, 1) := by decide +kernel
theorem dX10_share_12 : decode cX10_share 12 = .ok (.lconst 0, 1) := by decide +kernel
theorem dX10_share_13 : decode cX10_share 13 = .ok (.ldc2_w 255, 3) := by decide +kernel
theorem dX10_share_16 : decode cX10_share 16 = .ok (.invokestatic 107, 3) := by decide +kernel
theorem dX10_share_19 : decode cX10_share 19 = .ok (.ifCond .eq 27, 3) := by decide +kernel
theorem dX10_share_22 : decode cX10_share 22 = .ok (.iload_n 2, 1) := by decide +kernel
theorem dX10_share_23 : decode cX10_share 23 = .ok (.i2l, 1) := by decide +kernel
theorem dX10_share_24 : decode cX10_share 24 = .ok (.lconst 0, 1) := by decide +kernel
theorem dX10_share_25 : decode cX10_share 25 = .ok (.ldc2_w 255, 3) := by decide +kernel
theorem dX10_share_28 : decode cX10_share 28 = .ok (.invokestatic 107, 3) := by decide +kernel
theorem dX10_share_31 : decode cX10_share 31 = .ok (.ifCond .eq 15, 3) := by decide +kernel
theorem dX10_share_34 : decode cX10_share 34 = .ok (.iload_n 3, 1) := by decide +kernel
theorem dX10_share_35 : decode cX10_share 35 = .ok (.i2l, 1) := by decide +kernel
theorem dX10_share_36 : decode cX10_share 36 = .ok (.lconst 0, 1) := by decide +kernel
theorem dX10_share_37 : decode cX10_share 37 = .ok (.ldc2_w 133, 3) := by decide +kernel
theorem dX10_share_40 : decode cX10_share 40 = .ok (.invokestatic 107, 3) := by decide +kernel
theorem dX10_share_43 : decode cX10_share 43 = .ok (.ifCond .ne 6, 3) := by decide +kernel
theorem dX10_share_46 : decode cX10_share 46 = .ok (.bipush (-102), 2) := by decide +kernel
theorem dX10_share_48 : decode cX10_share 48 = .ok (.ireturn, 1) := by decide +kernel
theorem dX10_share_49 : decode cX10_share 49 = .ok (.aload_n 0, 1) := by decide +kernel
theorem dX10_share_50 : decode cX10_share 50 = .ok (.getfield 257, 3) := by decide +kernel
theorem dX10_share_53 : decode cX10_share 53 = .ok (.bipush 20, 2) := by decide +kernel
theorem dX10_share_55 : decode cX10_share 55 = .ok (.if_icmp .ne 6, 3) := by decide +kernel
theorem dX10_share_58 : decode cX10_share 58 = .ok (.bipush (-103), 2) := by decide +kernel
theorem dX10_share_60 : decode cX10_share 60 = .ok (.ireturn, 1) := by decide +kernel
theorem dX10_share_61 : decode cX10_share 61 = .ok (.aload_n 0, 1) := by decide +kernel
theorem dX10_share_62 : decode cX10_share 62 = .ok (.dup, 1) := by decide +kernel
theorem dX10_share_63 : decode cX10_share 63 = .ok (.getfield 257, 3) := by decide +kernel
theorem dX10_share_66 : decode cX10_share 66 = .ok (.iconst 1, 1) := by decide +kernel
theorem dX10_share_67 : decode cX10_share 67 = .ok (.iadd, 1) := by decide +kernel
theorem dX10_share_68 : decode cX10_share 68 = .ok (.putfield 257, 3) := by decide +kernel
theorem dX10_share_71 : decode cX10_share 71 = .ok (.aload_n 0, 1) := by decide +kernel
theorem dX10_share_72 : decode cX10_share 72 = .ok (.getfield 19, 3) := by decide +kernel
theorem dX10_share_75 : decode cX10_share 75 = .ok (.iconst 0, 1) := by decide +kernel
theorem dX10_share_76 : decode cX10_share 76 = .ok (.iaload, 1) := by decide +kernel
theorem dX10_share_77 : decode cX10_share 77 = .ok (.istore 4, 2) := by decide +kernel
theorem dX10_share_79 : decode cX10_share 79 = .ok (.iconst (-1), 1) := by decide +kernel
theorem dX10_share_80 : decode cX10_share 80 = .ok (.istore 5, 2) := by decide +kernel
theorem dX10_share_82 : decode cX10_share 82 = .ok (.iconst (-1), 1) := by decide +kernel
theorem dX10_share_83 : decode cX10_share 83 = .ok (.istore 6, 2) := by decide +kernel
theorem dX10_share_85 : decode cX10_share 85 = .ok (.iconst 0, 1) := by decide +kernel
theorem dX10_share_86 : decode cX10_share 86 = .ok (.istore 7, 2) := by decide +kernel
theorem dX10_share_88 : decode cX10_share 88 = .ok (.iconst 0, 1) := by decide +kernel
theorem dX10_share_89 : decode cX10_share 89 = .ok (.istore 8, 2) := by decide +kernel
theorem dX10_share_91 : decode cX10_share 91 = .ok (.iload 8, 2) := by decide +kernel
theorem dX10_share_93 : decode cX10_share 93 = .ok (.bipush 6, 2) := by decide +kernel
theorem dX10_share_95 : decode cX10_share 95 = .ok (.if_icmp .ge 125, 3) := by decide +kernel
theorem dX10_share_98 : decode cX10_share 98 = .ok (.aload_n 0, 1) := by decide +kernel
theorem dX10_share_99 : decode cX10_share 99 = .ok (.getfield 19, 3) := by decide +kernel
theorem dX10_share_102 : decode cX10_share 102 = .ok (.iconst 0, 1) := by decide +kernel
theorem dX10_share_103 : decode cX10_share 103 = .ok (.iload 4, 2) := by decide +kernel
theorem dX10_share_105 : decode cX10_share 105 = .ok (.iload 8, 2) := by decide +kernel
theorem dX10_share_107 : decode cX10_share 107 = .ok (.iadd, 1) := by decide +kernel
theorem dX10_share_108 : decode cX10_share 108 = .ok (.iastore, 1) := by decide +kernel
theorem dX10_share_109 : decode cX10_share 109 = .ok (.iconst 0, 1) := by decide +kernel
theorem dX10_share_110 : decode cX10_share 110 = .ok (.istore 9, 2) := by decide +kernel
theorem dX10_share_112 : decode cX10_share 112 = .ok (.iload 9, 2) := by decide +kernel
theorem dX10_share_114 : decode cX10_share 114 = .ok (.sipush 200, 3) := by decide +kernel
theorem dX10_share_117 : decode cX10_share 117 = .ok (.if_icmp .gt 97, 3) := by decide +kernel
theorem dX10_share_120 : decode cX10_share 120 = .ok (.aload_n 0, 1) := by decide +kernel
theorem dX10_share_121 : decode cX10_share 121 = .ok (.iconst 0, 1) := by decide +kernel
theorem dX10_share_122 : decode cX10_share 122 = .ok (.iconst 0, 1) := by decide +kernel
theorem dX10_share_123 : decode cX10_share 123 = .ok (.iload 9, 2) := by decide +kernel
theorem dX10_share_125 : decode cX10_share 125 = .ok (.invokevirtual 246, 3) := by decide +kernel
theorem dX10_share_128 : decode cX10_share 128 = .ok (.iload_n 1, 1) := by decide +kernel
theorem dX10_share_129 : decode cX10_share 129 = .ok (.iload 9, 2) := by decide +kernel
theorem dX10_share_131 : decode cX10_share 131 = .ok (.imul, 1) := by decide +kernel
theorem dX10_share_132 : decode cX10_share 132 = .ok (.iload_n 2, 1) := by decide +kernel
theorem dX10_share_133 : decode cX10_share 133 = .ok (.iload 8, 2) := by decide +kernel
theorem dX10_share_135 : decode cX10_share 135 = .ok (.imul, 1) := by decide +kernel
theorem dX10_share_136 : decode cX10_share 136 = .ok (.iadd, 1) := by decide +kernel
theorem dX10_share_137 : decode cX10_share 137 = .ok (.aload_n 0, 1) := by decide +kernel
theorem dX10_share_138 : decode cX10_share 138 = .ok (.getfield 50, 3) := by decide +kernel
theorem dX10_share_141 : decode cX10_share 141 = .ok (.iconst 2, 1) := by decide +kernel
theorem dX10_share_142 : decode cX10_share 142 = .ok (.iaload, 1) := by decide +kernel
theorem dX10_share_143 : decode cX10_share 143 = .ok (.iadd, 1) := by decide +kernel
theorem dX10_share_144 : decode cX10_share 144 = .ok (.istore 10, 2) := by decide +kernel
theorem dX10_share_146 : decode cX10_share 146 = .ok (.iload 5, 2) := by decide +kernel
theorem dX10_share_148 : decode cX10_share 148 = .ok (.iconst (-1), 1) := by decide +kernel
theorem dX10_share_149 : decode cX10_share 149 = .ok (.if_icmp .eq 10, 3) := by decide +kernel
theorem dX10_share_152 : decode cX10_share 152 = .ok (.iload 10, 2) := by decide +kernel
theorem dX10_share_154 : decode cX10_share 154 = .ok (.iload 7, 2) := by decide +kernel
theorem dX10_share_156 : decode cX10_share 156 = .ok (.if_icmp .ge 7, 3) := by decide +kernel
theorem dX10_share_159 : decode cX10_share 159 = .ok (.iconst 1, 1) := by decide +kernel
theorem dX10_share_160 : decode cX10_share 160 = .ok (.goto 4, 3) := by decide +kernel
theorem dX10_share_163 : decode cX10_share 163 = .ok (.iconst 0, 1) := by decide +kernel
theorem dX10_share_164 : decode cX10_share 164 = .ok (.istore 11, 2) := by decide +kernel
theorem dX10_share_166 : decode cX10_share 166 = .ok (.iload 11, 2) := by decide +kernel
theorem dX10_share_168 : decode cX10_share 168 = .ok (.ifCond .eq 8, 3) := by decide +kernel
theorem dX10_share_171 : decode cX10_share 171 = .ok (.iload 9, 2) := by decide +kernel
theorem dX10_share_173 : decode cX10_share 173 = .ok (.goto 5, 3) := by decide +kernel
theorem dX10_share_176 : decode cX10_share 176 = .ok (.iload 5, 2) := by decide +kernel
theorem dX10_share_178 : decode cX10_share 178 = .ok (.istore 5, 2) := by decide +kernel
theorem dX10_share_180 : decode cX10_share 180 = .ok (.iload 11, 2) := by decide +kernel
theorem dX10_share_182 : decode cX10_share 182 = .ok (.ifCond .eq 8, 3) := by decide +kernel
theorem dX10_share_185 : decode cX10_share 185 = .ok (.iload 8, 2) := by decide +kernel
theorem dX10_share_187 : decode cX10_share 187 = .ok (.goto 5, 3) := by decide +kernel
theorem dX10_share_190 : decode cX10_share 190 = .ok (.iload 6, 2) := by decide +kernel
theorem dX10_share_192 : decode cX10_share 192 = .ok (.istore 6, 2) := by decide +kernel
theorem dX10_share_194 : decode cX10_share 194 = .ok (.iload 11, 2) := by decide +kernel
theorem dX10_share_196 : decode cX10_share 196 = .ok (.ifCond .eq 8, 3) := by decide +kernel
theorem dX10_share_199 : decode cX10_share 199 = .ok (.iload 10, 2) := by decide +kernel
theorem dX10_share_201 : decode cX10_share 201 = .ok (.goto 5, 3) := by decide +kernel
theorem dX10_share_204 : decode cX10_share 204 = .ok (.iload 7, 2) := by decide +kernel
theorem dX10_share_206 : decode cX10_share 206 = .ok (.istore 7, 2) := by decide +kernel
theorem dX10_share_208 : decode cX10_share 208 = .ok (.iinc 9 1, 3) := by decide +kernel
theorem dX10_share_211 : decode cX10_share 211 = .ok (.goto (-99), 3) := by decide +kernel
theorem dX10_share_214 : decode cX10_share 214 = .ok (.iinc 8 1, 3) := by decide +kernel
theorem dX10_share_217 : decode cX10_share 217 = .ok (.goto (-126), 3) := by decide +kernel
theorem dX10_share_220 : decode cX10_share 220 = .ok (.aload_n 0, 1) := by decide +kernel
theorem dX10_share_221 : decode cX10_share 221 = .ok (.getfield 19, 3) := by decide +kernel
theorem dX10_share_224 : decode cX10_share 224 = .ok (.iconst 0, 1) := by decide +kernel
theorem dX10_share_225 : decode cX10_share 225 = .ok (.iload 4, 2) := by decide +kernel
theorem dX10_share_227 : decode cX10_share 227 = .ok (.iastore, 1) := by decide +kernel
theorem dX10_share_228 : decode cX10_share 228 = .ok (.iload_n 3, 1) := by decide +kernel
theorem dX10_share_229 : decode cX10_share 229 = .ok (.ifCond .ne 8, 3) := by decide +kernel
theorem dX10_share_232 : decode cX10_share 232 = .ok (.iload 5, 2) := by decide +kernel
theorem dX10_share_234 : decode cX10_share 234 = .ok (.goto 15, 3) := by decide +kernel
theorem dX10_share_237 : decode cX10_share 237 = .ok (.iload_n 3, 1) := by decide +kernel
theorem dX10_share_238 : decode cX10_share 238 = .ok (.iconst 1, 1) := by decide +kernel
theorem dX10_share_239 : decode cX10_share 239 = .ok (.if_icmp .ne 8, 3) := by decide +kernel
theorem dX10_share_242 : decode cX10_share 242 = .ok (.iload 6, 2) := by decide +kernel
theorem dX10_share_244 : decode cX10_share 244 = .ok (.goto 5, 3) := by decide +kernel
theorem dX10_share_247 : decode cX10_share 247 = .ok (.iload 7, 2) := by decide +kernel
theorem dX10_share_249 : decode cX10_share 249 = .ok (.ireturn, 1) := by decide +kernel
theorem dX10_goDrawn_0 : decode cX10_goDrawn 0 = .ok (.aload_n 0, 1) := by decide +kernel
theorem dX10_goDrawn_1 : decode cX10_goDrawn 1 = .ok (.getfield 25, 3) := by decide +kernel
theorem dX10_goDrawn_4 : decode cX10_goDrawn 4 = .ok (.iload_n 1, 1) := by decide +kernel
theorem dX10_goDrawn_5 : decode cX10_goDrawn 5 = .ok (.iaload, 1) := by decide +kernel
theorem dX10_goDrawn_6 : decode cX10_goDrawn 6 = .ok (.iconst 3, 1) := by decide +kernel
theorem dX10_goDrawn_7 : decode cX10_goDrawn 7 = .ok (.if_icmp .ne 7, 3) := by decide +kernel
theorem dX10_goDrawn_10 : decode cX10_goDrawn 10 = .ok (.aload_n 0, 1) := by decide +kernel
theorem dX10_goDrawn_11 : decode cX10_goDrawn 11 = .ok (.invokevirtual 219, 3) := by decide +kernel
theorem dX10_goDrawn_14 : decode cX10_goDrawn 14 = .ok (.iconst 0, 1) := by decide +kernel
theorem dX10_goDrawn_15 : decode cX10_goDrawn 15 = .ok (.istore_n 2, 1) := by decide +kernel
theorem dX10_goDrawn_16 : decode cX10_goDrawn 16 = .ok (.iload_n 2, 1) := by decide +kernel
theorem dX10_goDrawn_17 : decode cX10_goDrawn 17 = .ok (.sipush 402, 3) := by decide +kernel
theorem dX10_goDrawn_20 : decode cX10_goDrawn 20 = .ok (.if_icmp .ge 16, 3) := by decide +kernel
theorem dX10_goDrawn_23 : decode cX10_goDrawn 23 = .ok (.aload_n 0, 1) := by decide +kernel
theorem dX10_goDrawn_24 : decode cX10_goDrawn 24 = .ok (.getfield 56, 3) := by decide +kernel
theorem dX10_goDrawn_27 : decode cX10_goDrawn 27 = .ok (.iload_n 2, 1) := by decide +kernel
theorem dX10_goDrawn_28 : decode cX10_goDrawn 28 = .ok (.lconst 0, 1) := by decide +kernel
theorem dX10_goDrawn_29 : decode cX10_goDrawn 29 = .ok (.lastore, 1) := by decide +kernel
theorem dX10_goDrawn_30 : decode cX10_goDrawn 30 = .ok (.iinc 2 1, 3) := by decide +kernel
theorem dX10_goDrawn_33 : decode cX10_goDrawn 33 = .ok (.goto (-17), 3) := by decide +kernel
theorem dX10_goDrawn_36 : decode cX10_goDrawn 36 = .ok (.aload_n 0, 1) := by decide +kernel
theorem dX10_goDrawn_37 : decode cX10_goDrawn 37 = .ok (.getfield 56, 3) := by decide +kernel
theorem dX10_goDrawn_40 : decode cX10_goDrawn 40 = .ok (.iconst 2, 1) := by decide +kernel
theorem dX10_goDrawn_41 : decode cX10_goDrawn 41 = .ok (.aload_n 0, 1) := by decide +kernel
theorem dX10_goDrawn_42 : decode cX10_goDrawn 42 = .ok (.getfield 19, 3) := by decide +kernel
theorem dX10_goDrawn_45 : decode cX10_goDrawn 45 = .ok (.iconst 1, 1) := by decide +kernel
theorem dX10_goDrawn_46 : decode cX10_goDrawn 46 = .ok (.iaload, 1) := by decide +kernel
theorem dX10_goDrawn_47 : decode cX10_goDrawn 47 = .ok (.imul, 1) := by decide +kernel
theorem dX10_goDrawn_48 : decode cX10_goDrawn 48 = .ok (.iconst 1, 1) := by decide +kernel
theorem dX10_goDrawn_49 : decode cX10_goDrawn 49 = .ok (.iadd, 1) := by decide +kernel
theorem dX10_goDrawn_50 : decode cX10_goDrawn 50 = .ok (.lconst 1, 1) := by decide +kernel
theorem dX10_goDrawn_51 : decode cX10_goDrawn 51 = .ok (.lastore, 1) := by decide +kernel
theorem dX10_goDrawn_52 : decode cX10_goDrawn 52 = .ok (.aload_n 0, 1) := by decide +kernel
theorem dX10_goDrawn_53 : decode cX10_goDrawn 53 = .ok (.lconst 0, 1) := by decide +kernel
theorem dX10_goDrawn_54 : decode cX10_goDrawn 54 = .ok (.putfield 260, 3) := by decide +kernel
theorem dX10_goDrawn_57 : decode cX10_goDrawn 57 = .ok (.aload_n 0, 1) := by decide +kernel
theorem dX10_goDrawn_58 : decode cX10_goDrawn 58 = .ok (.lconst 1, 1) := by decide +kernel
theorem dX10_goDrawn_59 : decode cX10_goDrawn 59 = .ok (.putfield 264, 3) := by decide +kernel
theorem dX10_goDrawn_62 : decode cX10_goDrawn 62 = .ok (.iconst 0, 1) := by decide +kernel
theorem dX10_goDrawn_63 : decode cX10_goDrawn 63 = .ok (.istore_n 2, 1) := by decide +kernel
theorem dX10_goDrawn_64 : decode cX10_goDrawn 64 = .ok (.iload_n 2, 1) := by decide +kernel
theorem dX10_goDrawn_65 : decode cX10_goDrawn 65 = .ok (.bipush 12, 2) := by decide +kernel
theorem dX10_goDrawn_67 : decode cX10_goDrawn 67 = .ok (.if_icmp .ge 23, 3) := by decide +kernel
theorem dX10_goDrawn_70 : decode cX10_goDrawn 70 = .ok (.aload_n 0, 1) := by decide +kernel
theorem dX10_goDrawn_71 : decode cX10_goDrawn 71 = .ok (.dup, 1) := by decide +kernel
theorem dX10_goDrawn_72 : decode cX10_goDrawn 72 = .ok (.getfield 264, 3) := by decide +kernel
theorem dX10_goDrawn_75 : decode cX10_goDrawn 75 = .ok (.aload_n 0, 1) := by decide +kernel
theorem dX10_goDrawn_76 : decode cX10_goDrawn 76 = .ok (.getfield 144, 3) := by decide +kernel
theorem dX10_goDrawn_79 : decode cX10_goDrawn 79 = .ok (.i2l, 1) := by decide +kernel
theorem dX10_goDrawn_80 : decode cX10_goDrawn 80 = .ok (.lmul, 1) := by decide +kernel
theorem dX10_goDrawn_81 : decode cX10_goDrawn 81 = .ok (.putfield 264, 3) := by decide +kernel
theorem dX10_goDrawn_84 : decode cX10_goDrawn 84 = .ok (.iinc 2 1, 3) := by decide +kernel
theorem dX10_goDrawn_87 : decode cX10_goDrawn 87 = .ok (.goto (-23), 3) := by decide +kernel
theorem dX10_goDrawn_90 : decode cX10_goDrawn 90 = .ok (.aload_n 0, 1) := by decide +kernel
theorem dX10_goDrawn_91 : decode cX10_goDrawn 91 = .ok (.getfield 264, 3) := by decide +kernel
theorem dX10_goDrawn_94 : decode cX10_goDrawn 94 = .ok (.lstore_n 2, 1) := by decide +kernel
theorem dX10_goDrawn_95 : decode cX10_goDrawn 95 = .ok (.iconst 0, 1) := by decide +kernel
theorem dX10_goDrawn_96 : decode cX10_goDrawn 96 = .ok (.istore 4, 2) := by decide +kernel
theorem dX10_goDrawn_98 : decode cX10_goDrawn 98 = .ok (.iload 4, 2) := by decide +kernel
theorem dX10_goDrawn_100 : decode cX10_goDrawn 100 = .ok (.bipush 12, 2) := by decide +kernel
theorem dX10_goDrawn_102 : decode cX10_goDrawn 102 = .ok (.if_icmp .ge 26, 3) := by decide +kernel
theorem dX10_goDrawn_105 : decode cX10_goDrawn 105 = .ok (.lload_n 2, 1) := by decide +kernel
theorem dX10_goDrawn_106 : decode cX10_goDrawn 106 = .ok (.aload_n 0, 1) := by decide +kernel
theorem dX10_goDrawn_107 : decode cX10_goDrawn 107 = .ok (.getfield 144, 3) := by decide +kernel
theorem dX10_goDrawn_110 : decode cX10_goDrawn 110 = .ok (.i2l, 1) := by decide +kernel
theorem dX10_goDrawn_111 : decode cX10_goDrawn 111 = .ok (.ldiv, 1) := by decide +kernel
theorem dX10_goDrawn_112 : decode cX10_goDrawn 112 = .ok (.lstore_n 2, 1) := by decide +kernel
theorem dX10_goDrawn_113 : decode cX10_goDrawn 113 = .ok (.aload_n 0, 1) := by decide +kernel
theorem dX10_goDrawn_114 : decode cX10_goDrawn 114 = .ok (.iload_n 1, 1) := by decide +kernel
theorem dX10_goDrawn_115 : decode cX10_goDrawn 115 = .ok (.iload 4, 2) := by decide +kernel
theorem dX10_goDrawn_117 : decode cX10_goDrawn 117 = .ok (.lload_n 2, 1) := by decide +kernel
theorem dX10_goDrawn_118 : decode cX10_goDrawn 118 = .ok (.iconst 0, 1) := by decide +kernel
theorem dX10_goDrawn_119 : decode cX10_goDrawn 119 = .ok (.invokevirtual 267, 3) := by decide +kernel
theorem dX10_goDrawn_122 : decode cX10_goDrawn 122 = .ok (.iinc 4 1, 3) := by decide +kernel
theorem dX10_goDrawn_125 : decode cX10_goDrawn 125 = .ok (.goto (-27), 3) := by decide +kernel
theorem dX10_goDrawn_128 : decode cX10_goDrawn 128 = .ok (.return_, 1) := by decide +kernel
theorem dX10_drawMonth_0 : decode cX10_drawMonth 0 = .ok (.iconst 0, 1) := by decide +kernel
theorem dX10_drawMonth_1 : decode cX10_drawMonth 1 = .ok (.istore 6, 2) := by decide +kernel
theorem dX10_drawMonth_3 : decode cX10_drawMonth 3 = .ok (.iload 6, 2) := by decide +kernel
theorem dX10_drawMonth_5 : decode cX10_drawMonth 5 = .ok (.sipush 402, 3) := by decide +kernel
theorem dX10_drawMonth_8 : decode cX10_drawMonth 8 = .ok (.if_icmp .ge 17, 3) := by decide +kernel
theorem dX10_drawMonth_11 : decode cX10_drawMonth 11 = .ok (.aload_n 0, 1) := by decide +kernel
theorem dX10_drawMonth_12 : decode cX10_drawMonth 12 = .ok (.getfield 59, 3) := by decide +kernel
theorem dX10_drawMonth_15 : decode cX10_drawMonth 15 = .ok (.iload 6, 2) := by decide +kernel
theorem dX10_drawMonth_17 : decode cX10_drawMonth 17 = .ok (.lconst 0, 1) := by decide +kernel
theorem dX10_drawMonth_18 : decode cX10_drawMonth 18 = .ok (.lastore, 1) := by decide +kernel
theorem dX10_drawMonth_19 : decode cX10_drawMonth 19 = .ok (.iinc 6 1, 3) := by decide +kernel
theorem dX10_drawMonth_22 : decode cX10_drawMonth 22 = .ok (.goto (-19), 3) := by decide +kernel
theorem dX10_drawMonth_25 : decode cX10_drawMonth 25 = .ok (.iconst 0, 1) := by decide +kernel
theorem dX10_drawMonth_26 : decode cX10_drawMonth 26 = .ok (.istore 6, 2) := by decide +kernel
theorem dX10_drawMonth_28 : decode cX10_drawMonth 28 = .ok (.iload 6, 2) := by decide +kernel
theorem dX10_drawMonth_30 : decode cX10_drawMonth 30 = .ok (.aload_n 0, 1) := by decide +kernel
theorem dX10_drawMonth_31 : decode cX10_drawMonth 31 = .ok (.getfield 19, 3) := by decide +kernel
theorem dX10_drawMonth_34 : decode cX10_drawMonth 34 = .ok (.iconst 1, 1) := by decide +kernel
theorem dX10_drawMonth_35 : decode cX10_drawMonth 35 = .ok (.iaload, 1) := by decide +kernel
theorem dX10_drawMonth_36 : decode cX10_drawMonth 36 = .ok (.if_icmp .gt 176, 3) := by decide +kernel
theorem dX10_drawMonth_39 : decode cX10_drawMonth 39 = .ok (.iconst 0, 1) := by decide +kernel
theorem dX10_drawMonth_40 : decode cX10_drawMonth 40 = .ok (.istore 7, 2) := by decide +kernel
theorem dX10_drawMonth_42 : decode cX10_drawMonth 42 = .ok (.iload 7, 2) := by decide +kernel
theorem dX10_drawMonth_44 : decode cX10_drawMonth 44 = .ok (.iconst 2, 1) := by decide +kernel
theorem dX10_drawMonth_45 : decode cX10_drawMonth 45 = .ok (.if_icmp .ge 161, 3) := by decide +kernel
theorem dX10_drawMonth_48 : decode cX10_drawMonth 48 = .ok (.aload_n 0, 1) := by decide +kernel
theorem dX10_drawMonth_49 : decode cX10_drawMonth 49 = .ok (.getfield 56, 3) := by decide +kernel
theorem dX10_drawMonth_52 : decode cX10_drawMonth 52 = .ok (.iconst 2, 1) := by decide +kernel
theorem dX10_drawMonth_53 : decode cX10_drawMonth 53 = .ok (.iload 6, 2) := by decide +kernel
theorem dX10_drawMonth_55 : decode cX10_drawMonth 55 = .ok (.imul, 1) := by decide +kernel
theorem dX10_drawMonth_56 : decode cX10_drawMonth 56 = .ok (.iload 7, 2) := by decide +kernel
theorem dX10_drawMonth_58 : decode cX10_drawMonth 58 = .ok (.iadd, 1) := by decide +kernel
theorem dX10_drawMonth_59 : decode cX10_drawMonth 59 = .ok (.laload, 1) := by decide +kernel
theorem dX10_drawMonth_60 : decode cX10_drawMonth 60 = .ok (.lstore 8, 2) := by decide +kernel
theorem dX10_drawMonth_62 : decode cX10_drawMonth 62 = .ok (.iconst 0, 1) := by decide +kernel
theorem dX10_drawMonth_63 : decode cX10_drawMonth 63 = .ok (.istore 10, 2) := by decide +kernel
theorem dX10_drawMonth_65 : decode cX10_drawMonth 65 = .ok (.iload 10, 2) := by decide +kernel
theorem dX10_drawMonth_67 : decode cX10_drawMonth 67 = .ok (.aload_n 0, 1) := by decide +kernel
theorem dX10_drawMonth_68 : decode cX10_drawMonth 68 = .ok (.getfield 144, 3) := by decide +kernel
theorem dX10_drawMonth_71 : decode cX10_drawMonth 71 = .ok (.if_icmp .ge 129, 3) := by decide +kernel
theorem dX10_drawMonth_74 : decode cX10_drawMonth 74 = .ok (.lload 8, 2) := by decide +kernel
theorem dX10_drawMonth_76 : decode cX10_drawMonth 76 = .ok (.lconst 0, 1) := by decide +kernel
theorem dX10_drawMonth_77 : decode cX10_drawMonth 77 = .ok (.lcmp, 1) := by decide +kernel
theorem dX10_drawMonth_78 : decode cX10_drawMonth 78 = .ok (.ifCond .le 122, 3) := by decide +kernel
theorem dX10_drawMonth_81 : decode cX10_drawMonth 81 = .ok (.aload_n 0, 1) := by decide +kernel
theorem dX10_drawMonth_82 : decode cX10_drawMonth 82 = .ok (.getfield 22, 3) := by decide +kernel
theorem dX10_drawMonth_85 : decode cX10_drawMonth 85 = .ok (.bipush 12, 2) := by decide +kernel
theorem dX10_drawMonth_87 : decode cX10_drawMonth 87 = .ok (.iload 10, 2) := by decide +kernel
theorem dX10_drawMonth_89 : decode cX10_drawMonth 89 = .ok (.imul, 1) := by decide +kernel
theorem dX10_drawMonth_90 : decode cX10_drawMonth 90 = .ok (.iload_n 2, 1) := by decide +kernel
theorem dX10_drawMonth_91 : decode cX10_drawMonth 91 = .ok (.iadd, 1) := by decide +kernel
theorem dX10_drawMonth_92 : decode cX10_drawMonth 92 = .ok (.iaload, 1) := by decide +kernel
theorem dX10_drawMonth_93 : decode cX10_drawMonth 93 = .ok (.istore 11, 2) := by decide +kernel
theorem dX10_drawMonth_95 : decode cX10_drawMonth 95 = .ok (.aload_n 0, 1) := by decide +kernel
theorem dX10_drawMonth_96 : decode cX10_drawMonth 96 = .ok (.iload 6, 2) := by decide +kernel
theorem dX10_drawMonth_98 : decode cX10_drawMonth 98 = .ok (.iload 11, 2) := by decide +kernel
theorem dX10_drawMonth_100 : decode cX10_drawMonth 100 = .ok (.iload 7, 2) := by decide +kernel
theorem dX10_drawMonth_102 : decode cX10_drawMonth 102 = .ok (.iconst 1, 1) := by decide +kernel
theorem dX10_drawMonth_103 : decode cX10_drawMonth 103 = .ok (.if_icmp .ne 7, 3) := by decide +kernel
theorem dX10_drawMonth_106 : decode cX10_drawMonth 106 = .ok (.iconst 1, 1) := by decide +kernel
theorem dX10_drawMonth_107 : decode cX10_drawMonth 107 = .ok (.goto 4, 3) := by decide +kernel
theorem dX10_drawMonth_110 : decode cX10_drawMonth 110 = .ok (.iconst 0, 1) := by decide +kernel
theorem dX10_drawMonth_111 : decode cX10_drawMonth 111 = .ok (.aload_n 0, 1) := by decide +kernel
theorem dX10_drawMonth_112 : decode cX10_drawMonth 112 = .ok (.getfield 19, 3) := by decide +kernel
theorem dX10_drawMonth_115 : decode cX10_drawMonth 115 = .ok (.iconst 4, 1) := by decide +kernel
theorem dX10_drawMonth_116 : decode cX10_drawMonth 116 = .ok (.iaload, 1) := by decide +kernel
theorem dX10_drawMonth_117 : decode cX10_drawMonth 117 = .ok (.invokevirtual 204, 3) := by decide +kernel
theorem dX10_drawMonth_120 : decode cX10_drawMonth 120 = .ok (.aload_n 0, 1) := by decide +kernel
theorem dX10_drawMonth_121 : decode cX10_drawMonth 121 = .ok (.iload_n 1, 1) := by decide +kernel
theorem dX10_drawMonth_122 : decode cX10_drawMonth 122 = .ok (.iload_n 2, 1) := by decide +kernel
theorem dX10_drawMonth_123 : decode cX10_drawMonth 123 = .ok (.iload 11, 2) := by decide +kernel
theorem dX10_drawMonth_125 : decode cX10_drawMonth 125 = .ok (.ifCond .le 7, 3) := by decide +kernel
theorem dX10_drawMonth_128 : decode cX10_drawMonth 128 = .ok (.iconst 1, 1) := by decide +kernel
theorem dX10_drawMonth_129 : decode cX10_drawMonth 129 = .ok (.goto 4, 3) := by decide +kernel
theorem dX10_drawMonth_132 : decode cX10_drawMonth 132 = .ok (.iconst 0, 1) := by decide +kernel
theorem dX10_drawMonth_133 : decode cX10_drawMonth 133 = .ok (.invokevirtual 229, 3) := by decide +kernel
theorem dX10_drawMonth_136 : decode cX10_drawMonth 136 = .ok (.iload 5, 2) := by decide +kernel
theorem dX10_drawMonth_138 : decode cX10_drawMonth 138 = .ok (.ifCond .eq 10, 3) := by decide +kernel
theorem dX10_drawMonth_141 : decode cX10_drawMonth 141 = .ok (.aload_n 0, 1) := by decide +kernel
theorem dX10_drawMonth_142 : decode cX10_drawMonth 142 = .ok (.invokevirtual 232, 3) := by decide +kernel
theorem dX10_drawMonth_145 : decode cX10_drawMonth 145 = .ok (.ifCond .ne 49, 3) := by decide +kernel
theorem dX10_drawMonth_148 : decode cX10_drawMonth 148 = .ok (.aload_n 0, 1) := by decide +kernel
theorem dX10_drawMonth_149 : decode cX10_drawMonth 149 = .ok (.getfield 59, 3) := by decide +kernel
theorem dX10_drawMonth_152 : decode cX10_drawMonth 152 = .ok (.iconst 2, 1) := by decide +kernel
theorem dX10_drawMonth_153 : decode cX10_drawMonth 153 = .ok (.aload_n 0, 1) := by decide +kernel
theorem dX10_drawMonth_154 : decode cX10_drawMonth 154 = .ok (.getfield 168, 3) := by decide +kernel
theorem dX10_drawMonth_157 : decode cX10_drawMonth 157 = .ok (.imul, 1) := by decide +kernel
theorem dX10_drawMonth_158 : decode cX10_drawMonth 158 = .ok (.iload 11, 2) := by decide +kernel
theorem dX10_drawMonth_160 : decode cX10_drawMonth 160 = .ok (.ifCond .le 7, 3) := by decide +kernel
theorem dX10_drawMonth_163 : decode cX10_drawMonth 163 = .ok (.iconst 1, 1) := by decide +kernel
theorem dX10_drawMonth_164 : decode cX10_drawMonth 164 = .ok (.goto 4, 3) := by decide +kernel
theorem dX10_drawMonth_167 : decode cX10_drawMonth 167 = .ok (.iconst 0, 1) := by decide +kernel
theorem dX10_drawMonth_168 : decode cX10_drawMonth 168 = .ok (.iadd, 1) := by decide +kernel
theorem dX10_drawMonth_169 : decode cX10_drawMonth 169 = .ok (.dup2, 1) := by decide +kernel
theorem dX10_drawMonth_170 : decode cX10_drawMonth 170 = .ok (.laload, 1) := by decide +kernel
theorem dX10_drawMonth_171 : decode cX10_drawMonth 171 = .ok (.lload 8, 2) := by decide +kernel
theorem dX10_drawMonth_173 : decode cX10_drawMonth 173 = .ok (.ladd, 1) := by decide +kernel
theorem dX10_drawMonth_174 : decode cX10_drawMonth 174 = .ok (.lastore, 1) := by decide +kernel
theorem dX10_drawMonth_175 : decode cX10_drawMonth 175 = .ok (.aload_n 0, 1) := by decide +kernel
theorem dX10_drawMonth_176 : decode cX10_drawMonth 176 = .ok (.dup, 1) := by decide +kernel
theorem dX10_drawMonth_177 : decode cX10_drawMonth 177 = .ok (.getfield 260, 3) := by decide +kernel
theorem dX10_drawMonth_180 : decode cX10_drawMonth 180 = .ok (.lload 8, 2) := by decide +kernel
theorem dX10_drawMonth_182 : decode cX10_drawMonth 182 = .ok (.lload_n 3, 1) := by decide +kernel
theorem dX10_drawMonth_183 : decode cX10_drawMonth 183 = .ok (.lmul, 1) := by decide +kernel
theorem dX10_drawMonth_184 : decode cX10_drawMonth 184 = .ok (.aload_n 0, 1) := by decide +kernel
theorem dX10_drawMonth_185 : decode cX10_drawMonth 185 = .ok (.getfield 183, 3) := by decide +kernel
theorem dX10_drawMonth_188 : decode cX10_drawMonth 188 = .ok (.i2l, 1) := by decide +kernel
theorem dX10_drawMonth_189 : decode cX10_drawMonth 189 = .ok (.lmul, 1) := by decide +kernel
theorem dX10_drawMonth_190 : decode cX10_drawMonth 190 = .ok (.ladd, 1) := by decide +kernel
theorem dX10_drawMonth_191 : decode cX10_drawMonth 191 = .ok (.putfield 260, 3) := by decide +kernel
theorem dX10_drawMonth_194 : decode cX10_drawMonth 194 = .ok (.iinc 10 1, 3) := by decide +kernel
theorem dX10_drawMonth_197 : decode cX10_drawMonth 197 = .ok (.goto (-132), 3) := by decide +kernel
theorem dX10_drawMonth_200 : decode cX10_drawMonth 200 = .ok (.iinc 7 1, 3) := by decide +kernel
theorem dX10_drawMonth_203 : decode cX10_drawMonth 203 = .ok (.goto (-161), 3) := by decide +kernel
theorem dX10_drawMonth_206 : decode cX10_drawMonth 206 = .ok (.iinc 6 1, 3) := by decide +kernel
theorem dX10_drawMonth_209 : decode cX10_drawMonth 209 = .ok (.goto (-181), 3) := by decide +kernel
theorem dX10_drawMonth_212 : decode cX10_drawMonth 212 = .ok (.iconst 0, 1) := by decide +kernel
theorem dX10_drawMonth_213 : decode cX10_drawMonth 213 = .ok (.istore 6, 2) := by decide +kernel
theorem dX10_drawMonth_215 : decode cX10_drawMonth 215 = .ok (.iload 6, 2) := by decide +kernel
theorem dX10_drawMonth_217 : decode cX10_drawMonth 217 = .ok (.sipush 402, 3) := by decide +kernel
theorem dX10_drawMonth_220 : decode cX10_drawMonth 220 = .ok (.if_icmp .ge 23, 3) := by decide +kernel
theorem dX10_drawMonth_223 : decode cX10_drawMonth 223 = .ok (.aload_n 0, 1) := by decide +kernel
theorem dX10_drawMonth_224 : decode cX10_drawMonth 224 = .ok (.getfield 56, 3) := by decide +kernel
theorem dX10_drawMonth_227 : decode cX10_drawMonth 227 = .ok (.iload 6, 2) := by decide +kernel
theorem dX10_drawMonth_229 : decode cX10_drawMonth 229 = .ok (.aload_n 0, 1) := by decide +kernel
theorem dX10_drawMonth_230 : decode cX10_drawMonth 230 = .ok (.getfield 59, 3) := by decide +kernel
theorem dX10_drawMonth_233 : decode cX10_drawMonth 233 = .ok (.iload 6, 2) := by decide +kernel
theorem dX10_drawMonth_235 : decode cX10_drawMonth 235 = .ok (.laload, 1) := by decide +kernel
theorem dX10_drawMonth_236 : decode cX10_drawMonth 236 = .ok (.lastore, 1) := by decide +kernel
theorem dX10_drawMonth_237 : decode cX10_drawMonth 237 = .ok (.iinc 6 1, 3) := by decide +kernel
theorem dX10_drawMonth_240 : decode cX10_drawMonth 240 = .ok (.goto (-25), 3) := by decide +kernel
theorem dX10_drawMonth_243 : decode cX10_drawMonth 243 = .ok (.return_, 1) := by decide +kernel
theorem dX10_common_0 : decode cX10_common 0 = .ok (.lload_n 0, 1) := by decide +kernel
theorem dX10_common_1 : decode cX10_common 1 = .ok (.lstore 4, 2) := by decide +kernel
theorem dX10_common_3 : decode cX10_common 3 = .ok (.lload_n 2, 1) := by decide +kernel
theorem dX10_common_4 : decode cX10_common 4 = .ok (.lstore 6, 2) := by decide +kernel
theorem dX10_common_6 : decode cX10_common 6 = .ok (.lload 4, 2) := by decide +kernel
theorem dX10_common_8 : decode cX10_common 8 = .ok (.lconst 0, 1) := by decide +kernel
theorem dX10_common_9 : decode cX10_common 9 = .ok (.lcmp, 1) := by decide +kernel
theorem dX10_common_10 : decode cX10_common 10 = .ok (.ifCond .eq 21, 3) := by decide +kernel
theorem dX10_common_13 : decode cX10_common 13 = .ok (.lload 6, 2) := by decide +kernel
theorem dX10_common_15 : decode cX10_common 15 = .ok (.lload 4, 2) := by decide +kernel
theorem dX10_common_17 : decode cX10_common 17 = .ok (.lrem, 1) := by decide +kernel
theorem dX10_common_18 : decode cX10_common 18 = .ok (.lstore 8, 2) := by decide +kernel
theorem dX10_common_20 : decode cX10_common 20 = .ok (.lload 4, 2) := by decide +kernel
theorem dX10_common_22 : decode cX10_common 22 = .ok (.lstore 6, 2) := by decide +kernel
theorem dX10_common_24 : decode cX10_common 24 = .ok (.lload 8, 2) := by decide +kernel
theorem dX10_common_26 : decode cX10_common 26 = .ok (.lstore 4, 2) := by decide +kernel
theorem dX10_common_28 : decode cX10_common 28 = .ok (.goto (-22), 3) := by decide +kernel
theorem dX10_common_31 : decode cX10_common 31 = .ok (.lload 6, 2) := by decide +kernel
theorem dX10_common_33 : decode cX10_common 33 = .ok (.lreturn, 1) := by decide +kernel
theorem dX10_term_0 : decode cX10_term 0 = .ok (.lload_n 0, 1) := by decide +kernel
theorem dX10_term_1 : decode cX10_term 1 = .ok (.lload_n 2, 1) := by decide +kernel
theorem dX10_term_2 : decode cX10_term 2 = .ok (.invokestatic 271, 3) := by decide +kernel
theorem dX10_term_5 : decode cX10_term 5 = .ok (.lstore 5, 2) := by decide +kernel
theorem dX10_term_7 : decode cX10_term 7 = .ok (.iload 4, 2) := by decide +kernel
theorem dX10_term_9 : decode cX10_term 9 = .ok (.ifCond .ne 10, 3) := by decide +kernel
theorem dX10_term_12 : decode cX10_term 12 = .ok (.lload_n 0, 1) := by decide +kernel
theorem dX10_term_13 : decode cX10_term 13 = .ok (.lload 5, 2) := by decide +kernel
theorem dX10_term_15 : decode cX10_term 15 = .ok (.ldiv, 1) := by decide +kernel
theorem dX10_term_16 : decode cX10_term 16 = .ok (.goto 7, 3) := by decide +kernel
theorem dX10_term_19 : decode cX10_term 19 = .ok (.lload_n 2, 1) := by decide +kernel
theorem dX10_term_20 : decode cX10_term 20 = .ok (.lload 5, 2) := by decide +kernel
theorem dX10_term_22 : decode cX10_term 22 = .ok (.ldiv, 1) := by decide +kernel
theorem dX10_term_23 : decode cX10_term 23 = .ok (.lreturn, 1) := by decide +kernel
theorem dX10_sure_0 : decode cX10_sure 0 = .ok (.aload_n 0, 1) := by decide +kernel
theorem dX10_sure_1 : decode cX10_sure 1 = .ok (.iload_n 1, 1) := by decide +kernel
theorem dX10_sure_2 : decode cX10_sure 2 = .ok (.invokevirtual 154, 3) := by decide +kernel
theorem dX10_sure_5 : decode cX10_sure 5 = .ok (.ifCond .ne 7, 3) := by decide +kernel
theorem dX10_sure_8 : decode cX10_sure 8 = .ok (.ldc2_w 275, 3) := by decide +kernel
theorem dX10_sure_11 : decode cX10_sure 11 = .ok (.lreturn, 1) := by decide +kernel
theorem dX10_sure_12 : decode cX10_sure 12 = .ok (.aload_n 0, 1) := by decide +kernel
theorem dX10_sure_13 : decode cX10_sure 13 = .ok (.invokevirtual 236, 3) := by decide +kernel
theorem dX10_sure_16 : decode cX10_sure 16 = .ok (.ifCond .eq 7, 3) := by decide +kernel
theorem dX10_sure_19 : decode cX10_sure 19 = .ok (.ldc2_w 277, 3) := by decide +kernel
theorem dX10_sure_22 : decode cX10_sure 22 = .ok (.lreturn, 1) := by decide +kernel
theorem dX10_sure_23 : decode cX10_sure 23 = .ok (.iload_n 2, 1) := by decide +kernel
theorem dX10_sure_24 : decode cX10_sure 24 = .ok (.i2l, 1) := by decide +kernel
theorem dX10_sure_25 : decode cX10_sure 25 = .ok (.lconst 0, 1) := by decide +kernel
theorem dX10_sure_26 : decode cX10_sure 26 = .ok (.lconst 1, 1) := by decide +kernel
theorem dX10_sure_27 : decode cX10_sure 27 = .ok (.invokestatic 107, 3) := by decide +kernel
theorem dX10_sure_30 : decode cX10_sure 30 = .ok (.ifCond .ne 7, 3) := by decide +kernel
theorem dX10_sure_33 : decode cX10_sure 33 = .ok (.ldc2_w 279, 3) := by decide +kernel
theorem dX10_sure_36 : decode cX10_sure 36 = .ok (.lreturn, 1) := by decide +kernel
theorem dX10_sure_37 : decode cX10_sure 37 = .ok (.aload_n 0, 1) := by decide +kernel
theorem dX10_sure_38 : decode cX10_sure 38 = .ok (.getfield 25, 3) := by decide +kernel
theorem dX10_sure_41 : decode cX10_sure 41 = .ok (.iload_n 1, 1) := by decide +kernel
theorem dX10_sure_42 : decode cX10_sure 42 = .ok (.iaload, 1) := by decide +kernel
theorem dX10_sure_43 : decode cX10_sure 43 = .ok (.iconst 3, 1) := by decide +kernel
theorem dX10_sure_44 : decode cX10_sure 44 = .ok (.if_icmp .ne 7, 3) := by decide +kernel
theorem dX10_sure_47 : decode cX10_sure 47 = .ok (.aload_n 0, 1) := by decide +kernel
theorem dX10_sure_48 : decode cX10_sure 48 = .ok (.invokevirtual 219, 3) := by decide +kernel
theorem dX10_sure_51 : decode cX10_sure 51 = .ok (.iconst 0, 1) := by decide +kernel
theorem dX10_sure_52 : decode cX10_sure 52 = .ok (.istore_n 3, 1) := by decide +kernel
theorem dX10_sure_53 : decode cX10_sure 53 = .ok (.iload_n 3, 1) := by decide +kernel
theorem dX10_sure_54 : decode cX10_sure 54 = .ok (.sipush 402, 3) := by decide +kernel
theorem dX10_sure_57 : decode cX10_sure 57 = .ok (.if_icmp .ge 16, 3) := by decide +kernel
theorem dX10_sure_60 : decode cX10_sure 60 = .ok (.aload_n 0, 1) := by decide +kernel
theorem dX10_sure_61 : decode cX10_sure 61 = .ok (.getfield 56, 3) := by decide +kernel
theorem dX10_sure_64 : decode cX10_sure 64 = .ok (.iload_n 3, 1) := by decide +kernel
theorem dX10_sure_65 : decode cX10_sure 65 = .ok (.lconst 0, 1) := by decide +kernel
theorem dX10_sure_66 : decode cX10_sure 66 = .ok (.lastore, 1) := by decide +kernel
theorem dX10_sure_67 : decode cX10_sure 67 = .ok (.iinc 3 1, 3) := by decide +kernel
theorem dX10_sure_70 : decode cX10_sure 70 = .ok (.goto (-17), 3) := by decide +kernel
theorem dX10_sure_73 : decode cX10_sure 73 = .ok (.aload_n 0, 1) := by decide +kernel
theorem dX10_sure_74 : decode cX10_sure 74 = .ok (.getfield 56, 3) := by decide +kernel
theorem dX10_sure_77 : decode cX10_sure 77 = .ok (.iconst 2, 1) := by decide +kernel
theorem dX10_sure_78 : decode cX10_sure 78 = .ok (.aload_n 0, 1) := by decide +kernel
theorem dX10_sure_79 : decode cX10_sure 79 = .ok (.getfield 19, 3) := by decide +kernel
theorem dX10_sure_82 : decode cX10_sure 82 = .ok (.iconst 1, 1) := by decide +kernel
theorem dX10_sure_83 : decode cX10_sure 83 = .ok (.iaload, 1) := by decide +kernel
theorem dX10_sure_84 : decode cX10_sure 84 = .ok (.imul, 1) := by decide +kernel
theorem dX10_sure_85 : decode cX10_sure 85 = .ok (.iconst 1, 1) := by decide +kernel
theorem dX10_sure_86 : decode cX10_sure 86 = .ok (.iadd, 1) := by decide +kernel
theorem dX10_sure_87 : decode cX10_sure 87 = .ok (.lconst 1, 1) := by decide +kernel
theorem dX10_sure_88 : decode cX10_sure 88 = .ok (.lastore, 1) := by decide +kernel
theorem dX10_sure_89 : decode cX10_sure 89 = .ok (.lconst 1, 1) := by decide +kernel
theorem dX10_sure_90 : decode cX10_sure 90 = .ok (.lstore_n 3, 1) := by decide +kernel
theorem dX10_sure_91 : decode cX10_sure 91 = .ok (.iconst 0, 1) := by decide +kernel
theorem dX10_sure_92 : decode cX10_sure 92 = .ok (.istore 5, 2) := by decide +kernel
theorem dX10_sure_94 : decode cX10_sure 94 = .ok (.iload 5, 2) := by decide +kernel
theorem dX10_sure_96 : decode cX10_sure 96 = .ok (.bipush 12, 2) := by decide +kernel
theorem dX10_sure_98 : decode cX10_sure 98 = .ok (.if_icmp .ge 26, 3) := by decide +kernel
theorem dX10_sure_101 : decode cX10_sure 101 = .ok (.aload_n 0, 1) := by decide +kernel
theorem dX10_sure_102 : decode cX10_sure 102 = .ok (.iload_n 1, 1) := by decide +kernel
theorem dX10_sure_103 : decode cX10_sure 103 = .ok (.iload 5, 2) := by decide +kernel
theorem dX10_sure_105 : decode cX10_sure 105 = .ok (.lconst 0, 1) := by decide +kernel
theorem dX10_sure_106 : decode cX10_sure 106 = .ok (.iconst 1, 1) := by decide +kernel
theorem dX10_sure_107 : decode cX10_sure 107 = .ok (.invokevirtual 267, 3) := by decide +kernel
theorem dX10_sure_110 : decode cX10_sure 110 = .ok (.lload_n 3, 1) := by decide +kernel
theorem dX10_sure_111 : decode cX10_sure 111 = .ok (.aload_n 0, 1) := by decide +kernel
theorem dX10_sure_112 : decode cX10_sure 112 = .ok (.getfield 144, 3) := by decide +kernel
theorem dX10_sure_115 : decode cX10_sure 115 = .ok (.i2l, 1) := by decide +kernel
theorem dX10_sure_116 : decode cX10_sure 116 = .ok (.lmul, 1) := by decide +kernel
theorem dX10_sure_117 : decode cX10_sure 117 = .ok (.lstore_n 3, 1) := by decide +kernel
theorem dX10_sure_118 : decode cX10_sure 118 = .ok (.iinc 5 1, 3) := by decide +kernel
theorem dX10_sure_121 : decode cX10_sure 121 = .ok (.goto (-27), 3) := by decide +kernel
theorem dX10_sure_124 : decode cX10_sure 124 = .ok (.aload_n 0, 1) := by decide +kernel
theorem dX10_sure_125 : decode cX10_sure 125 = .ok (.lconst 0, 1) := by decide +kernel
theorem dX10_sure_126 : decode cX10_sure 126 = .ok (.putfield 281, 3) := by decide +kernel
theorem dX10_sure_129 : decode cX10_sure 129 = .ok (.iconst 0, 1) := by decide +kernel
theorem dX10_sure_130 : decode cX10_sure 130 = .ok (.istore 5, 2) := by decide +kernel
theorem dX10_sure_132 : decode cX10_sure 132 = .ok (.iload 5, 2) := by decide +kernel
theorem dX10_sure_134 : decode cX10_sure 134 = .ok (.sipush 402, 3) := by decide +kernel
theorem dX10_sure_137 : decode cX10_sure 137 = .ok (.if_icmp .ge 25, 3) := by decide +kernel
theorem dX10_sure_140 : decode cX10_sure 140 = .ok (.aload_n 0, 1) := by decide +kernel
theorem dX10_sure_141 : decode cX10_sure 141 = .ok (.dup, 1) := by decide +kernel
theorem dX10_sure_142 : decode cX10_sure 142 = .ok (.getfield 281, 3) := by decide +kernel
theorem dX10_sure_145 : decode cX10_sure 145 = .ok (.aload_n 0, 1) := by decide +kernel
theorem dX10_sure_146 : decode cX10_sure 146 = .ok (.getfield 56, 3) := by decide +kernel
theorem dX10_sure_149 : decode cX10_sure 149 = .ok (.iload 5, 2) := by decide +kernel
theorem dX10_sure_151 : decode cX10_sure 151 = .ok (.laload, 1) := by decide +kernel
theorem dX10_sure_152 : decode cX10_sure 152 = .ok (.ladd, 1) := by decide +kernel
theorem dX10_sure_153 : decode cX10_sure 153 = .ok (.putfield 281, 3) := by decide +kernel
theorem dX10_sure_156 : decode cX10_sure 156 = .ok (.iinc 5 1, 3) := by decide +kernel
theorem dX10_sure_159 : decode cX10_sure 159 = .ok (.goto (-27), 3) := by decide +kernel
theorem dX10_sure_162 : decode cX10_sure 162 = .ok (.aload_n 0, 1) := by decide +kernel
theorem dX10_sure_163 : decode cX10_sure 163 = .ok (.getfield 281, 3) := by decide +kernel
theorem dX10_sure_166 : decode cX10_sure 166 = .ok (.lload_n 3, 1) := by decide +kernel
theorem dX10_sure_167 : decode cX10_sure 167 = .ok (.iload_n 2, 1) := by decide +kernel
theorem dX10_sure_168 : decode cX10_sure 168 = .ok (.invokestatic 284, 3) := by decide +kernel
theorem dX10_sure_171 : decode cX10_sure 171 = .ok (.lreturn, 1) := by decide +kernel
theorem dX10_mean_0 : decode cX10_mean 0 = .ok (.aload_n 0, 1) := by decide +kernel
theorem dX10_mean_1 : decode cX10_mean 1 = .ok (.iload_n 1, 1) := by decide +kernel
theorem dX10_mean_2 : decode cX10_mean 2 = .ok (.invokevirtual 154, 3) := by decide +kernel
theorem dX10_mean_5 : decode cX10_mean 5 = .ok (.ifCond .ne 7, 3) := by decide +kernel
theorem dX10_mean_8 : decode cX10_mean 8 = .ok (.ldc2_w 275, 3) := by decide +kernel
theorem dX10_mean_11 : decode cX10_mean 11 = .ok (.lreturn, 1) := by decide +kernel
theorem dX10_mean_12 : decode cX10_mean 12 = .ok (.aload_n 0, 1) := by decide +kernel
theorem dX10_mean_13 : decode cX10_mean 13 = .ok (.invokevirtual 236, 3) := by decide +kernel
theorem dX10_mean_16 : decode cX10_mean 16 = .ok (.ifCond .eq 7, 3) := by decide +kernel
theorem dX10_mean_19 : decode cX10_mean 19 = .ok (.ldc2_w 277, 3) := by decide +kernel
theorem dX10_mean_22 : decode cX10_mean 22 = .ok (.lreturn, 1) := by decide +kernel
theorem dX10_mean_23 : decode cX10_mean 23 = .ok (.iload_n 2, 1) := by decide +kernel
theorem dX10_mean_24 : decode cX10_mean 24 = .ok (.i2l, 1) := by decide +kernel
theorem dX10_mean_25 : decode cX10_mean 25 = .ok (.lconst 0, 1) := by decide +kernel
theorem dX10_mean_26 : decode cX10_mean 26 = .ok (.lconst 1, 1) := by decide +kernel
theorem dX10_mean_27 : decode cX10_mean 27 = .ok (.invokestatic 107, 3) := by decide +kernel
theorem dX10_mean_30 : decode cX10_mean 30 = .ok (.ifCond .ne 7, 3) := by decide +kernel
theorem dX10_mean_33 : decode cX10_mean 33 = .ok (.ldc2_w 279, 3) := by decide +kernel
theorem dX10_mean_36 : decode cX10_mean 36 = .ok (.lreturn, 1) := by decide +kernel
theorem dX10_mean_37 : decode cX10_mean 37 = .ok (.aload_n 0, 1) := by decide +kernel
theorem dX10_mean_38 : decode cX10_mean 38 = .ok (.iload_n 1, 1) := by decide +kernel
theorem dX10_mean_39 : decode cX10_mean 39 = .ok (.invokevirtual 288, 3) := by decide +kernel
theorem dX10_mean_42 : decode cX10_mean 42 = .ok (.aload_n 0, 1) := by decide +kernel
theorem dX10_mean_43 : decode cX10_mean 43 = .ok (.getfield 260, 3) := by decide +kernel
theorem dX10_mean_46 : decode cX10_mean 46 = .ok (.aload_n 0, 1) := by decide +kernel
theorem dX10_mean_47 : decode cX10_mean 47 = .ok (.getfield 264, 3) := by decide +kernel
theorem dX10_mean_50 : decode cX10_mean 50 = .ok (.iload_n 2, 1) := by decide +kernel
theorem dX10_mean_51 : decode cX10_mean 51 = .ok (.invokestatic 284, 3) := by decide +kernel
theorem dX10_mean_54 : decode cX10_mean 54 = .ok (.lreturn, 1) := by decide +kernel
theorem dX10_wise_0 : decode cX10_wise 0 = .ok (.aload_n 0, 1) := by decide +kernel
theorem dX10_wise_1 : decode cX10_wise 1 = .ok (.invokevirtual 236, 3) := by decide +kernel
theorem dX10_wise_4 : decode cX10_wise 4 = .ok (.ifCond .eq 6, 3) := by decide +kernel
theorem dX10_wise_7 : decode cX10_wise 7 = .ok (.bipush (-103), 2) := by decide +kernel
theorem dX10_wise_9 : decode cX10_wise 9 = .ok (.ireturn, 1) := by decide +kernel
theorem dX10_wise_10 : decode cX10_wise 10 = .ok (.iload_n 1, 1) := by decide +kernel
theorem dX10_wise_11 : decode cX10_wise 11 = .ok (.i2l, 1) := by decide +kernel
theorem dX10_wise_12 : decode cX10_wise 12 = .ok (.lconst 0, 1) := by decide +kernel
theorem dX10_wise_13 : decode cX10_wise 13 = .ok (.ldc2_w 163, 3) := by decide +kernel
theorem dX10_wise_16 : decode cX10_wise 16 = .ok (.invokestatic 107, 3) := by decide +kernel
theorem dX10_wise_19 : decode cX10_wise 19 = .ok (.ifCond .eq 30, 3) := by decide +kernel
theorem dX10_wise_22 : decode cX10_wise 22 = .ok (.iload_n 2, 1) := by decide +kernel
theorem dX10_wise_23 : decode cX10_wise 23 = .ok (.i2l, 1) := by decide +kernel
theorem dX10_wise_24 : decode cX10_wise 24 = .ok (.lconst 0, 1) := by decide +kernel
