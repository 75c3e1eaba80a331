theorem dX10_letters_27 : decode cX10_letters 27 = .ok (.lload 5, 2) := by decide +kernel
theorem dX10_letters_29 : decode cX10_letters 29 = .ok (.bipush 8, 2) := by decide +kernel
theorem dX10_letters_31 : decode cX10_letters 31 = .ok (.lushr, 1) := by decide +kernel
theorem dX10_letters_32 : decode cX10_letters 32 = .ok (.lstore 5, 2) := by decide +kernel
theorem dX10_letters_34 : decode cX10_letters 34 = .ok (.iload 4, 2) := by decide +kernel
theorem dX10_letters_36 : decode cX10_letters 36 = .ok (.ifCond .eq 25, 3) := by decide +kernel
theorem dX10_letters_39 : decode cX10_letters 39 = .ok (.iload 8, 2) := by decide +kernel
theorem dX10_letters_41 : decode cX10_letters 41 = .ok (.bipush 126, 2) := by decide +kernel
theorem dX10_letters_43 : decode cX10_letters 43 = .ok (.if_icmp .gt 18, 3) := by decide +kernel
theorem dX10_letters_46 : decode cX10_letters 46 = .ok (.iload 8, 2) := by decide +kernel
theorem dX10_letters_48 : decode cX10_letters 48 = .ok (.ifCond .eq 9, 3) := by decide +kernel
theorem dX10_letters_51 : decode cX10_letters 51 = .ok (.iload_n 3, 1) := by decide +kernel
theorem dX10_letters_52 : decode cX10_letters 52 = .ok (.iload 7, 2) := by decide +kernel
theorem dX10_letters_54 : decode cX10_letters 54 = .ok (.if_icmp .ne 7, 3) := by decide +kernel
theorem dX10_letters_57 : decode cX10_letters 57 = .ok (.iconst 1, 1) := by decide +kernel
theorem dX10_letters_58 : decode cX10_letters 58 = .ok (.goto 4, 3) := by decide +kernel
theorem dX10_letters_61 : decode cX10_letters 61 = .ok (.iconst 0, 1) := by decide +kernel
theorem dX10_letters_62 : decode cX10_letters 62 = .ok (.istore 4, 2) := by decide +kernel
theorem dX10_letters_64 : decode cX10_letters 64 = .ok (.iload_n 3, 1) := by decide +kernel
theorem dX10_letters_65 : decode cX10_letters 65 = .ok (.iload 8, 2) := by decide +kernel
theorem dX10_letters_67 : decode cX10_letters 67 = .ok (.ifCond .le 7, 3) := by decide +kernel
theorem dX10_letters_70 : decode cX10_letters 70 = .ok (.iconst 1, 1) := by decide +kernel
theorem dX10_letters_71 : decode cX10_letters 71 = .ok (.goto 4, 3) := by decide +kernel
theorem dX10_letters_74 : decode cX10_letters 74 = .ok (.iconst 0, 1) := by decide +kernel
theorem dX10_letters_75 : decode cX10_letters 75 = .ok (.iadd, 1) := by decide +kernel
theorem dX10_letters_76 : decode cX10_letters 76 = .ok (.istore_n 3, 1) := by decide +kernel
theorem dX10_letters_77 : decode cX10_letters 77 = .ok (.iinc 7 1, 3) := by decide +kernel
theorem dX10_letters_80 : decode cX10_letters 80 = .ok (.goto (-69), 3) := by decide +kernel
theorem dX10_letters_83 : decode cX10_letters 83 = .ok (.iload 4, 2) := by decide +kernel
theorem dX10_letters_85 : decode cX10_letters 85 = .ok (.ifCond .ne 6, 3) := by decide +kernel
theorem dX10_letters_88 : decode cX10_letters 88 = .ok (.bipush (-102), 2) := by decide +kernel
theorem dX10_letters_90 : decode cX10_letters 90 = .ok (.ireturn, 1) := by decide +kernel
theorem dX10_letters_91 : decode cX10_letters 91 = .ok (.aload_n 0, 1) := by decide +kernel
theorem dX10_letters_92 : decode cX10_letters 92 = .ok (.getfield 80, 3) := by decide +kernel
theorem dX10_letters_95 : decode cX10_letters 95 = .ok (.iload_n 3, 1) := by decide +kernel
theorem dX10_letters_96 : decode cX10_letters 96 = .ok (.iadd, 1) := by decide +kernel
theorem dX10_letters_97 : decode cX10_letters 97 = .ok (.bipush 60, 2) := by decide +kernel
theorem dX10_letters_99 : decode cX10_letters 99 = .ok (.if_icmp .le 6, 3) := by decide +kernel
theorem dX10_letters_102 : decode cX10_letters 102 = .ok (.bipush (-104), 2) := by decide +kernel
theorem dX10_letters_104 : decode cX10_letters 104 = .ok (.ireturn, 1) := by decide +kernel
theorem dX10_letters_105 : decode cX10_letters 105 = .ok (.iconst 0, 1) := by decide +kernel
theorem dX10_letters_106 : decode cX10_letters 106 = .ok (.istore 7, 2) := by decide +kernel
theorem dX10_letters_108 : decode cX10_letters 108 = .ok (.iload 7, 2) := by decide +kernel
theorem dX10_letters_110 : decode cX10_letters 110 = .ok (.iload_n 3, 1) := by decide +kernel
theorem dX10_letters_111 : decode cX10_letters 111 = .ok (.if_icmp .ge 40, 3) := by decide +kernel
theorem dX10_letters_114 : decode cX10_letters 114 = .ok (.aload_n 0, 1) := by decide +kernel
theorem dX10_letters_115 : decode cX10_letters 115 = .ok (.getfield 7, 3) := by decide +kernel
theorem dX10_letters_118 : decode cX10_letters 118 = .ok (.aload_n 0, 1) := by decide +kernel
theorem dX10_letters_119 : decode cX10_letters 119 = .ok (.getfield 80, 3) := by decide +kernel
theorem dX10_letters_122 : decode cX10_letters 122 = .ok (.lload_n 1, 1) := by decide +kernel
theorem dX10_letters_123 : decode cX10_letters 123 = .ok (.bipush 8, 2) := by decide +kernel
theorem dX10_letters_125 : decode cX10_letters 125 = .ok (.iload 7, 2) := by decide +kernel
theorem dX10_letters_127 : decode cX10_letters 127 = .ok (.imul, 1) := by decide +kernel
theorem dX10_letters_128 : decode cX10_letters 128 = .ok (.lushr, 1) := by decide +kernel
theorem dX10_letters_129 : decode cX10_letters 129 = .ok (.ldc2_w 78, 3) := by decide +kernel
theorem dX10_letters_132 : decode cX10_letters 132 = .ok (.land, 1) := by decide +kernel
theorem dX10_letters_133 : decode cX10_letters 133 = .ok (.l2i, 1) := by decide +kernel
theorem dX10_letters_134 : decode cX10_letters 134 = .ok (.iastore, 1) := by decide +kernel
theorem dX10_letters_135 : decode cX10_letters 135 = .ok (.aload_n 0, 1) := by decide +kernel
theorem dX10_letters_136 : decode cX10_letters 136 = .ok (.dup, 1) := by decide +kernel
theorem dX10_letters_137 : decode cX10_letters 137 = .ok (.getfield 80, 3) := by decide +kernel
theorem dX10_letters_140 : decode cX10_letters 140 = .ok (.iconst 1, 1) := by decide +kernel
theorem dX10_letters_141 : decode cX10_letters 141 = .ok (.iadd, 1) := by decide +kernel
theorem dX10_letters_142 : decode cX10_letters 142 = .ok (.putfield 80, 3) := by decide +kernel
theorem dX10_letters_145 : decode cX10_letters 145 = .ok (.iinc 7 1, 3) := by decide +kernel
theorem dX10_letters_148 : decode cX10_letters 148 = .ok (.goto (-40), 3) := by decide +kernel
theorem dX10_letters_151 : decode cX10_letters 151 = .ok (.aload_n 0, 1) := by decide +kernel
theorem dX10_letters_152 : decode cX10_letters 152 = .ok (.getfield 80, 3) := by decide +kernel
theorem dX10_letters_155 : decode cX10_letters 155 = .ok (.ireturn, 1) := by decide +kernel
theorem dX10_blank_0 : decode cX10_blank 0 = .ok (.aload_n 0, 1) := by decide +kernel
theorem dX10_blank_1 : decode cX10_blank 1 = .ok (.getfield 80, 3) := by decide +kernel
theorem dX10_blank_4 : decode cX10_blank 4 = .ok (.istore_n 1, 1) := by decide +kernel
theorem dX10_blank_5 : decode cX10_blank 5 = .ok (.aload_n 0, 1) := by decide +kernel
theorem dX10_blank_6 : decode cX10_blank 6 = .ok (.iconst 0, 1) := by decide +kernel
theorem dX10_blank_7 : decode cX10_blank 7 = .ok (.putfield 80, 3) := by decide +kernel
theorem dX10_blank_10 : decode cX10_blank 10 = .ok (.iload_n 1, 1) := by decide +kernel
theorem dX10_blank_11 : decode cX10_blank 11 = .ok (.ireturn, 1) := by decide +kernel
theorem dX10_lowest_0 : decode cX10_lowest 0 = .ok (.iload_n 0, 1) := by decide +kernel
theorem dX10_lowest_1 : decode cX10_lowest 1 = .ok (.ifCond .eq 20, 3) := by decide +kernel
theorem dX10_lowest_4 : decode cX10_lowest 4 = .ok (.iload_n 0, 1) := by decide +kernel
theorem dX10_lowest_5 : decode cX10_lowest 5 = .ok (.iconst 5, 1) := by decide +kernel
theorem dX10_lowest_6 : decode cX10_lowest 6 = .ok (.if_icmp .eq 15, 3) := by decide +kernel
theorem dX10_lowest_9 : decode cX10_lowest 9 = .ok (.iload_n 0, 1) := by decide +kernel
theorem dX10_lowest_10 : decode cX10_lowest 10 = .ok (.bipush 7, 2) := by decide +kernel
theorem dX10_lowest_12 : decode cX10_lowest 12 = .ok (.if_icmp .eq 9, 3) := by decide +kernel
theorem dX10_lowest_15 : decode cX10_lowest 15 = .ok (.iload_n 0, 1) := by decide +kernel
theorem dX10_lowest_16 : decode cX10_lowest 16 = .ok (.bipush 9, 2) := by decide +kernel
theorem dX10_lowest_18 : decode cX10_lowest 18 = .ok (.if_icmp .ne 7, 3) := by decide +kernel
theorem dX10_lowest_21 : decode cX10_lowest 21 = .ok (.iconst 1, 1) := by decide +kernel
theorem dX10_lowest_22 : decode cX10_lowest 22 = .ok (.goto 4, 3) := by decide +kernel
theorem dX10_lowest_25 : decode cX10_lowest 25 = .ok (.iconst 0, 1) := by decide +kernel
theorem dX10_lowest_26 : decode cX10_lowest 26 = .ok (.ireturn, 1) := by decide +kernel
theorem dX10_highest_0 : decode cX10_highest 0 = .ok (.iload_n 0, 1) := by decide +kernel
theorem dX10_highest_1 : decode cX10_highest 1 = .ok (.tableswitch 59 0 7 #[47, 50, 59, 59, 59, 54, 59, 56], 47) := by decide +kernel
theorem dX10_highest_48 : decode cX10_highest 48 = .ok (.bipush 20, 2) := by decide +kernel
theorem dX10_highest_50 : decode cX10_highest 50 = .ok (.ireturn, 1) := by decide +kernel
theorem dX10_highest_51 : decode cX10_highest 51 = .ok (.sipush 200, 3) := by decide +kernel
theorem dX10_highest_54 : decode cX10_highest 54 = .ok (.ireturn, 1) := by decide +kernel
theorem dX10_highest_55 : decode cX10_highest 55 = .ok (.iconst 5, 1) := by decide +kernel
theorem dX10_highest_56 : decode cX10_highest 56 = .ok (.ireturn, 1) := by decide +kernel
theorem dX10_highest_57 : decode cX10_highest 57 = .ok (.bipush 15, 2) := by decide +kernel
theorem dX10_highest_59 : decode cX10_highest 59 = .ok (.ireturn, 1) := by decide +kernel
theorem dX10_highest_60 : decode cX10_highest 60 = .ok (.bipush 9, 2) := by decide +kernel
theorem dX10_highest_62 : decode cX10_highest 62 = .ok (.ireturn, 1) := by decide +kernel
theorem dX10_placeOf_0 : decode cX10_placeOf 0 = .ok (.iload_n 1, 1) := by decide +kernel
theorem dX10_placeOf_1 : decode cX10_placeOf 1 = .ok (.bipush 7, 2) := by decide +kernel
theorem dX10_placeOf_3 : decode cX10_placeOf 3 = .ok (.if_icmp .ge 7, 3) := by decide +kernel
theorem dX10_placeOf_6 : decode cX10_placeOf 6 = .ok (.iload_n 1, 1) := by decide +kernel
theorem dX10_placeOf_7 : decode cX10_placeOf 7 = .ok (.goto 19, 3) := by decide +kernel
theorem dX10_placeOf_10 : decode cX10_placeOf 10 = .ok (.bipush 7, 2) := by decide +kernel
theorem dX10_placeOf_12 : decode cX10_placeOf 12 = .ok (.iconst 3, 1) := by decide +kernel
theorem dX10_placeOf_13 : decode cX10_placeOf 13 = .ok (.aload_n 0, 1) := by decide +kernel
theorem dX10_placeOf_14 : decode cX10_placeOf 14 = .ok (.getfield 83, 3) := by decide +kernel
theorem dX10_placeOf_17 : decode cX10_placeOf 17 = .ok (.iconst 1, 1) := by decide +kernel
theorem dX10_placeOf_18 : decode cX10_placeOf 18 = .ok (.isub, 1) := by decide +kernel
theorem dX10_placeOf_19 : decode cX10_placeOf 19 = .ok (.imul, 1) := by decide +kernel
theorem dX10_placeOf_20 : decode cX10_placeOf 20 = .ok (.iadd, 1) := by decide +kernel
theorem dX10_placeOf_21 : decode cX10_placeOf 21 = .ok (.iload_n 1, 1) := by decide +kernel
theorem dX10_placeOf_22 : decode cX10_placeOf 22 = .ok (.iadd, 1) := by decide +kernel
theorem dX10_placeOf_23 : decode cX10_placeOf 23 = .ok (.bipush 7, 2) := by decide +kernel
theorem dX10_placeOf_25 : decode cX10_placeOf 25 = .ok (.isub, 1) := by decide +kernel
theorem dX10_placeOf_26 : decode cX10_placeOf 26 = .ok (.ireturn, 1) := by decide +kernel
theorem dX10_goNumber_0 : decode cX10_goNumber 0 = .ok (.aload_n 0, 1) := by decide +kernel
theorem dX10_goNumber_1 : decode cX10_goNumber 1 = .ok (.aload_n 0, 1) := by decide +kernel
theorem dX10_goNumber_2 : decode cX10_goNumber 2 = .ok (.getfield 86, 3) := by decide +kernel
theorem dX10_goNumber_5 : decode cX10_goNumber 5 = .ok (.invokevirtual 89, 3) := by decide +kernel
theorem dX10_goNumber_8 : decode cX10_goNumber 8 = .ok (.istore_n 2, 1) := by decide +kernel
theorem dX10_goNumber_9 : decode cX10_goNumber 9 = .ok (.aload_n 0, 1) := by decide +kernel
theorem dX10_goNumber_10 : decode cX10_goNumber 10 = .ok (.getfield 93, 3) := by decide +kernel
theorem dX10_goNumber_13 : decode cX10_goNumber 13 = .ok (.ifCond .ne 56, 3) := by decide +kernel
theorem dX10_goNumber_16 : decode cX10_goNumber 16 = .ok (.aload_n 0, 1) := by decide +kernel
theorem dX10_goNumber_17 : decode cX10_goNumber 17 = .ok (.getfield 13, 3) := by decide +kernel
theorem dX10_goNumber_20 : decode cX10_goNumber 20 = .ok (.iload_n 2, 1) := by decide +kernel
theorem dX10_goNumber_21 : decode cX10_goNumber 21 = .ok (.iload_n 1, 1) := by decide +kernel
theorem dX10_goNumber_22 : decode cX10_goNumber 22 = .ok (.bipush 48, 2) := by decide +kernel
theorem dX10_goNumber_24 : decode cX10_goNumber 24 = .ok (.isub, 1) := by decide +kernel
theorem dX10_goNumber_25 : decode cX10_goNumber 25 = .ok (.iastore, 1) := by decide +kernel
theorem dX10_goNumber_26 : decode cX10_goNumber 26 = .ok (.aload_n 0, 1) := by decide +kernel
theorem dX10_goNumber_27 : decode cX10_goNumber 27 = .ok (.iconst 1, 1) := by decide +kernel
theorem dX10_goNumber_28 : decode cX10_goNumber 28 = .ok (.putfield 93, 3) := by decide +kernel
theorem dX10_goNumber_31 : decode cX10_goNumber 31 = .ok (.aload_n 0, 1) := by decide +kernel
theorem dX10_goNumber_32 : decode cX10_goNumber 32 = .ok (.getfield 13, 3) := by decide +kernel
theorem dX10_goNumber_35 : decode cX10_goNumber 35 = .ok (.iload_n 2, 1) := by decide +kernel
theorem dX10_goNumber_36 : decode cX10_goNumber 36 = .ok (.iaload, 1) := by decide +kernel
theorem dX10_goNumber_37 : decode cX10_goNumber 37 = .ok (.aload_n 0, 1) := by decide +kernel
theorem dX10_goNumber_38 : decode cX10_goNumber 38 = .ok (.getfield 86, 3) := by decide +kernel
theorem dX10_goNumber_41 : decode cX10_goNumber 41 = .ok (.invokestatic 97, 3) := by decide +kernel
theorem dX10_goNumber_44 : decode cX10_goNumber 44 = .ok (.if_icmp .lt 23, 3) := by decide +kernel
theorem dX10_goNumber_47 : decode cX10_goNumber 47 = .ok (.aload_n 0, 1) := by decide +kernel
theorem dX10_goNumber_48 : decode cX10_goNumber 48 = .ok (.getfield 13, 3) := by decide +kernel
theorem dX10_goNumber_51 : decode cX10_goNumber 51 = .ok (.iload_n 2, 1) := by decide +kernel
theorem dX10_goNumber_52 : decode cX10_goNumber 52 = .ok (.iaload, 1) := by decide +kernel
theorem dX10_goNumber_53 : decode cX10_goNumber 53 = .ok (.aload_n 0, 1) := by decide +kernel
theorem dX10_goNumber_54 : decode cX10_goNumber 54 = .ok (.getfield 86, 3) := by decide +kernel
theorem dX10_goNumber_57 : decode cX10_goNumber 57 = .ok (.invokestatic 100, 3) := by decide +kernel
theorem dX10_goNumber_60 : decode cX10_goNumber 60 = .ok (.if_icmp .gt 7, 3) := by decide +kernel
theorem dX10_goNumber_63 : decode cX10_goNumber 63 = .ok (.iconst 1, 1) := by decide +kernel
theorem dX10_goNumber_64 : decode cX10_goNumber 64 = .ok (.goto 4, 3) := by decide +kernel
theorem dX10_goNumber_67 : decode cX10_goNumber 67 = .ok (.iconst 0, 1) := by decide +kernel
theorem dX10_goNumber_68 : decode cX10_goNumber 68 = .ok (.ireturn, 1) := by decide +kernel
theorem dX10_goNumber_69 : decode cX10_goNumber 69 = .ok (.aload_n 0, 1) := by decide +kernel
theorem dX10_goNumber_70 : decode cX10_goNumber 70 = .ok (.getfield 13, 3) := by decide +kernel
theorem dX10_goNumber_73 : decode cX10_goNumber 73 = .ok (.iload_n 2, 1) := by decide +kernel
theorem dX10_goNumber_74 : decode cX10_goNumber 74 = .ok (.iaload, 1) := by decide +kernel
theorem dX10_goNumber_75 : decode cX10_goNumber 75 = .ok (.ifCond .le 7, 3) := by decide +kernel
theorem dX10_goNumber_78 : decode cX10_goNumber 78 = .ok (.iconst 1, 1) := by decide +kernel
theorem dX10_goNumber_79 : decode cX10_goNumber 79 = .ok (.goto 4, 3) := by decide +kernel
theorem dX10_goNumber_82 : decode cX10_goNumber 82 = .ok (.iconst 0, 1) := by decide +kernel
theorem dX10_goNumber_83 : decode cX10_goNumber 83 = .ok (.istore_n 3, 1) := by decide +kernel
theorem dX10_goNumber_84 : decode cX10_goNumber 84 = .ok (.aload_n 0, 1) := by decide +kernel
theorem dX10_goNumber_85 : decode cX10_goNumber 85 = .ok (.getfield 13, 3) := by decide +kernel
theorem dX10_goNumber_88 : decode cX10_goNumber 88 = .ok (.iload_n 2, 1) := by decide +kernel
theorem dX10_goNumber_89 : decode cX10_goNumber 89 = .ok (.bipush 10, 2) := by decide +kernel
theorem dX10_goNumber_91 : decode cX10_goNumber 91 = .ok (.aload_n 0, 1) := by decide +kernel
theorem dX10_goNumber_92 : decode cX10_goNumber 92 = .ok (.getfield 13, 3) := by decide +kernel
theorem dX10_goNumber_95 : decode cX10_goNumber 95 = .ok (.iload_n 2, 1) := by decide +kernel
theorem dX10_goNumber_96 : decode cX10_goNumber 96 = .ok (.iaload, 1) := by decide +kernel
theorem dX10_goNumber_97 : decode cX10_goNumber 97 = .ok (.imul, 1) := by decide +kernel
theorem dX10_goNumber_98 : decode cX10_goNumber 98 = .ok (.iload_n 1, 1) := by decide +kernel
theorem dX10_goNumber_99 : decode cX10_goNumber 99 = .ok (.iadd, 1) := by decide +kernel
theorem dX10_goNumber_100 : decode cX10_goNumber 100 = .ok (.bipush 48, 2) := by decide +kernel
theorem dX10_goNumber_102 : decode cX10_goNumber 102 = .ok (.isub, 1) := by decide +kernel
theorem dX10_goNumber_103 : decode cX10_goNumber 103 = .ok (.iastore, 1) := by decide +kernel
theorem dX10_goNumber_104 : decode cX10_goNumber 104 = .ok (.iload_n 3, 1) := by decide +kernel
theorem dX10_goNumber_105 : decode cX10_goNumber 105 = .ok (.ifCond .eq 23, 3) := by decide +kernel
theorem dX10_goNumber_108 : decode cX10_goNumber 108 = .ok (.aload_n 0, 1) := by decide +kernel
theorem dX10_goNumber_109 : decode cX10_goNumber 109 = .ok (.getfield 13, 3) := by decide +kernel
theorem dX10_goNumber_112 : decode cX10_goNumber 112 = .ok (.iload_n 2, 1) := by decide +kernel
theorem dX10_goNumber_113 : decode cX10_goNumber 113 = .ok (.iaload, 1) := by decide +kernel
theorem dX10_goNumber_114 : decode cX10_goNumber 114 = .ok (.aload_n 0, 1) := by decide +kernel
theorem dX10_goNumber_115 : decode cX10_goNumber 115 = .ok (.getfield 86, 3) := by decide +kernel
theorem dX10_goNumber_118 : decode cX10_goNumber 118 = .ok (.invokestatic 100, 3) := by decide +kernel
theorem dX10_goNumber_121 : decode cX10_goNumber 121 = .ok (.if_icmp .gt 7, 3) := by decide +kernel
theorem dX10_goNumber_124 : decode cX10_goNumber 124 = .ok (.iconst 1, 1) := by decide +kernel
theorem dX10_goNumber_125 : decode cX10_goNumber 125 = .ok (.goto 4, 3) := by decide +kernel
theorem dX10_goNumber_128 : decode cX10_goNumber 128 = .ok (.iconst 0, 1) := by decide +kernel
theorem dX10_goNumber_129 : decode cX10_goNumber 129 = .ok (.ireturn, 1) := by decide +kernel
theorem dX10_behind_0 : decode cX10_behind 0 = .ok (.iload_n 0, 1) := by decide +kernel
theorem dX10_behind_1 : decode cX10_behind 1 = .ok (.tableswitch 195 0 8 #[51, 63, 75, 87, 120, 143, 156, 169, 182], 51) := by decide +kernel
theorem dX10_behind_52 : decode cX10_behind 52 = .ok (.iload_n 1, 1) := by decide +kernel
theorem dX10_behind_53 : decode cX10_behind 53 = .ok (.bipush 115, 2) := by decide +kernel
theorem dX10_behind_55 : decode cX10_behind 55 = .ok (.if_icmp .ne 7, 3) := by decide +kernel
theorem dX10_behind_58 : decode cX10_behind 58 = .ok (.iconst 1, 1) := by decide +kernel
theorem dX10_behind_59 : decode cX10_behind 59 = .ok (.goto 4, 3) := by decide +kernel
theorem dX10_behind_62 : decode cX10_behind 62 = .ok (.iconst (-1), 1) := by decide +kernel
theorem dX10_behind_63 : decode cX10_behind 63 = .ok (.ireturn, 1) := by decide +kernel
theorem dX10_behind_64 : decode cX10_behind 64 = .ok (.iload_n 1, 1) := by decide +kernel
theorem dX10_behind_65 : decode cX10_behind 65 = .ok (.bipush 108, 2) := by decide +kernel
theorem dX10_behind_67 : decode cX10_behind 67 = .ok (.if_icmp .ne 7, 3) := by decide +kernel
theorem dX10_behind_70 : decode cX10_behind 70 = .ok (.iconst 2, 1) := by decide +kernel
theorem dX10_behind_71 : decode cX10_behind 71 = .ok (.goto 4, 3) := by decide +kernel
theorem dX10_behind_74 : decode cX10_behind 74 = .ok (.iconst (-1), 1) := by decide +kernel
theorem dX10_behind_75 : decode cX10_behind 75 = .ok (.ireturn, 1) := by decide +kernel
theorem dX10_behind_76 : decode cX10_behind 76 = .ok (.iload_n 1, 1) := by decide +kernel
theorem dX10_behind_77 : decode cX10_behind 77 = .ok (.bipush 119, 2) := by decide +kernel
theorem dX10_behind_79 : decode cX10_behind 79 = .ok (.if_icmp .ne 7, 3) := by decide +kernel
theorem dX10_behind_82 : decode cX10_behind 82 = .ok (.iconst 3, 1) := by decide +kernel
theorem dX10_behind_83 : decode cX10_behind 83 = .ok (.goto 4, 3) := by decide +kernel
theorem dX10_behind_86 : decode cX10_behind 86 = .ok (.iconst (-1), 1) := by decide +kernel
theorem dX10_behind_87 : decode cX10_behind 87 = .ok (.ireturn, 1) := by decide +kernel
theorem dX10_behind_88 : decode cX10_behind 88 = .ok (.iload_n 1, 1) := by decide +kernel
theorem dX10_behind_89 : decode cX10_behind 89 = .ok (.bipush 107, 2) := by decide +kernel
theorem dX10_behind_91 : decode cX10_behind 91 = .ok (.if_icmp .ne 7, 3) := by decide +kernel
theorem dX10_behind_94 : decode cX10_behind 94 = .ok (.iconst 4, 1) := by decide +kernel
theorem dX10_behind_95 : decode cX10_behind 95 = .ok (.goto 25, 3) := by decide +kernel
theorem dX10_behind_98 : decode cX10_behind 98 = .ok (.iload_n 1, 1) := by decide +kernel
theorem dX10_behind_99 : decode cX10_behind 99 = .ok (.bipush 112, 2) := by decide +kernel
theorem dX10_behind_101 : decode cX10_behind 101 = .ok (.if_icmp .ne 7, 3) := by decide +kernel
theorem dX10_behind_104 : decode cX10_behind 104 = .ok (.iconst 5, 1) := by decide +kernel
theorem dX10_behind_105 : decode cX10_behind 105 = .ok (.goto 15, 3) := by decide +kernel
theorem dX10_behind_108 : decode cX10_behind 108 = .ok (.iload_n 1, 1) := by decide +kernel
theorem dX10_behind_109 : decode cX10_behind 109 = .ok (.bipush 59, 2) := by decide +kernel
theorem dX10_behind_111 : decode cX10_behind 111 = .ok (.if_icmp .ne 8, 3) := by decide +kernel
theorem dX10_behind_114 : decode cX10_behind 114 = .ok (.bipush 10, 2) := by decide +kernel
theorem dX10_behind_116 : decode cX10_behind 116 = .ok (.goto 4, 3) := by decide +kernel
theorem dX10_behind_119 : decode cX10_behind 119 = .ok (.iconst (-1), 1) := by decide +kernel
theorem dX10_behind_120 : decode cX10_behind 120 = .ok (.ireturn, 1) := by decide +kernel
theorem dX10_behind_121 : decode cX10_behind 121 = .ok (.iload_n 1, 1) := by decide +kernel
theorem dX10_behind_122 : decode cX10_behind 122 = .ok (.bipush 112, 2) := by decide +kernel
theorem dX10_behind_124 : decode cX10_behind 124 = .ok (.if_icmp .ne 7, 3) := by decide +kernel
theorem dX10_behind_127 : decode cX10_behind 127 = .ok (.iconst 5, 1) := by decide +kernel
theorem dX10_behind_128 : decode cX10_behind 128 = .ok (.goto 15, 3) := by decide +kernel
theorem dX10_behind_131 : decode cX10_behind 131 = .ok (.iload_n 1, 1) := by decide +kernel
theorem dX10_behind_132 : decode cX10_behind 132 = .ok (.bipush 59, 2) := by decide +kernel
theorem dX10_behind_134 : decode cX10_behind 134 = .ok (.if_icmp .ne 8, 3) := by decide +kernel
theorem dX10_behind_137 : decode cX10_behind 137 = .ok (.bipush 10, 2) := by decide +kernel
theorem dX10_behind_139 : decode cX10_behind 139 = .ok (.goto 4, 3) := by decide +kernel
theorem dX10_behind_142 : decode cX10_behind 142 = .ok (.iconst (-1), 1) := by decide +kernel
theorem dX10_behind_143 : decode cX10_behind 143 = .ok (.ireturn, 1) := by decide +kernel
theorem dX10_behind_144 : decode cX10_behind 144 = .ok (.iload_n 1, 1) := by decide +kernel
theorem dX10_behind_145 : decode cX10_behind 145 = .ok (.bipush 113, 2) := by decide +kernel
theorem dX10_behind_147 : decode cX10_behind 147 = .ok (.if_icmp .ne 8, 3) := by decide +kernel
theorem dX10_behind_150 : decode cX10_behind 150 = .ok (.bipush 6, 2) := by decide +kernel
theorem dX10_behind_152 : decode cX10_behind 152 = .ok (.goto 4, 3) := by decide +kernel
theorem dX10_behind_155 : decode cX10_behind 155 = .ok (.iconst (-1), 1) := by decide +kernel
theorem dX10_behind_156 : decode cX10_behind 156 = .ok (.ireturn, 1) := by decide +kernel
theorem dX10_behind_157 : decode cX10_behind 157 = .ok (.iload_n 1, 1) := by decide +kernel
theorem dX10_behind_158 : decode cX10_behind 158 = .ok (.bipush 59, 2) := by decide +kernel
theorem dX10_behind_160 : decode cX10_behind 160 = .ok (.if_icmp .ne 8, 3) := by decide +kernel
theorem dX10_behind_163 : decode cX10_behind 163 = .ok (.bipush 10, 2) := by decide +kernel
theorem dX10_behind_165 : decode cX10_behind 165 = .ok (.goto 4, 3) := by decide +kernel
theorem dX10_behind_168 : decode cX10_behind 168 = .ok (.iconst (-1), 1) := by decide +kernel
theorem dX10_behind_169 : decode cX10_behind 169 = .ok (.ireturn, 1) := by decide +kernel
theorem dX10_behind_170 : decode cX10_behind 170 = .ok (.iload_n 1, 1) := by decide +kernel
theorem dX10_behind_171 : decode cX10_behind 171 = .ok (.bipush 104, 2) := by decide +kernel
theorem dX10_behind_173 : decode cX10_behind 173 = .ok (.if_icmp .ne 8, 3) := by decide +kernel
theorem dX10_behind_176 : decode cX10_behind 176 = .ok (.bipush 8, 2) := by decide +kernel
theorem dX10_behind_178 : decode cX10_behind 178 = .ok (.goto 4, 3) := by decide +kernel
theorem dX10_behind_181 : decode cX10_behind 181 = .ok (.iconst (-1), 1) := by decide +kernel
theorem dX10_behind_182 : decode cX10_behind 182 = .ok (.ireturn, 1) := by decide +kernel
theorem dX10_behind_183 : decode cX10_behind 183 = .ok (.iload_n 1, 1) := by decide +kernel
theorem dX10_behind_184 : decode cX10_behind 184 = .ok (.bipush 99, 2) := by decide +kernel
theorem dX10_behind_186 : decode cX10_behind 186 = .ok (.if_icmp .ne 8, 3) := by decide +kernel
theorem dX10_behind_189 : decode cX10_behind 189 = .ok (.bipush 9, 2) := by decide +kernel
theorem dX10_behind_191 : decode cX10_behind 191 = .ok (.goto 4, 3) := by decide +kernel
theorem dX10_behind_194 : decode cX10_behind 194 = .ok (.iconst (-1), 1) := by decide +kernel
theorem dX10_behind_195 : decode cX10_behind 195 = .ok (.ireturn, 1) := by decide +kernel
theorem dX10_behind_196 : decode cX10_behind 196 = .ok (.iload_n 1, 1) := by decide +kernel
theorem dX10_behind_197 : decode cX10_behind 197 = .ok (.bipush 59, 2) := by decide +kernel
theorem dX10_behind_199 : decode cX10_behind 199 = .ok (.if_icmp .ne 8, 3) := by decide +kernel
theorem dX10_behind_202 : decode cX10_behind 202 = .ok (.bipush 10, 2) := by decide +kernel
theorem dX10_behind_204 : decode cX10_behind 204 = .ok (.goto 4, 3) := by decide +kernel
theorem dX10_behind_207 : decode cX10_behind 207 = .ok (.iconst (-1), 1) := by decide +kernel
theorem dX10_behind_208 : decode cX10_behind 208 = .ok (.ireturn, 1) := by decide +kernel
theorem dX10_goHouse_0 : decode cX10_goHouse 0 = .ok (.aload_n 0, 1) := by decide +kernel
theorem dX10_goHouse_1 : decode cX10_goHouse 1 = .ok (.getfield 86, 3) := by decide +kernel
theorem dX10_goHouse_4 : decode cX10_goHouse 4 = .ok (.bipush 11, 2) := by decide +kernel
theorem dX10_goHouse_6 : decode cX10_goHouse 6 = .ok (.if_icmp .ne 25, 3) := by decide +kernel
theorem dX10_goHouse_9 : decode cX10_goHouse 9 = .ok (.aload_n 0, 1) := by decide +kernel
theorem dX10_goHouse_10 : decode cX10_goHouse 10 = .ok (.iconst 0, 1) := by decide +kernel
theorem dX10_goHouse_11 : decode cX10_goHouse 11 = .ok (.putfield 86, 3) := by decide +kernel
theorem dX10_goHouse_14 : decode cX10_goHouse 14 = .ok (.aload_n 0, 1) := by decide +kernel
theorem dX10_goHouse_15 : decode cX10_goHouse 15 = .ok (.iconst 0, 1) := by decide +kernel
theorem dX10_goHouse_16 : decode cX10_goHouse 16 = .ok (.putfield 93, 3) := by decide +kernel
theorem dX10_goHouse_19 : decode cX10_goHouse 19 = .ok (.iload_n 1, 1) := by decide +kernel
theorem dX10_goHouse_20 : decode cX10_goHouse 20 = .ok (.bipush 97, 2) := by decide +kernel
theorem dX10_goHouse_22 : decode cX10_goHouse 22 = .ok (.if_icmp .ne 7, 3) := by decide +kernel
theorem dX10_goHouse_25 : decode cX10_goHouse 25 = .ok (.iconst 1, 1) := by decide +kernel
theorem dX10_goHouse_26 : decode cX10_goHouse 26 = .ok (.goto 4, 3) := by decide +kernel
theorem dX10_goHouse_29 : decode cX10_goHouse 29 = .ok (.iconst 0, 1) := by decide +kernel
theorem dX10_goHouse_30 : decode cX10_goHouse 30 = .ok (.ireturn, 1) := by decide +kernel
theorem dX10_goHouse_31 : decode cX10_goHouse 31 = .ok (.aload_n 0, 1) := by decide +kernel
theorem dX10_goHouse_32 : decode cX10_goHouse 32 = .ok (.getfield 86, 3) := by decide +kernel
theorem dX10_goHouse_35 : decode cX10_goHouse 35 = .ok (.bipush 10, 2) := by decide +kernel
theorem dX10_goHouse_37 : decode cX10_goHouse 37 = .ok (.if_icmp .ne 36, 3) := by decide +kernel
theorem dX10_goHouse_40 : decode cX10_goHouse 40 = .ok (.aload_n 0, 1) := by decide +kernel
theorem dX10_goHouse_41 : decode cX10_goHouse 41 = .ok (.bipush 7, 2) := by decide +kernel
theorem dX10_goHouse_43 : decode cX10_goHouse 43 = .ok (.putfield 86, 3) := by decide +kernel
theorem dX10_goHouse_46 : decode cX10_goHouse 46 = .ok (.aload_n 0, 1) := by decide +kernel
theorem dX10_goHouse_47 : decode cX10_goHouse 47 = .ok (.iconst 0, 1) := by decide +kernel
theorem dX10_goHouse_48 : decode cX10_goHouse 48 = .ok (.putfield 93, 3) := by decide +kernel
theorem dX10_goHouse_51 : decode cX10_goHouse 51 = .ok (.aload_n 0, 1) := by decide +kernel
theorem dX10_goHouse_52 : decode cX10_goHouse 52 = .ok (.dup, 1) := by decide +kernel
theorem dX10_goHouse_53 : decode cX10_goHouse 53 = .ok (.getfield 83, 3) := by decide +kernel
theorem dX10_goHouse_56 : decode cX10_goHouse 56 = .ok (.iconst 1, 1) := by decide +kernel
theorem dX10_goHouse_57 : decode cX10_goHouse 57 = .ok (.iadd, 1) := by decide +kernel
theorem dX10_goHouse_58 : decode cX10_goHouse 58 = .ok (.putfield 83, 3) := by decide +kernel
theorem dX10_goHouse_61 : decode cX10_goHouse 61 = .ok (.iload_n 1, 1) := by decide +kernel
theorem dX10_goHouse_62 : decode cX10_goHouse 62 = .ok (.bipush 117, 2) := by decide +kernel
theorem dX10_goHouse_64 : decode cX10_goHouse 64 = .ok (.if_icmp .ne 7, 3) := by decide +kernel
theorem dX10_goHouse_67 : decode cX10_goHouse 67 = .ok (.iconst 1, 1) := by decide +kernel
theorem dX10_goHouse_68 : decode cX10_goHouse 68 = .ok (.goto 4, 3) := by decide +kernel
theorem dX10_goHouse_71 : decode cX10_goHouse 71 = .ok (.iconst 0, 1) := by decide +kernel
theorem dX10_goHouse_72 : decode cX10_goHouse 72 = .ok (.ireturn, 1) := by decide +kernel
theorem dX10_goHouse_73 : decode cX10_goHouse 73 = .ok (.iload_n 1, 1) := by decide +kernel
theorem dX10_goHouse_74 : decode cX10_goHouse 74 = .ok (.i2l, 1) := by decide +kernel
theorem dX10_goHouse_75 : decode cX10_goHouse 75 = .ok (.ldc2_w 103, 3) := by decide +kernel
theorem dX10_goHouse_78 : decode cX10_goHouse 78 = .ok (.ldc2_w 105, 3) := by decide +kernel
theorem dX10_goHouse_81 : decode cX10_goHouse 81 = .ok (.invokestatic 107, 3) := by decide +kernel
theorem dX10_goHouse_84 : decode cX10_goHouse 84 = .ok (.ifCond .eq 9, 3) := by decide +kernel
theorem dX10_goHouse_87 : decode cX10_goHouse 87 = .ok (.aload_n 0, 1) := by decide +kernel
theorem dX10_goHouse_88 : decode cX10_goHouse 88 = .ok (.iload_n 1, 1) := by decide +kernel
theorem dX10_goHouse_89 : decode cX10_goHouse 89 = .ok (.invokevirtual 111, 3) := by decide +kernel
theorem dX10_goHouse_92 : decode cX10_goHouse 92 = .ok (.ireturn, 1) := by decide +kernel
theorem dX10_goHouse_93 : decode cX10_goHouse 93 = .ok (.aload_n 0, 1) := by decide +kernel
theorem dX10_goHouse_94 : decode cX10_goHouse 94 = .ok (.getfield 93, 3) := by decide +kernel
theorem dX10_goHouse_97 : decode cX10_goHouse 97 = .ok (.ifCond .eq 14, 3) := by decide +kernel
theorem dX10_goHouse_100 : decode cX10_goHouse 100 = .ok (.aload_n 0, 1) := by decide +kernel
theorem dX10_goHouse_101 : decode cX10_goHouse 101 = .ok (.getfield 86, 3) := by decide +kernel
theorem dX10_goHouse_104 : decode cX10_goHouse 104 = .ok (.iload_n 1, 1) := by decide +kernel
theorem dX10_goHouse_105 : decode cX10_goHouse 105 = .ok (.invokestatic 115, 3) := by decide +kernel
theorem dX10_goHouse_108 : decode cX10_goHouse 108 = .ok (.goto 4, 3) := by decide +kernel
theorem dX10_goHouse_111 : decode cX10_goHouse 111 = .ok (.iconst (-1), 1) := by decide +kernel
theorem dX10_goHouse_112 : decode cX10_goHouse 112 = .ok (.istore_n 2, 1) := by decide +kernel
theorem dX10_goHouse_113 : decode cX10_goHouse 113 = .ok (.aload_n 0, 1) := by decide +kernel
theorem dX10_goHouse_114 : decode cX10_goHouse 114 = .ok (.iload_n 2, 1) := by decide +kernel
theorem dX10_goHouse_115 : decode cX10_goHouse 115 = .ok (.putfield 86, 3) := by decide +kernel
theorem dX10_goHouse_118 : decode cX10_goHouse 118 = .ok (.aload_n 0, 1) := by decide +kernel
theorem dX10_goHouse_119 : decode cX10_goHouse 119 = .ok (.iconst 0, 1) := by decide +kernel
theorem dX10_goHouse_120 : decode cX10_goHouse 120 = .ok (.putfield 93, 3) := by decide +kernel
theorem dX10_goHouse_123 : decode cX10_goHouse 123 = .ok (.iload_n 2, 1) := by decide +kernel
theorem dX10_goHouse_124 : decode cX10_goHouse 124 = .ok (.iconst (-1), 1) := by decide +kernel
theorem dX10_goHouse_125 : decode cX10_goHouse 125 = .ok (.if_icmp .eq 21, 3) := by decide +kernel
theorem dX10_goHouse_128 : decode cX10_goHouse 128 = .ok (.iload_n 2, 1) := by decide +kernel
theorem dX10_goHouse_129 : decode cX10_goHouse 129 = .ok (.bipush 10, 2) := by decide +kernel
theorem dX10_goHouse_131 : decode cX10_goHouse 131 = .ok (.if_icmp .ne 11, 3) := by decide +kernel
theorem dX10_goHouse_134 : decode cX10_goHouse 134 = .ok (.aload_n 0, 1) := by decide +kernel
theorem dX10_goHouse_135 : decode cX10_goHouse 135 = .ok (.getfield 83, 3) := by decide +kernel
theorem dX10_goHouse_138 : decode cX10_goHouse 138 = .ok (.iconst 3, 1) := by decide +kernel
theorem dX10_goHouse_139 : decode cX10_goHouse 139 = .ok (.if_icmp .ge 7, 3) := by decide +kernel
theorem dX10_goHouse_142 : decode cX10_goHouse 142 = .ok (.iconst 1, 1) := by decide +kernel
theorem dX10_goHouse_143 : decode cX10_goHouse 143 = .ok (.goto 4, 3) := by decide +kernel
theorem dX10_goHouse_146 : decode cX10_goHouse 146 = .ok (.iconst 0, 1) := by decide +kernel
theorem dX10_goHouse_147 : decode cX10_goHouse 147 = .ok (.ireturn, 1) := by decide +kernel
theorem dX10_goYear_0 : decode cX10_goYear 0 = .ok (.iload_n 1, 1) := by decide +kernel
theorem dX10_goYear_1 : decode cX10_goYear 1 = .ok (.i2l, 1) := by decide +kernel
theorem dX10_goYear_2 : decode cX10_goYear 2 = .ok (.ldc2_w 103, 3) := by decide +kernel
theorem dX10_goYear_5 : decode cX10_goYear 5 = .ok (.ldc2_w 105, 3) := by decide +kernel
theorem dX10_goYear_8 : decode cX10_goYear 8 = .ok (.invokestatic 107, 3) := by decide +kernel
theorem dX10_goYear_11 : decode cX10_goYear 11 = .ok (.ifCond .eq 16, 3) := by decide +kernel
theorem dX10_goYear_14 : decode cX10_goYear 14 = .ok (.aload_n 0, 1) := by decide +kernel
theorem dX10_goYear_15 : decode cX10_goYear 15 = .ok (.getfield 119, 3) := by decide +kernel
theorem dX10_goYear_18 : decode cX10_goYear 18 = .ok (.bipush 12, 2) := by decide +kernel
theorem dX10_goYear_20 : decode cX10_goYear 20 = .ok (.if_icmp .ge 7, 3) := by decide +kernel
theorem dX10_goYear_23 : decode cX10_goYear 23 = .ok (.iconst 1, 1) := by decide +kernel
theorem dX10_goYear_24 : decode cX10_goYear 24 = .ok (.goto 4, 3) := by decide +kernel
theorem dX10_goYear_27 : decode cX10_goYear 27 = .ok (.iconst 0, 1) := by decide +kernel
theorem dX10_goYear_28 : decode cX10_goYear 28 = .ok (.istore_n 2, 1) := by decide +kernel
theorem dX10_goYear_29 : decode cX10_goYear 29 = .ok (.iload_n 2, 1) := by decide +kernel
theorem dX10_goYear_30 : decode cX10_goYear 30 = .ok (.ifCond .eq 26, 3) := by decide +kernel
theorem dX10_goYear_33 : decode cX10_goYear 33 = .ok (.aload_n 0, 1) := by decide +kernel
theorem dX10_goYear_34 : decode cX10_goYear 34 = .ok (.getfield 16, 3) := by decide +kernel
theorem dX10_goYear_37 : decode cX10_goYear 37 = .ok (.aload_n 0, 1) := by decide +kernel
theorem dX10_goYear_38 : decode cX10_goYear 38 = .ok (.getfield 119, 3) := by decide +kernel
theorem dX10_goYear_41 : decode cX10_goYear 41 = .ok (.iload_n 1, 1) := by decide +kernel
theorem dX10_goYear_42 : decode cX10_goYear 42 = .ok (.bipush 48, 2) := by decide +kernel
theorem dX10_goYear_44 : decode cX10_goYear 44 = .ok (.isub, 1) := by decide +kernel
theorem dX10_goYear_45 : decode cX10_goYear 45 = .ok (.iastore, 1) := by decide +kernel
theorem dX10_goYear_46 : decode cX10_goYear 46 = .ok (.aload_n 0, 1) := by decide +kernel
theorem dX10_goYear_47 : decode cX10_goYear 47 = .ok (.dup, 1) := by decide +kernel
theorem dX10_goYear_48 : decode cX10_goYear 48 = .ok (.getfield 119, 3) := by decide +kernel
theorem dX10_goYear_51 : decode cX10_goYear 51 = .ok (.iconst 1, 1) := by decide +kernel
theorem dX10_goYear_52 : decode cX10_goYear 52 = .ok (.iadd, 1) := by decide +kernel
theorem dX10_goYear_53 : decode cX10_goYear 53 = .ok (.putfield 119, 3) := by decide +kernel
theorem dX10_goYear_56 : decode cX10_goYear 56 = .ok (.iload_n 2, 1) := by decide +kernel
theorem dX10_goYear_57 : decode cX10_goYear 57 = .ok (.ireturn, 1) := by decide +kernel
theorem dX10_goTold_0 : decode cX10_goTold 0 = .ok (.iload_n 1, 1) := by decide +kernel
theorem dX10_goTold_1 : decode cX10_goTold 1 = .ok (.i2l, 1) := by decide +kernel
theorem dX10_goTold_2 : decode cX10_goTold 2 = .ok (.ldc2_w 103, 3) := by decide +kernel
theorem dX10_goTold_5 : decode cX10_goTold 5 = .ok (.ldc2_w 105, 3) := by decide +kernel
theorem dX10_goTold_8 : decode cX10_goTold 8 = .ok (.invokestatic 107, 3) := by decide +kernel
theorem dX10_goTold_11 : decode cX10_goTold 11 = .ok (.ifCond .eq 83, 3) := by decide +kernel
theorem dX10_goTold_14 : decode cX10_goTold 14 = .ok (.aload_n 0, 1) := by decide +kernel
theorem dX10_goTold_15 : decode cX10_goTold 15 = .ok (.getfield 93, 3) := by decide +kernel
theorem dX10_goTold_18 : decode cX10_goTold 18 = .ok (.ifCond .eq 23, 3) := by decide +kernel
theorem dX10_goTold_21 : decode cX10_goTold 21 = .ok (.aload_n 0, 1) := by decide +kernel
theorem dX10_goTold_22 : decode cX10_goTold 22 = .ok (.getfield 16, 3) := by decide +kernel
theorem dX10_goTold_25 : decode cX10_goTold 25 = .ok (.aload_n 0, 1) := by decide +kernel
theorem dX10_goTold_26 : decode cX10_goTold 26 = .ok (.getfield 119, 3) := by decide +kernel
theorem dX10_goTold_29 : decode cX10_goTold 29 = .ok (.iaload, 1) := by decide +kernel
theorem dX10_goTold_30 : decode cX10_goTold 30 = .ok (.i2l, 1) := by decide +kernel
theorem dX10_goTold_31 : decode cX10_goTold 31 = .ok (.lconst 1, 1) := by decide +kernel
theorem dX10_goTold_32 : decode cX10_goTold 32 = .ok (.ldc2_w 122, 3) := by decide +kernel
theorem dX10_goTold_35 : decode cX10_goTold 35 = .ok (.invokestatic 107, 3) := by decide +kernel
theorem dX10_goTold_38 : decode cX10_goTold 38 = .ok (.ifCond .eq 7, 3) := by decide +kernel
theorem dX10_goTold_41 : decode cX10_goTold 41 = .ok (.iconst 1, 1) := by decide +kernel
theorem dX10_goTold_42 : decode cX10_goTold 42 = .ok (.goto 4, 3) := by decide +kernel
theorem dX10_goTold_45 : decode cX10_goTold 45 = .ok (.iconst 0, 1) := by decide +kernel
theorem dX10_goTold_46 : decode cX10_goTold 46 = .ok (.istore_n 2, 1) := by decide +kernel
theorem dX10_goTold_47 : decode cX10_goTold 47 = .ok (.aload_n 0, 1) := by decide +kernel
theorem dX10_goTold_48 : decode cX10_goTold 48 = .ok (.getfield 16, 3) := by decide +kernel
theorem dX10_goTold_51 : decode cX10_goTold 51 = .ok (.aload_n 0, 1) := by decide +kernel
theorem dX10_goTold_52 : decode cX10_goTold 52 = .ok (.getfield 119, 3) := by decide +kernel
theorem dX10_goTold_55 : decode cX10_goTold 55 = .ok (.aload_n 0, 1) := by decide +kernel
theorem dX10_goTold_56 : decode cX10_goTold 56 = .ok (.getfield 93, 3) := by decide +kernel
theorem dX10_goTold_59 : decode cX10_goTold 59 = .ok (.ifCond .eq 23, 3) := by decide +kernel
theorem dX10_goTold_62 : decode cX10_goTold 62 = .ok (.bipush 10, 2) := by decide +kernel
theorem dX10_goTold_64 : decode cX10_goTold 64 = .ok (.aload_n 0, 1) := by decide +kernel
theorem dX10_goTold_65 : decode cX10_goTold 65 = .ok (.getfield 16, 3) := by decide +kernel
theorem dX10_goTold_68 : decode cX10_goTold 68 = .ok (.aload_n 0, 1) := by decide +kernel
theorem dX10_goTold_69 : decode cX10_goTold 69 = .ok (.getfield 119, 3) := by decide +kernel
theorem dX10_goTold_72 : decode cX10_goTold 72 = .ok (.iaload, 1) := by decide +kernel
theorem dX10_goTold_73 : decode cX10_goTold 73 = .ok (.imul, 1) := by decide +kernel
theorem dX10_goTold_74 : decode cX10_goTold 74 = .ok (.iload_n 1, 1) := by decide +kernel
theorem dX10_goTold_75 : decode cX10_goTold 75 = .ok (.iadd, 1) := by decide +kernel
theorem dX10_goTold_76 : decode cX10_goTold 76 = .ok (.bipush 48, 2) := by decide +kernel
theorem dX10_goTold_78 : decode cX10_goTold 78 = .ok (.isub, 1) := by decide +kernel
theorem dX10_goTold_79 : decode cX10_goTold 79 = .ok (.goto 7, 3) := by decide +kernel
theorem dX10_goTold_82 : decode cX10_goTold 82 = .ok (.iload_n 1, 1) := by decide +kernel
theorem dX10_goTold_83 : decode cX10_goTold 83 = .ok (.bipush 48, 2) := by decide +kernel
theorem dX10_goTold_85 : decode cX10_goTold 85 = .ok (.isub, 1) := by decide +kernel
theorem dX10_goTold_86 : decode cX10_goTold 86 = .ok (.iastore, 1) := by decide +kernel
theorem dX10_goTold_87 : decode cX10_goTold 87 = .ok (.aload_n 0, 1) := by decide +kernel
theorem dX10_goTold_88 : decode cX10_goTold 88 = .ok (.iconst 1, 1) := by decide +kernel
theorem dX10_goTold_89 : decode cX10_goTold 89 = .ok (.putfield 93, 3) := by decide +kernel
theorem dX10_goTold_92 : decode cX10_goTold 92 = .ok (.iload_n 2, 1) := by decide +kernel
theorem dX10_goTold_93 : decode cX10_goTold 93 = .ok (.ireturn, 1) := by decide +kernel
theorem dX10_goTold_94 : decode cX10_goTold 94 = .ok (.iload_n 1, 1) := by decide +kernel
theorem dX10_goTold_95 : decode cX10_goTold 95 = .ok (.bipush 44, 2) := by decide +kernel
theorem dX10_goTold_97 : decode cX10_goTold 97 = .ok (.if_icmp .ne 23, 3) := by decide +kernel
theorem dX10_goTold_100 : decode cX10_goTold 100 = .ok (.aload_n 0, 1) := by decide +kernel
theorem dX10_goTold_101 : decode cX10_goTold 101 = .ok (.getfield 93, 3) := by decide +kernel
theorem dX10_goTold_104 : decode cX10_goTold 104 = .ok (.ifCond .eq 16, 3) := by decide +kernel
theorem dX10_goTold_107 : decode cX10_goTold 107 = .ok (.aload_n 0, 1) := by decide +kernel
theorem dX10_goTold_108 : decode cX10_goTold 108 = .ok (.getfield 119, 3) := by decide +kernel
theorem dX10_goTold_111 : decode cX10_goTold 111 = .ok (.bipush 11, 2) := by decide +kernel
theorem dX10_goTold_113 : decode cX10_goTold 113 = .ok (.if_icmp .ge 7, 3) := by decide +kernel
theorem dX10_goTold_116 : decode cX10_goTold 116 = .ok (.iconst 1, 1) := by decide +kernel
theorem dX10_goTold_117 : decode cX10_goTold 117 = .ok (.goto 4, 3) := by decide +kernel
theorem dX10_goTold_120 : decode cX10_goTold 120 = .ok (.iconst 0, 1) := by decide +kernel
theorem dX10_goTold_121 : decode cX10_goTold 121 = .ok (.istore_n 2, 1) := by decide +kernel
theorem dX10_goTold_122 : decode cX10_goTold 122 = .ok (.aload_n 0, 1) := by decide +kernel
theorem dX10_goTold_123 : decode cX10_goTold 123 = .ok (.dup, 1) := by decide +kernel
theorem dX10_goTold_124 : decode cX10_goTold 124 = .ok (.getfield 119, 3) := by decide +kernel
theorem dX10_goTold_127 : decode cX10_goTold 127 = .ok (.iload_n 2, 1) := by decide +kernel
theorem dX10_goTold_128 : decode cX10_goTold 128 = .ok (.ifCond .eq 7, 3) := by decide +kernel
theorem dX10_goTold_131 : decode cX10_goTold 131 = .ok (.iconst 1, 1) := by decide +kernel
theorem dX10_goTold_132 : decode cX10_goTold 132 = .ok (.goto 4, 3) := by decide +kernel
theorem dX10_goTold_135 : decode cX10_goTold 135 = .ok (.iconst 0, 1) := by decide +kernel
theorem dX10_goTold_136 : decode cX10_goTold 136 = .ok (.iadd, 1) := by decide +kernel
theorem dX10_goTold_137 : decode cX10_goTold 137 = .ok (.putfield 119, 3) := by decide +kernel
theorem dX10_goTold_140 : decode cX10_goTold 140 = .ok (.aload_n 0, 1) := by decide +kernel
theorem dX10_goTold_141 : decode cX10_goTold 141 = .ok (.iconst 0, 1) := by decide +kernel
theorem dX10_goTold_142 : decode cX10_goTold 142 = .ok (.putfield 93, 3) := by decide +kernel
theorem dX10_goTold_145 : decode cX10_goTold 145 = .ok (.iload_n 2, 1) := by decide +kernel
theorem dX10_goTold_146 : decode cX10_goTold 146 = .ok (.ireturn, 1) := by decide +kernel
theorem dX10_faultOf_0 : decode cX10_faultOf 0 = .ok (.iconst 0, 1) := by decide +kernel
theorem dX10_faultOf_1 : decode cX10_faultOf 1 = .ok (.istore_n 2, 1) := by decide +kernel
theorem dX10_faultOf_2 : decode cX10_faultOf 2 = .ok (.iload_n 2, 1) := by decide +kernel
theorem dX10_faultOf_3 : decode cX10_faultOf 3 = .ok (.bipush 16, 2) := by decide +kernel
theorem dX10_faultOf_5 : decode cX10_faultOf 5 = .ok (.if_icmp .ge 16, 3) := by decide +kernel
theorem dX10_faultOf_8 : decode cX10_faultOf 8 = .ok (.aload_n 0, 1) := by decide +kernel
theorem dX10_faultOf_9 : decode cX10_faultOf 9 = .ok (.getfield 13, 3) := by decide +kernel
theorem dX10_faultOf_12 : decode cX10_faultOf 12 = .ok (.iload_n 2, 1) := by decide +kernel
theorem dX10_faultOf_13 : decode cX10_faultOf 13 = .ok (.iconst 0, 1) := by decide +kernel
theorem dX10_faultOf_14 : decode cX10_faultOf 14 = .ok (.iastore, 1) := by decide +kernel
theorem dX10_faultOf_15 : decode cX10_faultOf 15 = .ok (.iinc 2 1, 3) := by decide +kernel
theorem dX10_faultOf_18 : decode cX10_faultOf 18 = .ok (.goto (-16), 3) := by decide +kernel
theorem dX10_faultOf_21 : decode cX10_faultOf 21 = .ok (.aload_n 0, 1) := by decide +kernel
theorem dX10_faultOf_22 : decode cX10_faultOf 22 = .ok (.iconst 0, 1) := by decide +kernel
theorem dX10_faultOf_23 : decode cX10_faultOf 23 = .ok (.putfield 83, 3) := by decide +kernel
theorem dX10_faultOf_26 : decode cX10_faultOf 26 = .ok (.aload_n 0, 1) := by decide +kernel
theorem dX10_faultOf_27 : decode cX10_faultOf 27 = .ok (.iconst 0, 1) := by decide +kernel
theorem dX10_faultOf_28 : decode cX10_faultOf 28 = .ok (.putfield 119, 3) := by decide +kernel
theorem dX10_faultOf_31 : decode cX10_faultOf 31 = .ok (.aload_n 0, 1) := by decide +kernel
theorem dX10_faultOf_32 : decode cX10_faultOf 32 = .ok (.bipush 11, 2) := by decide +kernel
theorem dX10_faultOf_34 : decode cX10_faultOf 34 = .ok (.putfield 86, 3) := by decide +kernel
theorem dX10_faultOf_37 : decode cX10_faultOf 37 = .ok (.aload_n 0, 1) := by decide +kernel
theorem dX10_faultOf_38 : decode cX10_faultOf 38 = .ok (.iconst 0, 1) := by decide +kernel
theorem dX10_faultOf_39 : decode cX10_faultOf 39 = .ok (.putfield 93, 3) := by decide +kernel
theorem dX10_faultOf_42 : decode cX10_faultOf 42 = .ok (.iconst 0, 1) := by decide +kernel
theorem dX10_faultOf_43 : decode cX10_faultOf 43 = .ok (.istore_n 2, 1) := by decide +kernel
theorem dX10_faultOf_44 : decode cX10_faultOf 44 = .ok (.iload_n 2, 1) := by decide +kernel
theorem dX10_faultOf_45 : decode cX10_faultOf 45 = .ok (.aload_n 0, 1) := by decide +kernel
theorem dX10_faultOf_46 : decode cX10_faultOf 46 = .ok (.getfield 80, 3) := by decide +kernel
theorem dX10_faultOf_49 : decode cX10_faultOf 49 = .ok (.if_icmp .ge 63, 3) := by decide +kernel
theorem dX10_faultOf_52 : decode cX10_faultOf 52 = .ok (.iload_n 1, 1) := by decide +kernel
theorem dX10_faultOf_53 : decode cX10_faultOf 53 = .ok (.ifCond .ne 19, 3) := by decide +kernel
theorem dX10_faultOf_56 : decode cX10_faultOf 56 = .ok (.aload_n 0, 1) := by decide +kernel
theorem dX10_faultOf_57 : decode cX10_faultOf 57 = .ok (.aload_n 0, 1) := by decide +kernel
theorem dX10_faultOf_58 : decode cX10_faultOf 58 = .ok (.getfield 7, 3) := by decide +kernel
theorem dX10_faultOf_61 : decode cX10_faultOf 61 = .ok (.iload_n 2, 1) := by decide +kernel
theorem dX10_faultOf_62 : decode cX10_faultOf 62 = .ok (.iaload, 1) := by decide +kernel
theorem dX10_faultOf_63 : decode cX10_faultOf 63 = .ok (.invokevirtual 124, 3) := by decide +kernel
theorem dX10_faultOf_66 : decode cX10_faultOf 66 = .ok (.ifCond .eq 46, 3) := by decide +kernel
theorem dX10_faultOf_69 : decode cX10_faultOf 69 = .ok (.goto 37, 3) := by decide +kernel
theorem dX10_faultOf_72 : decode cX10_faultOf 72 = .ok (.iload_n 1, 1) := by decide +kernel
theorem dX10_faultOf_73 : decode cX10_faultOf 73 = .ok (.iconst 1, 1) := by decide +kernel
theorem dX10_faultOf_74 : decode cX10_faultOf 74 = .ok (.if_icmp .ne 19, 3) := by decide +kernel
theorem dX10_faultOf_77 : decode cX10_faultOf 77 = .ok (.aload_n 0, 1) := by decide +kernel
theorem dX10_faultOf_78 : decode cX10_faultOf 78 = .ok (.aload_n 0, 1) := by decide +kernel
theorem dX10_faultOf_79 : decode cX10_faultOf 79 = .ok (.getfield 7, 3) := by decide +kernel
theorem dX10_faultOf_82 : decode cX10_faultOf 82 = .ok (.iload_n 2, 1) := by decide +kernel
theorem dX10_faultOf_83 : decode cX10_faultOf 83 = .ok (.iaload, 1) := by decide +kernel
theorem dX10_faultOf_84 : decode cX10_faultOf 84 = .ok (.invokevirtual 127, 3) := by decide +kernel
theorem dX10_faultOf_87 : decode cX10_faultOf 87 = .ok (.ifCond .eq 25, 3) := by decide +kernel
theorem dX10_faultOf_90 : decode cX10_faultOf 90 = .ok (.goto 16, 3) := by decide +kernel
theorem dX10_faultOf_93 : decode cX10_faultOf 93 = .ok (.aload_n 0, 1) := by decide +kernel
theorem dX10_faultOf_94 : decode cX10_faultOf 94 = .ok (.aload_n 0, 1) := by decide +kernel
theorem dX10_faultOf_95 : decode cX10_faultOf 95 = .ok (.getfield 7, 3) := by decide +kernel
theorem dX10_faultOf_98 : decode cX10_faultOf 98 = .ok (.iload_n 2, 1) := by decide +kernel
theorem dX10_faultOf_99 : decode cX10_faultOf 99 = .ok (.iaload, 1) := by decide +kernel
theorem dX10_faultOf_100 : decode cX10_faultOf 100 = .ok (.invokevirtual 130, 3) := by decide +kernel
theorem dX10_faultOf_103 : decode cX10_faultOf 103 = .ok (.ifCond .eq 9, 3) := by decide +kernel
theorem dX10_faultOf_106 : decode cX10_faultOf 106 = .ok (.iinc 2 1, 3) := by decide +kernel
theorem dX10_faultOf_109 : decode cX10_faultOf 109 = .ok (.goto (-65), 3) := by decide +kernel
theorem dX10_faultOf_112 : decode cX10_faultOf 112 = .ok (.iload_n 2, 1) := by decide +kernel
theorem dX10_faultOf_113 : decode cX10_faultOf 113 = .ok (.ireturn, 1) := by decide +kernel
theorem dX10_fault_0 : decode cX10_fault 0 = .ok (.iload_n 1, 1) := by decide +kernel
theorem dX10_fault_1 : decode cX10_fault 1 = .ok (.i2l, 1) := by decide +kernel
theorem dX10_fault_2 : decode cX10_fault 2 = .ok (.lconst 0, 1) := by decide +kernel
theorem dX10_fault_3 : decode cX10_fault 3 = .ok (.ldc2_w 133, 3) := by decide +kernel
theorem dX10_fault_6 : decode cX10_fault 6 = .ok (.invokestatic 107, 3) := by decide +kernel
theorem dX10_fault_9 : decode cX10_fault 9 = .ok (.ifCond .eq 11, 3) := by decide +kernel
theorem dX10_fault_12 : decode cX10_fault 12 = .ok (.aload_n 0, 1) := by decide +kernel
theorem dX10_fault_13 : decode cX10_fault 13 = .ok (.iload_n 1, 1) := by decide +kernel
theorem dX10_fault_14 : decode cX10_fault 14 = .ok (.invokevirtual 135, 3) := by decide +kernel
theorem dX10_fault_17 : decode cX10_fault 17 = .ok (.goto 5, 3) := by decide +kernel
theorem dX10_fault_20 : decode cX10_fault 20 = .ok (.bipush (-102), 2) := by decide +kernel
theorem dX10_fault_22 : decode cX10_fault 22 = .ok (.ireturn, 1) := by decide +kernel
theorem dX10_house_0 : decode cX10_house 0 = .ok (.aload_n 0, 1) := by decide +kernel
theorem dX10_house_1 : decode cX10_house 1 = .ok (.iconst 0, 1) := by decide +kernel
theorem dX10_house_2 : decode cX10_house 2 = .ok (.invokevirtual 135, 3) := by decide +kernel
theorem dX10_house_5 : decode cX10_house 5 = .ok (.aload_n 0, 1) := by decide +kernel
theorem dX10_house_6 : decode cX10_house 6 = .ok (.getfield 80, 3) := by decide +kernel
theorem dX10_house_9 : decode cX10_house 9 = .ok (.if_icmp .lt 19, 3) := by decide +kernel
theorem dX10_house_12 : decode cX10_house 12 = .ok (.aload_n 0, 1) := by decide +kernel
theorem dX10_house_13 : decode cX10_house 13 = .ok (.getfield 86, 3) := by decide +kernel
theorem dX10_house_16 : decode cX10_house 16 = .ok (.bipush 9, 2) := by decide +kernel
theorem dX10_house_18 : decode cX10_house 18 = .ok (.if_icmp .ne 10, 3) := by decide +kernel
theorem dX10_house_21 : decode cX10_house 21 = .ok (.aload_n 0, 1) := by decide +kernel
theorem dX10_house_22 : decode cX10_house 22 = .ok (.getfield 93, 3) := by decide +kernel
theorem dX10_house_25 : decode cX10_house 25 = .ok (.ifCond .ne 6, 3) := by decide +kernel
theorem dX10_house_28 : decode cX10_house 28 = .ok (.bipush (-103), 2) := by decide +kernel
theorem dX10_house_30 : decode cX10_house 30 = .ok (.ireturn, 1) := by decide +kernel
theorem dX10_house_31 : decode cX10_house 31 = .ok (.iconst 0, 1) := by decide +kernel
theorem dX10_house_32 : decode cX10_house 32 = .ok (.istore_n 1, 1) := by decide +kernel
theorem dX10_house_33 : decode cX10_house 33 = .ok (.iload_n 1, 1) := by decide +kernel
theorem dX10_house_34 : decode cX10_house 34 = .ok (.bipush 16, 2) := by decide +kernel
theorem dX10_house_36 : decode cX10_house 36 = .ok (.if_icmp .ge 21, 3) := by decide +kernel
theorem dX10_house_39 : decode cX10_house 39 = .ok (.aload_n 0, 1) := by decide +kernel
theorem dX10_house_40 : decode cX10_house 40 = .ok (.getfield 19, 3) := by decide +kernel
theorem dX10_house_43 : decode cX10_house 43 = .ok (.iload_n 1, 1) := by decide +kernel
theorem dX10_house_44 : decode cX10_house 44 = .ok (.aload_n 0, 1) := by decide +kernel
theorem dX10_house_45 : decode cX10_house 45 = .ok (.getfield 13, 3) := by decide +kernel
theorem dX10_house_48 : decode cX10_house 48 = .ok (.iload_n 1, 1) := by decide +kernel
theorem dX10_house_49 : decode cX10_house 49 = .ok (.iaload, 1) := by decide +kernel
theorem dX10_house_50 : decode cX10_house 50 = .ok (.iastore, 1) := by decide +kernel
theorem dX10_house_51 : decode cX10_house 51 = .ok (.iinc 1 1, 3) := by decide +kernel
theorem dX10_house_54 : decode cX10_house 54 = .ok (.goto (-21), 3) := by decide +kernel
theorem dX10_house_57 : decode cX10_house 57 = .ok (.aload_n 0, 1) := by decide +kernel
theorem dX10_house_58 : decode cX10_house 58 = .ok (.aload_n 0, 1) := by decide +kernel
theorem dX10_house_59 : decode cX10_house 59 = .ok (.getfield 83, 3) := by decide +kernel
theorem dX10_house_62 : decode cX10_house 62 = .ok (.putfield 138, 3) := by decide +kernel
theorem dX10_house_65 : decode cX10_house 65 = .ok (.aload_n 0, 1) := by decide +kernel
theorem dX10_house_66 : decode cX10_house 66 = .ok (.dup, 1) := by decide +kernel
theorem dX10_house_67 : decode cX10_house 67 = .ok (.getfield 141, 3) := by decide +kernel
theorem dX10_house_70 : decode cX10_house 70 = .ok (.iconst 1, 1) := by decide +kernel
theorem dX10_house_71 : decode cX10_house 71 = .ok (.iadd, 1) := by decide +kernel
theorem dX10_house_72 : decode cX10_house 72 = .ok (.putfield 141, 3) := by decide +kernel
theorem dX10_house_75 : decode cX10_house 75 = .ok (.aload_n 0, 1) := by decide +kernel
theorem dX10_house_76 : decode cX10_house 76 = .ok (.iconst 0, 1) := by decide +kernel
theorem dX10_house_77 : decode cX10_house 77 = .ok (.putfield 80, 3) := by decide +kernel
theorem dX10_house_80 : decode cX10_house 80 = .ok (.aload_n 0, 1) := by decide +kernel
theorem dX10_house_81 : decode cX10_house 81 = .ok (.getfield 138, 3) := by decide +kernel
theorem dX10_house_84 : decode cX10_house 84 = .ok (.ireturn, 1) := by decide +kernel
theorem dX10_year_0 : decode cX10_year 0 = .ok (.aload_n 0, 1) := by decide +kernel
theorem dX10_year_1 : decode cX10_year 1 = .ok (.iconst 1, 1) := by decide +kernel
theorem dX10_year_2 : decode cX10_year 2 = .ok (.invokevirtual 135, 3) := by decide +kernel
theorem dX10_year_5 : decode cX10_year 5 = .ok (.aload_n 0, 1) := by decide +kernel
theorem dX10_year_6 : decode cX10_year 6 = .ok (.getfield 80, 3) := by decide +kernel
theorem dX10_year_9 : decode cX10_year 9 = .ok (.if_icmp .lt 12, 3) := by decide +kernel
theorem dX10_year_12 : decode cX10_year 12 = .ok (.aload_n 0, 1) := by decide +kernel
theorem dX10_year_13 : decode cX10_year 13 = .ok (.getfield 119, 3) := by decide +kernel
theorem dX10_year_16 : decode cX10_year 16 = .ok (.bipush 12, 2) := by decide +kernel
theorem dX10_year_18 : decode cX10_year 18 = .ok (.if_icmp .eq 6, 3) := by decide +kernel
theorem dX10_year_21 : decode cX10_year 21 = .ok (.bipush (-103), 2) := by decide +kernel
theorem dX10_year_23 : decode cX10_year 23 = .ok (.ireturn, 1) := by decide +kernel
theorem dX10_year_24 : decode cX10_year 24 = .ok (.aload_n 0, 1) := by decide +kernel
theorem dX10_year_25 : decode cX10_year 25 = .ok (.getfield 144, 3) := by decide +kernel
theorem dX10_year_28 : decode cX10_year 28 = .ok (.bipush 8, 2) := by decide +kernel
theorem dX10_year_30 : decode cX10_year 30 = .ok (.if_icmp .ne 6, 3) := by decide +kernel
theorem dX10_year_33 : decode cX10_year 33 = .ok (.bipush (-104), 2) := by decide +kernel
theorem dX10_year_35 : decode cX10_year 35 = .ok (.ireturn, 1) := by decide +kernel
theorem dX10_year_36 : decode cX10_year 36 = .ok (.iconst 0, 1) := by decide +kernel
theorem dX10_year_37 : decode cX10_year 37 = .ok (.istore_n 1, 1) := by decide +kernel
theorem dX10_year_38 : decode cX10_year 38 = .ok (.iload_n 1, 1) := by decide +kernel
theorem dX10_year_39 : decode cX10_year 39 = .ok (.bipush 12, 2) := by decide +kernel
theorem dX10_year_41 : decode cX10_year 41 = .ok (.if_icmp .ge 29, 3) := by decide +kernel
theorem dX10_year_44 : decode cX10_year 44 = .ok (.aload_n 0, 1) := by decide +kernel
theorem dX10_year_45 : decode cX10_year 45 = .ok (.getfield 22, 3) := by decide +kernel
theorem dX10_year_48 : decode cX10_year 48 = .ok (.bipush 12, 2) := by decide +kernel
theorem dX10_year_50 : decode cX10_year 50 = .ok (.aload_n 0, 1) := by decide +kernel
theorem dX10_year_51 : decode cX10_year 51 = .ok (.getfield 144, 3) := by decide +kernel
theorem dX10_year_54 : decode cX10_year 54 = .ok (.imul, 1) := by decide +kernel
theorem dX10_year_55 : decode cX10_year 55 = .ok (.iload_n 1, 1) := by decide +kernel
theorem dX10_year_56 : decode cX10_year 56 = .ok (.iadd, 1) := by decide +kernel
theorem dX10_year_57 : decode cX10_year 57 = .ok (.aload_n 0, 1) := by decide +kernel
theorem dX10_year_58 : decode cX10_year 58 = .ok (.getfield 16, 3) := by decide +kernel
theorem dX10_year_61 : decode cX10_year 61 = .ok (.iload_n 1, 1) := by decide +kernel
theorem dX10_year_62 : decode cX10_year 62 = .ok (.iaload, 1) := by decide +kernel
theorem dX10_year_63 : decode cX10_year 63 = .ok (.iastore, 1) := by decide +kernel
theorem dX10_year_64 : decode cX10_year 64 = .ok (.iinc 1 1, 3) := by decide +kernel
theorem dX10_year_67 : decode cX10_year 67 = .ok (.goto (-29), 3) := by decide +kernel
theorem dX10_year_70 : decode cX10_year 70 = .ok (.aload_n 0, 1) := by decide +kernel
theorem dX10_year_71 : decode cX10_year 71 = .ok (.dup, 1) := by decide +kernel
theorem dX10_year_72 : decode cX10_year 72 = .ok (.getfield 144, 3) := by decide +kernel
theorem dX10_year_75 : decode cX10_year 75 = .ok (.iconst 1, 1) := by decide +kernel
theorem dX10_year_76 : decode cX10_year 76 = .ok (.iadd, 1) := by decide +kernel
theorem dX10_year_77 : decode cX10_year 77 = .ok (.putfield 144, 3) := by decide +kernel
theorem dX10_year_80 : decode cX10_year 80 = .ok (.aload_n 0, 1) := by decide +kernel
theorem dX10_year_81 : decode cX10_year 81 = .ok (.iconst 0, 1) := by decide +kernel
theorem dX10_year_82 : decode cX10_year 82 = .ok (.putfield 80, 3) := by decide +kernel
theorem dX10_year_85 : decode cX10_year 85 = .ok (.aload_n 0, 1) := by decide +kernel
theorem dX10_year_86 : decode cX10_year 86 = .ok (.getfield 144, 3) := by decide +kernel
theorem dX10_year_89 : decode cX10_year 89 = .ok (.iconst 1, 1) := by decide +kernel
theorem dX10_year_90 : decode cX10_year 90 = .ok (.isub, 1) := by decide +kernel
theorem dX10_year_91 : decode cX10_year 91 = .ok (.ireturn, 1) := by decide +kernel
theorem dX10_tell_0 : decode cX10_tell 0 = .ok (.aload_n 0, 1) := by decide +kernel
theorem dX10_tell_1 : decode cX10_tell 1 = .ok (.iconst 2, 1) := by decide +kernel
theorem dX10_tell_2 : decode cX10_tell 2 = .ok (.invokevirtual 135, 3) := by decide +kernel
theorem dX10_tell_5 : decode cX10_tell 5 = .ok (.aload_n 0, 1) := by decide +kernel
theorem dX10_tell_6 : decode cX10_tell 6 = .ok (.getfield 80, 3) := by decide +kernel
theorem dX10_tell_9 : decode cX10_tell 9 = .ok (.if_icmp .lt 19, 3) := by decide +kernel
theorem dX10_tell_12 : decode cX10_tell 12 = .ok (.aload_n 0, 1) := by decide +kernel
theorem dX10_tell_13 : decode cX10_tell 13 = .ok (.getfield 119, 3) := by decide +kernel
theorem dX10_tell_16 : decode cX10_tell 16 = .ok (.bipush 11, 2) := by decide +kernel
theorem dX10_tell_18 : decode cX10_tell 18 = .ok (.if_icmp .ne 10, 3) := by decide +kernel
theorem dX10_tell_21 : decode cX10_tell 21 = .ok (.aload_n 0, 1) := by decide +kernel
theorem dX10_tell_22 : decode cX10_tell 22 = .ok (.getfield 93, 3) := by decide +kernel
theorem dX10_tell_25 : decode cX10_tell 25 = .ok (.ifCond .ne 6, 3) := by decide +kernel
theorem dX10_tell_28 : decode cX10_tell 28 = .ok (.bipush (-103), 2) := by decide +kernel
theorem dX10_tell_30 : decode cX10_tell 30 = .ok (.ireturn, 1) := by decide +kernel
theorem dX10_tell_31 : decode cX10_tell 31 = .ok (.aload_n 0, 1) := by decide +kernel
theorem dX10_tell_32 : decode cX10_tell 32 = .ok (.getfield 147, 3) := by decide +kernel
theorem dX10_tell_35 : decode cX10_tell 35 = .ok (.bipush 8, 2) := by decide +kernel
theorem dX10_tell_37 : decode cX10_tell 37 = .ok (.if_icmp .ne 6, 3) := by decide +kernel
theorem dX10_tell_40 : decode cX10_tell 40 = .ok (.bipush (-104), 2) := by decide +kernel
theorem dX10_tell_42 : decode cX10_tell 42 = .ok (.ireturn, 1) := by decide +kernel
theorem dX10_tell_43 : decode cX10_tell 43 = .ok (.aload_n 0, 1) := by decide +kernel
theorem dX10_tell_44 : decode cX10_tell 44 = .ok (.getfield 25, 3) := by decide +kernel
theorem dX10_tell_47 : decode cX10_tell 47 = .ok (.aload_n 0, 1) := by decide +kernel
theorem dX10_tell_48 : decode cX10_tell 48 = .ok (.getfield 147, 3) := by decide +kernel
theorem dX10_tell_51 : decode cX10_tell 51 = .ok (.iconst 5, 1) := by decide +kernel
theorem dX10_tell_52 : decode cX10_tell 52 = .ok (.iastore, 1) := by decide +kernel
theorem dX10_tell_53 : decode cX10_tell 53 = .ok (.aload_n 0, 1) := by decide +kernel
theorem dX10_tell_54 : decode cX10_tell 54 = .ok (.getfield 28, 3) := by decide +kernel
theorem dX10_tell_57 : decode cX10_tell 57 = .ok (.aload_n 0, 1) := by decide +kernel
theorem dX10_tell_58 : decode cX10_tell 58 = .ok (.getfield 147, 3) := by decide +kernel
theorem dX10_tell_61 : decode cX10_tell 61 = .ok (.iconst 0, 1) := by decide +kernel
theorem dX10_tell_62 : decode cX10_tell 62 = .ok (.iastore, 1) := by decide +kernel
theorem dX10_tell_63 : decode cX10_tell 63 = .ok (.iconst 0, 1) := by decide +kernel
theorem dX10_tell_64 : decode cX10_tell 64 = .ok (.istore_n 1, 1) := by decide +kernel
theorem dX10_tell_65 : decode cX10_tell 65 = .ok (.iload_n 1, 1) := by decide +kernel
theorem dX10_tell_66 : decode cX10_tell 66 = .ok (.bipush 12, 2) := by decide +kernel
theorem dX10_tell_68 : decode cX10_tell 68 = .ok (.if_icmp .ge 29, 3) := by decide +kernel
theorem dX10_tell_71 : decode cX10_tell 71 = .ok (.aload_n 0, 1) := by decide +kernel
theorem dX10_tell_72 : decode cX10_tell 72 = .ok (.getfield 31, 3) := by decide +kernel
theorem dX10_tell_75 : decode cX10_tell 75 = .ok (.bipush 12, 2) := by decide +kernel
theorem dX10_tell_77 : decode cX10_tell 77 = .ok (.aload_n 0, 1) := by decide +kernel
theorem dX10_tell_78 : decode cX10_tell 78 = .ok (.getfield 147, 3) := by decide +kernel
theorem dX10_tell_81 : decode cX10_tell 81 = .ok (.imul, 1) := by decide +kernel
theorem dX10_tell_82 : decode cX10_tell 82 = .ok (.iload_n 1, 1) := by decide +kernel
theorem dX10_tell_83 : decode cX10_tell 83 = .ok (.iadd, 1) := by decide +kernel
theorem dX10_tell_84 : decode cX10_tell 84 = .ok (.aload_n 0, 1) := by decide +kernel
theorem dX10_tell_85 : decode cX10_tell 85 = .ok (.getfield 16, 3) := by decide +kernel
theorem dX10_tell_88 : decode cX10_tell 88 = .ok (.iload_n 1, 1) := by decide +kernel
theorem dX10_tell_89 : decode cX10_tell 89 = .ok (.iaload, 1) := by decide +kernel
theorem dX10_tell_90 : decode cX10_tell 90 = .ok (.iastore, 1) := by decide +kernel
theorem dX10_tell_91 : decode cX10_tell 91 = .ok (.iinc 1 1, 3) := by decide +kernel
theorem dX10_tell_94 : decode cX10_tell 94 = .ok (.goto (-29), 3) := by decide +kernel
theorem dX10_tell_97 : decode cX10_tell 97 = .ok (.aload_n 0, 1) := by decide +kernel
theorem dX10_tell_98 : decode cX10_tell 98 = .ok (.dup, 1) := by decide +kernel
theorem dX10_tell_99 : decode cX10_tell 99 = .ok (.getfield 147, 3) := by decide +kernel
theorem dX10_tell_102 : decode cX10_tell 102 = .ok (.iconst 1, 1) := by decide +kernel
theorem dX10_tell_103 : decode cX10_tell 103 = .ok (.iadd, 1) := by decide +kernel
theorem dX10_tell_104 : decode cX10_tell 104 = .ok (.putfield 147, 3) := by decide +kernel
theorem dX10_tell_107 : decode cX10_tell 107 = .ok (.aload_n 0, 1) := by decide +kernel
theorem dX10_tell_108 : decode cX10_tell 108 = .ok (.iconst 0, 1) := by decide +kernel
theorem dX10_tell_109 : decode cX10_tell 109 = .ok (.putfield 80, 3) := by decide +kernel
theorem dX10_tell_112 : decode cX10_tell 112 = .ok (.aload_n 0, 1) := by decide +kernel
theorem dX10_tell_113 : decode cX10_tell 113 = .ok (.getfield 147, 3) := by decide +kernel
theorem dX10_tell_116 : decode cX10_tell 116 = .ok (.iconst 1, 1) := by decide +kernel
theorem dX10_tell_117 : decode cX10_tell 117 = .ok (.isub, 1) := by decide +kernel
theorem dX10_tell_118 : decode cX10_tell 118 = .ok (.ireturn, 1) := by decide +kernel
theorem dX10_rule_0 : decode cX10_rule 0 = .ok (.iload_n 1, 1) := by decide +kernel
theorem dX10_rule_1 : decode cX10_rule 1 = .ok (.i2l, 1) := by decide +kernel
theorem dX10_rule_2 : decode cX10_rule 2 = .ok (.lconst 0, 1) := by decide +kernel
theorem dX10_rule_3 : decode cX10_rule 3 = .ok (.ldc2_w 150, 3) := by decide +kernel
theorem dX10_rule_6 : decode cX10_rule 6 = .ok (.invokestatic 107, 3) := by decide +kernel
theorem dX10_rule_9 : decode cX10_rule 9 = .ok (.ifCond .eq 29, 3) := by decide +kernel
theorem dX10_rule_12 : decode cX10_rule 12 = .ok (.iload_n 2, 1) := by decide +kernel
theorem dX10_rule_13 : decode cX10_rule 13 = .ok (.i2l, 1) := by decide +kernel
theorem dX10_rule_14 : decode cX10_rule 14 = .ok (.lconst 0, 1) := by decide +kernel
theorem dX10_rule_15 : decode cX10_rule 15 = .ok (.iload_n 1, 1) := by decide +kernel
theorem dX10_rule_16 : decode cX10_rule 16 = .ok (.iconst 1, 1) := by decide +kernel
theorem dX10_rule_17 : decode cX10_rule 17 = .ok (.if_icmp .eq 8, 3) := by decide +kernel
theorem dX10_rule_20 : decode cX10_rule 20 = .ok (.iload_n 1, 1) := by decide +kernel
theorem dX10_rule_21 : decode cX10_rule 21 = .ok (.iconst 4, 1) := by decide +kernel
theorem dX10_rule_22 : decode cX10_rule 22 = .ok (.if_icmp .ne 9, 3) := by decide +kernel
theorem dX10_rule_25 : decode cX10_rule 25 = .ok (.ldc2_w 152, 3) := by decide +kernel
theorem dX10_rule_28 : decode cX10_rule 28 = .ok (.goto 4, 3) := by decide +kernel
theorem dX10_rule_31 : decode cX10_rule 31 = .ok (.lconst 0, 1) := by decide +kernel
theorem dX10_rule_32 : decode cX10_rule 32 = .ok (.invokestatic 107, 3) := by decide +kernel
theorem dX10_rule_35 : decode cX10_rule 35 = .ok (.ifCond .ne 6, 3) := by decide +kernel
theorem dX10_rule_38 : decode cX10_rule 38 = .ok (.bipush (-102), 2) := by decide +kernel
theorem dX10_rule_40 : decode cX10_rule 40 = .ok (.ireturn, 1) := by decide +kernel
theorem dX10_rule_41 : decode cX10_rule 41 = .ok (.aload_n 0, 1) := by decide +kernel
theorem dX10_rule_42 : decode cX10_rule 42 = .ok (.getfield 147, 3) := by decide +kernel
theorem dX10_rule_45 : decode cX10_rule 45 = .ok (.bipush 8, 2) := by decide +kernel
theorem dX10_rule_47 : decode cX10_rule 47 = .ok (.if_icmp .ne 6, 3) := by decide +kernel
theorem dX10_rule_50 : decode cX10_rule 50 = .ok (.bipush (-104), 2) := by decide +kernel
theorem dX10_rule_52 : decode cX10_rule 52 = .ok (.ireturn, 1) := by decide +kernel
theorem dX10_rule_53 : decode cX10_rule 53 = .ok (.aload_n 0, 1) := by decide +kernel
theorem dX10_rule_54 : decode cX10_rule 54 = .ok (.getfield 25, 3) := by decide +kernel
theorem dX10_rule_57 : decode cX10_rule 57 = .ok (.aload_n 0, 1) := by decide +kernel
theorem dX10_rule_58 : decode cX10_rule 58 = .ok (.getfield 147, 3) := by decide +kernel
theorem dX10_rule_61 : decode cX10_rule 61 = .ok (.iload_n 1, 1) := by decide +kernel
theorem dX10_rule_62 : decode cX10_rule 62 = .ok (.iastore, 1) := by decide +kernel
theorem dX10_rule_63 : decode cX10_rule 63 = .ok (.aload_n 0, 1) := by decide +kernel
theorem dX10_rule_64 : decode cX10_rule 64 = .ok (.getfield 28, 3) := by decide +kernel
theorem dX10_rule_67 : decode cX10_rule 67 = .ok (.aload_n 0, 1) := by decide +kernel
theorem dX10_rule_68 : decode cX10_rule 68 = .ok (.getfield 147, 3) := by decide +kernel
theorem dX10_rule_71 : decode cX10_rule 71 = .ok (.iload_n 2, 1) := by decide +kernel
theorem dX10_rule_72 : decode cX10_rule 72 = .ok (.iastore, 1) := by decide +kernel
theorem dX10_rule_73 : decode cX10_rule 73 = .ok (.aload_n 0, 1) := by decide +kernel
theorem dX10_rule_74 : decode cX10_rule 74 = .ok (.dup, 1) := by decide +kernel
theorem dX10_rule_75 : decode cX10_rule 75 = .ok (.getfield 147, 3) := by decide +kernel
theorem dX10_rule_78 : decode cX10_rule 78 = .ok (.iconst 1, 1) := by decide +kernel
theorem dX10_rule_79 : decode cX10_rule 79 = .ok (.iadd, 1) := by decide +kernel
theorem dX10_rule_80 : decode cX10_rule 80 = .ok (.putfield 147, 3) := by decide +kernel
theorem dX10_rule_83 : decode cX10_rule 83 = .ok (.aload_n 0, 1) := by decide +kernel
theorem dX10_rule_84 : decode cX10_rule 84 = .ok (.getfield 147, 3) := by decide +kernel
theorem dX10_rule_87 : decode cX10_rule 87 = .ok (.iconst 1, 1) := by decide +kernel
theorem dX10_rule_88 : decode cX10_rule 88 = .ok (.isub, 1) := by decide +kernel
theorem dX10_rule_89 : decode cX10_rule 89 = .ok (.ireturn, 1) := by decide +kernel
theorem dX10_isRule_0 : decode cX10_isRule 0 = .ok (.iload_n 1, 1) := by decide +kernel
theorem dX10_isRule_1 : decode cX10_isRule 1 = .ok (.i2l, 1) := by decide +kernel
theorem dX10_isRule_2 : decode cX10_isRule 2 = .ok (.lconst 0, 1) := by decide +kernel
theorem dX10_isRule_3 : decode cX10_isRule 3 = .ok (.aload_n 0, 1) := by decide +kernel
theorem dX10_isRule_4 : decode cX10_isRule 4 = .ok (.getfield 147, 3) := by decide +kernel
theorem dX10_isRule_7 : decode cX10_isRule 7 = .ok (.iconst 1, 1) := by decide +kernel
theorem dX10_isRule_8 : decode cX10_isRule 8 = .ok (.isub, 1) := by decide +kernel
theorem dX10_isRule_9 : decode cX10_isRule 9 = .ok (.i2l, 1) := by decide +kernel
theorem dX10_isRule_10 : decode cX10_isRule 10 = .ok (.invokestatic 107, 3) := by decide +kernel
theorem dX10_isRule_13 : decode cX10_isRule 13 = .ok (.ireturn, 1) := by decide +kernel
theorem dX10_as_0 : decode cX10_as 0 = .ok (.aload_n 0, 1) := by decide +kernel
theorem dX10_as_1 : decode cX10_as 1 = .ok (.iload_n 1, 1) := by decide +kernel
theorem dX10_as_2 : decode cX10_as 2 = .ok (.invokevirtual 154, 3) := by decide +kernel
theorem dX10_as_5 : decode cX10_as 5 = .ok (.ifCond .ne 6, 3) := by decide +kernel
theorem dX10_as_8 : decode cX10_as 8 = .ok (.bipush (-101), 2) := by decide +kernel
theorem dX10_as_10 : decode cX10_as 10 = .ok (.ireturn, 1) := by decide +kernel
theorem dX10_as_11 : decode cX10_as 11 = .ok (.iload_n 2, 1) := by decide +kernel
theorem dX10_as_12 : decode cX10_as 12 = .ok (.i2l, 1) := by decide +kernel
theorem dX10_as_13 : decode cX10_as 13 = .ok (.lconst 0, 1) := by decide +kernel
theorem dX10_as_14 : decode cX10_as 14 = .ok (.ldc2_w 157, 3) := by decide +kernel
theorem dX10_as_17 : decode cX10_as 17 = .ok (.invokestatic 107, 3) := by decide +kernel
theorem dX10_as_20 : decode cX10_as 20 = .ok (.ifCond .ne 6, 3) := by decide +kernel
theorem dX10_as_23 : decode cX10_as 23 = .ok (.bipush (-102), 2) := by decide +kernel
theorem dX10_as_25 : decode cX10_as 25 = .ok (.ireturn, 1) := by decide +kernel
theorem dX10_as_26 : decode cX10_as 26 = .ok (.iload_n 2, 1) := by decide +kernel
theorem dX10_as_27 : decode cX10_as 27 = .ok (.ifCond .eq 28, 3) := by decide +kernel
theorem dX10_as_30 : decode cX10_as 30 = .ok (.iload_n 2, 1) := by decide +kernel
theorem dX10_as_31 : decode cX10_as 31 = .ok (.aload_n 0, 1) := by decide +kernel
theorem dX10_as_32 : decode cX10_as 32 = .ok (.getfield 25, 3) := by decide +kernel
theorem dX10_as_35 : decode cX10_as 35 = .ok (.iload_n 1, 1) := by decide +kernel
theorem dX10_as_36 : decode cX10_as 36 = .ok (.iaload, 1) := by decide +kernel
theorem dX10_as_37 : decode cX10_as 37 = .ok (.if_icmp .eq 18, 3) := by decide +kernel
theorem dX10_as_40 : decode cX10_as 40 = .ok (.iload_n 2, 1) := by decide +kernel
theorem dX10_as_41 : decode cX10_as 41 = .ok (.iconst 2, 1) := by decide +kernel
theorem dX10_as_42 : decode cX10_as 42 = .ok (.if_icmp .ne 17, 3) := by decide +kernel
theorem dX10_as_45 : decode cX10_as 45 = .ok (.aload_n 0, 1) := by decide +kernel
theorem dX10_as_46 : decode cX10_as 46 = .ok (.getfield 25, 3) := by decide +kernel
theorem dX10_as_49 : decode cX10_as 49 = .ok (.iload_n 1, 1) := by decide +kernel
theorem dX10_as_50 : decode cX10_as 50 = .ok (.iaload, 1) := by decide +kernel
theorem dX10_as_51 : decode cX10_as 51 = .ok (.iconst 2, 1) := by decide +kernel
theorem dX10_as_52 : decode cX10_as 52 = .ok (.if_icmp .le 7, 3) := by decide +kernel
theorem dX10_as_55 : decode cX10_as 55 = .ok (.iconst 1, 1) := by decide +kernel
theorem dX10_as_56 : decode cX10_as 56 = .ok (.goto 4, 3) := by decide +kernel
theorem dX10_as_59 : decode cX10_as 59 = .ok (.iconst 0, 1) := by decide +kernel
theorem dX10_as_60 : decode cX10_as 60 = .ok (.istore_n 3, 1) := by decide +kernel
theorem dX10_as_61 : decode cX10_as 61 = .ok (.iload_n 3, 1) := by decide +kernel
theorem dX10_as_62 : decode cX10_as 62 = .ok (.ifCond .eq 7, 3) := by decide +kernel
theorem dX10_as_65 : decode cX10_as 65 = .ok (.iload_n 1, 1) := by decide +kernel
theorem dX10_as_66 : decode cX10_as 66 = .ok (.goto 4, 3) := by decide +kernel
theorem dX10_as_69 : decode cX10_as 69 = .ok (.iconst (-1), 1) := by decide +kernel
theorem dX10_as_70 : decode cX10_as 70 = .ok (.ireturn, 1) := by decide +kernel
theorem dX10_want_0 : decode cX10_want 0 = .ok (.aload_n 0, 1) := by decide +kernel
theorem dX10_want_1 : decode cX10_want 1 = .ok (.getfield 19, 3) := by decide +kernel
theorem dX10_want_4 : decode cX10_want 4 = .ok (.bipush 7, 2) := by decide +kernel
theorem dX10_want_6 : decode cX10_want 6 = .ok (.iconst 3, 1) := by decide +kernel
theorem dX10_want_7 : decode cX10_want 7 = .ok (.iload_n 1, 1) := by decide +kernel
theorem dX10_want_8 : decode cX10_want 8 = .ok (.imul, 1) := by decide +kernel
theorem dX10_want_9 : decode cX10_want 9 = .ok (.iadd, 1) := by decide +kernel
theorem dX10_want_10 : decode cX10_want 10 = .ok (.iaload, 1) := by decide +kernel
theorem dX10_want_11 : decode cX10_want 11 = .ok (.iload_n 2, 1) := by decide +kernel
theorem dX10_want_12 : decode cX10_want 12 = .ok (.i2l, 1) := by decide +kernel
theorem dX10_want_13 : decode cX10_want 13 = .ok (.ldc2_w 157, 3) := by decide +kernel
theorem dX10_want_16 : decode cX10_want 16 = .ok (.ldc2_w 159, 3) := by decide +kernel
theorem dX10_want_19 : decode cX10_want 19 = .ok (.invokestatic 107, 3) := by decide +kernel
theorem dX10_want_22 : decode cX10_want 22 = .ok (.ifCond .eq 17, 3) := by decide +kernel
theorem dX10_want_25 : decode cX10_want 25 = .ok (.aload_n 0, 1) := by decide +kernel
theorem dX10_want_26 : decode cX10_want 26 = .ok (.getfield 19, 3) := by decide +kernel
theorem dX10_want_29 : decode cX10_want 29 = .ok (.bipush 8, 2) := by decide +kernel
theorem dX10_want_31 : decode cX10_want 31 = .ok (.iconst 3, 1) := by decide +kernel
theorem dX10_want_32 : decode cX10_want 32 = .ok (.iload_n 1, 1) := by decide +kernel
theorem dX10_want_33 : decode cX10_want 33 = .ok (.imul, 1) := by decide +kernel
theorem dX10_want_34 : decode cX10_want 34 = .ok (.iadd, 1) := by decide +kernel
theorem dX10_want_35 : decode cX10_want 35 = .ok (.iaload, 1) := by decide +kernel
theorem dX10_want_36 : decode cX10_want 36 = .ok (.goto 4, 3) := by decide +kernel
theorem dX10_want_39 : decode cX10_want 39 = .ok (.iconst 0, 1) := by decide +kernel
theorem dX10_want_40 : decode cX10_want 40 = .ok (.iadd, 1) := by decide +kernel
theorem dX10_want_41 : decode cX10_want 41 = .ok (.ireturn, 1) := by decide +kernel
theorem dX10_houseTold_0 : decode cX10_houseTold 0 = .ok (.aload_n 0, 1) := by decide +kernel
theorem dX10_houseTold_1 : decode cX10_houseTold 1 = .ok (.getfield 138, 3) := by decide +kernel
theorem dX10_houseTold_4 : decode cX10_houseTold 4 = .ok (.ifCond .ne 6, 3) := by decide +kernel
theorem dX10_houseTold_7 : decode cX10_houseTold 7 = .ok (.bipush (-103), 2) := by decide +kernel
theorem dX10_houseTold_9 : decode cX10_houseTold 9 = .ok (.ireturn, 1) := by decide +kernel
theorem dX10_houseTold_10 : decode cX10_houseTold 10 = .ok (.iload_n 1, 1) := by decide +kernel
theorem dX10_houseTold_11 : decode cX10_houseTold 11 = .ok (.i2l, 1) := by decide +kernel
theorem dX10_houseTold_12 : decode cX10_houseTold 12 = .ok (.lconst 0, 1) := by decide +kernel
theorem dX10_houseTold_13 : decode cX10_houseTold 13 = .ok (.ldc2_w 159, 3) := by decide +kernel
theorem dX10_houseTold_16 : decode cX10_houseTold 16 = .ok (.invokestatic 107, 3) := by decide +kernel
theorem dX10_houseTold_19 : decode cX10_houseTold 19 = .ok (.ifCond .eq 23, 3) := by decide +kernel
theorem dX10_houseTold_22 : decode cX10_houseTold 22 = .ok (.iload_n 1, 1) := by decide +kernel
theorem dX10_houseTold_23 : decode cX10_houseTold 23 = .ok (.bipush 7, 2) := by decide +kernel
theorem dX10_houseTold_25 : decode cX10_houseTold 25 = .ok (.if_icmp .ne 10, 3) := by decide +kernel
theorem dX10_houseTold_28 : decode cX10_houseTold 28 = .ok (.aload_n 0, 1) := by decide +kernel
theorem dX10_houseTold_29 : decode cX10_houseTold 29 = .ok (.getfield 138, 3) := by decide +kernel
theorem dX10_houseTold_32 : decode cX10_houseTold 32 = .ok (.goto 9, 3) := by decide +kernel
theorem dX10_houseTold_35 : decode cX10_houseTold 35 = .ok (.aload_n 0, 1) := by decide +kernel
theorem dX10_houseTold_36 : decode cX10_houseTold 36 = .ok (.getfield 19, 3) := by decide +kernel
theorem dX10_houseTold_39 : decode cX10_houseTold 39 = .ok (.iload_n 1, 1) := by decide +kernel
theorem dX10_houseTold_40 : decode cX10_houseTold 40 = .ok (.iaload, 1) := by decide +kernel
theorem dX10_houseTold_41 : decode cX10_houseTold 41 = .ok (.ireturn, 1) := by decide +kernel
theorem dX10_houseTold_42 : decode cX10_houseTold 42 = .ok (.iload_n 1, 1) := by decide +kernel
theorem dX10_houseTold_43 : decode cX10_houseTold 43 = .ok (.bipush 10, 2) := by decide +kernel
theorem dX10_houseTold_45 : decode cX10_houseTold 45 = .ok (.idiv, 1) := by decide +kernel
theorem dX10_houseTold_46 : decode cX10_houseTold 46 = .ok (.iconst 1, 1) := by decide +kernel
theorem dX10_houseTold_47 : decode cX10_houseTold 47 = .ok (.isub, 1) := by decide +kernel
theorem dX10_houseTold_48 : decode cX10_houseTold 48 = .ok (.istore_n 2, 1) := by decide +kernel
theorem dX10_houseTold_49 : decode cX10_houseTold 49 = .ok (.iload_n 1, 1) := by decide +kernel
theorem dX10_houseTold_50 : decode cX10_houseTold 50 = .ok (.bipush 10, 2) := by decide +kernel
theorem dX10_houseTold_52 : decode cX10_houseTold 52 = .ok (.irem, 1) := by decide +kernel
theorem dX10_houseTold_53 : decode cX10_houseTold 53 = .ok (.istore_n 3, 1) := by decide +kernel
theorem dX10_houseTold_54 : decode cX10_houseTold 54 = .ok (.iload_n 2, 1) := by decide +kernel
theorem dX10_houseTold_55 : decode cX10_houseTold 55 = .ok (.i2l, 1) := by decide +kernel
theorem dX10_houseTold_56 : decode cX10_houseTold 56 = .ok (.lconst 0, 1) := by decide +kernel
theorem dX10_houseTold_57 : decode cX10_houseTold 57 = .ok (.ldc2_w 133, 3) := by decide +kernel
theorem dX10_houseTold_60 : decode cX10_houseTold 60 = .ok (.invokestatic 107, 3) := by decide +kernel
theorem dX10_houseTold_63 : decode cX10_houseTold 63 = .ok (.ifCond .eq 15, 3) := by decide +kernel
theorem dX10_houseTold_66 : decode cX10_houseTold 66 = .ok (.iload_n 3, 1) := by decide +kernel
theorem dX10_houseTold_67 : decode cX10_houseTold 67 = .ok (.i2l, 1) := by decide +kernel
theorem dX10_houseTold_68 : decode cX10_houseTold 68 = .ok (.lconst 0, 1) := by decide +kernel
theorem dX10_houseTold_69 : decode cX10_houseTold 69 = .ok (.ldc2_w 133, 3) := by decide +kernel
theorem dX10_houseTold_72 : decode cX10_houseTold 72 = .ok (.invokestatic 107, 3) := by decide +kernel
theorem dX10_houseTold_75 : decode cX10_houseTold 75 = .ok (.ifCond .ne 6, 3) := by decide +kernel
theorem dX10_houseTold_78 : decode cX10_houseTold 78 = .ok (.bipush (-102), 2) := by decide +kernel
theorem dX10_houseTold_80 : decode cX10_houseTold 80 = .ok (.ireturn, 1) := by decide +kernel
theorem dX10_houseTold_81 : decode cX10_houseTold 81 = .ok (.iload_n 2, 1) := by decide +kernel
theorem dX10_houseTold_82 : decode cX10_houseTold 82 = .ok (.aload_n 0, 1) := by decide +kernel
theorem dX10_houseTold_83 : decode cX10_houseTold 83 = .ok (.getfield 138, 3) := by decide +kernel
theorem dX10_houseTold_86 : decode cX10_houseTold 86 = .ok (.if_icmp .ge 19, 3) := by decide +kernel
theorem dX10_houseTold_89 : decode cX10_houseTold 89 = .ok (.aload_n 0, 1) := by decide +kernel
theorem dX10_houseTold_90 : decode cX10_houseTold 90 = .ok (.getfield 19, 3) := by decide +kernel
theorem dX10_houseTold_93 : decode cX10_houseTold 93 = .ok (.bipush 7, 2) := by decide +kernel
theorem dX10_houseTold_95 : decode cX10_houseTold 95 = .ok (.iconst 3, 1) := by decide +kernel
theorem dX10_houseTold_96 : decode cX10_houseTold 96 = .ok (.iload_n 2, 1) := by decide +kernel
theorem dX10_houseTold_97 : decode cX10_houseTold 97 = .ok (.imul, 1) := by decide +kernel
theorem dX10_houseTold_98 : decode cX10_houseTold 98 = .ok (.iadd, 1) := by decide +kernel
theorem dX10_houseTold_99 : decode cX10_houseTold 99 = .ok (.iload_n 3, 1) := by decide +kernel
theorem dX10_houseTold_100 : decode cX10_houseTold 100 = .ok (.iadd, 1) := by decide +kernel
theorem dX10_houseTold_101 : decode cX10_houseTold 101 = .ok (.iaload, 1) := by decide +kernel
theorem dX10_houseTold_102 : decode cX10_houseTold 102 = .ok (.goto 4, 3) := by decide +kernel
theorem dX10_houseTold_105 : decode cX10_houseTold 105 = .ok (.iconst (-1), 1) := by decide +kernel
theorem dX10_houseTold_106 : decode cX10_houseTold 106 = .ok (.ireturn, 1) := by decide +kernel
theorem dX10_change_0 : decode cX10_change 0 = .ok (.aload_n 0, 1) := by decide +kernel
theorem dX10_change_1 : decode cX10_change 1 = .ok (.getfield 138, 3) := by decide +kernel
theorem dX10_change_4 : decode cX10_change 4 = .ok (.ifCond .ne 6, 3) := by decide +kernel
theorem dX10_change_7 : decode cX10_change 7 = .ok (.bipush (-103), 2) := by decide +kernel
theorem dX10_change_9 : decode cX10_change 9 = .ok (.ireturn, 1) := by decide +kernel
theorem dX10_change_10 : decode cX10_change 10 = .ok (.iload_n 1, 1) := by decide +kernel
theorem dX10_change_11 : decode cX10_change 11 = .ok (.i2l, 1) := by decide +kernel
theorem dX10_change_12 : decode cX10_change 12 = .ok (.lconst 0, 1) := by decide +kernel
theorem dX10_change_13 : decode cX10_change 13 = .ok (.ldc2_w 161, 3) := by decide +kernel
theorem dX10_change_16 : decode cX10_change 16 = .ok (.invokestatic 107, 3) := by decide +kernel
theorem dX10_change_19 : decode cX10_change 19 = .ok (.ifCond .eq 25, 3) := by decide +kernel
theorem dX10_change_22 : decode cX10_change 22 = .ok (.iload_n 2, 1) := by decide +kernel
theorem dX10_change_23 : decode cX10_change 23 = .ok (.i2l, 1) := by decide +kernel
theorem dX10_change_24 : decode cX10_change 24 = .ok (.iload_n 1, 1) := by decide +kernel
theorem dX10_change_25 : decode cX10_change 25 = .ok (.ifCond .ne 7, 3) := by decide +kernel
theorem dX10_change_28 : decode cX10_change 28 = .ok (.lconst 1, 1) := by decide +kernel
theorem dX10_change_29 : decode cX10_change 29 = .ok (.goto 4, 3) := by decide +kernel
theorem dX10_change_32 : decode cX10_change 32 = .ok (.lconst 0, 1) := by decide +kernel
theorem dX10_change_33 : decode cX10_change 33 = .ok (.iload_n 1, 1) := by decide +kernel
theorem dX10_change_34 : decode cX10_change 34 = .ok (.invokestatic 100, 3) := by decide +kernel
theorem dX10_change_37 : decode cX10_change 37 = .ok (.i2l, 1) := by decide +kernel
theorem dX10_change_38 : decode cX10_change 38 = .ok (.invokestatic 107, 3) := by decide +kernel
theorem dX10_change_41 : decode cX10_change 41 = .ok (.ifCond .ne 6, 3) := by decide +kernel
theorem dX10_change_44 : decode cX10_change 44 = .ok (.bipush (-102), 2) := by decide +kernel
theorem dX10_change_46 : decode cX10_change 46 = .ok (.ireturn, 1) := by decide +kernel
theorem dX10_change_47 : decode cX10_change 47 = .ok (.aload_n 0, 1) := by decide +kernel
theorem dX10_change_48 : decode cX10_change 48 = .ok (.getfield 19, 3) := by decide +kernel
theorem dX10_change_51 : decode cX10_change 51 = .ok (.iload_n 1, 1) := by decide +kernel
theorem dX10_change_52 : decode cX10_change 52 = .ok (.iaload, 1) := by decide +kernel
theorem dX10_change_53 : decode cX10_change 53 = .ok (.istore_n 3, 1) := by decide +kernel
theorem dX10_change_54 : decode cX10_change 54 = .ok (.aload_n 0, 1) := by decide +kernel
theorem dX10_change_55 : decode cX10_change 55 = .ok (.getfield 19, 3) := by decide +kernel
theorem dX10_change_58 : decode cX10_change 58 = .ok (.iload_n 1, 1) := by decide +kernel
theorem dX10_change_59 : decode cX10_change 59 = .ok (.iload_n 2, 1) := by decide +kernel
theorem dX10_change_60 : decode cX10_change 60 = .ok (.iastore, 1) := by decide +kernel
theorem dX10_change_61 : decode cX10_change 61 = .ok (.iload_n 3, 1) := by decide +kernel
theorem dX10_change_62 : decode cX10_change 62 = .ok (.ireturn, 1) := by decide +kernel
theorem dX10_rain_0 : decode cX10_rain 0 = .ok (.iload_n 1, 1) := by decide +kernel
theorem dX10_rain_1 : decode cX10_rain 1 = .ok (.i2l, 1) := by decide +kernel
theorem dX10_rain_2 : decode cX10_rain 2 = .ok (.lconst 0, 1) := by decide +kernel
theorem dX10_rain_3 : decode cX10_rain 3 = .ok (.aload_n 0, 1) := by decide +kernel
theorem dX10_rain_4 : decode cX10_rain 4 = .ok (.getfield 144, 3) := by decide +kernel
theorem dX10_rain_7 : decode cX10_rain 7 = .ok (.iconst 1, 1) := by decide +kernel
theorem dX10_rain_8 : decode cX10_rain 8 = .ok (.isub, 1) := by decide +kernel
theorem dX10_rain_9 : decode cX10_rain 9 = .ok (.i2l, 1) := by decide +kernel
theorem dX10_rain_10 : decode cX10_rain 10 = .ok (.invokestatic 107, 3) := by decide +kernel
theorem dX10_rain_13 : decode cX10_rain 13 = .ok (.ifCond .eq 29, 3) := by decide +kernel
theorem dX10_rain_16 : decode cX10_rain 16 = .ok (.iload_n 2, 1) := by decide +kernel
theorem dX10_rain_17 : decode cX10_rain 17 = .ok (.i2l, 1) := by decide +kernel
theorem dX10_rain_18 : decode cX10_rain 18 = .ok (.lconst 0, 1) := by decide +kernel
theorem dX10_rain_19 : decode cX10_rain 19 = .ok (.ldc2_w 163, 3) := by decide +kernel
theorem dX10_rain_22 : decode cX10_rain 22 = .ok (.invokestatic 107, 3) := by decide +kernel
theorem dX10_rain_25 : decode cX10_rain 25 = .ok (.ifCond .eq 17, 3) := by decide +kernel
theorem dX10_rain_28 : decode cX10_rain 28 = .ok (.aload_n 0, 1) := by decide +kernel
theorem dX10_rain_29 : decode cX10_rain 29 = .ok (.getfield 22, 3) := by decide +kernel
theorem dX10_rain_32 : decode cX10_rain 32 = .ok (.bipush 12, 2) := by decide +kernel
theorem dX10_rain_34 : decode cX10_rain 34 = .ok (.iload_n 1, 1) := by decide +kernel
theorem dX10_rain_35 : decode cX10_rain 35 = .ok (.imul, 1) := by decide +kernel
theorem dX10_rain_36 : decode cX10_rain 36 = .ok (.iload_n 2, 1) := by decide +kernel
theorem dX10_rain_37 : decode cX10_rain 37 = .ok (.iadd, 1) := by decide +kernel
theorem dX10_rain_38 : decode cX10_rain 38 = .ok (.iaload, 1) := by decide +kernel
theorem dX10_rain_39 : decode cX10_rain 39 = .ok (.goto 5, 3) := by decide +kernel
theorem dX10_rain_42 : decode cX10_rain 42 = .ok (.bipush (-101), 2) := by decide +kernel
theorem dX10_rain_44 : decode cX10_rain 44 = .ok (.ireturn, 1) := by decide +kernel
theorem dX10_begin_0 : decode cX10_begin 0 = .ok (.aload_n 0, 1) := by decide +kernel
theorem dX10_begin_1 : decode cX10_begin 1 = .ok (.getfield 19, 3) := by decide +kernel
theorem dX10_begin_4 : decode cX10_begin 4 = .ok (.iconst 0, 1) := by decide +kernel
theorem dX10_begin_5 : decode cX10_begin 5 = .ok (.iaload, 1) := by decide +kernel
theorem dX10_begin_6 : decode cX10_begin 6 = .ok (.iload_n 2, 1) := by decide +kernel
theorem dX10_begin_7 : decode cX10_begin 7 = .ok (.imul, 1) := by decide +kernel
theorem dX10_begin_8 : decode cX10_begin 8 = .ok (.aload_n 0, 1) := by decide +kernel
theorem dX10_begin_9 : decode cX10_begin 9 = .ok (.getfield 19, 3) := by decide +kernel
theorem dX10_begin_12 : decode cX10_begin 12 = .ok (.iconst 2, 1) := by decide +kernel
theorem dX10_begin_13 : decode cX10_begin 13 = .ok (.iaload, 1) := by decide +kernel
theorem dX10_begin_14 : decode cX10_begin 14 = .ok (.isub, 1) := by decide +kernel
theorem dX10_begin_15 : decode cX10_begin 15 = .ok (.iload_n 3, 1) := by decide +kernel
theorem dX10_begin_16 : decode cX10_begin 16 = .ok (.ifCond .eq 7, 3) := by decide +kernel
theorem dX10_begin_19 : decode cX10_begin 19 = .ok (.iconst 0, 1) := by decide +kernel
theorem dX10_begin_20 : decode cX10_begin 20 = .ok (.goto 9, 3) := by decide +kernel
theorem dX10_begin_23 : decode cX10_begin 23 = .ok (.aload_n 0, 1) := by decide +kernel
theorem dX10_begin_24 : decode cX10_begin 24 = .ok (.getfield 19, 3) := by decide +kernel
theorem dX10_begin_27 : decode cX10_begin 27 = .ok (.iconst 3, 1) := by decide +kernel
theorem dX10_begin_28 : decode cX10_begin 28 = .ok (.iaload, 1) := by decide +kernel
theorem dX10_begin_29 : decode cX10_begin 29 = .ok (.isub, 1) := by decide +kernel
theorem dX10_begin_30 : decode cX10_begin 30 = .ok (.istore 5, 2) := by decide +kernel
theorem dX10_begin_32 : decode cX10_begin 32 = .ok (.aload_n 0, 1) := by decide +kernel
theorem dX10_begin_33 : decode cX10_begin 33 = .ok (.iload_n 2, 1) := by decide +kernel
theorem dX10_begin_34 : decode cX10_begin 34 = .ok (.ifCond .eq 8, 3) := by decide +kernel
theorem dX10_begin_37 : decode cX10_begin 37 = .ok (.iload 5, 2) := by decide +kernel
theorem dX10_begin_39 : decode cX10_begin 39 = .ok (.ifCond .ge 7, 3) := by decide +kernel
theorem dX10_begin_42 : decode cX10_begin 42 = .ok (.iconst 0, 1) := by decide +kernel
theorem dX10_begin_43 : decode cX10_begin 43 = .ok (.goto 5, 3) := by decide +kernel
theorem dX10_begin_46 : decode cX10_begin 46 = .ok (.iload 5, 2) := by decide +kernel
theorem dX10_begin_48 : decode cX10_begin 48 = .ok (.putfield 165, 3) := by decide +kernel
theorem dX10_begin_51 : decode cX10_begin 51 = .ok (.aload_n 0, 1) := by decide +kernel
theorem dX10_begin_52 : decode cX10_begin 52 = .ok (.iload_n 1, 1) := by decide +kernel
theorem dX10_begin_53 : decode cX10_begin 53 = .ok (.aload_n 0, 1) := by decide +kernel
theorem dX10_begin_54 : decode cX10_begin 54 = .ok (.getfield 165, 3) := by decide +kernel
theorem dX10_begin_57 : decode cX10_begin 57 = .ok (.iadd, 1) := by decide +kernel
theorem dX10_begin_58 : decode cX10_begin 58 = .ok (.putfield 168, 3) := by decide +kernel
theorem dX10_begin_61 : decode cX10_begin 61 = .ok (.aload_n 0, 1) := by decide +kernel
theorem dX10_begin_62 : decode cX10_begin 62 = .ok (.aload_n 0, 1) := by decide +kernel
theorem dX10_begin_63 : decode cX10_begin 63 = .ok (.getfield 168, 3) := by decide +kernel
theorem dX10_begin_66 : decode cX10_begin 66 = .ok (.aload_n 0, 1) := by decide +kernel
theorem dX10_begin_67 : decode cX10_begin 67 = .ok (.getfield 19, 3) := by decide +kernel
theorem dX10_begin_70 : decode cX10_begin 70 = .ok (.iconst 1, 1) := by decide +kernel
theorem dX10_begin_71 : decode cX10_begin 71 = .ok (.iaload, 1) := by decide +kernel
theorem dX10_begin_72 : decode cX10_begin 72 = .ok (.if_icmp .le 17, 3) := by decide +kernel
theorem dX10_begin_75 : decode cX10_begin 75 = .ok (.aload_n 0, 1) := by decide +kernel
theorem dX10_begin_76 : decode cX10_begin 76 = .ok (.getfield 168, 3) := by decide +kernel
theorem dX10_begin_79 : decode cX10_begin 79 = .ok (.aload_n 0, 1) := by decide +kernel
theorem dX10_begin_80 : decode cX10_begin 80 = .ok (.getfield 19, 3) := by decide +kernel
theorem dX10_begin_83 : decode cX10_begin 83 = .ok (.iconst 1, 1) := by decide +kernel
theorem dX10_begin_84 : decode cX10_begin 84 = .ok (.iaload, 1) := by decide +kernel
theorem dX10_begin_85 : decode cX10_begin 85 = .ok (.isub, 1) := by decide +kernel
theorem dX10_begin_86 : decode cX10_begin 86 = .ok (.goto 4, 3) := by decide +kernel
theorem dX10_begin_89 : decode cX10_begin 89 = .ok (.iconst 0, 1) := by decide +kernel
theorem dX10_begin_90 : decode cX10_begin 90 = .ok (.putfield 171, 3) := by decide +kernel
theorem dX10_begin_93 : decode cX10_begin 93 = .ok (.aload_n 0, 1) := by decide +kernel
theorem dX10_begin_94 : decode cX10_begin 94 = .ok (.dup, 1) := by decide +kernel
theorem dX10_begin_95 : decode cX10_begin 95 = .ok (.getfield 168, 3) := by decide +kernel
theorem dX10_begin_98 : decode cX10_begin 98 = .ok (.aload_n 0, 1) := by decide +kernel
theorem dX10_begin_99 : decode cX10_begin 99 = .ok (.getfield 171, 3) := by decide +kernel
theorem dX10_begin_102 : decode cX10_begin 102 = .ok (.isub, 1) := by decide +kernel
theorem dX10_begin_103 : decode cX10_begin 103 = .ok (.putfield 168, 3) := by decide +kernel
theorem dX10_begin_106 : decode cX10_begin 106 = .ok (.aload_n 0, 1) := by decide +kernel
theorem dX10_begin_107 : decode cX10_begin 107 = .ok (.iload 4, 2) := by decide +kernel
theorem dX10_begin_109 : decode cX10_begin 109 = .ok (.aload_n 0, 1) := by decide +kernel
theorem dX10_begin_110 : decode cX10_begin 110 = .ok (.getfield 168, 3) := by decide +kernel
theorem dX10_begin_113 : decode cX10_begin 113 = .ok (.if_icmp .ge 8, 3) := by decide +kernel
theorem dX10_begin_116 : decode cX10_begin 116 = .ok (.iload 4, 2) := by decide +kernel
theorem dX10_begin_118 : decode cX10_begin 118 = .ok (.goto 7, 3) := by decide +kernel
theorem dX10_begin_121 : decode cX10_begin 121 = .ok (.aload_n 0, 1) := by decide +kernel
theorem dX10_begin_122 : decode cX10_begin 122 = .ok (.getfield 168, 3) := by decide +kernel
theorem dX10_begin_125 : decode cX10_begin 125 = .ok (.putfield 174, 3) := by decide +kernel
theorem dX10_begin_128 : decode cX10_begin 128 = .ok (.aload_n 0, 1) := by decide +kernel
theorem dX10_begin_129 : decode cX10_begin 129 = .ok (.dup, 1) := by decide +kernel
theorem dX10_begin_130 : decode cX10_begin 130 = .ok (.getfield 168, 3) := by decide +kernel
theorem dX10_begin_133 : decode cX10_begin 133 = .ok (.aload_n 0, 1) := by decide +kernel
theorem dX10_begin_134 : decode cX10_begin 134 = .ok (.getfield 174, 3) := by decide +kernel
theorem dX10_begin_137 : decode cX10_begin 137 = .ok (.isub, 1) := by decide +kernel
theorem dX10_begin_138 : decode cX10_begin 138 = .ok (.putfield 168, 3) := by decide +kernel
theorem dX10_begin_141 : decode cX10_begin 141 = .ok (.return_, 1) := by decide +kernel
theorem dX10_mostPumped_0 : decode cX10_mostPumped 0 = .ok (.iload_n 1, 1) := by decide +kernel
theorem dX10_mostPumped_1 : decode cX10_mostPumped 1 = .ok (.bipush 7, 2) := by decide +kernel
theorem dX10_mostPumped_3 : decode cX10_mostPumped 3 = .ok (.if_icmp .ne 7, 3) := by decide +kernel
theorem dX10_mostPumped_6 : decode cX10_mostPumped 6 = .ok (.iconst 0, 1) := by decide +kernel
theorem dX10_mostPumped_7 : decode cX10_mostPumped 7 = .ok (.goto 9, 3) := by decide +kernel
theorem dX10_mostPumped_10 : decode cX10_mostPumped 10 = .ok (.aload_n 0, 1) := by decide +kernel
theorem dX10_mostPumped_11 : decode cX10_mostPumped 11 = .ok (.getfield 19, 3) := by decide +kernel
theorem dX10_mostPumped_14 : decode cX10_mostPumped 14 = .ok (.iconst 5, 1) := by decide +kernel
theorem dX10_mostPumped_15 : decode cX10_mostPumped 15 = .ok (.iaload, 1) := by decide +kernel
theorem dX10_mostPumped_16 : decode cX10_mostPumped 16 = .ok (.istore_n 3, 1) := by decide +kernel
theorem dX10_mostPumped_17 : decode cX10_mostPumped 17 = .ok (.aload_n 0, 1) := by decide +kernel
theorem dX10_mostPumped_18 : decode cX10_mostPumped 18 = .ok (.getfield 19, 3) := by decide +kernel
theorem dX10_mostPumped_21 : decode cX10_mostPumped 21 = .ok (.iconst 1, 1) := by decide +kernel
theorem dX10_mostPumped_22 : decode cX10_mostPumped 22 = .ok (.iaload, 1) := by decide +kernel
theorem dX10_mostPumped_23 : decode cX10_mostPumped 23 = .ok (.iload_n 2, 1) := by decide +kernel
theorem dX10_mostPumped_24 : decode cX10_mostPumped 24 = .ok (.isub, 1) := by decide +kernel
theorem dX10_mostPumped_25 : decode cX10_mostPumped 25 = .ok (.iload_n 3, 1) := by decide +kernel
theorem dX10_mostPumped_26 : decode cX10_mostPumped 26 = .ok (.if_icmp .ge 14, 3) := by decide +kernel
theorem dX10_mostPumped_29 : decode cX10_mostPumped 29 = .ok (.aload_n 0, 1) := by decide +kernel
theorem dX10_mostPumped_30 : decode cX10_mostPumped 30 = .ok (.getfield 19, 3) := by decide +kernel
theorem dX10_mostPumped_33 : decode cX10_mostPumped 33 = .ok (.iconst 1, 1) := by decide +kernel
theorem dX10_mostPumped_34 : decode cX10_mostPumped 34 = .ok (.iaload, 1) := by decide +kernel
theorem dX10_mostPumped_35 : decode cX10_mostPumped 35 = .ok (.iload_n 2, 1) := by decide +kernel
theorem dX10_mostPumped_36 : decode cX10_mostPumped 36 = .ok (.isub, 1) := by decide +kernel
theorem dX10_mostPumped_37 : decode cX10_mostPumped 37 = .ok (.goto 4, 3) := by decide +kernel
theorem dX10_mostPumped_40 : decode cX10_mostPumped 40 = .ok (.iload_n 3, 1) := by decide +kernel
theorem dX10_mostPumped_41 : decode cX10_mostPumped 41 = .ok (.ireturn, 1) := by decide +kernel
theorem dX10_nextUse_0 : decode cX10_nextUse 0 = .ok (.iconst (-1), 1) := by decide +kernel
theorem dX10_nextUse_1 : decode cX10_nextUse 1 = .ok (.istore_n 3, 1) := by decide +kernel
theorem dX10_nextUse_2 : decode cX10_nextUse 2 = .ok (.iconst 0, 1) := by decide +kernel
theorem dX10_nextUse_3 : decode cX10_nextUse 3 = .ok (.istore 4, 2) := by decide +kernel
theorem dX10_nextUse_5 : decode cX10_nextUse 5 = .ok (.iload 4, 2) := by decide +kernel
theorem dX10_nextUse_7 : decode cX10_nextUse 7 = .ok (.aload_n 0, 1) := by decide +kernel
theorem dX10_nextUse_8 : decode cX10_nextUse 8 = .ok (.getfield 138, 3) := by decide +kernel
theorem dX10_nextUse_11 : decode cX10_nextUse 11 = .ok (.if_icmp .ge 72, 3) := by decide +kernel
theorem dX10_nextUse_14 : decode cX10_nextUse 14 = .ok (.iload_n 1, 1) := by decide +kernel
theorem dX10_nextUse_15 : decode cX10_nextUse 15 = .ok (.iload 4, 2) := by decide +kernel
theorem dX10_nextUse_17 : decode cX10_nextUse 17 = .ok (.ishr, 1) := by decide +kernel
theorem dX10_nextUse_18 : decode cX10_nextUse 18 = .ok (.iconst 1, 1) := by decide +kernel
theorem dX10_nextUse_19 : decode cX10_nextUse 19 = .ok (.iand, 1) := by decide +kernel
theorem dX10_nextUse_20 : decode cX10_nextUse 20 = .ok (.ifCond .ne 57, 3) := by decide +kernel
theorem dX10_nextUse_23 : decode cX10_nextUse 23 = .ok (.iload_n 3, 1) := by decide +kernel
theorem dX10_nextUse_24 : decode cX10_nextUse 24 = .ok (.iconst (-1), 1) := by decide +kernel
theorem dX10_nextUse_25 : decode cX10_nextUse 25 = .ok (.if_icmp .eq 33, 3) := by decide +kernel
theorem dX10_nextUse_28 : decode cX10_nextUse 28 = .ok (.iload_n 2, 1) := by decide +kernel
theorem dX10_nextUse_29 : decode cX10_nextUse 29 = .ok (.ifCond .eq 33, 3) := by decide +kernel
theorem dX10_nextUse_32 : decode cX10_nextUse 32 = .ok (.aload_n 0, 1) := by decide +kernel
theorem dX10_nextUse_33 : decode cX10_nextUse 33 = .ok (.getfield 19, 3) := by decide +kernel
theorem dX10_nextUse_36 : decode cX10_nextUse 36 = .ok (.bipush 9, 2) := by decide +kernel
theorem dX10_nextUse_38 : decode cX10_nextUse 38 = .ok (.iconst 3, 1) := by decide +kernel
theorem dX10_nextUse_39 : decode cX10_nextUse 39 = .ok (.iload 4, 2) := by decide +kernel
theorem dX10_nextUse_41 : decode cX10_nextUse 41 = .ok (.imul, 1) := by decide +kernel
theorem dX10_nextUse_42 : decode cX10_nextUse 42 = .ok (.iadd, 1) := by decide +kernel
theorem dX10_nextUse_43 : decode cX10_nextUse 43 = .ok (.iaload, 1) := by decide +kernel
theorem dX10_nextUse_44 : decode cX10_nextUse 44 = .ok (.aload_n 0, 1) := by decide +kernel
theorem dX10_nextUse_45 : decode cX10_nextUse 45 = .ok (.getfield 19, 3) := by decide +kernel
theorem dX10_nextUse_48 : decode cX10_nextUse 48 = .ok (.bipush 9, 2) := by decide +kernel
theorem dX10_nextUse_50 : decode cX10_nextUse 50 = .ok (.iconst 3, 1) := by decide +kernel
theorem dX10_nextUse_51 : decode cX10_nextUse 51 = .ok (.iload_n 3, 1) := by decide +kernel
theorem dX10_nextUse_52 : decode cX10_nextUse 52 = .ok (.imul, 1) := by decide +kernel
theorem dX10_nextUse_53 : decode cX10_nextUse 53 = .ok (.iadd, 1) := by decide +kernel
theorem dX10_nextUse_54 : decode cX10_nextUse 54 = .ok (.iaload, 1) := by decide +kernel
theorem dX10_nextUse_55 : decode cX10_nextUse 55 = .ok (.if_icmp .le 7, 3) := by decide +kernel
theorem dX10_nextUse_58 : decode cX10_nextUse 58 = .ok (.iconst 1, 1) := by decide +kernel
theorem dX10_nextUse_59 : decode cX10_nextUse 59 = .ok (.goto 4, 3) := by decide +kernel
theorem dX10_nextUse_62 : decode cX10_nextUse 62 = .ok (.iconst 0, 1) := by decide +kernel
theorem dX10_nextUse_63 : decode cX10_nextUse 63 = .ok (.istore 5, 2) := by decide +kernel
theorem dX10_nextUse_65 : decode cX10_nextUse 65 = .ok (.iload 5, 2) := by decide +kernel
theorem dX10_nextUse_67 : decode cX10_nextUse 67 = .ok (.ifCond .eq 8, 3) := by decide +kernel
theorem dX10_nextUse_70 : decode cX10_nextUse 70 = .ok (.iload 4, 2) := by decide +kernel
theorem dX10_nextUse_72 : decode cX10_nextUse 72 = .ok (.goto 4, 3) := by decide +kernel
theorem dX10_nextUse_75 : decode cX10_nextUse 75 = .ok (.iload_n 3, 1) := by decide +kernel
theorem dX10_nextUse_76 : decode cX10_nextUse 76 = .ok (.istore_n 3, 1) := by decide +kernel
theorem dX10_nextUse_77 : decode cX10_nextUse 77 = .ok (.iinc 4 1, 3) := by decide +kernel
theorem dX10_nextUse_80 : decode cX10_nextUse 80 = .ok (.goto (-75), 3) := by decide +kernel
theorem dX10_nextUse_83 : decode cX10_nextUse 83 = .ok (.iload_n 3, 1) := by decide +kernel
theorem dX10_nextUse_84 : decode cX10_nextUse 84 = .ok (.ireturn, 1) := by decide +kernel
theorem dX10_give_0 : decode cX10_give 0 = .ok (.iload_n 2, 1) := by decide +kernel
theorem dX10_give_1 : decode cX10_give 1 = .ok (.aload_n 0, 1) := by decide +kernel
theorem dX10_give_2 : decode cX10_give 2 = .ok (.getfield 168, 3) := by decide +kernel
theorem dX10_give_5 : decode cX10_give 5 = .ok (.if_icmp .ge 7, 3) := by decide +kernel
theorem dX10_give_8 : decode cX10_give 8 = .ok (.iload_n 2, 1) := by decide +kernel
theorem dX10_give_9 : decode cX10_give 9 = .ok (.goto 7, 3) := by decide +kernel
theorem dX10_give_12 : decode cX10_give 12 = .ok (.aload_n 0, 1) := by decide +kernel
theorem dX10_give_13 : decode cX10_give 13 = .ok (.getfield 168, 3) := by decide +kernel
theorem dX10_give_16 : decode cX10_give 16 = .ok (.istore 5, 2) := by decide +kernel
theorem dX10_give_18 : decode cX10_give 18 = .ok (.aload_n 0, 1) := by decide +kernel
theorem dX10_give_19 : decode cX10_give 19 = .ok (.iconst 0, 1) := by decide +kernel
theorem dX10_give_20 : decode cX10_give 20 = .ok (.putfield 177, 3) := by decide +kernel
theorem dX10_give_23 : decode cX10_give 23 = .ok (.aload_n 0, 1) := by decide +kernel
theorem dX10_give_24 : decode cX10_give 24 = .ok (.aload_n 0, 1) := by decide +kernel
theorem dX10_give_25 : decode cX10_give 25 = .ok (.getfield 180, 3) := by decide +kernel
theorem dX10_give_28 : decode cX10_give 28 = .ok (.aload_n 0, 1) := by decide +kernel
theorem dX10_give_29 : decode cX10_give 29 = .ok (.getfield 19, 3) := by decide +kernel
theorem dX10_give_32 : decode cX10_give 32 = .ok (.bipush 6, 2) := by decide +kernel
theorem dX10_give_34 : decode cX10_give 34 = .ok (.iaload, 1) := by decide +kernel
theorem dX10_give_35 : decode cX10_give 35 = .ok (.imul, 1) := by decide +kernel
theorem dX10_give_36 : decode cX10_give 36 = .ok (.putfield 183, 3) := by decide +kernel
theorem dX10_give_39 : decode cX10_give 39 = .ok (.iconst 0, 1) := by decide +kernel
theorem dX10_give_40 : decode cX10_give 40 = .ok (.istore 6, 2) := by decide +kernel
theorem dX10_give_42 : decode cX10_give 42 = .ok (.iconst 0, 1) := by decide +kernel
theorem dX10_give_43 : decode cX10_give 43 = .ok (.istore 7, 2) := by decide +kernel
theorem dX10_give_45 : decode cX10_give 45 = .ok (.iload 7, 2) := by decide +kernel
theorem dX10_give_47 : decode cX10_give 47 = .ok (.aload_n 0, 1) := by decide +kernel
theorem dX10_give_48 : decode cX10_give 48 = .ok (.getfield 138, 3) := by decide +kernel
theorem dX10_give_51 : decode cX10_give 51 = .ok (.if_icmp .ge 125, 3) := by decide +kernel
theorem dX10_give_54 : decode cX10_give 54 = .ok (.aload_n 0, 1) := by decide +kernel
theorem dX10_give_55 : decode cX10_give 55 = .ok (.iload 6, 2) := by decide +kernel
theorem dX10_give_57 : decode cX10_give 57 = .ok (.iload_n 3, 1) := by decide +kernel
theorem dX10_give_58 : decode cX10_give 58 = .ok (.invokevirtual 186, 3) := by decide +kernel
theorem dX10_give_61 : decode cX10_give 61 = .ok (.istore 8, 2) := by decide +kernel
theorem dX10_give_63 : decode cX10_give 63 = .ok (.iload 6, 2) := by decide +kernel
theorem dX10_give_65 : decode cX10_give 65 = .ok (.iconst 1, 1) := by decide +kernel
theorem dX10_give_66 : decode cX10_give 66 = .ok (.iload 8, 2) := by decide +kernel
theorem dX10_give_68 : decode cX10_give 68 = .ok (.ishl, 1) := by decide +kernel
theorem dX10_give_69 : decode cX10_give 69 = .ok (.ior, 1) := by decide +kernel
theorem dX10_give_70 : decode cX10_give 70 = .ok (.istore 6, 2) := by decide +kernel
theorem dX10_give_72 : decode cX10_give 72 = .ok (.aload_n 0, 1) := by decide +kernel
theorem dX10_give_73 : decode cX10_give 73 = .ok (.iload 8, 2) := by decide +kernel
theorem dX10_give_75 : decode cX10_give 75 = .ok (.iload_n 1, 1) := by decide +kernel
theorem dX10_give_76 : decode cX10_give 76 = .ok (.invokevirtual 190, 3) := by decide +kernel
theorem dX10_give_79 : decode cX10_give 79 = .ok (.istore 9, 2) := by decide +kernel
theorem dX10_give_81 : decode cX10_give 81 = .ok (.iload 4, 2) := by decide +kernel
theorem dX10_give_83 : decode cX10_give 83 = .ok (.ifCond .eq 10, 3) := by decide +kernel
theorem dX10_give_86 : decode cX10_give 86 = .ok (.iload 9, 2) := by decide +kernel
theorem dX10_give_88 : decode cX10_give 88 = .ok (.iconst 2, 1) := by decide +kernel
theorem dX10_give_89 : decode cX10_give 89 = .ok (.idiv, 1) := by decide +kernel
theorem dX10_give_90 : decode cX10_give 90 = .ok (.goto 5, 3) := by decide +kernel
theorem dX10_give_93 : decode cX10_give 93 = .ok (.iload 9, 2) := by decide +kernel
theorem dX10_give_95 : decode cX10_give 95 = .ok (.istore 10, 2) := by decide +kernel
theorem dX10_give_97 : decode cX10_give 97 = .ok (.iload 10, 2) := by decide +kernel
theorem dX10_give_99 : decode cX10_give 99 = .ok (.iload 5, 2) := by decide +kernel
theorem dX10_give_101 : decode cX10_give 101 = .ok (.if_icmp .ge 8, 3) := by decide +kernel
theorem dX10_give_104 : decode cX10_give 104 = .ok (.iload 10, 2) := by decide +kernel
theorem dX10_give_106 : decode cX10_give 106 = .ok (.goto 5, 3) := by decide +kernel
theorem dX10_give_109 : decode cX10_give 109 = .ok (.iload 5, 2) := by decide +kernel
theorem dX10_give_111 : decode cX10_give 111 = .ok (.istore 10, 2) := by decide +kernel
theorem dX10_give_113 : decode cX10_give 113 = .ok (.iload 5, 2) := by decide +kernel
theorem dX10_give_115 : decode cX10_give 115 = .ok (.iload 10, 2) := by decide +kernel
theorem dX10_give_117 : decode cX10_give 117 = .ok (.isub, 1) := by decide +kernel
theorem dX10_give_118 : decode cX10_give 118 = .ok (.istore 5, 2) := by decide +kernel
theorem dX10_give_120 : decode cX10_give 120 = .ok (.aload_n 0, 1) := by decide +kernel
theorem dX10_give_121 : decode cX10_give 121 = .ok (.dup, 1) := by decide +kernel
theorem dX10_give_122 : decode cX10_give 122 = .ok (.getfield 177, 3) := by decide +kernel
theorem dX10_give_125 : decode cX10_give 125 = .ok (.iload 10, 2) := by decide +kernel
theorem dX10_give_127 : decode cX10_give 127 = .ok (.iadd, 1) := by decide +kernel
theorem dX10_give_128 : decode cX10_give 128 = .ok (.putfield 177, 3) := by decide +kernel
theorem dX10_give_131 : decode cX10_give 131 = .ok (.aload_n 0, 1) := by decide +kernel
theorem dX10_give_132 : decode cX10_give 132 = .ok (.getfield 34, 3) := by decide +kernel
theorem dX10_give_135 : decode cX10_give 135 = .ok (.iload 8, 2) := by decide +kernel
theorem dX10_give_137 : decode cX10_give 137 = .ok (.iload 9, 2) := by decide +kernel
theorem dX10_give_139 : decode cX10_give 139 = .ok (.iload 10, 2) := by decide +kernel
theorem dX10_give_141 : decode cX10_give 141 = .ok (.isub, 1) := by decide +kernel
theorem dX10_give_142 : decode cX10_give 142 = .ok (.iastore, 1) := by decide +kernel
theorem dX10_give_143 : decode cX10_give 143 = .ok (.aload_n 0, 1) := by decide +kernel
theorem dX10_give_144 : decode cX10_give 144 = .ok (.dup, 1) := by decide +kernel
theorem dX10_give_145 : decode cX10_give 145 = .ok (.getfield 183, 3) := by decide +kernel
theorem dX10_give_148 : decode cX10_give 148 = .ok (.iload 9, 2) := by decide +kernel
theorem dX10_give_150 : decode cX10_give 150 = .ok (.iload 10, 2) := by decide +kernel
theorem dX10_give_152 : decode cX10_give 152 = .ok (.isub, 1) := by decide +kernel
theorem dX10_give_153 : decode cX10_give 153 = .ok (.aload_n 0, 1) := by decide +kernel
theorem dX10_give_154 : decode cX10_give 154 = .ok (.getfield 19, 3) := by decide +kernel
theorem dX10_give_157 : decode cX10_give 157 = .ok (.bipush 9, 2) := by decide +kernel
theorem dX10_give_159 : decode cX10_give 159 = .ok (.iconst 3, 1) := by decide +kernel
theorem dX10_give_160 : decode cX10_give 160 = .ok (.iload 8, 2) := by decide +kernel
theorem dX10_give_162 : decode cX10_give 162 = .ok (.imul, 1) := by decide +kernel
theorem dX10_give_163 : decode cX10_give 163 = .ok (.iadd, 1) := by decide +kernel
theorem dX10_give_164 : decode cX10_give 164 = .ok (.iaload, 1) := by decide +kernel
theorem dX10_give_165 : decode cX10_give 165 = .ok (.imul, 1) := by decide +kernel
theorem dX10_give_166 : decode cX10_give 166 = .ok (.iadd, 1) := by decide +kernel
theorem dX10_give_167 : decode cX10_give 167 = .ok (.putfield 183, 3) := by decide +kernel
theorem dX10_give_170 : decode cX10_give 170 = .ok (.iinc 7 1, 3) := by decide +kernel
theorem dX10_give_173 : decode cX10_give 173 = .ok (.goto (-128), 3) := by decide +kernel
theorem dX10_give_176 : decode cX10_give 176 = .ok (.aload_n 0, 1) := by decide +kernel
theorem dX10_give_177 : decode cX10_give 177 = .ok (.dup, 1) := by decide +kernel
theorem dX10_give_178 : decode cX10_give 178 = .ok (.getfield 168, 3) := by decide +kernel
theorem dX10_give_181 : decode cX10_give 181 = .ok (.aload_n 0, 1) := by decide +kernel
theorem dX10_give_182 : decode cX10_give 182 = .ok (.getfield 177, 3) := by decide +kernel
theorem dX10_give_185 : decode cX10_give 185 = .ok (.isub, 1) := by decide +kernel
theorem dX10_give_186 : decode cX10_give 186 = .ok (.putfield 168, 3) := by decide +kernel
theorem dX10_give_189 : decode cX10_give 189 = .ok (.return_, 1) := by decide +kernel
theorem dX10_isDry_0 : decode cX10_isDry 0 = .ok (.iconst 0, 1) := by decide +kernel
theorem dX10_isDry_1 : decode cX10_isDry 1 = .ok (.istore_n 1, 1) := by decide +kernel
theorem dX10_isDry_2 : decode cX10_isDry 2 = .ok (.iconst 0, 1) := by decide +kernel
theorem dX10_isDry_3 : decode cX10_isDry 3 = .ok (.istore_n 2, 1) := by decide +kernel
theorem dX10_isDry_4 : decode cX10_isDry 4 = .ok (.iload_n 2, 1) := by decide +kernel
theorem dX10_isDry_5 : decode cX10_isDry 5 = .ok (.aload_n 0, 1) := by decide +kernel
theorem dX10_isDry_6 : decode cX10_isDry 6 = .ok (.getfield 138, 3) := by decide +kernel
theorem dX10_isDry_9 : decode cX10_isDry 9 = .ok (.if_icmp .ge 28, 3) := by decide +kernel
theorem dX10_isDry_12 : decode cX10_isDry 12 = .ok (.iload_n 1, 1) := by decide +kernel
theorem dX10_isDry_13 : decode cX10_isDry 13 = .ok (.ifCond .ne 12, 3) := by decide +kernel
theorem dX10_isDry_16 : decode cX10_isDry 16 = .ok (.aload_n 0, 1) := by decide +kernel
theorem dX10_isDry_17 : decode cX10_isDry 17 = .ok (.getfield 34, 3) := by decide +kernel
theorem dX10_isDry_20 : decode cX10_isDry 20 = .ok (.iload_n 2, 1) := by decide +kernel
theorem dX10_isDry_21 : decode cX10_isDry 21 = .ok (.iaload, 1) := by decide +kernel
theorem dX10_isDry_22 : decode cX10_isDry 22 = .ok (.ifCond .le 7, 3) := by decide +kernel
theorem dX10_isDry_25 : decode cX10_isDry 25 = .ok (.iconst 1, 1) := by decide +kernel
theorem dX10_isDry_26 : decode cX10_isDry 26 = .ok (.goto 4, 3) := by decide +kernel
theorem dX10_isDry_29 : decode cX10_isDry 29 = .ok (.iconst 0, 1) := by decide +kernel
theorem dX10_isDry_30 : decode cX10_isDry 30 = .ok (.istore_n 1, 1) := by decide +kernel
theorem dX10_isDry_31 : decode cX10_isDry 31 = .ok (.iinc 2 1, 3) := by decide +kernel
theorem dX10_isDry_34 : decode cX10_isDry 34 = .ok (.goto (-30), 3) := by decide +kernel
theorem dX10_isDry_37 : decode cX10_isDry 37 = .ok (.iload_n 1, 1) := by decide +kernel
theorem dX10_isDry_38 : decode cX10_isDry 38 = .ok (.ireturn, 1) := by decide +kernel
theorem dX10_end_0 : decode cX10_end 0 = .ok (.aload_n 0, 1) := by decide +kernel
theorem dX10_end_1 : decode cX10_end 1 = .ok (.getfield 25, 3) := by decide +kernel
theorem dX10_end_4 : decode cX10_end 4 = .ok (.iload_n 1, 1) := by decide +kernel
theorem dX10_end_5 : decode cX10_end 5 = .ok (.iaload, 1) := by decide +kernel
theorem dX10_end_6 : decode cX10_end 6 = .ok (.istore 4, 2) := by decide +kernel
theorem dX10_end_8 : decode cX10_end 8 = .ok (.aload_n 0, 1) := by decide +kernel
theorem dX10_end_9 : decode cX10_end 9 = .ok (.iconst 0, 1) := by decide +kernel
theorem dX10_end_10 : decode cX10_end 10 = .ok (.putfield 180, 3) := by decide +kernel
theorem dX10_end_13 : decode cX10_end 13 = .ok (.sipush 200, 3) := by decide +kernel
theorem dX10_end_16 : decode cX10_end 16 = .ok (.istore 5, 2) := by decide +kernel
theorem dX10_end_18 : decode cX10_end 18 = .ok (.iload 4, 2) := by decide +kernel
theorem dX10_end_20 : decode cX10_end 20 = .ok (.iconst 4, 1) := by decide +kernel
theorem dX10_end_21 : decode cX10_end 21 = .ok (.if_icmp .ne 29, 3) := by decide +kernel
theorem dX10_end_24 : decode cX10_end 24 = .ok (.aload_n 0, 1) := by decide +kernel
theorem dX10_end_25 : decode cX10_end 25 = .ok (.getfield 168, 3) := by decide +kernel
theorem dX10_end_28 : decode cX10_end 28 = .ok (.aload_n 0, 1) := by decide +kernel
theorem dX10_end_29 : decode cX10_end 29 = .ok (.getfield 28, 3) := by decide +kernel
theorem dX10_end_32 : decode cX10_end 32 = .ok (.iload_n 1, 1) := by decide +kernel
theorem dX10_end_33 : decode cX10_end 33 = .ok (.iaload, 1) := by decide +kernel
theorem dX10_end_34 : decode cX10_end 34 = .ok (.if_icmp .ge 16, 3) := by decide +kernel
theorem dX10_end_37 : decode cX10_end 37 = .ok (.aload_n 0, 1) := by decide +kernel
theorem dX10_end_38 : decode cX10_end 38 = .ok (.aload_n 0, 1) := by decide +kernel
theorem dX10_end_39 : decode cX10_end 39 = .ok (.iload_n 2, 1) := by decide +kernel
theorem dX10_end_40 : decode cX10_end 40 = .ok (.aload_n 0, 1) := by decide +kernel
theorem dX10_end_41 : decode cX10_end 41 = .ok (.getfield 168, 3) := by decide +kernel
theorem dX10_end_44 : decode cX10_end 44 = .ok (.invokevirtual 193, 3) := by decide +kernel
theorem dX10_end_47 : decode cX10_end 47 = .ok (.putfield 180, 3) := by decide +kernel
theorem dX10_end_50 : decode cX10_end 50 = .ok (.iload 4, 2) := by decide +kernel
theorem dX10_end_52 : decode cX10_end 52 = .ok (.iconst 5, 1) := by decide +kernel
theorem dX10_end_53 : decode cX10_end 53 = .ok (.if_icmp .ne 16, 3) := by decide +kernel
theorem dX10_end_56 : decode cX10_end 56 = .ok (.aload_n 0, 1) := by decide +kernel
theorem dX10_end_57 : decode cX10_end 57 = .ok (.getfield 31, 3) := by decide +kernel
theorem dX10_end_60 : decode cX10_end 60 = .ok (.bipush 12, 2) := by decide +kernel
theorem dX10_end_62 : decode cX10_end 62 = .ok (.iload_n 1, 1) := by decide +kernel
theorem dX10_end_63 : decode cX10_end 63 = .ok (.imul, 1) := by decide +kernel
theorem dX10_end_64 : decode cX10_end 64 = .ok (.iload_n 2, 1) := by decide +kernel
theorem dX10_end_65 : decode cX10_end 65 = .ok (.iadd, 1) := by decide +kernel
theorem dX10_end_66 : decode cX10_end 66 = .ok (.iaload, 1) := by decide +kernel
theorem dX10_end_67 : decode cX10_end 67 = .ok (.istore 5, 2) := by decide +kernel
theorem dX10_end_69 : decode cX10_end 69 = .ok (.iload 4, 2) := by decide +kernel
theorem dX10_end_71 : decode cX10_end 71 = .ok (.iconst 3, 1) := by decide +kernel
theorem dX10_end_72 : decode cX10_end 72 = .ok (.if_icmp .ne 34, 3) := by decide +kernel
theorem dX10_end_75 : decode cX10_end 75 = .ok (.iload_n 2, 1) := by decide +kernel
theorem dX10_end_76 : decode cX10_end 76 = .ok (.aload_n 0, 1) := by decide +kernel
theorem dX10_end_77 : decode cX10_end 77 = .ok (.getfield 168, 3) := by decide +kernel
theorem dX10_end_80 : decode cX10_end 80 = .ok (.iload_n 3, 1) := by decide +kernel
theorem dX10_end_81 : decode cX10_end 81 = .ok (.invokestatic 196, 3) := by decide +kernel
theorem dX10_end_84 : decode cX10_end 84 = .ok (.istore 6, 2) := by decide +kernel
theorem dX10_end_86 : decode cX10_end 86 = .ok (.aload_n 0, 1) := by decide +kernel
theorem dX10_end_87 : decode cX10_end 87 = .ok (.aload_n 0, 1) := by decide +kernel
theorem dX10_end_88 : decode cX10_end 88 = .ok (.getfield 41, 3) := by decide +kernel
theorem dX10_end_91 : decode cX10_end 91 = .ok (.iload 6, 2) := by decide +kernel
theorem dX10_end_93 : decode cX10_end 93 = .ok (.iaload, 1) := by decide +kernel
theorem dX10_end_94 : decode cX10_end 94 = .ok (.putfield 180, 3) := by decide +kernel
theorem dX10_end_97 : decode cX10_end 97 = .ok (.aload_n 0, 1) := by decide +kernel
theorem dX10_end_98 : decode cX10_end 98 = .ok (.getfield 44, 3) := by decide +kernel
theorem dX10_end_101 : decode cX10_end 101 = .ok (.iload 6, 2) := by decide +kernel
theorem dX10_end_103 : decode cX10_end 103 = .ok (.iaload, 1) := by decide +kernel
theorem dX10_end_104 : decode cX10_end 104 = .ok (.istore 5, 2) := by decide +kernel
theorem dX10_end_106 : decode cX10_end 106 = .ok (.aload_n 0, 1) := by decide +kernel
theorem dX10_end_107 : decode cX10_end 107 = .ok (.dup, 1) := by decide +kernel
theorem dX10_end_108 : decode cX10_end 108 = .ok (.getfield 168, 3) := by decide +kernel
theorem dX10_end_111 : decode cX10_end 111 = .ok (.aload_n 0, 1) := by decide +kernel
theorem dX10_end_112 : decode cX10_end 112 = .ok (.getfield 180, 3) := by decide +kernel
theorem dX10_end_115 : decode cX10_end 115 = .ok (.iadd, 1) := by decide +kernel
theorem dX10_end_116 : decode cX10_end 116 = .ok (.putfield 168, 3) := by decide +kernel
theorem dX10_end_119 : decode cX10_end 119 = .ok (.aload_n 0, 1) := by decide +kernel
theorem dX10_end_120 : decode cX10_end 120 = .ok (.iload_n 2, 1) := by decide +kernel
theorem dX10_end_121 : decode cX10_end 121 = .ok (.iload 5, 2) := by decide +kernel
theorem dX10_end_123 : decode cX10_end 123 = .ok (.iload 4, 2) := by decide +kernel
theorem dX10_end_125 : decode cX10_end 125 = .ok (.iconst 1, 1) := by decide +kernel
theorem dX10_end_126 : decode cX10_end 126 = .ok (.if_icmp .le 7, 3) := by decide +kernel
theorem dX10_end_129 : decode cX10_end 129 = .ok (.iconst 1, 1) := by decide +kernel
theorem dX10_end_130 : decode cX10_end 130 = .ok (.goto 4, 3) := by decide +kernel
theorem dX10_end_133 : decode cX10_end 133 = .ok (.iconst 0, 1) := by decide +kernel
theorem dX10_end_134 : decode cX10_end 134 = .ok (.iload 4, 2) := by decide +kernel
theorem dX10_end_136 : decode cX10_end 136 = .ok (.iconst 1, 1) := by decide +kernel
theorem dX10_end_137 : decode cX10_end 137 = .ok (.if_icmp .ne 20, 3) := by decide +kernel
theorem dX10_end_140 : decode cX10_end 140 = .ok (.aload_n 0, 1) := by decide +kernel
theorem dX10_end_141 : decode cX10_end 141 = .ok (.getfield 168, 3) := by decide +kernel
theorem dX10_end_144 : decode cX10_end 144 = .ok (.aload_n 0, 1) := by decide +kernel
theorem dX10_end_145 : decode cX10_end 145 = .ok (.getfield 28, 3) := by decide +kernel
theorem dX10_end_148 : decode cX10_end 148 = .ok (.iload_n 1, 1) := by decide +kernel
theorem dX10_end_149 : decode cX10_end 149 = .ok (.iaload, 1) := by decide +kernel
theorem dX10_end_150 : decode cX10_end 150 = .ok (.if_icmp .ge 7, 3) := by decide +kernel
theorem dX10_end_153 : decode cX10_end 153 = .ok (.iconst 1, 1) := by decide +kernel
theorem dX10_end_154 : decode cX10_end 154 = .ok (.goto 4, 3) := by decide +kernel
theorem dX10_end_157 : decode cX10_end 157 = .ok (.iconst 0, 1) := by decide +kernel
theorem dX10_end_158 : decode cX10_end 158 = .ok (.invokevirtual 200, 3) := by decide +kernel
theorem dX10_end_161 : decode cX10_end 161 = .ok (.return_, 1) := by decide +kernel
theorem dX10_stateAt_0 : decode cX10_stateAt 0 = .ok (.sipush 402, 3) := by decide +kernel
theorem dX10_stateAt_3 : decode cX10_stateAt 3 = .ok (.iload_n 0, 1) := by decide +kernel
theorem dX10_stateAt_4 : decode cX10_stateAt 4 = .ok (.imul, 1) := by decide +kernel
theorem dX10_stateAt_5 : decode cX10_stateAt 5 = .ok (.iconst 2, 1) := by decide +kernel
theorem dX10_stateAt_6 : decode cX10_stateAt 6 = .ok (.iload_n 1, 1) := by decide +kernel
theorem dX10_stateAt_7 : decode cX10_stateAt 7 = .ok (.imul, 1) := by decide +kernel
theorem dX10_stateAt_8 : decode cX10_stateAt 8 = .ok (.iadd, 1) := by decide +kernel
theorem dX10_stateAt_9 : decode cX10_stateAt 9 = .ok (.iload_n 2, 1) := by decide +kernel
theorem dX10_stateAt_10 : decode cX10_stateAt 10 = .ok (.ifCond .eq 7, 3) := by decide +kernel
theorem dX10_stateAt_13 : decode cX10_stateAt 13 = .ok (.iconst 1, 1) := by decide +kernel
theorem dX10_stateAt_14 : decode cX10_stateAt 14 = .ok (.goto 4, 3) := by decide +kernel
theorem dX10_stateAt_17 : decode cX10_stateAt 17 = .ok (.iconst 0, 1) := by decide +kernel
theorem dX10_stateAt_18 : decode cX10_stateAt 18 = .ok (.iadd, 1) := by decide +kernel
theorem dX10_stateAt_19 : decode cX10_stateAt 19 = .ok (.ireturn, 1) := by decide +kernel
theorem dX10_layThen_0 : decode cX10_layThen 0 = .ok (.iconst 0, 1) := by decide +kernel
theorem dX10_layThen_1 : decode cX10_layThen 1 = .ok (.istore_n 2, 1) := by decide +kernel
theorem dX10_layThen_2 : decode cX10_layThen 2 = .ok (.iload_n 2, 1) := by decide +kernel
theorem dX10_layThen_3 : decode cX10_layThen 3 = .ok (.aload_n 0, 1) := by decide +kernel
theorem dX10_layThen_4 : decode cX10_layThen 4 = .ok (.getfield 19, 3) := by decide +kernel
theorem dX10_layThen_7 : decode cX10_layThen 7 = .ok (.iconst 1, 1) := by decide +kernel
theorem dX10_layThen_8 : decode cX10_layThen 8 = .ok (.iaload, 1) := by decide +kernel
theorem dX10_layThen_9 : decode cX10_layThen 9 = .ok (.if_icmp .gt 130, 3) := by decide +kernel
