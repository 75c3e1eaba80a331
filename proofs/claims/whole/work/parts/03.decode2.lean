theorem dX5_addMonth_68 : decode cX5_addMonth 68 = .ok (.iaload, 1) := by decide +kernel
theorem dX5_addMonth_69 : decode cX5_addMonth 69 = .ok (.iadd, 1) := by decide +kernel
theorem dX5_addMonth_70 : decode cX5_addMonth 70 = .ok (.iastore, 1) := by decide +kernel
theorem dX5_addMonth_71 : decode cX5_addMonth 71 = .ok (.iinc 2 1, 3) := by decide +kernel
theorem dX5_addMonth_74 : decode cX5_addMonth 74 = .ok (.goto (-32), 3) := by decide +kernel
theorem dX5_addMonth_77 : decode cX5_addMonth 77 = .ok (.aload_n 0, 1) := by decide +kernel
theorem dX5_addMonth_78 : decode cX5_addMonth 78 = .ok (.getfield 9, 3) := by decide +kernel
theorem dX5_addMonth_81 : decode cX5_addMonth 81 = .ok (.iconst 1, 1) := by decide +kernel
theorem dX5_addMonth_82 : decode cX5_addMonth 82 = .ok (.dup2, 1) := by decide +kernel
theorem dX5_addMonth_83 : decode cX5_addMonth 83 = .ok (.iaload, 1) := by decide +kernel
theorem dX5_addMonth_84 : decode cX5_addMonth 84 = .ok (.aload_n 0, 1) := by decide +kernel
theorem dX5_addMonth_85 : decode cX5_addMonth 85 = .ok (.getfield 26, 3) := by decide +kernel
theorem dX5_addMonth_88 : decode cX5_addMonth 88 = .ok (.getfield 66, 3) := by decide +kernel
theorem dX5_addMonth_91 : decode cX5_addMonth 91 = .ok (.iadd, 1) := by decide +kernel
theorem dX5_addMonth_92 : decode cX5_addMonth 92 = .ok (.iastore, 1) := by decide +kernel
theorem dX5_addMonth_93 : decode cX5_addMonth 93 = .ok (.aload_n 0, 1) := by decide +kernel
theorem dX5_addMonth_94 : decode cX5_addMonth 94 = .ok (.getfield 9, 3) := by decide +kernel
theorem dX5_addMonth_97 : decode cX5_addMonth 97 = .ok (.iconst 2, 1) := by decide +kernel
theorem dX5_addMonth_98 : decode cX5_addMonth 98 = .ok (.dup2, 1) := by decide +kernel
theorem dX5_addMonth_99 : decode cX5_addMonth 99 = .ok (.iaload, 1) := by decide +kernel
theorem dX5_addMonth_100 : decode cX5_addMonth 100 = .ok (.aload_n 0, 1) := by decide +kernel
theorem dX5_addMonth_101 : decode cX5_addMonth 101 = .ok (.getfield 26, 3) := by decide +kernel
theorem dX5_addMonth_104 : decode cX5_addMonth 104 = .ok (.getfield 75, 3) := by decide +kernel
theorem dX5_addMonth_107 : decode cX5_addMonth 107 = .ok (.iadd, 1) := by decide +kernel
theorem dX5_addMonth_108 : decode cX5_addMonth 108 = .ok (.iastore, 1) := by decide +kernel
theorem dX5_addMonth_109 : decode cX5_addMonth 109 = .ok (.aload_n 0, 1) := by decide +kernel
theorem dX5_addMonth_110 : decode cX5_addMonth 110 = .ok (.getfield 9, 3) := by decide +kernel
theorem dX5_addMonth_113 : decode cX5_addMonth 113 = .ok (.iconst 3, 1) := by decide +kernel
theorem dX5_addMonth_114 : decode cX5_addMonth 114 = .ok (.dup2, 1) := by decide +kernel
theorem dX5_addMonth_115 : decode cX5_addMonth 115 = .ok (.iaload, 1) := by decide +kernel
theorem dX5_addMonth_116 : decode cX5_addMonth 116 = .ok (.aload_n 0, 1) := by decide +kernel
theorem dX5_addMonth_117 : decode cX5_addMonth 117 = .ok (.getfield 26, 3) := by decide +kernel
theorem dX5_addMonth_120 : decode cX5_addMonth 120 = .ok (.getfield 78, 3) := by decide +kernel
theorem dX5_addMonth_123 : decode cX5_addMonth 123 = .ok (.iadd, 1) := by decide +kernel
theorem dX5_addMonth_124 : decode cX5_addMonth 124 = .ok (.iastore, 1) := by decide +kernel
theorem dX5_addMonth_125 : decode cX5_addMonth 125 = .ok (.aload_n 0, 1) := by decide +kernel
theorem dX5_addMonth_126 : decode cX5_addMonth 126 = .ok (.getfield 9, 3) := by decide +kernel
theorem dX5_addMonth_129 : decode cX5_addMonth 129 = .ok (.iconst 4, 1) := by decide +kernel
theorem dX5_addMonth_130 : decode cX5_addMonth 130 = .ok (.dup2, 1) := by decide +kernel
theorem dX5_addMonth_131 : decode cX5_addMonth 131 = .ok (.iaload, 1) := by decide +kernel
theorem dX5_addMonth_132 : decode cX5_addMonth 132 = .ok (.aload_n 0, 1) := by decide +kernel
theorem dX5_addMonth_133 : decode cX5_addMonth 133 = .ok (.getfield 26, 3) := by decide +kernel
theorem dX5_addMonth_136 : decode cX5_addMonth 136 = .ok (.getfield 81, 3) := by decide +kernel
theorem dX5_addMonth_139 : decode cX5_addMonth 139 = .ok (.iadd, 1) := by decide +kernel
theorem dX5_addMonth_140 : decode cX5_addMonth 140 = .ok (.iastore, 1) := by decide +kernel
theorem dX5_addMonth_141 : decode cX5_addMonth 141 = .ok (.aload_n 0, 1) := by decide +kernel
theorem dX5_addMonth_142 : decode cX5_addMonth 142 = .ok (.getfield 9, 3) := by decide +kernel
theorem dX5_addMonth_145 : decode cX5_addMonth 145 = .ok (.iconst 5, 1) := by decide +kernel
theorem dX5_addMonth_146 : decode cX5_addMonth 146 = .ok (.dup2, 1) := by decide +kernel
theorem dX5_addMonth_147 : decode cX5_addMonth 147 = .ok (.iaload, 1) := by decide +kernel
theorem dX5_addMonth_148 : decode cX5_addMonth 148 = .ok (.aload_n 0, 1) := by decide +kernel
theorem dX5_addMonth_149 : decode cX5_addMonth 149 = .ok (.getfield 26, 3) := by decide +kernel
theorem dX5_addMonth_152 : decode cX5_addMonth 152 = .ok (.getfield 84, 3) := by decide +kernel
theorem dX5_addMonth_155 : decode cX5_addMonth 155 = .ok (.iadd, 1) := by decide +kernel
theorem dX5_addMonth_156 : decode cX5_addMonth 156 = .ok (.iastore, 1) := by decide +kernel
theorem dX5_addMonth_157 : decode cX5_addMonth 157 = .ok (.return_, 1) := by decide +kernel
theorem dX5_passUpTo_0 : decode cX5_passUpTo 0 = .ok (.aload_n 0, 1) := by decide +kernel
theorem dX5_passUpTo_1 : decode cX5_passUpTo 1 = .ok (.getfield 26, 3) := by decide +kernel
theorem dX5_passUpTo_4 : decode cX5_passUpTo 4 = .ok (.aload_n 0, 1) := by decide +kernel
theorem dX5_passUpTo_5 : decode cX5_passUpTo 5 = .ok (.getfield 18, 3) := by decide +kernel
theorem dX5_passUpTo_8 : decode cX5_passUpTo 8 = .ok (.getfield 87, 3) := by decide +kernel
theorem dX5_passUpTo_11 : decode cX5_passUpTo 11 = .ok (.iconst 0, 1) := by decide +kernel
theorem dX5_passUpTo_12 : decode cX5_passUpTo 12 = .ok (.iaload, 1) := by decide +kernel
theorem dX5_passUpTo_13 : decode cX5_passUpTo 13 = .ok (.aload_n 0, 1) := by decide +kernel
theorem dX5_passUpTo_14 : decode cX5_passUpTo 14 = .ok (.getfield 18, 3) := by decide +kernel
theorem dX5_passUpTo_17 : decode cX5_passUpTo 17 = .ok (.getfield 87, 3) := by decide +kernel
theorem dX5_passUpTo_20 : decode cX5_passUpTo 20 = .ok (.iconst 1, 1) := by decide +kernel
theorem dX5_passUpTo_21 : decode cX5_passUpTo 21 = .ok (.iaload, 1) := by decide +kernel
theorem dX5_passUpTo_22 : decode cX5_passUpTo 22 = .ok (.invokevirtual 40, 3) := by decide +kernel
theorem dX5_passUpTo_25 : decode cX5_passUpTo 25 = .ok (.iconst 0, 1) := by decide +kernel
theorem dX5_passUpTo_26 : decode cX5_passUpTo 26 = .ok (.istore 4, 2) := by decide +kernel
theorem dX5_passUpTo_28 : decode cX5_passUpTo 28 = .ok (.iload 4, 2) := by decide +kernel
theorem dX5_passUpTo_30 : decode cX5_passUpTo 30 = .ok (.iload_n 2, 1) := by decide +kernel
theorem dX5_passUpTo_31 : decode cX5_passUpTo 31 = .ok (.if_icmp .gt 60, 3) := by decide +kernel
theorem dX5_passUpTo_34 : decode cX5_passUpTo 34 = .ok (.iconst 0, 1) := by decide +kernel
theorem dX5_passUpTo_35 : decode cX5_passUpTo 35 = .ok (.istore 5, 2) := by decide +kernel
theorem dX5_passUpTo_37 : decode cX5_passUpTo 37 = .ok (.iload 5, 2) := by decide +kernel
theorem dX5_passUpTo_39 : decode cX5_passUpTo 39 = .ok (.bipush 12, 2) := by decide +kernel
theorem dX5_passUpTo_41 : decode cX5_passUpTo 41 = .ok (.if_icmp .ge 44, 3) := by decide +kernel
theorem dX5_passUpTo_44 : decode cX5_passUpTo 44 = .ok (.iload 4, 2) := by decide +kernel
theorem dX5_passUpTo_46 : decode cX5_passUpTo 46 = .ok (.iload_n 2, 1) := by decide +kernel
theorem dX5_passUpTo_47 : decode cX5_passUpTo 47 = .ok (.if_icmp .lt 9, 3) := by decide +kernel
theorem dX5_passUpTo_50 : decode cX5_passUpTo 50 = .ok (.iload 5, 2) := by decide +kernel
theorem dX5_passUpTo_52 : decode cX5_passUpTo 52 = .ok (.iload_n 3, 1) := by decide +kernel
theorem dX5_passUpTo_53 : decode cX5_passUpTo 53 = .ok (.if_icmp .gt 32, 3) := by decide +kernel
theorem dX5_passUpTo_56 : decode cX5_passUpTo 56 = .ok (.aload_n 0, 1) := by decide +kernel
theorem dX5_passUpTo_57 : decode cX5_passUpTo 57 = .ok (.getfield 26, 3) := by decide +kernel
theorem dX5_passUpTo_60 : decode cX5_passUpTo 60 = .ok (.aload_n 1, 1) := by decide +kernel
theorem dX5_passUpTo_61 : decode cX5_passUpTo 61 = .ok (.iload 5, 2) := by decide +kernel
theorem dX5_passUpTo_63 : decode cX5_passUpTo 63 = .ok (.aload_n 0, 1) := by decide +kernel
theorem dX5_passUpTo_64 : decode cX5_passUpTo 64 = .ok (.getfield 22, 3) := by decide +kernel
theorem dX5_passUpTo_67 : decode cX5_passUpTo 67 = .ok (.getfield 51, 3) := by decide +kernel
theorem dX5_passUpTo_70 : decode cX5_passUpTo 70 = .ok (.iload 4, 2) := by decide +kernel
theorem dX5_passUpTo_72 : decode cX5_passUpTo 72 = .ok (.aaload, 1) := by decide +kernel
theorem dX5_passUpTo_73 : decode cX5_passUpTo 73 = .ok (.iload 5, 2) := by decide +kernel
theorem dX5_passUpTo_75 : decode cX5_passUpTo 75 = .ok (.iaload, 1) := by decide +kernel
theorem dX5_passUpTo_76 : decode cX5_passUpTo 76 = .ok (.invokevirtual 55, 3) := by decide +kernel
theorem dX5_passUpTo_79 : decode cX5_passUpTo 79 = .ok (.iinc 5 1, 3) := by decide +kernel
theorem dX5_passUpTo_82 : decode cX5_passUpTo 82 = .ok (.goto (-45), 3) := by decide +kernel
theorem dX5_passUpTo_85 : decode cX5_passUpTo 85 = .ok (.iinc 4 1, 3) := by decide +kernel
theorem dX5_passUpTo_88 : decode cX5_passUpTo 88 = .ok (.goto (-60), 3) := by decide +kernel
theorem dX5_passUpTo_91 : decode cX5_passUpTo 91 = .ok (.return_, 1) := by decide +kernel
theorem dX5_leastSize_0 : decode cX5_leastSize 0 = .ok (.iconst 0, 1) := by decide +kernel
theorem dX5_leastSize_1 : decode cX5_leastSize 1 = .ok (.istore_n 3, 1) := by decide +kernel
theorem dX5_leastSize_2 : decode cX5_leastSize 2 = .ok (.sipush 201, 3) := by decide +kernel
theorem dX5_leastSize_5 : decode cX5_leastSize 5 = .ok (.istore 4, 2) := by decide +kernel
theorem dX5_leastSize_7 : decode cX5_leastSize 7 = .ok (.iconst 0, 1) := by decide +kernel
theorem dX5_leastSize_8 : decode cX5_leastSize 8 = .ok (.istore 5, 2) := by decide +kernel
theorem dX5_leastSize_10 : decode cX5_leastSize 10 = .ok (.iload 5, 2) := by decide +kernel
theorem dX5_leastSize_12 : decode cX5_leastSize 12 = .ok (.bipush 10, 2) := by decide +kernel
theorem dX5_leastSize_14 : decode cX5_leastSize 14 = .ok (.if_icmp .ge 61, 3) := by decide +kernel
theorem dX5_leastSize_17 : decode cX5_leastSize 17 = .ok (.iload_n 3, 1) := by decide +kernel
theorem dX5_leastSize_18 : decode cX5_leastSize 18 = .ok (.iload 4, 2) := by decide +kernel
theorem dX5_leastSize_20 : decode cX5_leastSize 20 = .ok (.if_icmp .ge 55, 3) := by decide +kernel
theorem dX5_leastSize_23 : decode cX5_leastSize 23 = .ok (.iload_n 3, 1) := by decide +kernel
theorem dX5_leastSize_24 : decode cX5_leastSize 24 = .ok (.iload 4, 2) := by decide +kernel
theorem dX5_leastSize_26 : decode cX5_leastSize 26 = .ok (.iadd, 1) := by decide +kernel
theorem dX5_leastSize_27 : decode cX5_leastSize 27 = .ok (.iconst 2, 1) := by decide +kernel
theorem dX5_leastSize_28 : decode cX5_leastSize 28 = .ok (.idiv, 1) := by decide +kernel
theorem dX5_leastSize_29 : decode cX5_leastSize 29 = .ok (.istore 6, 2) := by decide +kernel
theorem dX5_leastSize_31 : decode cX5_leastSize 31 = .ok (.aload_n 0, 1) := by decide +kernel
theorem dX5_leastSize_32 : decode cX5_leastSize 32 = .ok (.aload_n 1, 1) := by decide +kernel
theorem dX5_leastSize_33 : decode cX5_leastSize 33 = .ok (.aload_n 0, 1) := by decide +kernel
theorem dX5_leastSize_34 : decode cX5_leastSize 34 = .ok (.getfield 18, 3) := by decide +kernel
theorem dX5_leastSize_37 : decode cX5_leastSize 37 = .ok (.getfield 87, 3) := by decide +kernel
theorem dX5_leastSize_40 : decode cX5_leastSize 40 = .ok (.iconst 0, 1) := by decide +kernel
theorem dX5_leastSize_41 : decode cX5_leastSize 41 = .ok (.iaload, 1) := by decide +kernel
theorem dX5_leastSize_42 : decode cX5_leastSize 42 = .ok (.iload 6, 2) := by decide +kernel
theorem dX5_leastSize_44 : decode cX5_leastSize 44 = .ok (.invokevirtual 90, 3) := by decide +kernel
theorem dX5_leastSize_47 : decode cX5_leastSize 47 = .ok (.aload_n 0, 1) := by decide +kernel
theorem dX5_leastSize_48 : decode cX5_leastSize 48 = .ok (.getfield 9, 3) := by decide +kernel
theorem dX5_leastSize_51 : decode cX5_leastSize 51 = .ok (.iconst 0, 1) := by decide +kernel
theorem dX5_leastSize_52 : decode cX5_leastSize 52 = .ok (.iaload, 1) := by decide +kernel
theorem dX5_leastSize_53 : decode cX5_leastSize 53 = .ok (.iload_n 2, 1) := by decide +kernel
theorem dX5_leastSize_54 : decode cX5_leastSize 54 = .ok (.if_icmp .gt 10, 3) := by decide +kernel
theorem dX5_leastSize_57 : decode cX5_leastSize 57 = .ok (.iload 6, 2) := by decide +kernel
theorem dX5_leastSize_59 : decode cX5_leastSize 59 = .ok (.istore 4, 2) := by decide +kernel
theorem dX5_leastSize_61 : decode cX5_leastSize 61 = .ok (.goto 8, 3) := by decide +kernel
theorem dX5_leastSize_64 : decode cX5_leastSize 64 = .ok (.iload 6, 2) := by decide +kernel
theorem dX5_leastSize_66 : decode cX5_leastSize 66 = .ok (.iconst 1, 1) := by decide +kernel
theorem dX5_leastSize_67 : decode cX5_leastSize 67 = .ok (.iadd, 1) := by decide +kernel
theorem dX5_leastSize_68 : decode cX5_leastSize 68 = .ok (.istore_n 3, 1) := by decide +kernel
theorem dX5_leastSize_69 : decode cX5_leastSize 69 = .ok (.iinc 5 1, 3) := by decide +kernel
theorem dX5_leastSize_72 : decode cX5_leastSize 72 = .ok (.goto (-62), 3) := by decide +kernel
theorem dX5_leastSize_75 : decode cX5_leastSize 75 = .ok (.iload_n 3, 1) := by decide +kernel
theorem dX5_leastSize_76 : decode cX5_leastSize 76 = .ok (.sipush 200, 3) := by decide +kernel
theorem dX5_leastSize_79 : decode cX5_leastSize 79 = .ok (.if_icmp .le 7, 3) := by decide +kernel
theorem dX5_leastSize_82 : decode cX5_leastSize 82 = .ok (.iconst (-1), 1) := by decide +kernel
theorem dX5_leastSize_83 : decode cX5_leastSize 83 = .ok (.goto 4, 3) := by decide +kernel
theorem dX5_leastSize_86 : decode cX5_leastSize 86 = .ok (.iload_n 3, 1) := by decide +kernel
theorem dX5_leastSize_87 : decode cX5_leastSize 87 = .ok (.ireturn, 1) := by decide +kernel
theorem dX5_search_0 : decode cX5_search 0 = .ok (.aload_n 0, 1) := by decide +kernel
theorem dX5_search_1 : decode cX5_search 1 = .ok (.ldc 93, 2) := by decide +kernel
theorem dX5_search_3 : decode cX5_search 3 = .ok (.putfield 94, 3) := by decide +kernel
theorem dX5_search_6 : decode cX5_search 6 = .ok (.iconst 0, 1) := by decide +kernel
theorem dX5_search_7 : decode cX5_search 7 = .ok (.istore 5, 2) := by decide +kernel
theorem dX5_search_9 : decode cX5_search 9 = .ok (.iload 5, 2) := by decide +kernel
theorem dX5_search_11 : decode cX5_search 11 = .ok (.iload 4, 2) := by decide +kernel
theorem dX5_search_13 : decode cX5_search 13 = .ok (.if_icmp .gt 110, 3) := by decide +kernel
theorem dX5_search_16 : decode cX5_search 16 = .ok (.iconst 0, 1) := by decide +kernel
theorem dX5_search_17 : decode cX5_search 17 = .ok (.istore 6, 2) := by decide +kernel
theorem dX5_search_19 : decode cX5_search 19 = .ok (.iload 6, 2) := by decide +kernel
theorem dX5_search_21 : decode cX5_search 21 = .ok (.sipush 200, 3) := by decide +kernel
theorem dX5_search_24 : decode cX5_search 24 = .ok (.if_icmp .gt 93, 3) := by decide +kernel
theorem dX5_search_27 : decode cX5_search 27 = .ok (.iload_n 2, 1) := by decide +kernel
theorem dX5_search_28 : decode cX5_search 28 = .ok (.iload 6, 2) := by decide +kernel
theorem dX5_search_30 : decode cX5_search 30 = .ok (.imul, 1) := by decide +kernel
theorem dX5_search_31 : decode cX5_search 31 = .ok (.iload_n 3, 1) := by decide +kernel
theorem dX5_search_32 : decode cX5_search 32 = .ok (.iload 5, 2) := by decide +kernel
theorem dX5_search_34 : decode cX5_search 34 = .ok (.imul, 1) := by decide +kernel
theorem dX5_search_35 : decode cX5_search 35 = .ok (.iadd, 1) := by decide +kernel
theorem dX5_search_36 : decode cX5_search 36 = .ok (.istore 7, 2) := by decide +kernel
theorem dX5_search_38 : decode cX5_search 38 = .ok (.iload 7, 2) := by decide +kernel
theorem dX5_search_40 : decode cX5_search 40 = .ok (.aload_n 0, 1) := by decide +kernel
theorem dX5_search_41 : decode cX5_search 41 = .ok (.getfield 94, 3) := by decide +kernel
theorem dX5_search_44 : decode cX5_search 44 = .ok (.if_icmp .lt 6, 3) := by decide +kernel
theorem dX5_search_47 : decode cX5_search 47 = .ok (.goto 70, 3) := by decide +kernel
theorem dX5_search_50 : decode cX5_search 50 = .ok (.aload_n 0, 1) := by decide +kernel
theorem dX5_search_51 : decode cX5_search 51 = .ok (.aload_n 1, 1) := by decide +kernel
theorem dX5_search_52 : decode cX5_search 52 = .ok (.aload_n 0, 1) := by decide +kernel
theorem dX5_search_53 : decode cX5_search 53 = .ok (.getfield 18, 3) := by decide +kernel
theorem dX5_search_56 : decode cX5_search 56 = .ok (.getfield 87, 3) := by decide +kernel
theorem dX5_search_59 : decode cX5_search 59 = .ok (.iconst 0, 1) := by decide +kernel
theorem dX5_search_60 : decode cX5_search 60 = .ok (.iaload, 1) := by decide +kernel
theorem dX5_search_61 : decode cX5_search 61 = .ok (.iload 5, 2) := by decide +kernel
theorem dX5_search_63 : decode cX5_search 63 = .ok (.iadd, 1) := by decide +kernel
theorem dX5_search_64 : decode cX5_search 64 = .ok (.iload 6, 2) := by decide +kernel
theorem dX5_search_66 : decode cX5_search 66 = .ok (.aload_n 0, 1) := by decide +kernel
theorem dX5_search_67 : decode cX5_search 67 = .ok (.getfield 94, 3) := by decide +kernel
theorem dX5_search_70 : decode cX5_search 70 = .ok (.iload 7, 2) := by decide +kernel
theorem dX5_search_72 : decode cX5_search 72 = .ok (.isub, 1) := by decide +kernel
theorem dX5_search_73 : decode cX5_search 73 = .ok (.invokevirtual 97, 3) := by decide +kernel
theorem dX5_search_76 : decode cX5_search 76 = .ok (.istore 8, 2) := by decide +kernel
theorem dX5_search_78 : decode cX5_search 78 = .ok (.iload 8, 2) := by decide +kernel
theorem dX5_search_80 : decode cX5_search 80 = .ok (.aload_n 0, 1) := by decide +kernel
theorem dX5_search_81 : decode cX5_search 81 = .ok (.getfield 94, 3) := by decide +kernel
theorem dX5_search_84 : decode cX5_search 84 = .ok (.iload 7, 2) := by decide +kernel
theorem dX5_search_86 : decode cX5_search 86 = .ok (.isub, 1) := by decide +kernel
theorem dX5_search_87 : decode cX5_search 87 = .ok (.if_icmp .ge 24, 3) := by decide +kernel
theorem dX5_search_90 : decode cX5_search 90 = .ok (.aload_n 0, 1) := by decide +kernel
theorem dX5_search_91 : decode cX5_search 91 = .ok (.iload 7, 2) := by decide +kernel
theorem dX5_search_93 : decode cX5_search 93 = .ok (.iload 8, 2) := by decide +kernel
theorem dX5_search_95 : decode cX5_search 95 = .ok (.iadd, 1) := by decide +kernel
theorem dX5_search_96 : decode cX5_search 96 = .ok (.putfield 94, 3) := by decide +kernel
theorem dX5_search_99 : decode cX5_search 99 = .ok (.aload_n 0, 1) := by decide +kernel
theorem dX5_search_100 : decode cX5_search 100 = .ok (.iload 6, 2) := by decide +kernel
theorem dX5_search_102 : decode cX5_search 102 = .ok (.putfield 101, 3) := by decide +kernel
theorem dX5_search_105 : decode cX5_search 105 = .ok (.aload_n 0, 1) := by decide +kernel
theorem dX5_search_106 : decode cX5_search 106 = .ok (.iload 5, 2) := by decide +kernel
theorem dX5_search_108 : decode cX5_search 108 = .ok (.putfield 104, 3) := by decide +kernel
theorem dX5_search_111 : decode cX5_search 111 = .ok (.iinc 6 1, 3) := by decide +kernel
theorem dX5_search_114 : decode cX5_search 114 = .ok (.goto (-95), 3) := by decide +kernel
theorem dX5_search_117 : decode cX5_search 117 = .ok (.iinc 5 1, 3) := by decide +kernel
theorem dX5_search_120 : decode cX5_search 120 = .ok (.goto (-111), 3) := by decide +kernel
theorem dX5_search_123 : decode cX5_search 123 = .ok (.return_, 1) := by decide +kernel
theorem dX5_costBelow_0 : decode cX5_costBelow 0 = .ok (.iconst 0, 1) := by decide +kernel
theorem dX5_costBelow_1 : decode cX5_costBelow 1 = .ok (.istore 5, 2) := by decide +kernel
theorem dX5_costBelow_3 : decode cX5_costBelow 3 = .ok (.aload_n 0, 1) := by decide +kernel
theorem dX5_costBelow_4 : decode cX5_costBelow 4 = .ok (.getfield 26, 3) := by decide +kernel
theorem dX5_costBelow_7 : decode cX5_costBelow 7 = .ok (.iload_n 2, 1) := by decide +kernel
theorem dX5_costBelow_8 : decode cX5_costBelow 8 = .ok (.iload_n 3, 1) := by decide +kernel
theorem dX5_costBelow_9 : decode cX5_costBelow 9 = .ok (.invokevirtual 40, 3) := by decide +kernel
theorem dX5_costBelow_12 : decode cX5_costBelow 12 = .ok (.iconst 0, 1) := by decide +kernel
theorem dX5_costBelow_13 : decode cX5_costBelow 13 = .ok (.istore 6, 2) := by decide +kernel
theorem dX5_costBelow_15 : decode cX5_costBelow 15 = .ok (.iload 6, 2) := by decide +kernel
theorem dX5_costBelow_17 : decode cX5_costBelow 17 = .ok (.aload_n 0, 1) := by decide +kernel
theorem dX5_costBelow_18 : decode cX5_costBelow 18 = .ok (.getfield 22, 3) := by decide +kernel
theorem dX5_costBelow_21 : decode cX5_costBelow 21 = .ok (.getfield 46, 3) := by decide +kernel
theorem dX5_costBelow_24 : decode cX5_costBelow 24 = .ok (.if_icmp .ge 74, 3) := by decide +kernel
theorem dX5_costBelow_27 : decode cX5_costBelow 27 = .ok (.aload_n 0, 1) := by decide +kernel
theorem dX5_costBelow_28 : decode cX5_costBelow 28 = .ok (.getfield 22, 3) := by decide +kernel
theorem dX5_costBelow_31 : decode cX5_costBelow 31 = .ok (.getfield 51, 3) := by decide +kernel
theorem dX5_costBelow_34 : decode cX5_costBelow 34 = .ok (.iload 6, 2) := by decide +kernel
theorem dX5_costBelow_36 : decode cX5_costBelow 36 = .ok (.aaload, 1) := by decide +kernel
theorem dX5_costBelow_37 : decode cX5_costBelow 37 = .ok (.astore 7, 2) := by decide +kernel
theorem dX5_costBelow_39 : decode cX5_costBelow 39 = .ok (.iconst 0, 1) := by decide +kernel
theorem dX5_costBelow_40 : decode cX5_costBelow 40 = .ok (.istore 8, 2) := by decide +kernel
theorem dX5_costBelow_42 : decode cX5_costBelow 42 = .ok (.iload 8, 2) := by decide +kernel
theorem dX5_costBelow_44 : decode cX5_costBelow 44 = .ok (.bipush 12, 2) := by decide +kernel
theorem dX5_costBelow_46 : decode cX5_costBelow 46 = .ok (.if_icmp .ge 46, 3) := by decide +kernel
theorem dX5_costBelow_49 : decode cX5_costBelow 49 = .ok (.aload_n 0, 1) := by decide +kernel
theorem dX5_costBelow_50 : decode cX5_costBelow 50 = .ok (.getfield 26, 3) := by decide +kernel
theorem dX5_costBelow_53 : decode cX5_costBelow 53 = .ok (.aload_n 1, 1) := by decide +kernel
theorem dX5_costBelow_54 : decode cX5_costBelow 54 = .ok (.iload 8, 2) := by decide +kernel
theorem dX5_costBelow_56 : decode cX5_costBelow 56 = .ok (.aload 7, 2) := by decide +kernel
theorem dX5_costBelow_58 : decode cX5_costBelow 58 = .ok (.iload 8, 2) := by decide +kernel
theorem dX5_costBelow_60 : decode cX5_costBelow 60 = .ok (.iaload, 1) := by decide +kernel
theorem dX5_costBelow_61 : decode cX5_costBelow 61 = .ok (.invokevirtual 55, 3) := by decide +kernel
theorem dX5_costBelow_64 : decode cX5_costBelow 64 = .ok (.iload 5, 2) := by decide +kernel
theorem dX5_costBelow_66 : decode cX5_costBelow 66 = .ok (.aload_n 0, 1) := by decide +kernel
theorem dX5_costBelow_67 : decode cX5_costBelow 67 = .ok (.getfield 26, 3) := by decide +kernel
theorem dX5_costBelow_70 : decode cX5_costBelow 70 = .ok (.getfield 75, 3) := by decide +kernel
theorem dX5_costBelow_73 : decode cX5_costBelow 73 = .ok (.iadd, 1) := by decide +kernel
theorem dX5_costBelow_74 : decode cX5_costBelow 74 = .ok (.istore 5, 2) := by decide +kernel
theorem dX5_costBelow_76 : decode cX5_costBelow 76 = .ok (.iload 5, 2) := by decide +kernel
theorem dX5_costBelow_78 : decode cX5_costBelow 78 = .ok (.iload 4, 2) := by decide +kernel
theorem dX5_costBelow_80 : decode cX5_costBelow 80 = .ok (.if_icmp .lt 6, 3) := by decide +kernel
theorem dX5_costBelow_83 : decode cX5_costBelow 83 = .ok (.iload 4, 2) := by decide +kernel
theorem dX5_costBelow_85 : decode cX5_costBelow 85 = .ok (.ireturn, 1) := by decide +kernel
theorem dX5_costBelow_86 : decode cX5_costBelow 86 = .ok (.iinc 8 1, 3) := by decide +kernel
theorem dX5_costBelow_89 : decode cX5_costBelow 89 = .ok (.goto (-47), 3) := by decide +kernel
theorem dX5_costBelow_92 : decode cX5_costBelow 92 = .ok (.iinc 6 1, 3) := by decide +kernel
theorem dX5_costBelow_95 : decode cX5_costBelow 95 = .ok (.goto (-80), 3) := by decide +kernel
theorem dX5_costBelow_98 : decode cX5_costBelow 98 = .ok (.iload 5, 2) := by decide +kernel
theorem dX5_costBelow_100 : decode cX5_costBelow 100 = .ok (.ireturn, 1) := by decide +kernel
theorem dX6_init_0 : decode cX6_init 0 = .ok (.aload_n 0, 1) := by decide +kernel
theorem dX6_init_1 : decode cX6_init 1 = .ok (.invokespecial 3, 3) := by decide +kernel
theorem dX6_init_4 : decode cX6_init 4 = .ok (.aload_n 0, 1) := by decide +kernel
theorem dX6_init_5 : decode cX6_init 5 = .ok (.iconst 3, 1) := by decide +kernel
theorem dX6_init_6 : decode cX6_init 6 = .ok (.newarray .int, 2) := by decide +kernel
theorem dX6_init_8 : decode cX6_init 8 = .ok (.putfield 9, 3) := by decide +kernel
theorem dX6_init_11 : decode cX6_init 11 = .ok (.aload_n 0, 1) := by decide +kernel
theorem dX6_init_12 : decode cX6_init 12 = .ok (.aload_n 1, 1) := by decide +kernel
theorem dX6_init_13 : decode cX6_init 13 = .ok (.putfield 15, 3) := by decide +kernel
theorem dX6_init_16 : decode cX6_init 16 = .ok (.aload_n 0, 1) := by decide +kernel
theorem dX6_init_17 : decode cX6_init 17 = .ok (.aload_n 2, 1) := by decide +kernel
theorem dX6_init_18 : decode cX6_init 18 = .ok (.putfield 19, 3) := by decide +kernel
theorem dX6_init_21 : decode cX6_init 21 = .ok (.return_, 1) := by decide +kernel
theorem dX6_startFull_0 : decode cX6_startFull 0 = .ok (.aload_n 0, 1) := by decide +kernel
theorem dX6_startFull_1 : decode cX6_startFull 1 = .ok (.iload_n 1, 1) := by decide +kernel
theorem dX6_startFull_2 : decode cX6_startFull 2 = .ok (.putfield 23, 3) := by decide +kernel
theorem dX6_startFull_5 : decode cX6_startFull 5 = .ok (.aload_n 0, 1) := by decide +kernel
theorem dX6_startFull_6 : decode cX6_startFull 6 = .ok (.iload_n 2, 1) := by decide +kernel
theorem dX6_startFull_7 : decode cX6_startFull 7 = .ok (.putfield 27, 3) := by decide +kernel
theorem dX6_startFull_10 : decode cX6_startFull 10 = .ok (.aload_n 0, 1) := by decide +kernel
theorem dX6_startFull_11 : decode cX6_startFull 11 = .ok (.aload_n 0, 1) := by decide +kernel
theorem dX6_startFull_12 : decode cX6_startFull 12 = .ok (.getfield 15, 3) := by decide +kernel
theorem dX6_startFull_15 : decode cX6_startFull 15 = .ok (.getfield 30, 3) := by decide +kernel
theorem dX6_startFull_18 : decode cX6_startFull 18 = .ok (.iconst 4, 1) := by decide +kernel
theorem dX6_startFull_19 : decode cX6_startFull 19 = .ok (.iaload, 1) := by decide +kernel
theorem dX6_startFull_20 : decode cX6_startFull 20 = .ok (.putfield 35, 3) := by decide +kernel
theorem dX6_startFull_23 : decode cX6_startFull 23 = .ok (.aload_n 0, 1) := by decide +kernel
theorem dX6_startFull_24 : decode cX6_startFull 24 = .ok (.iload_n 2, 1) := by decide +kernel
theorem dX6_startFull_25 : decode cX6_startFull 25 = .ok (.putfield 38, 3) := by decide +kernel
theorem dX6_startFull_28 : decode cX6_startFull 28 = .ok (.aload_n 0, 1) := by decide +kernel
theorem dX6_startFull_29 : decode cX6_startFull 29 = .ok (.iconst 1, 1) := by decide +kernel
theorem dX6_startFull_30 : decode cX6_startFull 30 = .ok (.putfield 41, 3) := by decide +kernel
theorem dX6_startFull_33 : decode cX6_startFull 33 = .ok (.return_, 1) := by decide +kernel
theorem dX6_pass_0 : decode cX6_pass 0 = .ok (.aload_n 0, 1) := by decide +kernel
theorem dX6_pass_1 : decode cX6_pass 1 = .ok (.aload_n 0, 1) := by decide +kernel
theorem dX6_pass_2 : decode cX6_pass 2 = .ok (.getfield 15, 3) := by decide +kernel
theorem dX6_pass_5 : decode cX6_pass 5 = .ok (.aload_n 0, 1) := by decide +kernel
theorem dX6_pass_6 : decode cX6_pass 6 = .ok (.getfield 23, 3) := by decide +kernel
theorem dX6_pass_9 : decode cX6_pass 9 = .ok (.iload_n 3, 1) := by decide +kernel
theorem dX6_pass_10 : decode cX6_pass 10 = .ok (.aload_n 0, 1) := by decide +kernel
theorem dX6_pass_11 : decode cX6_pass 11 = .ok (.getfield 41, 3) := by decide +kernel
theorem dX6_pass_14 : decode cX6_pass 14 = .ok (.invokevirtual 45, 3) := by decide +kernel
theorem dX6_pass_17 : decode cX6_pass 17 = .ok (.putfield 49, 3) := by decide +kernel
theorem dX6_pass_20 : decode cX6_pass 20 = .ok (.aload_n 0, 1) := by decide +kernel
theorem dX6_pass_21 : decode cX6_pass 21 = .ok (.iload_n 3, 1) := by decide +kernel
theorem dX6_pass_22 : decode cX6_pass 22 = .ok (.ifCond .le 7, 3) := by decide +kernel
theorem dX6_pass_25 : decode cX6_pass 25 = .ok (.iconst 1, 1) := by decide +kernel
theorem dX6_pass_26 : decode cX6_pass 26 = .ok (.goto 4, 3) := by decide +kernel
theorem dX6_pass_29 : decode cX6_pass 29 = .ok (.iconst 0, 1) := by decide +kernel
theorem dX6_pass_30 : decode cX6_pass 30 = .ok (.putfield 41, 3) := by decide +kernel
theorem dX6_pass_33 : decode cX6_pass 33 = .ok (.aload_n 0, 1) := by decide +kernel
theorem dX6_pass_34 : decode cX6_pass 34 = .ok (.dup, 1) := by decide +kernel
theorem dX6_pass_35 : decode cX6_pass 35 = .ok (.getfield 38, 3) := by decide +kernel
theorem dX6_pass_38 : decode cX6_pass 38 = .ok (.aload_n 0, 1) := by decide +kernel
theorem dX6_pass_39 : decode cX6_pass 39 = .ok (.getfield 49, 3) := by decide +kernel
theorem dX6_pass_42 : decode cX6_pass 42 = .ok (.iadd, 1) := by decide +kernel
theorem dX6_pass_43 : decode cX6_pass 43 = .ok (.putfield 38, 3) := by decide +kernel
theorem dX6_pass_46 : decode cX6_pass 46 = .ok (.aload_n 0, 1) := by decide +kernel
theorem dX6_pass_47 : decode cX6_pass 47 = .ok (.aload_n 0, 1) := by decide +kernel
theorem dX6_pass_48 : decode cX6_pass 48 = .ok (.getfield 38, 3) := by decide +kernel
theorem dX6_pass_51 : decode cX6_pass 51 = .ok (.aload_n 0, 1) := by decide +kernel
theorem dX6_pass_52 : decode cX6_pass 52 = .ok (.getfield 27, 3) := by decide +kernel
theorem dX6_pass_55 : decode cX6_pass 55 = .ok (.if_icmp .le 15, 3) := by decide +kernel
theorem dX6_pass_58 : decode cX6_pass 58 = .ok (.aload_n 0, 1) := by decide +kernel
theorem dX6_pass_59 : decode cX6_pass 59 = .ok (.getfield 38, 3) := by decide +kernel
theorem dX6_pass_62 : decode cX6_pass 62 = .ok (.aload_n 0, 1) := by decide +kernel
theorem dX6_pass_63 : decode cX6_pass 63 = .ok (.getfield 27, 3) := by decide +kernel
theorem dX6_pass_66 : decode cX6_pass 66 = .ok (.isub, 1) := by decide +kernel
theorem dX6_pass_67 : decode cX6_pass 67 = .ok (.goto 4, 3) := by decide +kernel
theorem dX6_pass_70 : decode cX6_pass 70 = .ok (.iconst 0, 1) := by decide +kernel
theorem dX6_pass_71 : decode cX6_pass 71 = .ok (.putfield 52, 3) := by decide +kernel
theorem dX6_pass_74 : decode cX6_pass 74 = .ok (.aload_n 0, 1) := by decide +kernel
theorem dX6_pass_75 : decode cX6_pass 75 = .ok (.dup, 1) := by decide +kernel
theorem dX6_pass_76 : decode cX6_pass 76 = .ok (.getfield 38, 3) := by decide +kernel
theorem dX6_pass_79 : decode cX6_pass 79 = .ok (.aload_n 0, 1) := by decide +kernel
theorem dX6_pass_80 : decode cX6_pass 80 = .ok (.getfield 52, 3) := by decide +kernel
theorem dX6_pass_83 : decode cX6_pass 83 = .ok (.isub, 1) := by decide +kernel
theorem dX6_pass_84 : decode cX6_pass 84 = .ok (.putfield 38, 3) := by decide +kernel
theorem dX6_pass_87 : decode cX6_pass 87 = .ok (.aload_n 0, 1) := by decide +kernel
theorem dX6_pass_88 : decode cX6_pass 88 = .ok (.aload_n 0, 1) := by decide +kernel
theorem dX6_pass_89 : decode cX6_pass 89 = .ok (.getfield 38, 3) := by decide +kernel
theorem dX6_pass_92 : decode cX6_pass 92 = .ok (.aload_n 0, 1) := by decide +kernel
theorem dX6_pass_93 : decode cX6_pass 93 = .ok (.getfield 35, 3) := by decide +kernel
theorem dX6_pass_96 : decode cX6_pass 96 = .ok (.if_icmp .ge 10, 3) := by decide +kernel
theorem dX6_pass_99 : decode cX6_pass 99 = .ok (.aload_n 0, 1) := by decide +kernel
theorem dX6_pass_100 : decode cX6_pass 100 = .ok (.getfield 38, 3) := by decide +kernel
theorem dX6_pass_103 : decode cX6_pass 103 = .ok (.goto 7, 3) := by decide +kernel
theorem dX6_pass_106 : decode cX6_pass 106 = .ok (.aload_n 0, 1) := by decide +kernel
theorem dX6_pass_107 : decode cX6_pass 107 = .ok (.getfield 35, 3) := by decide +kernel
theorem dX6_pass_110 : decode cX6_pass 110 = .ok (.putfield 55, 3) := by decide +kernel
theorem dX6_pass_113 : decode cX6_pass 113 = .ok (.aload_n 0, 1) := by decide +kernel
theorem dX6_pass_114 : decode cX6_pass 114 = .ok (.dup, 1) := by decide +kernel
theorem dX6_pass_115 : decode cX6_pass 115 = .ok (.getfield 38, 3) := by decide +kernel
theorem dX6_pass_118 : decode cX6_pass 118 = .ok (.aload_n 0, 1) := by decide +kernel
theorem dX6_pass_119 : decode cX6_pass 119 = .ok (.getfield 55, 3) := by decide +kernel
theorem dX6_pass_122 : decode cX6_pass 122 = .ok (.isub, 1) := by decide +kernel
theorem dX6_pass_123 : decode cX6_pass 123 = .ok (.putfield 38, 3) := by decide +kernel
theorem dX6_pass_126 : decode cX6_pass 126 = .ok (.aload_n 0, 1) := by decide +kernel
theorem dX6_pass_127 : decode cX6_pass 127 = .ok (.aload_n 1, 1) := by decide +kernel
theorem dX6_pass_128 : decode cX6_pass 128 = .ok (.iload_n 2, 1) := by decide +kernel
theorem dX6_pass_129 : decode cX6_pass 129 = .ok (.invokevirtual 58, 3) := by decide +kernel
theorem dX6_pass_132 : decode cX6_pass 132 = .ok (.return_, 1) := by decide +kernel
theorem dX6_pumpAndDraw_0 : decode cX6_pumpAndDraw 0 = .ok (.aload_n 0, 1) := by decide +kernel
theorem dX6_pumpAndDraw_1 : decode cX6_pumpAndDraw 1 = .ok (.aload_n 1, 1) := by decide +kernel
theorem dX6_pumpAndDraw_2 : decode cX6_pumpAndDraw 2 = .ok (.iload_n 2, 1) := by decide +kernel
theorem dX6_pumpAndDraw_3 : decode cX6_pumpAndDraw 3 = .ok (.invokevirtual 62, 3) := by decide +kernel
theorem dX6_pumpAndDraw_6 : decode cX6_pumpAndDraw 6 = .ok (.istore_n 3, 1) := by decide +kernel
theorem dX6_pumpAndDraw_7 : decode cX6_pumpAndDraw 7 = .ok (.aload_n 1, 1) := by decide +kernel
theorem dX6_pumpAndDraw_8 : decode cX6_pumpAndDraw 8 = .ok (.getfield 66, 3) := by decide +kernel
theorem dX6_pumpAndDraw_11 : decode cX6_pumpAndDraw 11 = .ok (.iconst 1, 1) := by decide +kernel
theorem dX6_pumpAndDraw_12 : decode cX6_pumpAndDraw 12 = .ok (.if_icmp .ne 18, 3) := by decide +kernel
theorem dX6_pumpAndDraw_15 : decode cX6_pumpAndDraw 15 = .ok (.aload_n 0, 1) := by decide +kernel
theorem dX6_pumpAndDraw_16 : decode cX6_pumpAndDraw 16 = .ok (.getfield 38, 3) := by decide +kernel
theorem dX6_pumpAndDraw_19 : decode cX6_pumpAndDraw 19 = .ok (.aload_n 1, 1) := by decide +kernel
theorem dX6_pumpAndDraw_20 : decode cX6_pumpAndDraw 20 = .ok (.getfield 71, 3) := by decide +kernel
theorem dX6_pumpAndDraw_23 : decode cX6_pumpAndDraw 23 = .ok (.if_icmp .ge 7, 3) := by decide +kernel
theorem dX6_pumpAndDraw_26 : decode cX6_pumpAndDraw 26 = .ok (.iconst 1, 1) := by decide +kernel
theorem dX6_pumpAndDraw_27 : decode cX6_pumpAndDraw 27 = .ok (.goto 4, 3) := by decide +kernel
theorem dX6_pumpAndDraw_30 : decode cX6_pumpAndDraw 30 = .ok (.iconst 0, 1) := by decide +kernel
theorem dX6_pumpAndDraw_31 : decode cX6_pumpAndDraw 31 = .ok (.istore 4, 2) := by decide +kernel
theorem dX6_pumpAndDraw_33 : decode cX6_pumpAndDraw 33 = .ok (.aload_n 1, 1) := by decide +kernel
theorem dX6_pumpAndDraw_34 : decode cX6_pumpAndDraw 34 = .ok (.invokevirtual 74, 3) := by decide +kernel
theorem dX6_pumpAndDraw_37 : decode cX6_pumpAndDraw 37 = .ok (.istore 5, 2) := by decide +kernel
theorem dX6_pumpAndDraw_39 : decode cX6_pumpAndDraw 39 = .ok (.aload_n 0, 1) := by decide +kernel
theorem dX6_pumpAndDraw_40 : decode cX6_pumpAndDraw 40 = .ok (.iconst 0, 1) := by decide +kernel
theorem dX6_pumpAndDraw_41 : decode cX6_pumpAndDraw 41 = .ok (.putfield 78, 3) := by decide +kernel
theorem dX6_pumpAndDraw_44 : decode cX6_pumpAndDraw 44 = .ok (.aload_n 0, 1) := by decide +kernel
theorem dX6_pumpAndDraw_45 : decode cX6_pumpAndDraw 45 = .ok (.iconst 0, 1) := by decide +kernel
theorem dX6_pumpAndDraw_46 : decode cX6_pumpAndDraw 46 = .ok (.putfield 81, 3) := by decide +kernel
theorem dX6_pumpAndDraw_49 : decode cX6_pumpAndDraw 49 = .ok (.aload_n 0, 1) := by decide +kernel
theorem dX6_pumpAndDraw_50 : decode cX6_pumpAndDraw 50 = .ok (.aload_n 0, 1) := by decide +kernel
theorem dX6_pumpAndDraw_51 : decode cX6_pumpAndDraw 51 = .ok (.getfield 84, 3) := by decide +kernel
theorem dX6_pumpAndDraw_54 : decode cX6_pumpAndDraw 54 = .ok (.aload_n 0, 1) := by decide +kernel
theorem dX6_pumpAndDraw_55 : decode cX6_pumpAndDraw 55 = .ok (.getfield 15, 3) := by decide +kernel
theorem dX6_pumpAndDraw_58 : decode cX6_pumpAndDraw 58 = .ok (.getfield 30, 3) := by decide +kernel
theorem dX6_pumpAndDraw_61 : decode cX6_pumpAndDraw 61 = .ok (.bipush 6, 2) := by decide +kernel
theorem dX6_pumpAndDraw_63 : decode cX6_pumpAndDraw 63 = .ok (.iaload, 1) := by decide +kernel
theorem dX6_pumpAndDraw_64 : decode cX6_pumpAndDraw 64 = .ok (.imul, 1) := by decide +kernel
theorem dX6_pumpAndDraw_65 : decode cX6_pumpAndDraw 65 = .ok (.putfield 87, 3) := by decide +kernel
theorem dX6_pumpAndDraw_68 : decode cX6_pumpAndDraw 68 = .ok (.iconst 0, 1) := by decide +kernel
theorem dX6_pumpAndDraw_69 : decode cX6_pumpAndDraw 69 = .ok (.istore 6, 2) := by decide +kernel
theorem dX6_pumpAndDraw_71 : decode cX6_pumpAndDraw 71 = .ok (.iload 6, 2) := by decide +kernel
theorem dX6_pumpAndDraw_73 : decode cX6_pumpAndDraw 73 = .ok (.aload_n 0, 1) := by decide +kernel
theorem dX6_pumpAndDraw_74 : decode cX6_pumpAndDraw 74 = .ok (.getfield 15, 3) := by decide +kernel
theorem dX6_pumpAndDraw_77 : decode cX6_pumpAndDraw 77 = .ok (.getfield 90, 3) := by decide +kernel
theorem dX6_pumpAndDraw_80 : decode cX6_pumpAndDraw 80 = .ok (.if_icmp .ge 140, 3) := by decide +kernel
theorem dX6_pumpAndDraw_83 : decode cX6_pumpAndDraw 83 = .ok (.iload 5, 2) := by decide +kernel
theorem dX6_pumpAndDraw_85 : decode cX6_pumpAndDraw 85 = .ok (.ifCond .eq 16, 3) := by decide +kernel
theorem dX6_pumpAndDraw_88 : decode cX6_pumpAndDraw 88 = .ok (.aload_n 0, 1) := by decide +kernel
theorem dX6_pumpAndDraw_89 : decode cX6_pumpAndDraw 89 = .ok (.getfield 15, 3) := by decide +kernel
theorem dX6_pumpAndDraw_92 : decode cX6_pumpAndDraw 92 = .ok (.getfield 93, 3) := by decide +kernel
theorem dX6_pumpAndDraw_95 : decode cX6_pumpAndDraw 95 = .ok (.iload 6, 2) := by decide +kernel
theorem dX6_pumpAndDraw_97 : decode cX6_pumpAndDraw 97 = .ok (.iaload, 1) := by decide +kernel
theorem dX6_pumpAndDraw_98 : decode cX6_pumpAndDraw 98 = .ok (.goto 5, 3) := by decide +kernel
theorem dX6_pumpAndDraw_101 : decode cX6_pumpAndDraw 101 = .ok (.iload 6, 2) := by decide +kernel
theorem dX6_pumpAndDraw_103 : decode cX6_pumpAndDraw 103 = .ok (.istore 7, 2) := by decide +kernel
theorem dX6_pumpAndDraw_105 : decode cX6_pumpAndDraw 105 = .ok (.aload_n 0, 1) := by decide +kernel
theorem dX6_pumpAndDraw_106 : decode cX6_pumpAndDraw 106 = .ok (.getfield 15, 3) := by decide +kernel
theorem dX6_pumpAndDraw_109 : decode cX6_pumpAndDraw 109 = .ok (.iload 7, 2) := by decide +kernel
theorem dX6_pumpAndDraw_111 : decode cX6_pumpAndDraw 111 = .ok (.iload_n 2, 1) := by decide +kernel
theorem dX6_pumpAndDraw_112 : decode cX6_pumpAndDraw 112 = .ok (.invokevirtual 96, 3) := by decide +kernel
theorem dX6_pumpAndDraw_115 : decode cX6_pumpAndDraw 115 = .ok (.istore 8, 2) := by decide +kernel
theorem dX6_pumpAndDraw_117 : decode cX6_pumpAndDraw 117 = .ok (.iload 4, 2) := by decide +kernel
theorem dX6_pumpAndDraw_119 : decode cX6_pumpAndDraw 119 = .ok (.ifCond .eq 10, 3) := by decide +kernel
theorem dX6_pumpAndDraw_122 : decode cX6_pumpAndDraw 122 = .ok (.iload 8, 2) := by decide +kernel
theorem dX6_pumpAndDraw_124 : decode cX6_pumpAndDraw 124 = .ok (.iconst 2, 1) := by decide +kernel
theorem dX6_pumpAndDraw_125 : decode cX6_pumpAndDraw 125 = .ok (.idiv, 1) := by decide +kernel
theorem dX6_pumpAndDraw_126 : decode cX6_pumpAndDraw 126 = .ok (.goto 5, 3) := by decide +kernel
theorem dX6_pumpAndDraw_129 : decode cX6_pumpAndDraw 129 = .ok (.iload 8, 2) := by decide +kernel
theorem dX6_pumpAndDraw_131 : decode cX6_pumpAndDraw 131 = .ok (.istore 9, 2) := by decide +kernel
theorem dX6_pumpAndDraw_133 : decode cX6_pumpAndDraw 133 = .ok (.iload 9, 2) := by decide +kernel
theorem dX6_pumpAndDraw_135 : decode cX6_pumpAndDraw 135 = .ok (.iload_n 3, 1) := by decide +kernel
theorem dX6_pumpAndDraw_136 : decode cX6_pumpAndDraw 136 = .ok (.if_icmp .ge 8, 3) := by decide +kernel
theorem dX6_pumpAndDraw_139 : decode cX6_pumpAndDraw 139 = .ok (.iload 9, 2) := by decide +kernel
theorem dX6_pumpAndDraw_141 : decode cX6_pumpAndDraw 141 = .ok (.goto 4, 3) := by decide +kernel
theorem dX6_pumpAndDraw_144 : decode cX6_pumpAndDraw 144 = .ok (.iload_n 3, 1) := by decide +kernel
theorem dX6_pumpAndDraw_145 : decode cX6_pumpAndDraw 145 = .ok (.istore 9, 2) := by decide +kernel
theorem dX6_pumpAndDraw_147 : decode cX6_pumpAndDraw 147 = .ok (.iload_n 3, 1) := by decide +kernel
theorem dX6_pumpAndDraw_148 : decode cX6_pumpAndDraw 148 = .ok (.iload 9, 2) := by decide +kernel
theorem dX6_pumpAndDraw_150 : decode cX6_pumpAndDraw 150 = .ok (.isub, 1) := by decide +kernel
theorem dX6_pumpAndDraw_151 : decode cX6_pumpAndDraw 151 = .ok (.istore_n 3, 1) := by decide +kernel
theorem dX6_pumpAndDraw_152 : decode cX6_pumpAndDraw 152 = .ok (.aload_n 0, 1) := by decide +kernel
theorem dX6_pumpAndDraw_153 : decode cX6_pumpAndDraw 153 = .ok (.dup, 1) := by decide +kernel
theorem dX6_pumpAndDraw_154 : decode cX6_pumpAndDraw 154 = .ok (.getfield 78, 3) := by decide +kernel
theorem dX6_pumpAndDraw_157 : decode cX6_pumpAndDraw 157 = .ok (.iload 9, 2) := by decide +kernel
theorem dX6_pumpAndDraw_159 : decode cX6_pumpAndDraw 159 = .ok (.iadd, 1) := by decide +kernel
theorem dX6_pumpAndDraw_160 : decode cX6_pumpAndDraw 160 = .ok (.putfield 78, 3) := by decide +kernel
theorem dX6_pumpAndDraw_163 : decode cX6_pumpAndDraw 163 = .ok (.aload_n 0, 1) := by decide +kernel
theorem dX6_pumpAndDraw_164 : decode cX6_pumpAndDraw 164 = .ok (.getfield 9, 3) := by decide +kernel
theorem dX6_pumpAndDraw_167 : decode cX6_pumpAndDraw 167 = .ok (.iload 7, 2) := by decide +kernel
theorem dX6_pumpAndDraw_169 : decode cX6_pumpAndDraw 169 = .ok (.iload 8, 2) := by decide +kernel
theorem dX6_pumpAndDraw_171 : decode cX6_pumpAndDraw 171 = .ok (.iload 9, 2) := by decide +kernel
theorem dX6_pumpAndDraw_173 : decode cX6_pumpAndDraw 173 = .ok (.isub, 1) := by decide +kernel
theorem dX6_pumpAndDraw_174 : decode cX6_pumpAndDraw 174 = .ok (.iastore, 1) := by decide +kernel
theorem dX6_pumpAndDraw_175 : decode cX6_pumpAndDraw 175 = .ok (.aload_n 0, 1) := by decide +kernel
theorem dX6_pumpAndDraw_176 : decode cX6_pumpAndDraw 176 = .ok (.dup, 1) := by decide +kernel
theorem dX6_pumpAndDraw_177 : decode cX6_pumpAndDraw 177 = .ok (.getfield 81, 3) := by decide +kernel
theorem dX6_pumpAndDraw_180 : decode cX6_pumpAndDraw 180 = .ok (.iload 8, 2) := by decide +kernel
theorem dX6_pumpAndDraw_182 : decode cX6_pumpAndDraw 182 = .ok (.iload 9, 2) := by decide +kernel
theorem dX6_pumpAndDraw_184 : decode cX6_pumpAndDraw 184 = .ok (.isub, 1) := by decide +kernel
theorem dX6_pumpAndDraw_185 : decode cX6_pumpAndDraw 185 = .ok (.iadd, 1) := by decide +kernel
theorem dX6_pumpAndDraw_186 : decode cX6_pumpAndDraw 186 = .ok (.putfield 81, 3) := by decide +kernel
theorem dX6_pumpAndDraw_189 : decode cX6_pumpAndDraw 189 = .ok (.aload_n 0, 1) := by decide +kernel
theorem dX6_pumpAndDraw_190 : decode cX6_pumpAndDraw 190 = .ok (.dup, 1) := by decide +kernel
theorem dX6_pumpAndDraw_191 : decode cX6_pumpAndDraw 191 = .ok (.getfield 87, 3) := by decide +kernel
theorem dX6_pumpAndDraw_194 : decode cX6_pumpAndDraw 194 = .ok (.iload 8, 2) := by decide +kernel
theorem dX6_pumpAndDraw_196 : decode cX6_pumpAndDraw 196 = .ok (.iload 9, 2) := by decide +kernel
theorem dX6_pumpAndDraw_198 : decode cX6_pumpAndDraw 198 = .ok (.isub, 1) := by decide +kernel
theorem dX6_pumpAndDraw_199 : decode cX6_pumpAndDraw 199 = .ok (.aload_n 0, 1) := by decide +kernel
theorem dX6_pumpAndDraw_200 : decode cX6_pumpAndDraw 200 = .ok (.getfield 15, 3) := by decide +kernel
theorem dX6_pumpAndDraw_203 : decode cX6_pumpAndDraw 203 = .ok (.getfield 100, 3) := by decide +kernel
theorem dX6_pumpAndDraw_206 : decode cX6_pumpAndDraw 206 = .ok (.iload 7, 2) := by decide +kernel
theorem dX6_pumpAndDraw_208 : decode cX6_pumpAndDraw 208 = .ok (.iaload, 1) := by decide +kernel
theorem dX6_pumpAndDraw_209 : decode cX6_pumpAndDraw 209 = .ok (.imul, 1) := by decide +kernel
theorem dX6_pumpAndDraw_210 : decode cX6_pumpAndDraw 210 = .ok (.iadd, 1) := by decide +kernel
theorem dX6_pumpAndDraw_211 : decode cX6_pumpAndDraw 211 = .ok (.putfield 87, 3) := by decide +kernel
theorem dX6_pumpAndDraw_214 : decode cX6_pumpAndDraw 214 = .ok (.iinc 6 1, 3) := by decide +kernel
theorem dX6_pumpAndDraw_217 : decode cX6_pumpAndDraw 217 = .ok (.goto (-146), 3) := by decide +kernel
theorem dX6_pumpAndDraw_220 : decode cX6_pumpAndDraw 220 = .ok (.aload_n 0, 1) := by decide +kernel
theorem dX6_pumpAndDraw_221 : decode cX6_pumpAndDraw 221 = .ok (.dup, 1) := by decide +kernel
theorem dX6_pumpAndDraw_222 : decode cX6_pumpAndDraw 222 = .ok (.getfield 38, 3) := by decide +kernel
theorem dX6_pumpAndDraw_225 : decode cX6_pumpAndDraw 225 = .ok (.aload_n 0, 1) := by decide +kernel
theorem dX6_pumpAndDraw_226 : decode cX6_pumpAndDraw 226 = .ok (.getfield 78, 3) := by decide +kernel
theorem dX6_pumpAndDraw_229 : decode cX6_pumpAndDraw 229 = .ok (.isub, 1) := by decide +kernel
theorem dX6_pumpAndDraw_230 : decode cX6_pumpAndDraw 230 = .ok (.putfield 38, 3) := by decide +kernel
theorem dX6_pumpAndDraw_233 : decode cX6_pumpAndDraw 233 = .ok (.return_, 1) := by decide +kernel
theorem dX6_choosePumpedAndGiven_0 : decode cX6_choosePumpedAndGiven 0 = .ok (.aload_n 0, 1) := by decide +kernel
theorem dX6_choosePumpedAndGiven_1 : decode cX6_choosePumpedAndGiven 1 = .ok (.iconst 0, 1) := by decide +kernel
theorem dX6_choosePumpedAndGiven_2 : decode cX6_choosePumpedAndGiven 2 = .ok (.putfield 84, 3) := by decide +kernel
theorem dX6_choosePumpedAndGiven_5 : decode cX6_choosePumpedAndGiven 5 = .ok (.bipush 72, 2) := by decide +kernel
theorem dX6_choosePumpedAndGiven_7 : decode cX6_choosePumpedAndGiven 7 = .ok (.istore_n 3, 1) := by decide +kernel
theorem dX6_choosePumpedAndGiven_8 : decode cX6_choosePumpedAndGiven 8 = .ok (.aload_n 1, 1) := by decide +kernel
theorem dX6_choosePumpedAndGiven_9 : decode cX6_choosePumpedAndGiven 9 = .ok (.getfield 66, 3) := by decide +kernel
theorem dX6_choosePumpedAndGiven_12 : decode cX6_choosePumpedAndGiven 12 = .ok (.iconst 3, 1) := by decide +kernel
theorem dX6_choosePumpedAndGiven_13 : decode cX6_choosePumpedAndGiven 13 = .ok (.if_icmp .ne 48, 3) := by decide +kernel
theorem dX6_choosePumpedAndGiven_16 : decode cX6_choosePumpedAndGiven 16 = .ok (.aload_n 0, 1) := by decide +kernel
theorem dX6_choosePumpedAndGiven_17 : decode cX6_choosePumpedAndGiven 17 = .ok (.getfield 38, 3) := by decide +kernel
theorem dX6_choosePumpedAndGiven_20 : decode cX6_choosePumpedAndGiven 20 = .ok (.aload_n 0, 1) := by decide +kernel
theorem dX6_choosePumpedAndGiven_21 : decode cX6_choosePumpedAndGiven 21 = .ok (.getfield 41, 3) := by decide +kernel
theorem dX6_choosePumpedAndGiven_24 : decode cX6_choosePumpedAndGiven 24 = .ok (.invokestatic 103, 3) := by decide +kernel
theorem dX6_choosePumpedAndGiven_27 : decode cX6_choosePumpedAndGiven 27 = .ok (.istore 4, 2) := by decide +kernel
theorem dX6_choosePumpedAndGiven_29 : decode cX6_choosePumpedAndGiven 29 = .ok (.aload_n 0, 1) := by decide +kernel
theorem dX6_choosePumpedAndGiven_30 : decode cX6_choosePumpedAndGiven 30 = .ok (.aload_n 0, 1) := by decide +kernel
theorem dX6_choosePumpedAndGiven_31 : decode cX6_choosePumpedAndGiven 31 = .ok (.getfield 19, 3) := by decide +kernel
theorem dX6_choosePumpedAndGiven_34 : decode cX6_choosePumpedAndGiven 34 = .ok (.getfield 107, 3) := by decide +kernel
theorem dX6_choosePumpedAndGiven_37 : decode cX6_choosePumpedAndGiven 37 = .ok (.iload_n 2, 1) := by decide +kernel
theorem dX6_choosePumpedAndGiven_38 : decode cX6_choosePumpedAndGiven 38 = .ok (.aaload, 1) := by decide +kernel
theorem dX6_choosePumpedAndGiven_39 : decode cX6_choosePumpedAndGiven 39 = .ok (.iload 4, 2) := by decide +kernel
theorem dX6_choosePumpedAndGiven_41 : decode cX6_choosePumpedAndGiven 41 = .ok (.iaload, 1) := by decide +kernel
theorem dX6_choosePumpedAndGiven_42 : decode cX6_choosePumpedAndGiven 42 = .ok (.putfield 84, 3) := by decide +kernel
theorem dX6_choosePumpedAndGiven_45 : decode cX6_choosePumpedAndGiven 45 = .ok (.aload_n 0, 1) := by decide +kernel
theorem dX6_choosePumpedAndGiven_46 : decode cX6_choosePumpedAndGiven 46 = .ok (.getfield 19, 3) := by decide +kernel
theorem dX6_choosePumpedAndGiven_49 : decode cX6_choosePumpedAndGiven 49 = .ok (.getfield 113, 3) := by decide +kernel
theorem dX6_choosePumpedAndGiven_52 : decode cX6_choosePumpedAndGiven 52 = .ok (.iload_n 2, 1) := by decide +kernel
theorem dX6_choosePumpedAndGiven_53 : decode cX6_choosePumpedAndGiven 53 = .ok (.aaload, 1) := by decide +kernel
theorem dX6_choosePumpedAndGiven_54 : decode cX6_choosePumpedAndGiven 54 = .ok (.iload 4, 2) := by decide +kernel
theorem dX6_choosePumpedAndGiven_56 : decode cX6_choosePumpedAndGiven 56 = .ok (.iaload, 1) := by decide +kernel
theorem dX6_choosePumpedAndGiven_57 : decode cX6_choosePumpedAndGiven 57 = .ok (.istore_n 3, 1) := by decide +kernel
theorem dX6_choosePumpedAndGiven_58 : decode cX6_choosePumpedAndGiven 58 = .ok (.goto 64, 3) := by decide +kernel
theorem dX6_choosePumpedAndGiven_61 : decode cX6_choosePumpedAndGiven 61 = .ok (.aload_n 1, 1) := by decide +kernel
theorem dX6_choosePumpedAndGiven_62 : decode cX6_choosePumpedAndGiven 62 = .ok (.getfield 66, 3) := by decide +kernel
theorem dX6_choosePumpedAndGiven_65 : decode cX6_choosePumpedAndGiven 65 = .ok (.iconst 4, 1) := by decide +kernel
theorem dX6_choosePumpedAndGiven_66 : decode cX6_choosePumpedAndGiven 66 = .ok (.if_icmp .ne 41, 3) := by decide +kernel
theorem dX6_choosePumpedAndGiven_69 : decode cX6_choosePumpedAndGiven 69 = .ok (.aload_n 0, 1) := by decide +kernel
theorem dX6_choosePumpedAndGiven_70 : decode cX6_choosePumpedAndGiven 70 = .ok (.getfield 38, 3) := by decide +kernel
theorem dX6_choosePumpedAndGiven_73 : decode cX6_choosePumpedAndGiven 73 = .ok (.aload_n 1, 1) := by decide +kernel
theorem dX6_choosePumpedAndGiven_74 : decode cX6_choosePumpedAndGiven 74 = .ok (.getfield 71, 3) := by decide +kernel
theorem dX6_choosePumpedAndGiven_77 : decode cX6_choosePumpedAndGiven 77 = .ok (.if_icmp .ge 30, 3) := by decide +kernel
theorem dX6_choosePumpedAndGiven_80 : decode cX6_choosePumpedAndGiven 80 = .ok (.aload_n 0, 1) := by decide +kernel
theorem dX6_choosePumpedAndGiven_81 : decode cX6_choosePumpedAndGiven 81 = .ok (.aload_n 0, 1) := by decide +kernel
theorem dX6_choosePumpedAndGiven_82 : decode cX6_choosePumpedAndGiven 82 = .ok (.getfield 15, 3) := by decide +kernel
theorem dX6_choosePumpedAndGiven_85 : decode cX6_choosePumpedAndGiven 85 = .ok (.iload_n 2, 1) := by decide +kernel
theorem dX6_choosePumpedAndGiven_86 : decode cX6_choosePumpedAndGiven 86 = .ok (.invokevirtual 116, 3) := by decide +kernel
theorem dX6_choosePumpedAndGiven_89 : decode cX6_choosePumpedAndGiven 89 = .ok (.aload_n 0, 1) := by decide +kernel
theorem dX6_choosePumpedAndGiven_90 : decode cX6_choosePumpedAndGiven 90 = .ok (.getfield 27, 3) := by decide +kernel
theorem dX6_choosePumpedAndGiven_93 : decode cX6_choosePumpedAndGiven 93 = .ok (.aload_n 0, 1) := by decide +kernel
theorem dX6_choosePumpedAndGiven_94 : decode cX6_choosePumpedAndGiven 94 = .ok (.getfield 38, 3) := by decide +kernel
theorem dX6_choosePumpedAndGiven_97 : decode cX6_choosePumpedAndGiven 97 = .ok (.isub, 1) := by decide +kernel
theorem dX6_choosePumpedAndGiven_98 : decode cX6_choosePumpedAndGiven 98 = .ok (.invokestatic 120, 3) := by decide +kernel
theorem dX6_choosePumpedAndGiven_101 : decode cX6_choosePumpedAndGiven 101 = .ok (.putfield 84, 3) := by decide +kernel
theorem dX6_choosePumpedAndGiven_104 : decode cX6_choosePumpedAndGiven 104 = .ok (.goto 18, 3) := by decide +kernel
theorem dX6_choosePumpedAndGiven_107 : decode cX6_choosePumpedAndGiven 107 = .ok (.aload_n 1, 1) := by decide +kernel
theorem dX6_choosePumpedAndGiven_108 : decode cX6_choosePumpedAndGiven 108 = .ok (.getfield 66, 3) := by decide +kernel
theorem dX6_choosePumpedAndGiven_111 : decode cX6_choosePumpedAndGiven 111 = .ok (.iconst 5, 1) := by decide +kernel
theorem dX6_choosePumpedAndGiven_112 : decode cX6_choosePumpedAndGiven 112 = .ok (.if_icmp .ne 10, 3) := by decide +kernel
theorem dX6_choosePumpedAndGiven_115 : decode cX6_choosePumpedAndGiven 115 = .ok (.aload_n 1, 1) := by decide +kernel
theorem dX6_choosePumpedAndGiven_116 : decode cX6_choosePumpedAndGiven 116 = .ok (.getfield 125, 3) := by decide +kernel
theorem dX6_choosePumpedAndGiven_119 : decode cX6_choosePumpedAndGiven 119 = .ok (.iload_n 2, 1) := by decide +kernel
theorem dX6_choosePumpedAndGiven_120 : decode cX6_choosePumpedAndGiven 120 = .ok (.iaload, 1) := by decide +kernel
theorem dX6_choosePumpedAndGiven_121 : decode cX6_choosePumpedAndGiven 121 = .ok (.istore_n 3, 1) := by decide +kernel
theorem dX6_choosePumpedAndGiven_122 : decode cX6_choosePumpedAndGiven 122 = .ok (.aload_n 0, 1) := by decide +kernel
theorem dX6_choosePumpedAndGiven_123 : decode cX6_choosePumpedAndGiven 123 = .ok (.dup, 1) := by decide +kernel
theorem dX6_choosePumpedAndGiven_124 : decode cX6_choosePumpedAndGiven 124 = .ok (.getfield 38, 3) := by decide +kernel
theorem dX6_choosePumpedAndGiven_127 : decode cX6_choosePumpedAndGiven 127 = .ok (.aload_n 0, 1) := by decide +kernel
theorem dX6_choosePumpedAndGiven_128 : decode cX6_choosePumpedAndGiven 128 = .ok (.getfield 84, 3) := by decide +kernel
theorem dX6_choosePumpedAndGiven_131 : decode cX6_choosePumpedAndGiven 131 = .ok (.iadd, 1) := by decide +kernel
theorem dX6_choosePumpedAndGiven_132 : decode cX6_choosePumpedAndGiven 132 = .ok (.putfield 38, 3) := by decide +kernel
theorem dX6_choosePumpedAndGiven_135 : decode cX6_choosePumpedAndGiven 135 = .ok (.iload_n 3, 1) := by decide +kernel
theorem dX6_choosePumpedAndGiven_136 : decode cX6_choosePumpedAndGiven 136 = .ok (.aload_n 0, 1) := by decide +kernel
theorem dX6_choosePumpedAndGiven_137 : decode cX6_choosePumpedAndGiven 137 = .ok (.getfield 38, 3) := by decide +kernel
theorem dX6_choosePumpedAndGiven_140 : decode cX6_choosePumpedAndGiven 140 = .ok (.if_icmp .ge 7, 3) := by decide +kernel
theorem dX6_choosePumpedAndGiven_143 : decode cX6_choosePumpedAndGiven 143 = .ok (.iload_n 3, 1) := by decide +kernel
theorem dX6_choosePumpedAndGiven_144 : decode cX6_choosePumpedAndGiven 144 = .ok (.goto 7, 3) := by decide +kernel
theorem dX6_choosePumpedAndGiven_147 : decode cX6_choosePumpedAndGiven 147 = .ok (.aload_n 0, 1) := by decide +kernel
theorem dX6_choosePumpedAndGiven_148 : decode cX6_choosePumpedAndGiven 148 = .ok (.getfield 38, 3) := by decide +kernel
theorem dX6_choosePumpedAndGiven_151 : decode cX6_choosePumpedAndGiven 151 = .ok (.ireturn, 1) := by decide +kernel
theorem dX6_told_0 : decode cX6_told 0 = .ok (.iload_n 1, 1) := by decide +kernel
theorem dX6_told_1 : decode cX6_told 1 = .ok (.tableswitch 69 0 5 #[39, 44, 49, 54, 59, 64], 39) := by decide +kernel
theorem dX6_told_40 : decode cX6_told 40 = .ok (.aload_n 0, 1) := by decide +kernel
theorem dX6_told_41 : decode cX6_told 41 = .ok (.getfield 49, 3) := by decide +kernel
theorem dX6_told_44 : decode cX6_told 44 = .ok (.ireturn, 1) := by decide +kernel
theorem dX6_told_45 : decode cX6_told 45 = .ok (.aload_n 0, 1) := by decide +kernel
theorem dX6_told_46 : decode cX6_told 46 = .ok (.getfield 52, 3) := by decide +kernel
theorem dX6_told_49 : decode cX6_told 49 = .ok (.ireturn, 1) := by decide +kernel
theorem dX6_told_50 : decode cX6_told 50 = .ok (.aload_n 0, 1) := by decide +kernel
theorem dX6_told_51 : decode cX6_told 51 = .ok (.getfield 55, 3) := by decide +kernel
theorem dX6_told_54 : decode cX6_told 54 = .ok (.ireturn, 1) := by decide +kernel
theorem dX6_told_55 : decode cX6_told 55 = .ok (.aload_n 0, 1) := by decide +kernel
theorem dX6_told_56 : decode cX6_told 56 = .ok (.getfield 84, 3) := by decide +kernel
theorem dX6_told_59 : decode cX6_told 59 = .ok (.ireturn, 1) := by decide +kernel
theorem dX6_told_60 : decode cX6_told 60 = .ok (.aload_n 0, 1) := by decide +kernel
theorem dX6_told_61 : decode cX6_told 61 = .ok (.getfield 78, 3) := by decide +kernel
theorem dX6_told_64 : decode cX6_told 64 = .ok (.ireturn, 1) := by decide +kernel
theorem dX6_told_65 : decode cX6_told 65 = .ok (.aload_n 0, 1) := by decide +kernel
theorem dX6_told_66 : decode cX6_told 66 = .ok (.getfield 38, 3) := by decide +kernel
theorem dX6_told_69 : decode cX6_told 69 = .ok (.ireturn, 1) := by decide +kernel
theorem dX6_told_70 : decode cX6_told 70 = .ok (.aload_n 0, 1) := by decide +kernel
theorem dX6_told_71 : decode cX6_told 71 = .ok (.getfield 87, 3) := by decide +kernel
theorem dX6_told_74 : decode cX6_told 74 = .ok (.ireturn, 1) := by decide +kernel
theorem dX6_agrees_0 : decode cX6_agrees 0 = .ok (.aload_n 0, 1) := by decide +kernel
theorem dX6_agrees_1 : decode cX6_agrees 1 = .ok (.aload_n 0, 1) := by decide +kernel
theorem dX6_agrees_2 : decode cX6_agrees 2 = .ok (.getfield 15, 3) := by decide +kernel
theorem dX6_agrees_5 : decode cX6_agrees 5 = .ok (.getfield 30, 3) := by decide +kernel
theorem dX6_agrees_8 : decode cX6_agrees 8 = .ok (.iconst 0, 1) := by decide +kernel
theorem dX6_agrees_9 : decode cX6_agrees 9 = .ok (.iaload, 1) := by decide +kernel
theorem dX6_agrees_10 : decode cX6_agrees 10 = .ok (.aload_n 0, 1) := by decide +kernel
theorem dX6_agrees_11 : decode cX6_agrees 11 = .ok (.getfield 15, 3) := by decide +kernel
theorem dX6_agrees_14 : decode cX6_agrees 14 = .ok (.getfield 30, 3) := by decide +kernel
theorem dX6_agrees_17 : decode cX6_agrees 17 = .ok (.iconst 1, 1) := by decide +kernel
theorem dX6_agrees_18 : decode cX6_agrees 18 = .ok (.iaload, 1) := by decide +kernel
theorem dX6_agrees_19 : decode cX6_agrees 19 = .ok (.invokevirtual 128, 3) := by decide +kernel
theorem dX6_agrees_22 : decode cX6_agrees 22 = .ok (.iconst 0, 1) := by decide +kernel
theorem dX6_agrees_23 : decode cX6_agrees 23 = .ok (.istore 6, 2) := by decide +kernel
theorem dX6_agrees_25 : decode cX6_agrees 25 = .ok (.iload 6, 2) := by decide +kernel
theorem dX6_agrees_27 : decode cX6_agrees 27 = .ok (.bipush 12, 2) := by decide +kernel
theorem dX6_agrees_29 : decode cX6_agrees 29 = .ok (.if_icmp .ge 58, 3) := by decide +kernel
theorem dX6_agrees_32 : decode cX6_agrees 32 = .ok (.aload_n 0, 1) := by decide +kernel
theorem dX6_agrees_33 : decode cX6_agrees 33 = .ok (.iload 6, 2) := by decide +kernel
theorem dX6_agrees_35 : decode cX6_agrees 35 = .ok (.iload 5, 2) := by decide +kernel
theorem dX6_agrees_37 : decode cX6_agrees 37 = .ok (.if_icmp .ge 7, 3) := by decide +kernel
theorem dX6_agrees_40 : decode cX6_agrees 40 = .ok (.iconst 0, 1) := by decide +kernel
theorem dX6_agrees_41 : decode cX6_agrees 41 = .ok (.goto 5, 3) := by decide +kernel
theorem dX6_agrees_44 : decode cX6_agrees 44 = .ok (.iload 4, 2) := by decide +kernel
theorem dX6_agrees_46 : decode cX6_agrees 46 = .ok (.putfield 35, 3) := by decide +kernel
theorem dX6_agrees_49 : decode cX6_agrees 49 = .ok (.aload_n 0, 1) := by decide +kernel
theorem dX6_agrees_50 : decode cX6_agrees 50 = .ok (.aload_n 1, 1) := by decide +kernel
theorem dX6_agrees_51 : decode cX6_agrees 51 = .ok (.iload 6, 2) := by decide +kernel
theorem dX6_agrees_53 : decode cX6_agrees 53 = .ok (.aload_n 2, 1) := by decide +kernel
theorem dX6_agrees_54 : decode cX6_agrees 54 = .ok (.iload 6, 2) := by decide +kernel
theorem dX6_agrees_56 : decode cX6_agrees 56 = .ok (.iaload, 1) := by decide +kernel
theorem dX6_agrees_57 : decode cX6_agrees 57 = .ok (.invokevirtual 132, 3) := by decide +kernel
theorem dX6_agrees_60 : decode cX6_agrees 60 = .ok (.aload_n 3, 1) := by decide +kernel
theorem dX6_agrees_61 : decode cX6_agrees 61 = .ok (.iload 6, 2) := by decide +kernel
theorem dX6_agrees_63 : decode cX6_agrees 63 = .ok (.iaload, 1) := by decide +kernel
theorem dX6_agrees_64 : decode cX6_agrees 64 = .ok (.iconst (-1), 1) := by decide +kernel
theorem dX6_agrees_65 : decode cX6_agrees 65 = .ok (.if_icmp .eq 16, 3) := by decide +kernel
theorem dX6_agrees_68 : decode cX6_agrees 68 = .ok (.aload_n 3, 1) := by decide +kernel
theorem dX6_agrees_69 : decode cX6_agrees 69 = .ok (.iload 6, 2) := by decide +kernel
theorem dX6_agrees_71 : decode cX6_agrees 71 = .ok (.iaload, 1) := by decide +kernel
theorem dX6_agrees_72 : decode cX6_agrees 72 = .ok (.aload_n 0, 1) := by decide +kernel
theorem dX6_agrees_73 : decode cX6_agrees 73 = .ok (.getfield 38, 3) := by decide +kernel
theorem dX6_agrees_76 : decode cX6_agrees 76 = .ok (.if_icmp .eq 5, 3) := by decide +kernel
theorem dX6_agrees_79 : decode cX6_agrees 79 = .ok (.iconst 0, 1) := by decide +kernel
theorem dX6_agrees_80 : decode cX6_agrees 80 = .ok (.ireturn, 1) := by decide +kernel
theorem dX6_agrees_81 : decode cX6_agrees 81 = .ok (.iinc 6 1, 3) := by decide +kernel
theorem dX6_agrees_84 : decode cX6_agrees 84 = .ok (.goto (-59), 3) := by decide +kernel
theorem dX6_agrees_87 : decode cX6_agrees 87 = .ok (.iconst 1, 1) := by decide +kernel
theorem dX6_agrees_88 : decode cX6_agrees 88 = .ok (.ireturn, 1) := by decide +kernel
theorem dX7_init_0 : decode cX7_init 0 = .ok (.aload_n 0, 1) := by decide +kernel
theorem dX7_init_1 : decode cX7_init 1 = .ok (.invokespecial 3, 3) := by decide +kernel
theorem dX7_init_4 : decode cX7_init 4 = .ok (.aload_n 0, 1) := by decide +kernel
theorem dX7_init_5 : decode cX7_init 5 = .ok (.bipush 12, 2) := by decide +kernel
theorem dX7_init_7 : decode cX7_init 7 = .ok (.sipush 402, 3) := by decide +kernel
theorem dX7_init_10 : decode cX7_init 10 = .ok (.multianewarray 9 2, 4) := by decide +kernel
theorem dX7_init_14 : decode cX7_init 14 = .ok (.putfield 11, 3) := by decide +kernel
theorem dX7_init_17 : decode cX7_init 17 = .ok (.aload_n 0, 1) := by decide +kernel
theorem dX7_init_18 : decode cX7_init 18 = .ok (.bipush 12, 2) := by decide +kernel
theorem dX7_init_20 : decode cX7_init 20 = .ok (.sipush 402, 3) := by decide +kernel
theorem dX7_init_23 : decode cX7_init 23 = .ok (.multianewarray 9 2, 4) := by decide +kernel
theorem dX7_init_27 : decode cX7_init 27 = .ok (.putfield 16, 3) := by decide +kernel
theorem dX7_init_30 : decode cX7_init 30 = .ok (.aload_n 0, 1) := by decide +kernel
theorem dX7_init_31 : decode cX7_init 31 = .ok (.sipush 402, 3) := by decide +kernel
theorem dX7_init_34 : decode cX7_init 34 = .ok (.newarray .long, 2) := by decide +kernel
theorem dX7_init_36 : decode cX7_init 36 = .ok (.putfield 19, 3) := by decide +kernel
theorem dX7_init_39 : decode cX7_init 39 = .ok (.aload_n 0, 1) := by decide +kernel
theorem dX7_init_40 : decode cX7_init 40 = .ok (.sipush 402, 3) := by decide +kernel
theorem dX7_init_43 : decode cX7_init 43 = .ok (.newarray .long, 2) := by decide +kernel
theorem dX7_init_45 : decode cX7_init 45 = .ok (.putfield 23, 3) := by decide +kernel
theorem dX7_init_48 : decode cX7_init 48 = .ok (.aload_n 0, 1) := by decide +kernel
theorem dX7_init_49 : decode cX7_init 49 = .ok (.sipush 201, 3) := by decide +kernel
theorem dX7_init_52 : decode cX7_init 52 = .ok (.newarray .long, 2) := by decide +kernel
theorem dX7_init_54 : decode cX7_init 54 = .ok (.putfield 26, 3) := by decide +kernel
theorem dX7_init_57 : decode cX7_init 57 = .ok (.aload_n 0, 1) := by decide +kernel
theorem dX7_init_58 : decode cX7_init 58 = .ok (.sipush 201, 3) := by decide +kernel
theorem dX7_init_61 : decode cX7_init 61 = .ok (.newarray .int, 2) := by decide +kernel
theorem dX7_init_63 : decode cX7_init 63 = .ok (.putfield 29, 3) := by decide +kernel
theorem dX7_init_66 : decode cX7_init 66 = .ok (.aload_n 0, 1) := by decide +kernel
theorem dX7_init_67 : decode cX7_init 67 = .ok (.bipush 73, 2) := by decide +kernel
theorem dX7_init_69 : decode cX7_init 69 = .ok (.newarray .long, 2) := by decide +kernel
theorem dX7_init_71 : decode cX7_init 71 = .ok (.putfield 33, 3) := by decide +kernel
theorem dX7_init_74 : decode cX7_init 74 = .ok (.aload_n 0, 1) := by decide +kernel
theorem dX7_init_75 : decode cX7_init 75 = .ok (.iconst (-1), 1) := by decide +kernel
theorem dX7_init_76 : decode cX7_init 76 = .ok (.putfield 36, 3) := by decide +kernel
theorem dX7_init_79 : decode cX7_init 79 = .ok (.aload_n 0, 1) := by decide +kernel
theorem dX7_init_80 : decode cX7_init 80 = .ok (.aload_n 1, 1) := by decide +kernel
theorem dX7_init_81 : decode cX7_init 81 = .ok (.putfield 40, 3) := by decide +kernel
theorem dX7_init_84 : decode cX7_init 84 = .ok (.aload_n 0, 1) := by decide +kernel
theorem dX7_init_85 : decode cX7_init 85 = .ok (.aload_n 2, 1) := by decide +kernel
theorem dX7_init_86 : decode cX7_init 86 = .ok (.putfield 44, 3) := by decide +kernel
theorem dX7_init_89 : decode cX7_init 89 = .ok (.return_, 1) := by decide +kernel
theorem dX7_bringUpTo_0 : decode cX7_bringUpTo 0 = .ok (.aload_n 0, 1) := by decide +kernel
theorem dX7_bringUpTo_1 : decode cX7_bringUpTo 1 = .ok (.getfield 36, 3) := by decide +kernel
theorem dX7_bringUpTo_4 : decode cX7_bringUpTo 4 = .ok (.iload_n 1, 1) := by decide +kernel
theorem dX7_bringUpTo_5 : decode cX7_bringUpTo 5 = .ok (.if_icmp .ne 4, 3) := by decide +kernel
theorem dX7_bringUpTo_8 : decode cX7_bringUpTo 8 = .ok (.return_, 1) := by decide +kernel
theorem dX7_bringUpTo_9 : decode cX7_bringUpTo 9 = .ok (.aload_n 0, 1) := by decide +kernel
theorem dX7_bringUpTo_10 : decode cX7_bringUpTo 10 = .ok (.iload_n 1, 1) := by decide +kernel
theorem dX7_bringUpTo_11 : decode cX7_bringUpTo 11 = .ok (.putfield 36, 3) := by decide +kernel
theorem dX7_bringUpTo_14 : decode cX7_bringUpTo 14 = .ok (.aload_n 0, 1) := by decide +kernel
theorem dX7_bringUpTo_15 : decode cX7_bringUpTo 15 = .ok (.getfield 19, 3) := by decide +kernel
theorem dX7_bringUpTo_18 : decode cX7_bringUpTo 18 = .ok (.lconst 0, 1) := by decide +kernel
theorem dX7_bringUpTo_19 : decode cX7_bringUpTo 19 = .ok (.invokestatic 48, 3) := by decide +kernel
theorem dX7_bringUpTo_22 : decode cX7_bringUpTo 22 = .ok (.lconst 1, 1) := by decide +kernel
theorem dX7_bringUpTo_23 : decode cX7_bringUpTo 23 = .ok (.lstore_n 2, 1) := by decide +kernel
theorem dX7_bringUpTo_24 : decode cX7_bringUpTo 24 = .ok (.bipush 11, 2) := by decide +kernel
theorem dX7_bringUpTo_26 : decode cX7_bringUpTo 26 = .ok (.istore 4, 2) := by decide +kernel
theorem dX7_bringUpTo_28 : decode cX7_bringUpTo 28 = .ok (.iload 4, 2) := by decide +kernel
theorem dX7_bringUpTo_30 : decode cX7_bringUpTo 30 = .ok (.ifCond .lt 63, 3) := by decide +kernel
theorem dX7_bringUpTo_33 : decode cX7_bringUpTo 33 = .ok (.aload_n 0, 1) := by decide +kernel
theorem dX7_bringUpTo_34 : decode cX7_bringUpTo 34 = .ok (.iload 4, 2) := by decide +kernel
theorem dX7_bringUpTo_36 : decode cX7_bringUpTo 36 = .ok (.lload_n 2, 1) := by decide +kernel
theorem dX7_bringUpTo_37 : decode cX7_bringUpTo 37 = .ok (.invokevirtual 54, 3) := by decide +kernel
theorem dX7_bringUpTo_40 : decode cX7_bringUpTo 40 = .ok (.iconst 0, 1) := by decide +kernel
theorem dX7_bringUpTo_41 : decode cX7_bringUpTo 41 = .ok (.istore 5, 2) := by decide +kernel
theorem dX7_bringUpTo_43 : decode cX7_bringUpTo 43 = .ok (.iload 5, 2) := by decide +kernel
theorem dX7_bringUpTo_45 : decode cX7_bringUpTo 45 = .ok (.iconst 2, 1) := by decide +kernel
theorem dX7_bringUpTo_46 : decode cX7_bringUpTo 46 = .ok (.if_icmp .ge 24, 3) := by decide +kernel
theorem dX7_bringUpTo_49 : decode cX7_bringUpTo 49 = .ok (.aload_n 0, 1) := by decide +kernel
theorem dX7_bringUpTo_50 : decode cX7_bringUpTo 50 = .ok (.iload 5, 2) := by decide +kernel
theorem dX7_bringUpTo_52 : decode cX7_bringUpTo 52 = .ok (.invokevirtual 58, 3) := by decide +kernel
theorem dX7_bringUpTo_55 : decode cX7_bringUpTo 55 = .ok (.aload_n 0, 1) := by decide +kernel
theorem dX7_bringUpTo_56 : decode cX7_bringUpTo 56 = .ok (.iload 4, 2) := by decide +kernel
theorem dX7_bringUpTo_58 : decode cX7_bringUpTo 58 = .ok (.iload 5, 2) := by decide +kernel
theorem dX7_bringUpTo_60 : decode cX7_bringUpTo 60 = .ok (.lload_n 2, 1) := by decide +kernel
theorem dX7_bringUpTo_61 : decode cX7_bringUpTo 61 = .ok (.invokevirtual 62, 3) := by decide +kernel
theorem dX7_bringUpTo_64 : decode cX7_bringUpTo 64 = .ok (.iinc 5 1, 3) := by decide +kernel
theorem dX7_bringUpTo_67 : decode cX7_bringUpTo 67 = .ok (.goto (-24), 3) := by decide +kernel
theorem dX7_bringUpTo_70 : decode cX7_bringUpTo 70 = .ok (.aload_n 0, 1) := by decide +kernel
theorem dX7_bringUpTo_71 : decode cX7_bringUpTo 71 = .ok (.iload 4, 2) := by decide +kernel
theorem dX7_bringUpTo_73 : decode cX7_bringUpTo 73 = .ok (.invokevirtual 66, 3) := by decide +kernel
theorem dX7_bringUpTo_76 : decode cX7_bringUpTo 76 = .ok (.lload_n 2, 1) := by decide +kernel
theorem dX7_bringUpTo_77 : decode cX7_bringUpTo 77 = .ok (.aload_n 0, 1) := by decide +kernel
theorem dX7_bringUpTo_78 : decode cX7_bringUpTo 78 = .ok (.getfield 44, 3) := by decide +kernel
theorem dX7_bringUpTo_81 : decode cX7_bringUpTo 81 = .ok (.getfield 69, 3) := by decide +kernel
theorem dX7_bringUpTo_84 : decode cX7_bringUpTo 84 = .ok (.i2l, 1) := by decide +kernel
theorem dX7_bringUpTo_85 : decode cX7_bringUpTo 85 = .ok (.lmul, 1) := by decide +kernel
theorem dX7_bringUpTo_86 : decode cX7_bringUpTo 86 = .ok (.lstore_n 2, 1) := by decide +kernel
theorem dX7_bringUpTo_87 : decode cX7_bringUpTo 87 = .ok (.iinc 4 (-1), 3) := by decide +kernel
theorem dX7_bringUpTo_90 : decode cX7_bringUpTo 90 = .ok (.goto (-62), 3) := by decide +kernel
theorem dX7_bringUpTo_93 : decode cX7_bringUpTo 93 = .ok (.return_, 1) := by decide +kernel
theorem dX7_weighGiven_0 : decode cX7_weighGiven 0 = .ok (.lconst 0, 1) := by decide +kernel
theorem dX7_weighGiven_1 : decode cX7_weighGiven 1 = .ok (.lstore 4, 2) := by decide +kernel
theorem dX7_weighGiven_3 : decode cX7_weighGiven 3 = .ok (.iconst 0, 1) := by decide +kernel
theorem dX7_weighGiven_4 : decode cX7_weighGiven 4 = .ok (.istore 6, 2) := by decide +kernel
theorem dX7_weighGiven_6 : decode cX7_weighGiven 6 = .ok (.iload 6, 2) := by decide +kernel
theorem dX7_weighGiven_8 : decode cX7_weighGiven 8 = .ok (.aload_n 0, 1) := by decide +kernel
theorem dX7_weighGiven_9 : decode cX7_weighGiven 9 = .ok (.getfield 40, 3) := by decide +kernel
theorem dX7_weighGiven_12 : decode cX7_weighGiven 12 = .ok (.getfield 74, 3) := by decide +kernel
theorem dX7_weighGiven_15 : decode cX7_weighGiven 15 = .ok (.if_icmp .ge 39, 3) := by decide +kernel
theorem dX7_weighGiven_18 : decode cX7_weighGiven 18 = .ok (.lload 4, 2) := by decide +kernel
theorem dX7_weighGiven_20 : decode cX7_weighGiven 20 = .ok (.lload_n 2, 1) := by decide +kernel
theorem dX7_weighGiven_21 : decode cX7_weighGiven 21 = .ok (.aload_n 0, 1) := by decide +kernel
theorem dX7_weighGiven_22 : decode cX7_weighGiven 22 = .ok (.getfield 40, 3) := by decide +kernel
theorem dX7_weighGiven_25 : decode cX7_weighGiven 25 = .ok (.getfield 79, 3) := by decide +kernel
theorem dX7_weighGiven_28 : decode cX7_weighGiven 28 = .ok (.iload 6, 2) := by decide +kernel
theorem dX7_weighGiven_30 : decode cX7_weighGiven 30 = .ok (.iaload, 1) := by decide +kernel
theorem dX7_weighGiven_31 : decode cX7_weighGiven 31 = .ok (.i2l, 1) := by decide +kernel
theorem dX7_weighGiven_32 : decode cX7_weighGiven 32 = .ok (.lmul, 1) := by decide +kernel
theorem dX7_weighGiven_33 : decode cX7_weighGiven 33 = .ok (.aload_n 0, 1) := by decide +kernel
theorem dX7_weighGiven_34 : decode cX7_weighGiven 34 = .ok (.getfield 40, 3) := by decide +kernel
theorem dX7_weighGiven_37 : decode cX7_weighGiven 37 = .ok (.iload 6, 2) := by decide +kernel
theorem dX7_weighGiven_39 : decode cX7_weighGiven 39 = .ok (.iload_n 1, 1) := by decide +kernel
theorem dX7_weighGiven_40 : decode cX7_weighGiven 40 = .ok (.invokevirtual 82, 3) := by decide +kernel
theorem dX7_weighGiven_43 : decode cX7_weighGiven 43 = .ok (.i2l, 1) := by decide +kernel
theorem dX7_weighGiven_44 : decode cX7_weighGiven 44 = .ok (.lmul, 1) := by decide +kernel
theorem dX7_weighGiven_45 : decode cX7_weighGiven 45 = .ok (.ladd, 1) := by decide +kernel
theorem dX7_weighGiven_46 : decode cX7_weighGiven 46 = .ok (.lstore 4, 2) := by decide +kernel
theorem dX7_weighGiven_48 : decode cX7_weighGiven 48 = .ok (.iinc 6 1, 3) := by decide +kernel
theorem dX7_weighGiven_51 : decode cX7_weighGiven 51 = .ok (.goto (-45), 3) := by decide +kernel
theorem dX7_weighGiven_54 : decode cX7_weighGiven 54 = .ok (.aload_n 0, 1) := by decide +kernel
theorem dX7_weighGiven_55 : decode cX7_weighGiven 55 = .ok (.iconst 0, 1) := by decide +kernel
theorem dX7_weighGiven_56 : decode cX7_weighGiven 56 = .ok (.putfield 86, 3) := by decide +kernel
theorem dX7_weighGiven_59 : decode cX7_weighGiven 59 = .ok (.aload_n 0, 1) := by decide +kernel
theorem dX7_weighGiven_60 : decode cX7_weighGiven 60 = .ok (.getfield 33, 3) := by decide +kernel
theorem dX7_weighGiven_63 : decode cX7_weighGiven 63 = .ok (.iconst 0, 1) := by decide +kernel
theorem dX7_weighGiven_64 : decode cX7_weighGiven 64 = .ok (.lload 4, 2) := by decide +kernel
theorem dX7_weighGiven_66 : decode cX7_weighGiven 66 = .ok (.lastore, 1) := by decide +kernel
theorem dX7_weighGiven_67 : decode cX7_weighGiven 67 = .ok (.iconst 0, 1) := by decide +kernel
theorem dX7_weighGiven_68 : decode cX7_weighGiven 68 = .ok (.istore 6, 2) := by decide +kernel
theorem dX7_weighGiven_70 : decode cX7_weighGiven 70 = .ok (.iload 6, 2) := by decide +kernel
theorem dX7_weighGiven_72 : decode cX7_weighGiven 72 = .ok (.aload_n 0, 1) := by decide +kernel
theorem dX7_weighGiven_73 : decode cX7_weighGiven 73 = .ok (.getfield 40, 3) := by decide +kernel
theorem dX7_weighGiven_76 : decode cX7_weighGiven 76 = .ok (.getfield 74, 3) := by decide +kernel
theorem dX7_weighGiven_79 : decode cX7_weighGiven 79 = .ok (.if_icmp .ge 97, 3) := by decide +kernel
theorem dX7_weighGiven_82 : decode cX7_weighGiven 82 = .ok (.aload_n 0, 1) := by decide +kernel
theorem dX7_weighGiven_83 : decode cX7_weighGiven 83 = .ok (.getfield 40, 3) := by decide +kernel
theorem dX7_weighGiven_86 : decode cX7_weighGiven 86 = .ok (.getfield 89, 3) := by decide +kernel
theorem dX7_weighGiven_89 : decode cX7_weighGiven 89 = .ok (.iload 6, 2) := by decide +kernel
theorem dX7_weighGiven_91 : decode cX7_weighGiven 91 = .ok (.iaload, 1) := by decide +kernel
theorem dX7_weighGiven_92 : decode cX7_weighGiven 92 = .ok (.istore 7, 2) := by decide +kernel
theorem dX7_weighGiven_94 : decode cX7_weighGiven 94 = .ok (.aload_n 0, 1) := by decide +kernel
theorem dX7_weighGiven_95 : decode cX7_weighGiven 95 = .ok (.getfield 40, 3) := by decide +kernel
theorem dX7_weighGiven_98 : decode cX7_weighGiven 98 = .ok (.iload 7, 2) := by decide +kernel
theorem dX7_weighGiven_100 : decode cX7_weighGiven 100 = .ok (.iload_n 1, 1) := by decide +kernel
theorem dX7_weighGiven_101 : decode cX7_weighGiven 101 = .ok (.invokevirtual 82, 3) := by decide +kernel
theorem dX7_weighGiven_104 : decode cX7_weighGiven 104 = .ok (.istore 8, 2) := by decide +kernel
theorem dX7_weighGiven_106 : decode cX7_weighGiven 106 = .ok (.iconst 0, 1) := by decide +kernel
theorem dX7_weighGiven_107 : decode cX7_weighGiven 107 = .ok (.istore 9, 2) := by decide +kernel
theorem dX7_weighGiven_109 : decode cX7_weighGiven 109 = .ok (.iload 9, 2) := by decide +kernel
theorem dX7_weighGiven_111 : decode cX7_weighGiven 111 = .ok (.iload 8, 2) := by decide +kernel
theorem dX7_weighGiven_113 : decode cX7_weighGiven 113 = .ok (.if_icmp .ge 57, 3) := by decide +kernel
theorem dX7_weighGiven_116 : decode cX7_weighGiven 116 = .ok (.aload_n 0, 1) := by decide +kernel
theorem dX7_weighGiven_117 : decode cX7_weighGiven 117 = .ok (.getfield 86, 3) := by decide +kernel
theorem dX7_weighGiven_120 : decode cX7_weighGiven 120 = .ok (.bipush 72, 2) := by decide +kernel
theorem dX7_weighGiven_122 : decode cX7_weighGiven 122 = .ok (.if_icmp .ge 48, 3) := by decide +kernel
theorem dX7_weighGiven_125 : decode cX7_weighGiven 125 = .ok (.lload 4, 2) := by decide +kernel
theorem dX7_weighGiven_127 : decode cX7_weighGiven 127 = .ok (.lload_n 2, 1) := by decide +kernel
theorem dX7_weighGiven_128 : decode cX7_weighGiven 128 = .ok (.aload_n 0, 1) := by decide +kernel
theorem dX7_weighGiven_129 : decode cX7_weighGiven 129 = .ok (.getfield 40, 3) := by decide +kernel
theorem dX7_weighGiven_132 : decode cX7_weighGiven 132 = .ok (.getfield 79, 3) := by decide +kernel
theorem dX7_weighGiven_135 : decode cX7_weighGiven 135 = .ok (.iload 7, 2) := by decide +kernel
theorem dX7_weighGiven_137 : decode cX7_weighGiven 137 = .ok (.iaload, 1) := by decide +kernel
theorem dX7_weighGiven_138 : decode cX7_weighGiven 138 = .ok (.i2l, 1) := by decide +kernel
theorem dX7_weighGiven_139 : decode cX7_weighGiven 139 = .ok (.lmul, 1) := by decide +kernel
theorem dX7_weighGiven_140 : decode cX7_weighGiven 140 = .ok (.lsub, 1) := by decide +kernel
theorem dX7_weighGiven_141 : decode cX7_weighGiven 141 = .ok (.lstore 4, 2) := by decide +kernel
theorem dX7_weighGiven_143 : decode cX7_weighGiven 143 = .ok (.aload_n 0, 1) := by decide +kernel
theorem dX7_weighGiven_144 : decode cX7_weighGiven 144 = .ok (.dup, 1) := by decide +kernel
theorem dX7_weighGiven_145 : decode cX7_weighGiven 145 = .ok (.getfield 86, 3) := by decide +kernel
theorem dX7_weighGiven_148 : decode cX7_weighGiven 148 = .ok (.iconst 1, 1) := by decide +kernel
theorem dX7_weighGiven_149 : decode cX7_weighGiven 149 = .ok (.iadd, 1) := by decide +kernel
theorem dX7_weighGiven_150 : decode cX7_weighGiven 150 = .ok (.putfield 86, 3) := by decide +kernel
theorem dX7_weighGiven_153 : decode cX7_weighGiven 153 = .ok (.aload_n 0, 1) := by decide +kernel
theorem dX7_weighGiven_154 : decode cX7_weighGiven 154 = .ok (.getfield 33, 3) := by decide +kernel
theorem dX7_weighGiven_157 : decode cX7_weighGiven 157 = .ok (.aload_n 0, 1) := by decide +kernel
theorem dX7_weighGiven_158 : decode cX7_weighGiven 158 = .ok (.getfield 86, 3) := by decide +kernel
theorem dX7_weighGiven_161 : decode cX7_weighGiven 161 = .ok (.lload 4, 2) := by decide +kernel
theorem dX7_weighGiven_163 : decode cX7_weighGiven 163 = .ok (.lastore, 1) := by decide +kernel
theorem dX7_weighGiven_164 : decode cX7_weighGiven 164 = .ok (.iinc 9 1, 3) := by decide +kernel
theorem dX7_weighGiven_167 : decode cX7_weighGiven 167 = .ok (.goto (-58), 3) := by decide +kernel
theorem dX7_weighGiven_170 : decode cX7_weighGiven 170 = .ok (.iinc 6 1, 3) := by decide +kernel
theorem dX7_weighGiven_173 : decode cX7_weighGiven 173 = .ok (.goto (-103), 3) := by decide +kernel
theorem dX7_weighGiven_176 : decode cX7_weighGiven 176 = .ok (.return_, 1) := by decide +kernel
theorem dX7_chooseGiven_0 : decode cX7_chooseGiven 0 = .ok (.aload_n 0, 1) := by decide +kernel
theorem dX7_chooseGiven_1 : decode cX7_chooseGiven 1 = .ok (.getfield 40, 3) := by decide +kernel
theorem dX7_chooseGiven_4 : decode cX7_chooseGiven 4 = .ok (.getfield 92, 3) := by decide +kernel
theorem dX7_chooseGiven_7 : decode cX7_chooseGiven 7 = .ok (.iconst 1, 1) := by decide +kernel
theorem dX7_chooseGiven_8 : decode cX7_chooseGiven 8 = .ok (.iaload, 1) := by decide +kernel
theorem dX7_chooseGiven_9 : decode cX7_chooseGiven 9 = .ok (.istore_n 2, 1) := by decide +kernel
theorem dX7_chooseGiven_10 : decode cX7_chooseGiven 10 = .ok (.iconst 0, 1) := by decide +kernel
theorem dX7_chooseGiven_11 : decode cX7_chooseGiven 11 = .ok (.istore_n 3, 1) := by decide +kernel
theorem dX7_chooseGiven_12 : decode cX7_chooseGiven 12 = .ok (.iload_n 3, 1) := by decide +kernel
theorem dX7_chooseGiven_13 : decode cX7_chooseGiven 13 = .ok (.iload_n 2, 1) := by decide +kernel
theorem dX7_chooseGiven_14 : decode cX7_chooseGiven 14 = .ok (.if_icmp .gt 98, 3) := by decide +kernel
theorem dX7_chooseGiven_17 : decode cX7_chooseGiven 17 = .ok (.iload_n 3, 1) := by decide +kernel
theorem dX7_chooseGiven_18 : decode cX7_chooseGiven 18 = .ok (.aload_n 0, 1) := by decide +kernel
theorem dX7_chooseGiven_19 : decode cX7_chooseGiven 19 = .ok (.getfield 86, 3) := by decide +kernel
theorem dX7_chooseGiven_22 : decode cX7_chooseGiven 22 = .ok (.invokestatic 95, 3) := by decide +kernel
theorem dX7_chooseGiven_25 : decode cX7_chooseGiven 25 = .ok (.istore 4, 2) := by decide +kernel
theorem dX7_chooseGiven_27 : decode cX7_chooseGiven 27 = .ok (.ldc2_w 100, 3) := by decide +kernel
theorem dX7_chooseGiven_30 : decode cX7_chooseGiven 30 = .ok (.lstore 5, 2) := by decide +kernel
theorem dX7_chooseGiven_32 : decode cX7_chooseGiven 32 = .ok (.iconst 0, 1) := by decide +kernel
theorem dX7_chooseGiven_33 : decode cX7_chooseGiven 33 = .ok (.istore 7, 2) := by decide +kernel
theorem dX7_chooseGiven_35 : decode cX7_chooseGiven 35 = .ok (.iconst 0, 1) := by decide +kernel
theorem dX7_chooseGiven_36 : decode cX7_chooseGiven 36 = .ok (.istore 8, 2) := by decide +kernel
theorem dX7_chooseGiven_38 : decode cX7_chooseGiven 38 = .ok (.iload 8, 2) := by decide +kernel
theorem dX7_chooseGiven_40 : decode cX7_chooseGiven 40 = .ok (.iload 4, 2) := by decide +kernel
theorem dX7_chooseGiven_42 : decode cX7_chooseGiven 42 = .ok (.if_icmp .gt 48, 3) := by decide +kernel
theorem dX7_chooseGiven_45 : decode cX7_chooseGiven 45 = .ok (.aload_n 0, 1) := by decide +kernel
theorem dX7_chooseGiven_46 : decode cX7_chooseGiven 46 = .ok (.getfield 33, 3) := by decide +kernel
theorem dX7_chooseGiven_49 : decode cX7_chooseGiven 49 = .ok (.iload 8, 2) := by decide +kernel
theorem dX7_chooseGiven_51 : decode cX7_chooseGiven 51 = .ok (.laload, 1) := by decide +kernel
theorem dX7_chooseGiven_52 : decode cX7_chooseGiven 52 = .ok (.aload_n 0, 1) := by decide +kernel
theorem dX7_chooseGiven_53 : decode cX7_chooseGiven 53 = .ok (.getfield 19, 3) := by decide +kernel
theorem dX7_chooseGiven_56 : decode cX7_chooseGiven 56 = .ok (.iconst 2, 1) := by decide +kernel
theorem dX7_chooseGiven_57 : decode cX7_chooseGiven 57 = .ok (.iload_n 3, 1) := by decide +kernel
theorem dX7_chooseGiven_58 : decode cX7_chooseGiven 58 = .ok (.iload 8, 2) := by decide +kernel
theorem dX7_chooseGiven_60 : decode cX7_chooseGiven 60 = .ok (.isub, 1) := by decide +kernel
theorem dX7_chooseGiven_61 : decode cX7_chooseGiven 61 = .ok (.imul, 1) := by decide +kernel
theorem dX7_chooseGiven_62 : decode cX7_chooseGiven 62 = .ok (.iload_n 1, 1) := by decide +kernel
theorem dX7_chooseGiven_63 : decode cX7_chooseGiven 63 = .ok (.iadd, 1) := by decide +kernel
theorem dX7_chooseGiven_64 : decode cX7_chooseGiven 64 = .ok (.laload, 1) := by decide +kernel
theorem dX7_chooseGiven_65 : decode cX7_chooseGiven 65 = .ok (.ladd, 1) := by decide +kernel
theorem dX7_chooseGiven_66 : decode cX7_chooseGiven 66 = .ok (.lstore 9, 2) := by decide +kernel
theorem dX7_chooseGiven_68 : decode cX7_chooseGiven 68 = .ok (.lload 9, 2) := by decide +kernel
theorem dX7_chooseGiven_70 : decode cX7_chooseGiven 70 = .ok (.lload 5, 2) := by decide +kernel
theorem dX7_chooseGiven_72 : decode cX7_chooseGiven 72 = .ok (.lcmp, 1) := by decide +kernel
theorem dX7_chooseGiven_73 : decode cX7_chooseGiven 73 = .ok (.ifCond .gt 11, 3) := by decide +kernel
theorem dX7_chooseGiven_76 : decode cX7_chooseGiven 76 = .ok (.lload 9, 2) := by decide +kernel
theorem dX7_chooseGiven_78 : decode cX7_chooseGiven 78 = .ok (.lstore 5, 2) := by decide +kernel
theorem dX7_chooseGiven_80 : decode cX7_chooseGiven 80 = .ok (.iload 8, 2) := by decide +kernel
theorem dX7_chooseGiven_82 : decode cX7_chooseGiven 82 = .ok (.istore 7, 2) := by decide +kernel
theorem dX7_chooseGiven_84 : decode cX7_chooseGiven 84 = .ok (.iinc 8 1, 3) := by decide +kernel
theorem dX7_chooseGiven_87 : decode cX7_chooseGiven 87 = .ok (.goto (-49), 3) := by decide +kernel
theorem dX7_chooseGiven_90 : decode cX7_chooseGiven 90 = .ok (.aload_n 0, 1) := by decide +kernel
theorem dX7_chooseGiven_91 : decode cX7_chooseGiven 91 = .ok (.getfield 26, 3) := by decide +kernel
theorem dX7_chooseGiven_94 : decode cX7_chooseGiven 94 = .ok (.iload_n 3, 1) := by decide +kernel
theorem dX7_chooseGiven_95 : decode cX7_chooseGiven 95 = .ok (.lload 5, 2) := by decide +kernel
theorem dX7_chooseGiven_97 : decode cX7_chooseGiven 97 = .ok (.lastore, 1) := by decide +kernel
theorem dX7_chooseGiven_98 : decode cX7_chooseGiven 98 = .ok (.aload_n 0, 1) := by decide +kernel
theorem dX7_chooseGiven_99 : decode cX7_chooseGiven 99 = .ok (.getfield 29, 3) := by decide +kernel
theorem dX7_chooseGiven_102 : decode cX7_chooseGiven 102 = .ok (.iload_n 3, 1) := by decide +kernel
theorem dX7_chooseGiven_103 : decode cX7_chooseGiven 103 = .ok (.iload 7, 2) := by decide +kernel
theorem dX7_chooseGiven_105 : decode cX7_chooseGiven 105 = .ok (.iastore, 1) := by decide +kernel
theorem dX7_chooseGiven_106 : decode cX7_chooseGiven 106 = .ok (.iinc 3 1, 3) := by decide +kernel
theorem dX7_chooseGiven_109 : decode cX7_chooseGiven 109 = .ok (.goto (-97), 3) := by decide +kernel
theorem dX7_chooseGiven_112 : decode cX7_chooseGiven 112 = .ok (.return_, 1) := by decide +kernel
theorem dX7_choosePumped_0 : decode cX7_choosePumped 0 = .ok (.aload_n 0, 1) := by decide +kernel
theorem dX7_choosePumped_1 : decode cX7_choosePumped 1 = .ok (.getfield 40, 3) := by decide +kernel
theorem dX7_choosePumped_4 : decode cX7_choosePumped 4 = .ok (.getfield 92, 3) := by decide +kernel
theorem dX7_choosePumped_7 : decode cX7_choosePumped 7 = .ok (.iconst 1, 1) := by decide +kernel
theorem dX7_choosePumped_8 : decode cX7_choosePumped 8 = .ok (.iaload, 1) := by decide +kernel
theorem dX7_choosePumped_9 : decode cX7_choosePumped 9 = .ok (.istore 5, 2) := by decide +kernel
theorem dX7_choosePumped_11 : decode cX7_choosePumped 11 = .ok (.lload_n 3, 1) := by decide +kernel
theorem dX7_choosePumped_12 : decode cX7_choosePumped 12 = .ok (.aload_n 0, 1) := by decide +kernel
theorem dX7_choosePumped_13 : decode cX7_choosePumped 13 = .ok (.getfield 40, 3) := by decide +kernel
theorem dX7_choosePumped_16 : decode cX7_choosePumped 16 = .ok (.getfield 92, 3) := by decide +kernel
theorem dX7_choosePumped_19 : decode cX7_choosePumped 19 = .ok (.bipush 6, 2) := by decide +kernel
theorem dX7_choosePumped_21 : decode cX7_choosePumped 21 = .ok (.iaload, 1) := by decide +kernel
theorem dX7_choosePumped_22 : decode cX7_choosePumped 22 = .ok (.i2l, 1) := by decide +kernel
theorem dX7_choosePumped_23 : decode cX7_choosePumped 23 = .ok (.lmul, 1) := by decide +kernel
theorem dX7_choosePumped_24 : decode cX7_choosePumped 24 = .ok (.lstore 6, 2) := by decide +kernel
theorem dX7_choosePumped_26 : decode cX7_choosePumped 26 = .ok (.iconst 0, 1) := by decide +kernel
theorem dX7_choosePumped_27 : decode cX7_choosePumped 27 = .ok (.istore 8, 2) := by decide +kernel
theorem dX7_choosePumped_29 : decode cX7_choosePumped 29 = .ok (.iload 8, 2) := by decide +kernel
theorem dX7_choosePumped_31 : decode cX7_choosePumped 31 = .ok (.iload 5, 2) := by decide +kernel
theorem dX7_choosePumped_33 : decode cX7_choosePumped 33 = .ok (.if_icmp .gt 137, 3) := by decide +kernel
theorem dX7_choosePumped_36 : decode cX7_choosePumped 36 = .ok (.aload_n 0, 1) := by decide +kernel
theorem dX7_choosePumped_37 : decode cX7_choosePumped 37 = .ok (.getfield 40, 3) := by decide +kernel
theorem dX7_choosePumped_40 : decode cX7_choosePumped 40 = .ok (.iload_n 1, 1) := by decide +kernel
theorem dX7_choosePumped_41 : decode cX7_choosePumped 41 = .ok (.invokevirtual 102, 3) := by decide +kernel
theorem dX7_choosePumped_44 : decode cX7_choosePumped 44 = .ok (.iload 5, 2) := by decide +kernel
theorem dX7_choosePumped_46 : decode cX7_choosePumped 46 = .ok (.iload 8, 2) := by decide +kernel
theorem dX7_choosePumped_48 : decode cX7_choosePumped 48 = .ok (.isub, 1) := by decide +kernel
theorem dX7_choosePumped_49 : decode cX7_choosePumped 49 = .ok (.invokestatic 95, 3) := by decide +kernel
theorem dX7_choosePumped_52 : decode cX7_choosePumped 52 = .ok (.istore 9, 2) := by decide +kernel
theorem dX7_choosePumped_54 : decode cX7_choosePumped 54 = .ok (.ldc2_w 100, 3) := by decide +kernel
theorem dX7_choosePumped_57 : decode cX7_choosePumped 57 = .ok (.lstore 10, 2) := by decide +kernel
theorem dX7_choosePumped_59 : decode cX7_choosePumped 59 = .ok (.iconst 0, 1) := by decide +kernel
theorem dX7_choosePumped_60 : decode cX7_choosePumped 60 = .ok (.istore 12, 2) := by decide +kernel
theorem dX7_choosePumped_62 : decode cX7_choosePumped 62 = .ok (.iconst 0, 1) := by decide +kernel
theorem dX7_choosePumped_63 : decode cX7_choosePumped 63 = .ok (.istore 13, 2) := by decide +kernel
theorem dX7_choosePumped_65 : decode cX7_choosePumped 65 = .ok (.iload 13, 2) := by decide +kernel
theorem dX7_choosePumped_67 : decode cX7_choosePumped 67 = .ok (.iload 9, 2) := by decide +kernel
theorem dX7_choosePumped_69 : decode cX7_choosePumped 69 = .ok (.if_icmp .gt 44, 3) := by decide +kernel
theorem dX7_choosePumped_72 : decode cX7_choosePumped 72 = .ok (.lload 6, 2) := by decide +kernel
theorem dX7_choosePumped_74 : decode cX7_choosePumped 74 = .ok (.iload 13, 2) := by decide +kernel
theorem dX7_choosePumped_76 : decode cX7_choosePumped 76 = .ok (.i2l, 1) := by decide +kernel
theorem dX7_choosePumped_77 : decode cX7_choosePumped 77 = .ok (.lmul, 1) := by decide +kernel
theorem dX7_choosePumped_78 : decode cX7_choosePumped 78 = .ok (.aload_n 0, 1) := by decide +kernel
theorem dX7_choosePumped_79 : decode cX7_choosePumped 79 = .ok (.getfield 26, 3) := by decide +kernel
theorem dX7_choosePumped_82 : decode cX7_choosePumped 82 = .ok (.iload 8, 2) := by decide +kernel
theorem dX7_choosePumped_84 : decode cX7_choosePumped 84 = .ok (.iload 13, 2) := by decide +kernel
theorem dX7_choosePumped_86 : decode cX7_choosePumped 86 = .ok (.iadd, 1) := by decide +kernel
theorem dX7_choosePumped_87 : decode cX7_choosePumped 87 = .ok (.laload, 1) := by decide +kernel
theorem dX7_choosePumped_88 : decode cX7_choosePumped 88 = .ok (.ladd, 1) := by decide +kernel
theorem dX7_choosePumped_89 : decode cX7_choosePumped 89 = .ok (.lstore 14, 2) := by decide +kernel
theorem dX7_choosePumped_91 : decode cX7_choosePumped 91 = .ok (.lload 14, 2) := by decide +kernel
theorem dX7_choosePumped_93 : decode cX7_choosePumped 93 = .ok (.lload 10, 2) := by decide +kernel
theorem dX7_choosePumped_95 : decode cX7_choosePumped 95 = .ok (.lcmp, 1) := by decide +kernel
theorem dX7_choosePumped_96 : decode cX7_choosePumped 96 = .ok (.ifCond .ge 11, 3) := by decide +kernel
theorem dX7_choosePumped_99 : decode cX7_choosePumped 99 = .ok (.lload 14, 2) := by decide +kernel
theorem dX7_choosePumped_101 : decode cX7_choosePumped 101 = .ok (.lstore 10, 2) := by decide +kernel
theorem dX7_choosePumped_103 : decode cX7_choosePumped 103 = .ok (.iload 13, 2) := by decide +kernel
theorem dX7_choosePumped_105 : decode cX7_choosePumped 105 = .ok (.istore 12, 2) := by decide +kernel
theorem dX7_choosePumped_107 : decode cX7_choosePumped 107 = .ok (.iinc 13 1, 3) := by decide +kernel
theorem dX7_choosePumped_110 : decode cX7_choosePumped 110 = .ok (.goto (-45), 3) := by decide +kernel
theorem dX7_choosePumped_113 : decode cX7_choosePumped 113 = .ok (.aload_n 0, 1) := by decide +kernel
theorem dX7_choosePumped_114 : decode cX7_choosePumped 114 = .ok (.getfield 23, 3) := by decide +kernel
theorem dX7_choosePumped_117 : decode cX7_choosePumped 117 = .ok (.iconst 2, 1) := by decide +kernel
theorem dX7_choosePumped_118 : decode cX7_choosePumped 118 = .ok (.iload 8, 2) := by decide +kernel
theorem dX7_choosePumped_120 : decode cX7_choosePumped 120 = .ok (.imul, 1) := by decide +kernel
theorem dX7_choosePumped_121 : decode cX7_choosePumped 121 = .ok (.iload_n 2, 1) := by decide +kernel
theorem dX7_choosePumped_122 : decode cX7_choosePumped 122 = .ok (.iadd, 1) := by decide +kernel
theorem dX7_choosePumped_123 : decode cX7_choosePumped 123 = .ok (.lload 10, 2) := by decide +kernel
theorem dX7_choosePumped_125 : decode cX7_choosePumped 125 = .ok (.lastore, 1) := by decide +kernel
theorem dX7_choosePumped_126 : decode cX7_choosePumped 126 = .ok (.aload_n 0, 1) := by decide +kernel
theorem dX7_choosePumped_127 : decode cX7_choosePumped 127 = .ok (.getfield 11, 3) := by decide +kernel
theorem dX7_choosePumped_130 : decode cX7_choosePumped 130 = .ok (.iload_n 1, 1) := by decide +kernel
theorem dX7_choosePumped_131 : decode cX7_choosePumped 131 = .ok (.aaload, 1) := by decide +kernel
theorem dX7_choosePumped_132 : decode cX7_choosePumped 132 = .ok (.iconst 2, 1) := by decide +kernel
theorem dX7_choosePumped_133 : decode cX7_choosePumped 133 = .ok (.iload 8, 2) := by decide +kernel
theorem dX7_choosePumped_135 : decode cX7_choosePumped 135 = .ok (.imul, 1) := by decide +kernel
theorem dX7_choosePumped_136 : decode cX7_choosePumped 136 = .ok (.iload_n 2, 1) := by decide +kernel
theorem dX7_choosePumped_137 : decode cX7_choosePumped 137 = .ok (.iadd, 1) := by decide +kernel
theorem dX7_choosePumped_138 : decode cX7_choosePumped 138 = .ok (.iload 12, 2) := by decide +kernel
theorem dX7_choosePumped_140 : decode cX7_choosePumped 140 = .ok (.iastore, 1) := by decide +kernel
theorem dX7_choosePumped_141 : decode cX7_choosePumped 141 = .ok (.aload_n 0, 1) := by decide +kernel
theorem dX7_choosePumped_142 : decode cX7_choosePumped 142 = .ok (.getfield 16, 3) := by decide +kernel
theorem dX7_choosePumped_145 : decode cX7_choosePumped 145 = .ok (.iload_n 1, 1) := by decide +kernel
theorem dX7_choosePumped_146 : decode cX7_choosePumped 146 = .ok (.aaload, 1) := by decide +kernel
theorem dX7_choosePumped_147 : decode cX7_choosePumped 147 = .ok (.iconst 2, 1) := by decide +kernel
theorem dX7_choosePumped_148 : decode cX7_choosePumped 148 = .ok (.iload 8, 2) := by decide +kernel
theorem dX7_choosePumped_150 : decode cX7_choosePumped 150 = .ok (.imul, 1) := by decide +kernel
theorem dX7_choosePumped_151 : decode cX7_choosePumped 151 = .ok (.iload_n 2, 1) := by decide +kernel
theorem dX7_choosePumped_152 : decode cX7_choosePumped 152 = .ok (.iadd, 1) := by decide +kernel
theorem dX7_choosePumped_153 : decode cX7_choosePumped 153 = .ok (.aload_n 0, 1) := by decide +kernel
theorem dX7_choosePumped_154 : decode cX7_choosePumped 154 = .ok (.getfield 29, 3) := by decide +kernel
theorem dX7_choosePumped_157 : decode cX7_choosePumped 157 = .ok (.iload 8, 2) := by decide +kernel
theorem dX7_choosePumped_159 : decode cX7_choosePumped 159 = .ok (.iload 12, 2) := by decide +kernel
theorem dX7_choosePumped_161 : decode cX7_choosePumped 161 = .ok (.iadd, 1) := by decide +kernel
theorem dX7_choosePumped_162 : decode cX7_choosePumped 162 = .ok (.iaload, 1) := by decide +kernel
theorem dX7_choosePumped_163 : decode cX7_choosePumped 163 = .ok (.iastore, 1) := by decide +kernel
theorem dX7_choosePumped_164 : decode cX7_choosePumped 164 = .ok (.iinc 8 1, 3) := by decide +kernel
theorem dX7_choosePumped_167 : decode cX7_choosePumped 167 = .ok (.goto (-138), 3) := by decide +kernel
theorem dX7_choosePumped_170 : decode cX7_choosePumped 170 = .ok (.return_, 1) := by decide +kernel
theorem dX7_lookBack_0 : decode cX7_lookBack 0 = .ok (.aload_n 0, 1) := by decide +kernel
theorem dX7_lookBack_1 : decode cX7_lookBack 1 = .ok (.getfield 40, 3) := by decide +kernel
theorem dX7_lookBack_4 : decode cX7_lookBack 4 = .ok (.getfield 92, 3) := by decide +kernel
theorem dX7_lookBack_7 : decode cX7_lookBack 7 = .ok (.iconst 1, 1) := by decide +kernel
theorem dX7_lookBack_8 : decode cX7_lookBack 8 = .ok (.iaload, 1) := by decide +kernel
theorem dX7_lookBack_9 : decode cX7_lookBack 9 = .ok (.istore_n 2, 1) := by decide +kernel
theorem dX7_lookBack_10 : decode cX7_lookBack 10 = .ok (.iconst 0, 1) := by decide +kernel
theorem dX7_lookBack_11 : decode cX7_lookBack 11 = .ok (.istore_n 3, 1) := by decide +kernel
theorem dX7_lookBack_12 : decode cX7_lookBack 12 = .ok (.iload_n 3, 1) := by decide +kernel
theorem dX7_lookBack_13 : decode cX7_lookBack 13 = .ok (.iconst 2, 1) := by decide +kernel
theorem dX7_lookBack_14 : decode cX7_lookBack 14 = .ok (.iload_n 2, 1) := by decide +kernel
theorem dX7_lookBack_15 : decode cX7_lookBack 15 = .ok (.iconst 1, 1) := by decide +kernel
theorem dX7_lookBack_16 : decode cX7_lookBack 16 = .ok (.iadd, 1) := by decide +kernel
theorem dX7_lookBack_17 : decode cX7_lookBack 17 = .ok (.imul, 1) := by decide +kernel
theorem dX7_lookBack_18 : decode cX7_lookBack 18 = .ok (.if_icmp .ge 71, 3) := by decide +kernel
theorem dX7_lookBack_21 : decode cX7_lookBack 21 = .ok (.lconst 0, 1) := by decide +kernel
theorem dX7_lookBack_22 : decode cX7_lookBack 22 = .ok (.lstore 4, 2) := by decide +kernel
theorem dX7_lookBack_24 : decode cX7_lookBack 24 = .ok (.iconst 0, 1) := by decide +kernel
theorem dX7_lookBack_25 : decode cX7_lookBack 25 = .ok (.istore 6, 2) := by decide +kernel
theorem dX7_lookBack_27 : decode cX7_lookBack 27 = .ok (.iload 6, 2) := by decide +kernel
theorem dX7_lookBack_29 : decode cX7_lookBack 29 = .ok (.aload_n 0, 1) := by decide +kernel
theorem dX7_lookBack_30 : decode cX7_lookBack 30 = .ok (.getfield 44, 3) := by decide +kernel
theorem dX7_lookBack_33 : decode cX7_lookBack 33 = .ok (.getfield 69, 3) := by decide +kernel
theorem dX7_lookBack_36 : decode cX7_lookBack 36 = .ok (.if_icmp .ge 39, 3) := by decide +kernel
theorem dX7_lookBack_39 : decode cX7_lookBack 39 = .ok (.lload 4, 2) := by decide +kernel
theorem dX7_lookBack_41 : decode cX7_lookBack 41 = .ok (.aload_n 0, 1) := by decide +kernel
theorem dX7_lookBack_42 : decode cX7_lookBack 42 = .ok (.getfield 23, 3) := by decide +kernel
theorem dX7_lookBack_45 : decode cX7_lookBack 45 = .ok (.aload_n 0, 1) := by decide +kernel
theorem dX7_lookBack_46 : decode cX7_lookBack 46 = .ok (.getfield 40, 3) := by decide +kernel
theorem dX7_lookBack_49 : decode cX7_lookBack 49 = .ok (.iload_n 3, 1) := by decide +kernel
theorem dX7_lookBack_50 : decode cX7_lookBack 50 = .ok (.aload_n 0, 1) := by decide +kernel
theorem dX7_lookBack_51 : decode cX7_lookBack 51 = .ok (.getfield 44, 3) := by decide +kernel
theorem dX7_lookBack_54 : decode cX7_lookBack 54 = .ok (.getfield 106, 3) := by decide +kernel
theorem dX7_lookBack_57 : decode cX7_lookBack 57 = .ok (.iload 6, 2) := by decide +kernel
theorem dX7_lookBack_59 : decode cX7_lookBack 59 = .ok (.aaload, 1) := by decide +kernel
theorem dX7_lookBack_60 : decode cX7_lookBack 60 = .ok (.iload_n 1, 1) := by decide +kernel
theorem dX7_lookBack_61 : decode cX7_lookBack 61 = .ok (.iaload, 1) := by decide +kernel
theorem dX7_lookBack_62 : decode cX7_lookBack 62 = .ok (.invokestatic 109, 3) := by decide +kernel
theorem dX7_lookBack_65 : decode cX7_lookBack 65 = .ok (.laload, 1) := by decide +kernel
theorem dX7_lookBack_66 : decode cX7_lookBack 66 = .ok (.ladd, 1) := by decide +kernel
theorem dX7_lookBack_67 : decode cX7_lookBack 67 = .ok (.lstore 4, 2) := by decide +kernel
theorem dX7_lookBack_69 : decode cX7_lookBack 69 = .ok (.iinc 6 1, 3) := by decide +kernel
theorem dX7_lookBack_72 : decode cX7_lookBack 72 = .ok (.goto (-45), 3) := by decide +kernel
theorem dX7_lookBack_75 : decode cX7_lookBack 75 = .ok (.aload_n 0, 1) := by decide +kernel
theorem dX7_lookBack_76 : decode cX7_lookBack 76 = .ok (.getfield 19, 3) := by decide +kernel
theorem dX7_lookBack_79 : decode cX7_lookBack 79 = .ok (.iload_n 3, 1) := by decide +kernel
theorem dX7_lookBack_80 : decode cX7_lookBack 80 = .ok (.lload 4, 2) := by decide +kernel
theorem dX7_lookBack_82 : decode cX7_lookBack 82 = .ok (.lastore, 1) := by decide +kernel
theorem dX7_lookBack_83 : decode cX7_lookBack 83 = .ok (.iinc 3 1, 3) := by decide +kernel
theorem dX7_lookBack_86 : decode cX7_lookBack 86 = .ok (.goto (-74), 3) := by decide +kernel
theorem dX7_lookBack_89 : decode cX7_lookBack 89 = .ok (.return_, 1) := by decide +kernel
theorem dX8_init_0 : decode cX8_init 0 = .ok (.aload_n 0, 1) := by decide +kernel
theorem dX8_init_1 : decode cX8_init 1 = .ok (.invokespecial 3, 3) := by decide +kernel
theorem dX8_init_4 : decode cX8_init 4 = .ok (.aload_n 0, 1) := by decide +kernel
theorem dX8_init_5 : decode cX8_init 5 = .ok (.bipush 8, 2) := by decide +kernel
theorem dX8_init_7 : decode cX8_init 7 = .ok (.bipush 12, 2) := by decide +kernel
theorem dX8_init_9 : decode cX8_init 9 = .ok (.multianewarray 9 2, 4) := by decide +kernel
theorem dX8_init_13 : decode cX8_init 13 = .ok (.putfield 11, 3) := by decide +kernel
theorem dX8_init_16 : decode cX8_init 16 = .ok (.return_, 1) := by decide +kernel
theorem dX8_copyFrom_0 : decode cX8_copyFrom 0 = .ok (.aload_n 0, 1) := by decide +kernel
theorem dX8_copyFrom_1 : decode cX8_copyFrom 1 = .ok (.aload_n 1, 1) := by decide +kernel
theorem dX8_copyFrom_2 : decode cX8_copyFrom 2 = .ok (.getfield 16, 3) := by decide +kernel
theorem dX8_copyFrom_5 : decode cX8_copyFrom 5 = .ok (.bipush 8, 2) := by decide +kernel
theorem dX8_copyFrom_7 : decode cX8_copyFrom 7 = .ok (.invokestatic 20, 3) := by decide +kernel
theorem dX8_copyFrom_10 : decode cX8_copyFrom 10 = .ok (.putfield 16, 3) := by decide +kernel
theorem dX8_copyFrom_13 : decode cX8_copyFrom 13 = .ok (.iconst 0, 1) := by decide +kernel
theorem dX8_copyFrom_14 : decode cX8_copyFrom 14 = .ok (.istore_n 2, 1) := by decide +kernel
theorem dX8_copyFrom_15 : decode cX8_copyFrom 15 = .ok (.iload_n 2, 1) := by decide +kernel
theorem dX8_copyFrom_16 : decode cX8_copyFrom 16 = .ok (.aload_n 0, 1) := by decide +kernel
theorem dX8_copyFrom_17 : decode cX8_copyFrom 17 = .ok (.getfield 16, 3) := by decide +kernel
theorem dX8_copyFrom_20 : decode cX8_copyFrom 20 = .ok (.if_icmp .ge 28, 3) := by decide +kernel
theorem dX8_copyFrom_23 : decode cX8_copyFrom 23 = .ok (.aload_n 1, 1) := by decide +kernel
theorem dX8_copyFrom_24 : decode cX8_copyFrom 24 = .ok (.getfield 11, 3) := by decide +kernel
theorem dX8_copyFrom_27 : decode cX8_copyFrom 27 = .ok (.iload_n 2, 1) := by decide +kernel
theorem dX8_copyFrom_28 : decode cX8_copyFrom 28 = .ok (.aaload, 1) := by decide +kernel
theorem dX8_copyFrom_29 : decode cX8_copyFrom 29 = .ok (.iconst 0, 1) := by decide +kernel
theorem dX8_copyFrom_30 : decode cX8_copyFrom 30 = .ok (.aload_n 0, 1) := by decide +kernel
theorem dX8_copyFrom_31 : decode cX8_copyFrom 31 = .ok (.getfield 11, 3) := by decide +kernel
theorem dX8_copyFrom_34 : decode cX8_copyFrom 34 = .ok (.iload_n 2, 1) := by decide +kernel
theorem dX8_copyFrom_35 : decode cX8_copyFrom 35 = .ok (.aaload, 1) := by decide +kernel
theorem dX8_copyFrom_36 : decode cX8_copyFrom 36 = .ok (.iconst 0, 1) := by decide +kernel
theorem dX8_copyFrom_37 : decode cX8_copyFrom 37 = .ok (.bipush 12, 2) := by decide +kernel
theorem dX8_copyFrom_39 : decode cX8_copyFrom 39 = .ok (.invokestatic 26, 3) := by decide +kernel
theorem dX8_copyFrom_42 : decode cX8_copyFrom 42 = .ok (.iinc 2 1, 3) := by decide +kernel
theorem dX8_copyFrom_45 : decode cX8_copyFrom 45 = .ok (.goto (-30), 3) := by decide +kernel
theorem dX8_copyFrom_48 : decode cX8_copyFrom 48 = .ok (.return_, 1) := by decide +kernel
theorem dX9_init_0 : decode cX9_init 0 = .ok (.aload_n 0, 1) := by decide +kernel
theorem dX9_init_1 : decode cX9_init 1 = .ok (.invokespecial 3, 3) := by decide +kernel
theorem dX9_init_4 : decode cX9_init 4 = .ok (.aload_n 0, 1) := by decide +kernel
theorem dX9_init_5 : decode cX9_init 5 = .ok (.new 9, 3) := by decide +kernel
theorem dX9_init_8 : decode cX9_init 8 = .ok (.dup, 1) := by decide +kernel
theorem dX9_init_9 : decode cX9_init 9 = .ok (.invokespecial 11, 3) := by decide +kernel
theorem dX9_init_12 : decode cX9_init 12 = .ok (.putfield 12, 3) := by decide +kernel
theorem dX9_init_15 : decode cX9_init 15 = .ok (.aload_n 0, 1) := by decide +kernel
theorem dX9_init_16 : decode cX9_init 16 = .ok (.new 16, 3) := by decide +kernel
theorem dX9_init_19 : decode cX9_init 19 = .ok (.dup, 1) := by decide +kernel
theorem dX9_init_20 : decode cX9_init 20 = .ok (.invokespecial 18, 3) := by decide +kernel
theorem dX9_init_23 : decode cX9_init 23 = .ok (.putfield 19, 3) := by decide +kernel
theorem dX9_init_26 : decode cX9_init 26 = .ok (.aload_n 0, 1) := by decide +kernel
theorem dX9_init_27 : decode cX9_init 27 = .ok (.new 23, 3) := by decide +kernel
theorem dX9_init_30 : decode cX9_init 30 = .ok (.dup, 1) := by decide +kernel
theorem dX9_init_31 : decode cX9_init 31 = .ok (.invokespecial 25, 3) := by decide +kernel
theorem dX9_init_34 : decode cX9_init 34 = .ok (.putfield 26, 3) := by decide +kernel
theorem dX9_init_37 : decode cX9_init 37 = .ok (.aload_n 0, 1) := by decide +kernel
theorem dX9_init_38 : decode cX9_init 38 = .ok (.bipush 8, 2) := by decide +kernel
theorem dX9_init_40 : decode cX9_init 40 = .ok (.anewarray 30, 3) := by decide +kernel
theorem dX9_init_43 : decode cX9_init 43 = .ok (.putfield 32, 3) := by decide +kernel
theorem dX9_init_46 : decode cX9_init 46 = .ok (.aload_n 0, 1) := by decide +kernel
theorem dX9_init_47 : decode cX9_init 47 = .ok (.bipush 12, 2) := by decide +kernel
theorem dX9_init_49 : decode cX9_init 49 = .ok (.newarray .int, 2) := by decide +kernel
theorem dX9_init_51 : decode cX9_init 51 = .ok (.putfield 36, 3) := by decide +kernel
theorem dX9_init_54 : decode cX9_init 54 = .ok (.aload_n 0, 1) := by decide +kernel
theorem dX9_init_55 : decode cX9_init 55 = .ok (.new 40, 3) := by decide +kernel
theorem dX9_init_58 : decode cX9_init 58 = .ok (.dup, 1) := by decide +kernel
theorem dX9_init_59 : decode cX9_init 59 = .ok (.invokespecial 42, 3) := by decide +kernel
theorem dX9_init_62 : decode cX9_init 62 = .ok (.putfield 43, 3) := by decide +kernel
theorem dX9_init_65 : decode cX9_init 65 = .ok (.aload_n 0, 1) := by decide +kernel
theorem dX9_init_66 : decode cX9_init 66 = .ok (.new 30, 3) := by decide +kernel
theorem dX9_init_69 : decode cX9_init 69 = .ok (.dup, 1) := by decide +kernel
theorem dX9_init_70 : decode cX9_init 70 = .ok (.invokespecial 47, 3) := by decide +kernel
theorem dX9_init_73 : decode cX9_init 73 = .ok (.putfield 48, 3) := by decide +kernel
theorem dX9_init_76 : decode cX9_init 76 = .ok (.iconst 0, 1) := by decide +kernel
theorem dX9_init_77 : decode cX9_init 77 = .ok (.istore_n 1, 1) := by decide +kernel
theorem dX9_init_78 : decode cX9_init 78 = .ok (.iload_n 1, 1) := by decide +kernel
theorem dX9_init_79 : decode cX9_init 79 = .ok (.bipush 8, 2) := by decide +kernel
theorem dX9_init_81 : decode cX9_init 81 = .ok (.if_icmp .ge 22, 3) := by decide +kernel
theorem dX9_init_84 : decode cX9_init 84 = .ok (.aload_n 0, 1) := by decide +kernel
theorem dX9_init_85 : decode cX9_init 85 = .ok (.getfield 32, 3) := by decide +kernel
theorem dX9_init_88 : decode cX9_init 88 = .ok (.iload_n 1, 1) := by decide +kernel
theorem dX9_init_89 : decode cX9_init 89 = .ok (.new 30, 3) := by decide +kernel
theorem dX9_init_92 : decode cX9_init 92 = .ok (.dup, 1) := by decide +kernel
theorem dX9_init_93 : decode cX9_init 93 = .ok (.invokespecial 47, 3) := by decide +kernel
theorem dX9_init_96 : decode cX9_init 96 = .ok (.aastore, 1) := by decide +kernel
theorem dX9_init_97 : decode cX9_init 97 = .ok (.iinc 1 1, 3) := by decide +kernel
theorem dX9_init_100 : decode cX9_init 100 = .ok (.goto (-22), 3) := by decide +kernel
theorem dX9_init_103 : decode cX9_init 103 = .ok (.aload_n 0, 1) := by decide +kernel
theorem dX9_init_104 : decode cX9_init 104 = .ok (.getfield 36, 3) := by decide +kernel
theorem dX9_init_107 : decode cX9_init 107 = .ok (.iconst (-1), 1) := by decide +kernel
theorem dX9_init_108 : decode cX9_init 108 = .ok (.invokestatic 52, 3) := by decide +kernel
theorem dX9_init_111 : decode cX9_init 111 = .ok (.aload_n 0, 1) := by decide +kernel
theorem dX9_init_112 : decode cX9_init 112 = .ok (.new 58, 3) := by decide +kernel
theorem dX9_init_115 : decode cX9_init 115 = .ok (.dup, 1) := by decide +kernel
theorem dX9_init_116 : decode cX9_init 116 = .ok (.aload_n 0, 1) := by decide +kernel
theorem dX9_init_117 : decode cX9_init 117 = .ok (.getfield 19, 3) := by decide +kernel
theorem dX9_init_120 : decode cX9_init 120 = .ok (.aload_n 0, 1) := by decide +kernel
theorem dX9_init_121 : decode cX9_init 121 = .ok (.getfield 26, 3) := by decide +kernel
theorem dX9_init_124 : decode cX9_init 124 = .ok (.invokespecial 60, 3) := by decide +kernel
theorem dX9_init_127 : decode cX9_init 127 = .ok (.putfield 63, 3) := by decide +kernel
theorem dX9_init_130 : decode cX9_init 130 = .ok (.aload_n 0, 1) := by decide +kernel
theorem dX9_init_131 : decode cX9_init 131 = .ok (.new 67, 3) := by decide +kernel
theorem dX9_init_134 : decode cX9_init 134 = .ok (.dup, 1) := by decide +kernel
theorem dX9_init_135 : decode cX9_init 135 = .ok (.aload_n 0, 1) := by decide +kernel
theorem dX9_init_136 : decode cX9_init 136 = .ok (.getfield 19, 3) := by decide +kernel
theorem dX9_init_139 : decode cX9_init 139 = .ok (.aload_n 0, 1) := by decide +kernel
theorem dX9_init_140 : decode cX9_init 140 = .ok (.getfield 63, 3) := by decide +kernel
theorem dX9_init_143 : decode cX9_init 143 = .ok (.invokespecial 69, 3) := by decide +kernel
theorem dX9_init_146 : decode cX9_init 146 = .ok (.putfield 72, 3) := by decide +kernel
theorem dX9_init_149 : decode cX9_init 149 = .ok (.aload_n 0, 1) := by decide +kernel
theorem dX9_init_150 : decode cX9_init 150 = .ok (.new 76, 3) := by decide +kernel
theorem dX9_init_153 : decode cX9_init 153 = .ok (.dup, 1) := by decide +kernel
theorem dX9_init_154 : decode cX9_init 154 = .ok (.aload_n 0, 1) := by decide +kernel
theorem dX9_init_155 : decode cX9_init 155 = .ok (.getfield 19, 3) := by decide +kernel
theorem dX9_init_158 : decode cX9_init 158 = .ok (.aload_n 0, 1) := by decide +kernel
theorem dX9_init_159 : decode cX9_init 159 = .ok (.getfield 26, 3) := by decide +kernel
theorem dX9_init_162 : decode cX9_init 162 = .ok (.aload_n 0, 1) := by decide +kernel
theorem dX9_init_163 : decode cX9_init 163 = .ok (.getfield 72, 3) := by decide +kernel
theorem dX9_init_166 : decode cX9_init 166 = .ok (.invokespecial 78, 3) := by decide +kernel
theorem dX9_init_169 : decode cX9_init 169 = .ok (.putfield 81, 3) := by decide +kernel
theorem dX9_init_172 : decode cX9_init 172 = .ok (.aload_n 0, 1) := by decide +kernel
theorem dX9_init_173 : decode cX9_init 173 = .ok (.new 85, 3) := by decide +kernel
theorem dX9_init_176 : decode cX9_init 176 = .ok (.dup, 1) := by decide +kernel
theorem dX9_init_177 : decode cX9_init 177 = .ok (.aload_n 0, 1) := by decide +kernel
theorem dX9_init_178 : decode cX9_init 178 = .ok (.getfield 19, 3) := by decide +kernel
theorem dX9_init_181 : decode cX9_init 181 = .ok (.aload_n 0, 1) := by decide +kernel
theorem dX9_init_182 : decode cX9_init 182 = .ok (.getfield 26, 3) := by decide +kernel
theorem dX9_init_185 : decode cX9_init 185 = .ok (.aload_n 0, 1) := by decide +kernel
theorem dX9_init_186 : decode cX9_init 186 = .ok (.getfield 72, 3) := by decide +kernel
theorem dX9_init_189 : decode cX9_init 189 = .ok (.invokespecial 87, 3) := by decide +kernel
theorem dX9_init_192 : decode cX9_init 192 = .ok (.putfield 88, 3) := by decide +kernel
theorem dX9_init_195 : decode cX9_init 195 = .ok (.return_, 1) := by decide +kernel
theorem dX9_letters_0 : decode cX9_letters 0 = .ok (.lload_n 1, 1) := by decide +kernel
theorem dX9_letters_1 : decode cX9_letters 1 = .ok (.invokestatic 92, 3) := by decide +kernel
theorem dX9_letters_4 : decode cX9_letters 4 = .ok (.istore_n 3, 1) := by decide +kernel
theorem dX9_letters_5 : decode cX9_letters 5 = .ok (.iload_n 3, 1) := by decide +kernel
theorem dX9_letters_6 : decode cX9_letters 6 = .ok (.ifCond .ge 6, 3) := by decide +kernel
theorem dX9_letters_9 : decode cX9_letters 9 = .ok (.bipush (-102), 2) := by decide +kernel
theorem dX9_letters_11 : decode cX9_letters 11 = .ok (.ireturn, 1) := by decide +kernel
theorem dX9_letters_12 : decode cX9_letters 12 = .ok (.aload_n 0, 1) := by decide +kernel
theorem dX9_letters_13 : decode cX9_letters 13 = .ok (.getfield 12, 3) := by decide +kernel
theorem dX9_letters_16 : decode cX9_letters 16 = .ok (.getfield 96, 3) := by decide +kernel
theorem dX9_letters_19 : decode cX9_letters 19 = .ok (.iload_n 3, 1) := by decide +kernel
theorem dX9_letters_20 : decode cX9_letters 20 = .ok (.iadd, 1) := by decide +kernel
theorem dX9_letters_21 : decode cX9_letters 21 = .ok (.bipush 60, 2) := by decide +kernel
theorem dX9_letters_23 : decode cX9_letters 23 = .ok (.if_icmp .le 6, 3) := by decide +kernel
theorem dX9_letters_26 : decode cX9_letters 26 = .ok (.bipush (-104), 2) := by decide +kernel
theorem dX9_letters_28 : decode cX9_letters 28 = .ok (.ireturn, 1) := by decide +kernel
theorem dX9_letters_29 : decode cX9_letters 29 = .ok (.aload_n 0, 1) := by decide +kernel
theorem dX9_letters_30 : decode cX9_letters 30 = .ok (.getfield 12, 3) := by decide +kernel
theorem dX9_letters_33 : decode cX9_letters 33 = .ok (.lload_n 1, 1) := by decide +kernel
theorem dX9_letters_34 : decode cX9_letters 34 = .ok (.iload_n 3, 1) := by decide +kernel
theorem dX9_letters_35 : decode cX9_letters 35 = .ok (.invokevirtual 100, 3) := by decide +kernel
theorem dX9_letters_38 : decode cX9_letters 38 = .ok (.aload_n 0, 1) := by decide +kernel
theorem dX9_letters_39 : decode cX9_letters 39 = .ok (.getfield 12, 3) := by decide +kernel
theorem dX9_letters_42 : decode cX9_letters 42 = .ok (.getfield 96, 3) := by decide +kernel
theorem dX9_letters_45 : decode cX9_letters 45 = .ok (.ireturn, 1) := by decide +kernel
theorem dX9_blank_0 : decode cX9_blank 0 = .ok (.aload_n 0, 1) := by decide +kernel
theorem dX9_blank_1 : decode cX9_blank 1 = .ok (.getfield 12, 3) := by decide +kernel
theorem dX9_blank_4 : decode cX9_blank 4 = .ok (.getfield 96, 3) := by decide +kernel
theorem dX9_blank_7 : decode cX9_blank 7 = .ok (.istore_n 1, 1) := by decide +kernel
theorem dX9_blank_8 : decode cX9_blank 8 = .ok (.aload_n 0, 1) := by decide +kernel
theorem dX9_blank_9 : decode cX9_blank 9 = .ok (.getfield 12, 3) := by decide +kernel
theorem dX9_blank_12 : decode cX9_blank 12 = .ok (.iconst 0, 1) := by decide +kernel
theorem dX9_blank_13 : decode cX9_blank 13 = .ok (.putfield 96, 3) := by decide +kernel
theorem dX9_blank_16 : decode cX9_blank 16 = .ok (.iload_n 1, 1) := by decide +kernel
theorem dX9_blank_17 : decode cX9_blank 17 = .ok (.ireturn, 1) := by decide +kernel
theorem dX9_fault_0 : decode cX9_fault 0 = .ok (.iload_n 1, 1) := by decide +kernel
theorem dX9_fault_1 : decode cX9_fault 1 = .ok (.ifCond .lt 8, 3) := by decide +kernel
theorem dX9_fault_4 : decode cX9_fault 4 = .ok (.iload_n 1, 1) := by decide +kernel
theorem dX9_fault_5 : decode cX9_fault 5 = .ok (.iconst 2, 1) := by decide +kernel
theorem dX9_fault_6 : decode cX9_fault 6 = .ok (.if_icmp .le 6, 3) := by decide +kernel
theorem dX9_fault_9 : decode cX9_fault 9 = .ok (.bipush (-102), 2) := by decide +kernel
theorem dX9_fault_11 : decode cX9_fault 11 = .ok (.ireturn, 1) := by decide +kernel
theorem dX9_fault_12 : decode cX9_fault 12 = .ok (.aload_n 0, 1) := by decide +kernel
theorem dX9_fault_13 : decode cX9_fault 13 = .ok (.getfield 12, 3) := by decide +kernel
theorem dX9_fault_16 : decode cX9_fault 16 = .ok (.iload_n 1, 1) := by decide +kernel
theorem dX9_fault_17 : decode cX9_fault 17 = .ok (.invokevirtual 104, 3) := by decide +kernel
theorem dX9_fault_20 : decode cX9_fault 20 = .ok (.pop, 1) := by decide +kernel
theorem dX9_fault_21 : decode cX9_fault 21 = .ok (.aload_n 0, 1) := by decide +kernel
theorem dX9_fault_22 : decode cX9_fault 22 = .ok (.getfield 12, 3) := by decide +kernel
theorem dX9_fault_25 : decode cX9_fault 25 = .ok (.getfield 108, 3) := by decide +kernel
theorem dX9_fault_28 : decode cX9_fault 28 = .ok (.ireturn, 1) := by decide +kernel
theorem dX9_house_0 : decode cX9_house 0 = .ok (.aload_n 0, 1) := by decide +kernel
theorem dX9_house_1 : decode cX9_house 1 = .ok (.getfield 12, 3) := by decide +kernel
theorem dX9_house_4 : decode cX9_house 4 = .ok (.iconst 0, 1) := by decide +kernel
theorem dX9_house_5 : decode cX9_house 5 = .ok (.invokevirtual 104, 3) := by decide +kernel
theorem dX9_house_8 : decode cX9_house 8 = .ok (.ifCond .ne 6, 3) := by decide +kernel
theorem dX9_house_11 : decode cX9_house 11 = .ok (.bipush (-103), 2) := by decide +kernel
theorem dX9_house_13 : decode cX9_house 13 = .ok (.ireturn, 1) := by decide +kernel
theorem dX9_house_14 : decode cX9_house 14 = .ok (.aload_n 0, 1) := by decide +kernel
theorem dX9_house_15 : decode cX9_house 15 = .ok (.getfield 19, 3) := by decide +kernel
theorem dX9_house_18 : decode cX9_house 18 = .ok (.aload_n 0, 1) := by decide +kernel
theorem dX9_house_19 : decode cX9_house 19 = .ok (.getfield 12, 3) := by decide +kernel
theorem dX9_house_22 : decode cX9_house 22 = .ok (.invokevirtual 111, 3) := by decide +kernel
theorem dX9_house_25 : decode cX9_house 25 = .ok (.aload_n 0, 1) := by decide +kernel
theorem dX9_house_26 : decode cX9_house 26 = .ok (.getfield 12, 3) := by decide +kernel
theorem dX9_house_29 : decode cX9_house 29 = .ok (.iconst 0, 1) := by decide +kernel
theorem dX9_house_30 : decode cX9_house 30 = .ok (.putfield 96, 3) := by decide +kernel
theorem dX9_house_33 : decode cX9_house 33 = .ok (.aload_n 0, 1) := by decide +kernel
theorem dX9_house_34 : decode cX9_house 34 = .ok (.dup, 1) := by decide +kernel
theorem dX9_house_35 : decode cX9_house 35 = .ok (.getfield 115, 3) := by decide +kernel
theorem dX9_house_38 : decode cX9_house 38 = .ok (.iconst 1, 1) := by decide +kernel
theorem dX9_house_39 : decode cX9_house 39 = .ok (.iadd, 1) := by decide +kernel
theorem dX9_house_40 : decode cX9_house 40 = .ok (.putfield 115, 3) := by decide +kernel
theorem dX9_house_43 : decode cX9_house 43 = .ok (.aload_n 0, 1) := by decide +kernel
theorem dX9_house_44 : decode cX9_house 44 = .ok (.dup, 1) := by decide +kernel
theorem dX9_house_45 : decode cX9_house 45 = .ok (.getfield 118, 3) := by decide +kernel
theorem dX9_house_48 : decode cX9_house 48 = .ok (.iconst 1, 1) := by decide +kernel
theorem dX9_house_49 : decode cX9_house 49 = .ok (.iadd, 1) := by decide +kernel
theorem dX9_house_50 : decode cX9_house 50 = .ok (.putfield 118, 3) := by decide +kernel
theorem dX9_house_53 : decode cX9_house 53 = .ok (.aload_n 0, 1) := by decide +kernel
theorem dX9_house_54 : decode cX9_house 54 = .ok (.getfield 19, 3) := by decide +kernel
theorem dX9_house_57 : decode cX9_house 57 = .ok (.getfield 121, 3) := by decide +kernel
theorem dX9_house_60 : decode cX9_house 60 = .ok (.ireturn, 1) := by decide +kernel
theorem dX9_year_0 : decode cX9_year 0 = .ok (.aload_n 0, 1) := by decide +kernel
theorem dX9_year_1 : decode cX9_year 1 = .ok (.getfield 12, 3) := by decide +kernel
theorem dX9_year_4 : decode cX9_year 4 = .ok (.iconst 1, 1) := by decide +kernel
theorem dX9_year_5 : decode cX9_year 5 = .ok (.invokevirtual 104, 3) := by decide +kernel
theorem dX9_year_8 : decode cX9_year 8 = .ok (.ifCond .ne 6, 3) := by decide +kernel
theorem dX9_year_11 : decode cX9_year 11 = .ok (.bipush (-103), 2) := by decide +kernel
theorem dX9_year_13 : decode cX9_year 13 = .ok (.ireturn, 1) := by decide +kernel
theorem dX9_year_14 : decode cX9_year 14 = .ok (.aload_n 0, 1) := by decide +kernel
theorem dX9_year_15 : decode cX9_year 15 = .ok (.getfield 26, 3) := by decide +kernel
theorem dX9_year_18 : decode cX9_year 18 = .ok (.getfield 124, 3) := by decide +kernel
theorem dX9_year_21 : decode cX9_year 21 = .ok (.bipush 8, 2) := by decide +kernel
theorem dX9_year_23 : decode cX9_year 23 = .ok (.if_icmp .lt 6, 3) := by decide +kernel
theorem dX9_year_26 : decode cX9_year 26 = .ok (.bipush (-104), 2) := by decide +kernel
theorem dX9_year_28 : decode cX9_year 28 = .ok (.ireturn, 1) := by decide +kernel
theorem dX9_year_29 : decode cX9_year 29 = .ok (.aload_n 0, 1) := by decide +kernel
theorem dX9_year_30 : decode cX9_year 30 = .ok (.getfield 12, 3) := by decide +kernel
theorem dX9_year_33 : decode cX9_year 33 = .ok (.getfield 127, 3) := by decide +kernel
theorem dX9_year_36 : decode cX9_year 36 = .ok (.iconst 0, 1) := by decide +kernel
theorem dX9_year_37 : decode cX9_year 37 = .ok (.aload_n 0, 1) := by decide +kernel
theorem dX9_year_38 : decode cX9_year 38 = .ok (.getfield 26, 3) := by decide +kernel
theorem dX9_year_41 : decode cX9_year 41 = .ok (.getfield 130, 3) := by decide +kernel
theorem dX9_year_44 : decode cX9_year 44 = .ok (.aload_n 0, 1) := by decide +kernel
theorem dX9_year_45 : decode cX9_year 45 = .ok (.getfield 26, 3) := by decide +kernel
theorem dX9_year_48 : decode cX9_year 48 = .ok (.getfield 124, 3) := by decide +kernel
theorem dX9_year_51 : decode cX9_year 51 = .ok (.aaload, 1) := by decide +kernel
theorem dX9_year_52 : decode cX9_year 52 = .ok (.iconst 0, 1) := by decide +kernel
theorem dX9_year_53 : decode cX9_year 53 = .ok (.bipush 12, 2) := by decide +kernel
theorem dX9_year_55 : decode cX9_year 55 = .ok (.invokestatic 134, 3) := by decide +kernel
theorem dX9_year_58 : decode cX9_year 58 = .ok (.aload_n 0, 1) := by decide +kernel
theorem dX9_year_59 : decode cX9_year 59 = .ok (.getfield 26, 3) := by decide +kernel
theorem dX9_year_62 : decode cX9_year 62 = .ok (.dup, 1) := by decide +kernel
theorem dX9_year_63 : decode cX9_year 63 = .ok (.getfield 124, 3) := by decide +kernel
theorem dX9_year_66 : decode cX9_year 66 = .ok (.iconst 1, 1) := by decide +kernel
theorem dX9_year_67 : decode cX9_year 67 = .ok (.iadd, 1) := by decide +kernel
theorem dX9_year_68 : decode cX9_year 68 = .ok (.putfield 124, 3) := by decide +kernel
theorem dX9_year_71 : decode cX9_year 71 = .ok (.aload_n 0, 1) := by decide +kernel
theorem dX9_year_72 : decode cX9_year 72 = .ok (.getfield 12, 3) := by decide +kernel
theorem dX9_year_75 : decode cX9_year 75 = .ok (.iconst 0, 1) := by decide +kernel
theorem dX9_year_76 : decode cX9_year 76 = .ok (.putfield 96, 3) := by decide +kernel
theorem dX9_year_79 : decode cX9_year 79 = .ok (.aload_n 0, 1) := by decide +kernel
theorem dX9_year_80 : decode cX9_year 80 = .ok (.dup, 1) := by decide +kernel
theorem dX9_year_81 : decode cX9_year 81 = .ok (.getfield 118, 3) := by decide +kernel
theorem dX9_year_84 : decode cX9_year 84 = .ok (.iconst 1, 1) := by decide +kernel
theorem dX9_year_85 : decode cX9_year 85 = .ok (.iadd, 1) := by decide +kernel
theorem dX9_year_86 : decode cX9_year 86 = .ok (.putfield 118, 3) := by decide +kernel
theorem dX9_year_89 : decode cX9_year 89 = .ok (.aload_n 0, 1) := by decide +kernel
theorem dX9_year_90 : decode cX9_year 90 = .ok (.getfield 26, 3) := by decide +kernel
theorem dX9_year_93 : decode cX9_year 93 = .ok (.getfield 124, 3) := by decide +kernel
theorem dX9_year_96 : decode cX9_year 96 = .ok (.iconst 1, 1) := by decide +kernel
theorem dX9_year_97 : decode cX9_year 97 = .ok (.isub, 1) := by decide +kernel
theorem dX9_year_98 : decode cX9_year 98 = .ok (.ireturn, 1) := by decide +kernel
theorem dX9_tell_0 : decode cX9_tell 0 = .ok (.aload_n 0, 1) := by decide +kernel
theorem dX9_tell_1 : decode cX9_tell 1 = .ok (.getfield 12, 3) := by decide +kernel
theorem dX9_tell_4 : decode cX9_tell 4 = .ok (.iconst 2, 1) := by decide +kernel
theorem dX9_tell_5 : decode cX9_tell 5 = .ok (.invokevirtual 104, 3) := by decide +kernel
theorem dX9_tell_8 : decode cX9_tell 8 = .ok (.ifCond .ne 6, 3) := by decide +kernel
theorem dX9_tell_11 : decode cX9_tell 11 = .ok (.bipush (-103), 2) := by decide +kernel
theorem dX9_tell_13 : decode cX9_tell 13 = .ok (.ireturn, 1) := by decide +kernel
theorem dX9_tell_14 : decode cX9_tell 14 = .ok (.aload_n 0, 1) := by decide +kernel
theorem dX9_tell_15 : decode cX9_tell 15 = .ok (.getfield 140, 3) := by decide +kernel
theorem dX9_tell_18 : decode cX9_tell 18 = .ok (.bipush 8, 2) := by decide +kernel
theorem dX9_tell_20 : decode cX9_tell 20 = .ok (.if_icmp .lt 6, 3) := by decide +kernel
theorem dX9_tell_23 : decode cX9_tell 23 = .ok (.bipush (-104), 2) := by decide +kernel
theorem dX9_tell_25 : decode cX9_tell 25 = .ok (.ireturn, 1) := by decide +kernel
theorem dX9_tell_26 : decode cX9_tell 26 = .ok (.aload_n 0, 1) := by decide +kernel
theorem dX9_tell_27 : decode cX9_tell 27 = .ok (.getfield 32, 3) := by decide +kernel
theorem dX9_tell_30 : decode cX9_tell 30 = .ok (.aload_n 0, 1) := by decide +kernel
theorem dX9_tell_31 : decode cX9_tell 31 = .ok (.getfield 140, 3) := by decide +kernel
theorem dX9_tell_34 : decode cX9_tell 34 = .ok (.aaload, 1) := by decide +kernel
theorem dX9_tell_35 : decode cX9_tell 35 = .ok (.astore_n 1, 1) := by decide +kernel
theorem dX9_tell_36 : decode cX9_tell 36 = .ok (.aload_n 1, 1) := by decide +kernel
theorem dX9_tell_37 : decode cX9_tell 37 = .ok (.iconst 5, 1) := by decide +kernel
theorem dX9_tell_38 : decode cX9_tell 38 = .ok (.putfield 143, 3) := by decide +kernel
theorem dX9_tell_41 : decode cX9_tell 41 = .ok (.aload_n 1, 1) := by decide +kernel
theorem dX9_tell_42 : decode cX9_tell 42 = .ok (.iconst 0, 1) := by decide +kernel
theorem dX9_tell_43 : decode cX9_tell 43 = .ok (.putfield 146, 3) := by decide +kernel
theorem dX9_tell_46 : decode cX9_tell 46 = .ok (.aload_n 0, 1) := by decide +kernel
theorem dX9_tell_47 : decode cX9_tell 47 = .ok (.getfield 12, 3) := by decide +kernel
theorem dX9_tell_50 : decode cX9_tell 50 = .ok (.getfield 127, 3) := by decide +kernel
theorem dX9_tell_53 : decode cX9_tell 53 = .ok (.iconst 0, 1) := by decide +kernel
theorem dX9_tell_54 : decode cX9_tell 54 = .ok (.aload_n 1, 1) := by decide +kernel
theorem dX9_tell_55 : decode cX9_tell 55 = .ok (.getfield 149, 3) := by decide +kernel
theorem dX9_tell_58 : decode cX9_tell 58 = .ok (.iconst 0, 1) := by decide +kernel
theorem dX9_tell_59 : decode cX9_tell 59 = .ok (.bipush 12, 2) := by decide +kernel
theorem dX9_tell_61 : decode cX9_tell 61 = .ok (.invokestatic 134, 3) := by decide +kernel
theorem dX9_tell_64 : decode cX9_tell 64 = .ok (.aload_n 0, 1) := by decide +kernel
theorem dX9_tell_65 : decode cX9_tell 65 = .ok (.getfield 12, 3) := by decide +kernel
theorem dX9_tell_68 : decode cX9_tell 68 = .ok (.iconst 0, 1) := by decide +kernel
theorem dX9_tell_69 : decode cX9_tell 69 = .ok (.putfield 96, 3) := by decide +kernel
theorem dX9_tell_72 : decode cX9_tell 72 = .ok (.aload_n 0, 1) := by decide +kernel
theorem dX9_tell_73 : decode cX9_tell 73 = .ok (.dup, 1) := by decide +kernel
theorem dX9_tell_74 : decode cX9_tell 74 = .ok (.getfield 140, 3) := by decide +kernel
theorem dX9_tell_77 : decode cX9_tell 77 = .ok (.iconst 1, 1) := by decide +kernel
theorem dX9_tell_78 : decode cX9_tell 78 = .ok (.iadd, 1) := by decide +kernel
theorem dX9_tell_79 : decode cX9_tell 79 = .ok (.putfield 140, 3) := by decide +kernel
theorem dX9_tell_82 : decode cX9_tell 82 = .ok (.aload_n 0, 1) := by decide +kernel
theorem dX9_tell_83 : decode cX9_tell 83 = .ok (.getfield 140, 3) := by decide +kernel
theorem dX9_tell_86 : decode cX9_tell 86 = .ok (.iconst 1, 1) := by decide +kernel
theorem dX9_tell_87 : decode cX9_tell 87 = .ok (.isub, 1) := by decide +kernel
theorem dX9_tell_88 : decode cX9_tell 88 = .ok (.ireturn, 1) := by decide +kernel
theorem dX9_rule_0 : decode cX9_rule 0 = .ok (.iload_n 1, 1) := by decide +kernel
theorem dX9_rule_1 : decode cX9_rule 1 = .ok (.ifCond .lt 8, 3) := by decide +kernel
theorem dX9_rule_4 : decode cX9_rule 4 = .ok (.iload_n 1, 1) := by decide +kernel
theorem dX9_rule_5 : decode cX9_rule 5 = .ok (.iconst 4, 1) := by decide +kernel
theorem dX9_rule_6 : decode cX9_rule 6 = .ok (.if_icmp .le 6, 3) := by decide +kernel
theorem dX9_rule_9 : decode cX9_rule 9 = .ok (.bipush (-102), 2) := by decide +kernel
theorem dX9_rule_11 : decode cX9_rule 11 = .ok (.ireturn, 1) := by decide +kernel
theorem dX9_rule_12 : decode cX9_rule 12 = .ok (.iload_n 1, 1) := by decide +kernel
theorem dX9_rule_13 : decode cX9_rule 13 = .ok (.iconst 1, 1) := by decide +kernel
theorem dX9_rule_14 : decode cX9_rule 14 = .ok (.if_icmp .eq 8, 3) := by decide +kernel
theorem dX9_rule_17 : decode cX9_rule 17 = .ok (.iload_n 1, 1) := by decide +kernel
