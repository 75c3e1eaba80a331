theorem dX0_init_0 : decode cX0_init 0 = .ok (.aload_n 0, 1) := by decide +kernel
theorem dX0_init_1 : decode cX0_init 1 = .ok (.invokespecial 3, 3) := by decide +kernel
theorem dX0_init_4 : decode cX0_init 4 = .ok (.aload_n 0, 1) := by decide +kernel
theorem dX0_init_5 : decode cX0_init 5 = .ok (.new 9, 3) := by decide +kernel
theorem dX0_init_8 : decode cX0_init 8 = .ok (.dup, 1) := by decide +kernel
theorem dX0_init_9 : decode cX0_init 9 = .ok (.invokespecial 11, 3) := by decide +kernel
theorem dX0_init_12 : decode cX0_init 12 = .ok (.putfield 12, 3) := by decide +kernel
theorem dX0_init_15 : decode cX0_init 15 = .ok (.aload_n 0, 1) := by decide +kernel
theorem dX0_init_16 : decode cX0_init 16 = .ok (.bipush 12, 2) := by decide +kernel
theorem dX0_init_18 : decode cX0_init 18 = .ok (.sipush 402, 3) := by decide +kernel
theorem dX0_init_21 : decode cX0_init 21 = .ok (.multianewarray 18 2, 4) := by decide +kernel
theorem dX0_init_25 : decode cX0_init 25 = .ok (.putfield 20, 3) := by decide +kernel
theorem dX0_init_28 : decode cX0_init 28 = .ok (.aload_n 0, 1) := by decide +kernel
theorem dX0_init_29 : decode cX0_init 29 = .ok (.bipush 12, 2) := by decide +kernel
theorem dX0_init_31 : decode cX0_init 31 = .ok (.sipush 402, 3) := by decide +kernel
theorem dX0_init_34 : decode cX0_init 34 = .ok (.multianewarray 18 2, 4) := by decide +kernel
theorem dX0_init_38 : decode cX0_init 38 = .ok (.putfield 23, 3) := by decide +kernel
theorem dX0_init_41 : decode cX0_init 41 = .ok (.aload_n 0, 1) := by decide +kernel
theorem dX0_init_42 : decode cX0_init 42 = .ok (.bipush 12, 2) := by decide +kernel
theorem dX0_init_44 : decode cX0_init 44 = .ok (.sipush 402, 3) := by decide +kernel
theorem dX0_init_47 : decode cX0_init 47 = .ok (.multianewarray 18 2, 4) := by decide +kernel
theorem dX0_init_51 : decode cX0_init 51 = .ok (.putfield 26, 3) := by decide +kernel
theorem dX0_init_54 : decode cX0_init 54 = .ok (.aload_n 0, 1) := by decide +kernel
theorem dX0_init_55 : decode cX0_init 55 = .ok (.sipush 402, 3) := by decide +kernel
theorem dX0_init_58 : decode cX0_init 58 = .ok (.newarray .long, 2) := by decide +kernel
theorem dX0_init_60 : decode cX0_init 60 = .ok (.putfield 29, 3) := by decide +kernel
theorem dX0_init_63 : decode cX0_init 63 = .ok (.aload_n 0, 1) := by decide +kernel
theorem dX0_init_64 : decode cX0_init 64 = .ok (.sipush 402, 3) := by decide +kernel
theorem dX0_init_67 : decode cX0_init 67 = .ok (.newarray .long, 2) := by decide +kernel
theorem dX0_init_69 : decode cX0_init 69 = .ok (.putfield 33, 3) := by decide +kernel
theorem dX0_init_72 : decode cX0_init 72 = .ok (.aload_n 0, 1) := by decide +kernel
theorem dX0_init_73 : decode cX0_init 73 = .ok (.aload_n 1, 1) := by decide +kernel
theorem dX0_init_74 : decode cX0_init 74 = .ok (.putfield 36, 3) := by decide +kernel
theorem dX0_init_77 : decode cX0_init 77 = .ok (.aload_n 0, 1) := by decide +kernel
theorem dX0_init_78 : decode cX0_init 78 = .ok (.aload_n 2, 1) := by decide +kernel
theorem dX0_init_79 : decode cX0_init 79 = .ok (.putfield 40, 3) := by decide +kernel
theorem dX0_init_82 : decode cX0_init 82 = .ok (.aload_n 0, 1) := by decide +kernel
theorem dX0_init_83 : decode cX0_init 83 = .ok (.aload_n 3, 1) := by decide +kernel
theorem dX0_init_84 : decode cX0_init 84 = .ok (.putfield 44, 3) := by decide +kernel
theorem dX0_init_87 : decode cX0_init 87 = .ok (.return_, 1) := by decide +kernel
theorem dX0_waysNeverDry_0 : decode cX0_waysNeverDry 0 = .ok (.aload_n 0, 1) := by decide +kernel
theorem dX0_waysNeverDry_1 : decode cX0_waysNeverDry 1 = .ok (.aload_n 1, 1) := by decide +kernel
theorem dX0_waysNeverDry_2 : decode cX0_waysNeverDry 2 = .ok (.iconst 0, 1) := by decide +kernel
theorem dX0_waysNeverDry_3 : decode cX0_waysNeverDry 3 = .ok (.aload_n 0, 1) := by decide +kernel
theorem dX0_waysNeverDry_4 : decode cX0_waysNeverDry 4 = .ok (.getfield 36, 3) := by decide +kernel
theorem dX0_waysNeverDry_7 : decode cX0_waysNeverDry 7 = .ok (.getfield 48, 3) := by decide +kernel
theorem dX0_waysNeverDry_10 : decode cX0_waysNeverDry 10 = .ok (.iconst 1, 1) := by decide +kernel
theorem dX0_waysNeverDry_11 : decode cX0_waysNeverDry 11 = .ok (.iaload, 1) := by decide +kernel
theorem dX0_waysNeverDry_12 : decode cX0_waysNeverDry 12 = .ok (.invokevirtual 54, 3) := by decide +kernel
theorem dX0_waysNeverDry_15 : decode cX0_waysNeverDry 15 = .ok (.aload_n 0, 1) := by decide +kernel
theorem dX0_waysNeverDry_16 : decode cX0_waysNeverDry 16 = .ok (.invokevirtual 58, 3) := by decide +kernel
theorem dX0_waysNeverDry_19 : decode cX0_waysNeverDry 19 = .ok (.iconst 0, 1) := by decide +kernel
theorem dX0_waysNeverDry_20 : decode cX0_waysNeverDry 20 = .ok (.istore_n 2, 1) := by decide +kernel
theorem dX0_waysNeverDry_21 : decode cX0_waysNeverDry 21 = .ok (.iload_n 2, 1) := by decide +kernel
theorem dX0_waysNeverDry_22 : decode cX0_waysNeverDry 22 = .ok (.bipush 12, 2) := by decide +kernel
theorem dX0_waysNeverDry_24 : decode cX0_waysNeverDry 24 = .ok (.if_icmp .ge 21, 3) := by decide +kernel
theorem dX0_waysNeverDry_27 : decode cX0_waysNeverDry 27 = .ok (.aload_n 0, 1) := by decide +kernel
theorem dX0_waysNeverDry_28 : decode cX0_waysNeverDry 28 = .ok (.iload_n 2, 1) := by decide +kernel
theorem dX0_waysNeverDry_29 : decode cX0_waysNeverDry 29 = .ok (.invokevirtual 61, 3) := by decide +kernel
theorem dX0_waysNeverDry_32 : decode cX0_waysNeverDry 32 = .ok (.aload_n 0, 1) := by decide +kernel
theorem dX0_waysNeverDry_33 : decode cX0_waysNeverDry 33 = .ok (.iload_n 2, 1) := by decide +kernel
theorem dX0_waysNeverDry_34 : decode cX0_waysNeverDry 34 = .ok (.iconst 1, 1) := by decide +kernel
theorem dX0_waysNeverDry_35 : decode cX0_waysNeverDry 35 = .ok (.invokevirtual 65, 3) := by decide +kernel
theorem dX0_waysNeverDry_38 : decode cX0_waysNeverDry 38 = .ok (.pop2, 1) := by decide +kernel
theorem dX0_waysNeverDry_39 : decode cX0_waysNeverDry 39 = .ok (.iinc 2 1, 3) := by decide +kernel
theorem dX0_waysNeverDry_42 : decode cX0_waysNeverDry 42 = .ok (.goto (-21), 3) := by decide +kernel
theorem dX0_waysNeverDry_45 : decode cX0_waysNeverDry 45 = .ok (.lconst 0, 1) := by decide +kernel
theorem dX0_waysNeverDry_46 : decode cX0_waysNeverDry 46 = .ok (.lstore_n 2, 1) := by decide +kernel
theorem dX0_waysNeverDry_47 : decode cX0_waysNeverDry 47 = .ok (.iconst 0, 1) := by decide +kernel
theorem dX0_waysNeverDry_48 : decode cX0_waysNeverDry 48 = .ok (.istore 4, 2) := by decide +kernel
theorem dX0_waysNeverDry_50 : decode cX0_waysNeverDry 50 = .ok (.iload 4, 2) := by decide +kernel
theorem dX0_waysNeverDry_52 : decode cX0_waysNeverDry 52 = .ok (.sipush 402, 3) := by decide +kernel
theorem dX0_waysNeverDry_55 : decode cX0_waysNeverDry 55 = .ok (.if_icmp .ge 19, 3) := by decide +kernel
theorem dX0_waysNeverDry_58 : decode cX0_waysNeverDry 58 = .ok (.lload_n 2, 1) := by decide +kernel
theorem dX0_waysNeverDry_59 : decode cX0_waysNeverDry 59 = .ok (.aload_n 0, 1) := by decide +kernel
theorem dX0_waysNeverDry_60 : decode cX0_waysNeverDry 60 = .ok (.getfield 29, 3) := by decide +kernel
theorem dX0_waysNeverDry_63 : decode cX0_waysNeverDry 63 = .ok (.iload 4, 2) := by decide +kernel
theorem dX0_waysNeverDry_65 : decode cX0_waysNeverDry 65 = .ok (.laload, 1) := by decide +kernel
theorem dX0_waysNeverDry_66 : decode cX0_waysNeverDry 66 = .ok (.ladd, 1) := by decide +kernel
theorem dX0_waysNeverDry_67 : decode cX0_waysNeverDry 67 = .ok (.lstore_n 2, 1) := by decide +kernel
theorem dX0_waysNeverDry_68 : decode cX0_waysNeverDry 68 = .ok (.iinc 4 1, 3) := by decide +kernel
theorem dX0_waysNeverDry_71 : decode cX0_waysNeverDry 71 = .ok (.goto (-21), 3) := by decide +kernel
theorem dX0_waysNeverDry_74 : decode cX0_waysNeverDry 74 = .ok (.lload_n 2, 1) := by decide +kernel
theorem dX0_waysNeverDry_75 : decode cX0_waysNeverDry 75 = .ok (.lreturn, 1) := by decide +kernel
theorem dX0_costOfAllWays_0 : decode cX0_costOfAllWays 0 = .ok (.aload_n 0, 1) := by decide +kernel
theorem dX0_costOfAllWays_1 : decode cX0_costOfAllWays 1 = .ok (.aload_n 1, 1) := by decide +kernel
theorem dX0_costOfAllWays_2 : decode cX0_costOfAllWays 2 = .ok (.iconst 0, 1) := by decide +kernel
theorem dX0_costOfAllWays_3 : decode cX0_costOfAllWays 3 = .ok (.aload_n 0, 1) := by decide +kernel
theorem dX0_costOfAllWays_4 : decode cX0_costOfAllWays 4 = .ok (.getfield 36, 3) := by decide +kernel
theorem dX0_costOfAllWays_7 : decode cX0_costOfAllWays 7 = .ok (.getfield 48, 3) := by decide +kernel
theorem dX0_costOfAllWays_10 : decode cX0_costOfAllWays 10 = .ok (.iconst 1, 1) := by decide +kernel
theorem dX0_costOfAllWays_11 : decode cX0_costOfAllWays 11 = .ok (.iaload, 1) := by decide +kernel
theorem dX0_costOfAllWays_12 : decode cX0_costOfAllWays 12 = .ok (.invokevirtual 54, 3) := by decide +kernel
theorem dX0_costOfAllWays_15 : decode cX0_costOfAllWays 15 = .ok (.aload_n 0, 1) := by decide +kernel
theorem dX0_costOfAllWays_16 : decode cX0_costOfAllWays 16 = .ok (.invokevirtual 69, 3) := by decide +kernel
theorem dX0_costOfAllWays_19 : decode cX0_costOfAllWays 19 = .ok (.lreturn, 1) := by decide +kernel
theorem dX0_bestHedge_0 : decode cX0_bestHedge 0 = .ok (.aload_n 0, 1) := by decide +kernel
theorem dX0_bestHedge_1 : decode cX0_bestHedge 1 = .ok (.getfield 12, 3) := by decide +kernel
theorem dX0_bestHedge_4 : decode cX0_bestHedge 4 = .ok (.iconst 1, 1) := by decide +kernel
theorem dX0_bestHedge_5 : decode cX0_bestHedge 5 = .ok (.putfield 73, 3) := by decide +kernel
theorem dX0_bestHedge_8 : decode cX0_bestHedge 8 = .ok (.aload_n 0, 1) := by decide +kernel
theorem dX0_bestHedge_9 : decode cX0_bestHedge 9 = .ok (.getfield 12, 3) := by decide +kernel
theorem dX0_bestHedge_12 : decode cX0_bestHedge 12 = .ok (.iconst 0, 1) := by decide +kernel
theorem dX0_bestHedge_13 : decode cX0_bestHedge 13 = .ok (.putfield 77, 3) := by decide +kernel
theorem dX0_bestHedge_16 : decode cX0_bestHedge 16 = .ok (.aload_n 0, 1) := by decide +kernel
theorem dX0_bestHedge_17 : decode cX0_bestHedge 17 = .ok (.aload_n 0, 1) := by decide +kernel
theorem dX0_bestHedge_18 : decode cX0_bestHedge 18 = .ok (.getfield 12, 3) := by decide +kernel
theorem dX0_bestHedge_21 : decode cX0_bestHedge 21 = .ok (.iconst 0, 1) := by decide +kernel
theorem dX0_bestHedge_22 : decode cX0_bestHedge 22 = .ok (.aload_n 0, 1) := by decide +kernel
theorem dX0_bestHedge_23 : decode cX0_bestHedge 23 = .ok (.getfield 36, 3) := by decide +kernel
theorem dX0_bestHedge_26 : decode cX0_bestHedge 26 = .ok (.getfield 48, 3) := by decide +kernel
theorem dX0_bestHedge_29 : decode cX0_bestHedge 29 = .ok (.iconst 1, 1) := by decide +kernel
theorem dX0_bestHedge_30 : decode cX0_bestHedge 30 = .ok (.iaload, 1) := by decide +kernel
theorem dX0_bestHedge_31 : decode cX0_bestHedge 31 = .ok (.invokevirtual 54, 3) := by decide +kernel
theorem dX0_bestHedge_34 : decode cX0_bestHedge 34 = .ok (.aload_n 0, 1) := by decide +kernel
theorem dX0_bestHedge_35 : decode cX0_bestHedge 35 = .ok (.invokevirtual 69, 3) := by decide +kernel
theorem dX0_bestHedge_38 : decode cX0_bestHedge 38 = .ok (.lstore_n 1, 1) := by decide +kernel
theorem dX0_bestHedge_39 : decode cX0_bestHedge 39 = .ok (.iconst 0, 1) := by decide +kernel
theorem dX0_bestHedge_40 : decode cX0_bestHedge 40 = .ok (.istore_n 3, 1) := by decide +kernel
theorem dX0_bestHedge_41 : decode cX0_bestHedge 41 = .ok (.iconst 1, 1) := by decide +kernel
theorem dX0_bestHedge_42 : decode cX0_bestHedge 42 = .ok (.istore 4, 2) := by decide +kernel
theorem dX0_bestHedge_44 : decode cX0_bestHedge 44 = .ok (.iload 4, 2) := by decide +kernel
theorem dX0_bestHedge_46 : decode cX0_bestHedge 46 = .ok (.aload_n 0, 1) := by decide +kernel
theorem dX0_bestHedge_47 : decode cX0_bestHedge 47 = .ok (.getfield 36, 3) := by decide +kernel
theorem dX0_bestHedge_50 : decode cX0_bestHedge 50 = .ok (.getfield 48, 3) := by decide +kernel
theorem dX0_bestHedge_53 : decode cX0_bestHedge 53 = .ok (.iconst 1, 1) := by decide +kernel
theorem dX0_bestHedge_54 : decode cX0_bestHedge 54 = .ok (.iaload, 1) := by decide +kernel
theorem dX0_bestHedge_55 : decode cX0_bestHedge 55 = .ok (.if_icmp .gt 53, 3) := by decide +kernel
theorem dX0_bestHedge_58 : decode cX0_bestHedge 58 = .ok (.aload_n 0, 1) := by decide +kernel
theorem dX0_bestHedge_59 : decode cX0_bestHedge 59 = .ok (.getfield 12, 3) := by decide +kernel
theorem dX0_bestHedge_62 : decode cX0_bestHedge 62 = .ok (.iload 4, 2) := by decide +kernel
theorem dX0_bestHedge_64 : decode cX0_bestHedge 64 = .ok (.putfield 77, 3) := by decide +kernel
theorem dX0_bestHedge_67 : decode cX0_bestHedge 67 = .ok (.aload_n 0, 1) := by decide +kernel
theorem dX0_bestHedge_68 : decode cX0_bestHedge 68 = .ok (.aload_n 0, 1) := by decide +kernel
theorem dX0_bestHedge_69 : decode cX0_bestHedge 69 = .ok (.getfield 12, 3) := by decide +kernel
theorem dX0_bestHedge_72 : decode cX0_bestHedge 72 = .ok (.iload 4, 2) := by decide +kernel
theorem dX0_bestHedge_74 : decode cX0_bestHedge 74 = .ok (.iconst 1, 1) := by decide +kernel
theorem dX0_bestHedge_75 : decode cX0_bestHedge 75 = .ok (.isub, 1) := by decide +kernel
theorem dX0_bestHedge_76 : decode cX0_bestHedge 76 = .ok (.iload 4, 2) := by decide +kernel
theorem dX0_bestHedge_78 : decode cX0_bestHedge 78 = .ok (.iconst 1, 1) := by decide +kernel
theorem dX0_bestHedge_79 : decode cX0_bestHedge 79 = .ok (.isub, 1) := by decide +kernel
theorem dX0_bestHedge_80 : decode cX0_bestHedge 80 = .ok (.invokevirtual 54, 3) := by decide +kernel
theorem dX0_bestHedge_83 : decode cX0_bestHedge 83 = .ok (.aload_n 0, 1) := by decide +kernel
theorem dX0_bestHedge_84 : decode cX0_bestHedge 84 = .ok (.invokevirtual 69, 3) := by decide +kernel
theorem dX0_bestHedge_87 : decode cX0_bestHedge 87 = .ok (.lstore 5, 2) := by decide +kernel
theorem dX0_bestHedge_89 : decode cX0_bestHedge 89 = .ok (.lload 5, 2) := by decide +kernel
theorem dX0_bestHedge_91 : decode cX0_bestHedge 91 = .ok (.lload_n 1, 1) := by decide +kernel
theorem dX0_bestHedge_92 : decode cX0_bestHedge 92 = .ok (.lcmp, 1) := by decide +kernel
theorem dX0_bestHedge_93 : decode cX0_bestHedge 93 = .ok (.ifCond .ge 9, 3) := by decide +kernel
theorem dX0_bestHedge_96 : decode cX0_bestHedge 96 = .ok (.lload 5, 2) := by decide +kernel
theorem dX0_bestHedge_98 : decode cX0_bestHedge 98 = .ok (.lstore_n 1, 1) := by decide +kernel
theorem dX0_bestHedge_99 : decode cX0_bestHedge 99 = .ok (.iload 4, 2) := by decide +kernel
theorem dX0_bestHedge_101 : decode cX0_bestHedge 101 = .ok (.istore_n 3, 1) := by decide +kernel
theorem dX0_bestHedge_102 : decode cX0_bestHedge 102 = .ok (.iinc 4 1, 3) := by decide +kernel
theorem dX0_bestHedge_105 : decode cX0_bestHedge 105 = .ok (.goto (-61), 3) := by decide +kernel
theorem dX0_bestHedge_108 : decode cX0_bestHedge 108 = .ok (.iload_n 3, 1) := by decide +kernel
theorem dX0_bestHedge_109 : decode cX0_bestHedge 109 = .ok (.ireturn, 1) := by decide +kernel
theorem dX0_layOut_0 : decode cX0_layOut 0 = .ok (.aload_n 0, 1) := by decide +kernel
theorem dX0_layOut_1 : decode cX0_layOut 1 = .ok (.getfield 44, 3) := by decide +kernel
theorem dX0_layOut_4 : decode cX0_layOut 4 = .ok (.aload_n 0, 1) := by decide +kernel
theorem dX0_layOut_5 : decode cX0_layOut 5 = .ok (.getfield 36, 3) := by decide +kernel
theorem dX0_layOut_8 : decode cX0_layOut 8 = .ok (.getfield 48, 3) := by decide +kernel
theorem dX0_layOut_11 : decode cX0_layOut 11 = .ok (.iconst 0, 1) := by decide +kernel
theorem dX0_layOut_12 : decode cX0_layOut 12 = .ok (.iaload, 1) := by decide +kernel
theorem dX0_layOut_13 : decode cX0_layOut 13 = .ok (.aload_n 0, 1) := by decide +kernel
theorem dX0_layOut_14 : decode cX0_layOut 14 = .ok (.getfield 36, 3) := by decide +kernel
theorem dX0_layOut_17 : decode cX0_layOut 17 = .ok (.getfield 48, 3) := by decide +kernel
theorem dX0_layOut_20 : decode cX0_layOut 20 = .ok (.iconst 1, 1) := by decide +kernel
theorem dX0_layOut_21 : decode cX0_layOut 21 = .ok (.iaload, 1) := by decide +kernel
theorem dX0_layOut_22 : decode cX0_layOut 22 = .ok (.invokevirtual 80, 3) := by decide +kernel
theorem dX0_layOut_25 : decode cX0_layOut 25 = .ok (.iconst 0, 1) := by decide +kernel
theorem dX0_layOut_26 : decode cX0_layOut 26 = .ok (.istore 4, 2) := by decide +kernel
theorem dX0_layOut_28 : decode cX0_layOut 28 = .ok (.iload 4, 2) := by decide +kernel
theorem dX0_layOut_30 : decode cX0_layOut 30 = .ok (.bipush 12, 2) := by decide +kernel
theorem dX0_layOut_32 : decode cX0_layOut 32 = .ok (.if_icmp .ge 48, 3) := by decide +kernel
theorem dX0_layOut_35 : decode cX0_layOut 35 = .ok (.iload_n 2, 1) := by decide +kernel
theorem dX0_layOut_36 : decode cX0_layOut 36 = .ok (.istore 5, 2) := by decide +kernel
theorem dX0_layOut_38 : decode cX0_layOut 38 = .ok (.iload 5, 2) := by decide +kernel
theorem dX0_layOut_40 : decode cX0_layOut 40 = .ok (.iload_n 3, 1) := by decide +kernel
theorem dX0_layOut_41 : decode cX0_layOut 41 = .ok (.if_icmp .gt 33, 3) := by decide +kernel
theorem dX0_layOut_44 : decode cX0_layOut 44 = .ok (.aload_n 0, 1) := by decide +kernel
theorem dX0_layOut_45 : decode cX0_layOut 45 = .ok (.aload_n 1, 1) := by decide +kernel
theorem dX0_layOut_46 : decode cX0_layOut 46 = .ok (.iload 4, 2) := by decide +kernel
theorem dX0_layOut_48 : decode cX0_layOut 48 = .ok (.iconst 2, 1) := by decide +kernel
theorem dX0_layOut_49 : decode cX0_layOut 49 = .ok (.iload 5, 2) := by decide +kernel
theorem dX0_layOut_51 : decode cX0_layOut 51 = .ok (.imul, 1) := by decide +kernel
theorem dX0_layOut_52 : decode cX0_layOut 52 = .ok (.invokevirtual 85, 3) := by decide +kernel
theorem dX0_layOut_55 : decode cX0_layOut 55 = .ok (.aload_n 0, 1) := by decide +kernel
theorem dX0_layOut_56 : decode cX0_layOut 56 = .ok (.aload_n 1, 1) := by decide +kernel
theorem dX0_layOut_57 : decode cX0_layOut 57 = .ok (.iload 4, 2) := by decide +kernel
theorem dX0_layOut_59 : decode cX0_layOut 59 = .ok (.iconst 2, 1) := by decide +kernel
theorem dX0_layOut_60 : decode cX0_layOut 60 = .ok (.iload 5, 2) := by decide +kernel
theorem dX0_layOut_62 : decode cX0_layOut 62 = .ok (.imul, 1) := by decide +kernel
theorem dX0_layOut_63 : decode cX0_layOut 63 = .ok (.iconst 1, 1) := by decide +kernel
theorem dX0_layOut_64 : decode cX0_layOut 64 = .ok (.iadd, 1) := by decide +kernel
theorem dX0_layOut_65 : decode cX0_layOut 65 = .ok (.invokevirtual 85, 3) := by decide +kernel
theorem dX0_layOut_68 : decode cX0_layOut 68 = .ok (.iinc 5 1, 3) := by decide +kernel
theorem dX0_layOut_71 : decode cX0_layOut 71 = .ok (.goto (-33), 3) := by decide +kernel
theorem dX0_layOut_74 : decode cX0_layOut 74 = .ok (.iinc 4 1, 3) := by decide +kernel
theorem dX0_layOut_77 : decode cX0_layOut 77 = .ok (.goto (-49), 3) := by decide +kernel
theorem dX0_layOut_80 : decode cX0_layOut 80 = .ok (.return_, 1) := by decide +kernel
theorem dX0_layOutState_0 : decode cX0_layOutState 0 = .ok (.aload_n 0, 1) := by decide +kernel
theorem dX0_layOutState_1 : decode cX0_layOutState 1 = .ok (.getfield 44, 3) := by decide +kernel
theorem dX0_layOutState_4 : decode cX0_layOutState 4 = .ok (.iload_n 3, 1) := by decide +kernel
theorem dX0_layOutState_5 : decode cX0_layOutState 5 = .ok (.iconst 1, 1) := by decide +kernel
theorem dX0_layOutState_6 : decode cX0_layOutState 6 = .ok (.ishr, 1) := by decide +kernel
theorem dX0_layOutState_7 : decode cX0_layOutState 7 = .ok (.putfield 88, 3) := by decide +kernel
theorem dX0_layOutState_10 : decode cX0_layOutState 10 = .ok (.aload_n 0, 1) := by decide +kernel
theorem dX0_layOutState_11 : decode cX0_layOutState 11 = .ok (.getfield 44, 3) := by decide +kernel
theorem dX0_layOutState_14 : decode cX0_layOutState 14 = .ok (.iload_n 3, 1) := by decide +kernel
theorem dX0_layOutState_15 : decode cX0_layOutState 15 = .ok (.iconst 1, 1) := by decide +kernel
theorem dX0_layOutState_16 : decode cX0_layOutState 16 = .ok (.iand, 1) := by decide +kernel
theorem dX0_layOutState_17 : decode cX0_layOutState 17 = .ok (.iconst 1, 1) := by decide +kernel
theorem dX0_layOutState_18 : decode cX0_layOutState 18 = .ok (.if_icmp .ne 7, 3) := by decide +kernel
theorem dX0_layOutState_21 : decode cX0_layOutState 21 = .ok (.iconst 1, 1) := by decide +kernel
theorem dX0_layOutState_22 : decode cX0_layOutState 22 = .ok (.goto 4, 3) := by decide +kernel
theorem dX0_layOutState_25 : decode cX0_layOutState 25 = .ok (.iconst 0, 1) := by decide +kernel
theorem dX0_layOutState_26 : decode cX0_layOutState 26 = .ok (.putfield 91, 3) := by decide +kernel
theorem dX0_layOutState_29 : decode cX0_layOutState 29 = .ok (.aload_n 0, 1) := by decide +kernel
theorem dX0_layOutState_30 : decode cX0_layOutState 30 = .ok (.getfield 44, 3) := by decide +kernel
theorem dX0_layOutState_33 : decode cX0_layOutState 33 = .ok (.aload_n 1, 1) := by decide +kernel
theorem dX0_layOutState_34 : decode cX0_layOutState 34 = .ok (.iload_n 2, 1) := by decide +kernel
theorem dX0_layOutState_35 : decode cX0_layOutState 35 = .ok (.invokevirtual 95, 3) := by decide +kernel
theorem dX0_layOutState_38 : decode cX0_layOutState 38 = .ok (.aload_n 0, 1) := by decide +kernel
theorem dX0_layOutState_39 : decode cX0_layOutState 39 = .ok (.getfield 20, 3) := by decide +kernel
theorem dX0_layOutState_42 : decode cX0_layOutState 42 = .ok (.iload_n 2, 1) := by decide +kernel
theorem dX0_layOutState_43 : decode cX0_layOutState 43 = .ok (.aaload, 1) := by decide +kernel
theorem dX0_layOutState_44 : decode cX0_layOutState 44 = .ok (.iload_n 3, 1) := by decide +kernel
theorem dX0_layOutState_45 : decode cX0_layOutState 45 = .ok (.aload_n 0, 1) := by decide +kernel
theorem dX0_layOutState_46 : decode cX0_layOutState 46 = .ok (.getfield 44, 3) := by decide +kernel
theorem dX0_layOutState_49 : decode cX0_layOutState 49 = .ok (.getfield 88, 3) := by decide +kernel
theorem dX0_layOutState_52 : decode cX0_layOutState 52 = .ok (.iastore, 1) := by decide +kernel
theorem dX0_layOutState_53 : decode cX0_layOutState 53 = .ok (.aload_n 0, 1) := by decide +kernel
theorem dX0_layOutState_54 : decode cX0_layOutState 54 = .ok (.getfield 23, 3) := by decide +kernel
theorem dX0_layOutState_57 : decode cX0_layOutState 57 = .ok (.iload_n 2, 1) := by decide +kernel
theorem dX0_layOutState_58 : decode cX0_layOutState 58 = .ok (.aaload, 1) := by decide +kernel
theorem dX0_layOutState_59 : decode cX0_layOutState 59 = .ok (.iload_n 3, 1) := by decide +kernel
theorem dX0_layOutState_60 : decode cX0_layOutState 60 = .ok (.aload_n 0, 1) := by decide +kernel
theorem dX0_layOutState_61 : decode cX0_layOutState 61 = .ok (.getfield 44, 3) := by decide +kernel
theorem dX0_layOutState_64 : decode cX0_layOutState 64 = .ok (.getfield 99, 3) := by decide +kernel
theorem dX0_layOutState_67 : decode cX0_layOutState 67 = .ok (.iastore, 1) := by decide +kernel
theorem dX0_layOutState_68 : decode cX0_layOutState 68 = .ok (.aload_n 0, 1) := by decide +kernel
theorem dX0_layOutState_69 : decode cX0_layOutState 69 = .ok (.getfield 26, 3) := by decide +kernel
theorem dX0_layOutState_72 : decode cX0_layOutState 72 = .ok (.iload_n 2, 1) := by decide +kernel
theorem dX0_layOutState_73 : decode cX0_layOutState 73 = .ok (.aaload, 1) := by decide +kernel
theorem dX0_layOutState_74 : decode cX0_layOutState 74 = .ok (.iload_n 3, 1) := by decide +kernel
theorem dX0_layOutState_75 : decode cX0_layOutState 75 = .ok (.aload_n 0, 1) := by decide +kernel
theorem dX0_layOutState_76 : decode cX0_layOutState 76 = .ok (.getfield 44, 3) := by decide +kernel
theorem dX0_layOutState_79 : decode cX0_layOutState 79 = .ok (.getfield 102, 3) := by decide +kernel
theorem dX0_layOutState_82 : decode cX0_layOutState 82 = .ok (.iastore, 1) := by decide +kernel
theorem dX0_layOutState_83 : decode cX0_layOutState 83 = .ok (.return_, 1) := by decide +kernel
theorem dX0_startFull_0 : decode cX0_startFull 0 = .ok (.aload_n 0, 1) := by decide +kernel
theorem dX0_startFull_1 : decode cX0_startFull 1 = .ok (.getfield 29, 3) := by decide +kernel
theorem dX0_startFull_4 : decode cX0_startFull 4 = .ok (.lconst 0, 1) := by decide +kernel
theorem dX0_startFull_5 : decode cX0_startFull 5 = .ok (.invokestatic 105, 3) := by decide +kernel
theorem dX0_startFull_8 : decode cX0_startFull 8 = .ok (.aload_n 0, 1) := by decide +kernel
theorem dX0_startFull_9 : decode cX0_startFull 9 = .ok (.getfield 29, 3) := by decide +kernel
theorem dX0_startFull_12 : decode cX0_startFull 12 = .ok (.aload_n 0, 1) := by decide +kernel
theorem dX0_startFull_13 : decode cX0_startFull 13 = .ok (.getfield 36, 3) := by decide +kernel
theorem dX0_startFull_16 : decode cX0_startFull 16 = .ok (.getfield 48, 3) := by decide +kernel
theorem dX0_startFull_19 : decode cX0_startFull 19 = .ok (.iconst 1, 1) := by decide +kernel
theorem dX0_startFull_20 : decode cX0_startFull 20 = .ok (.iaload, 1) := by decide +kernel
theorem dX0_startFull_21 : decode cX0_startFull 21 = .ok (.iconst 1, 1) := by decide +kernel
theorem dX0_startFull_22 : decode cX0_startFull 22 = .ok (.invokestatic 111, 3) := by decide +kernel
theorem dX0_startFull_25 : decode cX0_startFull 25 = .ok (.lconst 1, 1) := by decide +kernel
theorem dX0_startFull_26 : decode cX0_startFull 26 = .ok (.lastore, 1) := by decide +kernel
theorem dX0_startFull_27 : decode cX0_startFull 27 = .ok (.return_, 1) := by decide +kernel
theorem dX0_costAsLaidOut_0 : decode cX0_costAsLaidOut 0 = .ok (.lconst 0, 1) := by decide +kernel
theorem dX0_costAsLaidOut_1 : decode cX0_costAsLaidOut 1 = .ok (.lstore_n 1, 1) := by decide +kernel
theorem dX0_costAsLaidOut_2 : decode cX0_costAsLaidOut 2 = .ok (.aload_n 0, 1) := by decide +kernel
theorem dX0_costAsLaidOut_3 : decode cX0_costAsLaidOut 3 = .ok (.invokevirtual 58, 3) := by decide +kernel
theorem dX0_costAsLaidOut_6 : decode cX0_costAsLaidOut 6 = .ok (.iconst 0, 1) := by decide +kernel
theorem dX0_costAsLaidOut_7 : decode cX0_costAsLaidOut 7 = .ok (.istore_n 3, 1) := by decide +kernel
theorem dX0_costAsLaidOut_8 : decode cX0_costAsLaidOut 8 = .ok (.iload_n 3, 1) := by decide +kernel
theorem dX0_costAsLaidOut_9 : decode cX0_costAsLaidOut 9 = .ok (.bipush 12, 2) := by decide +kernel
theorem dX0_costAsLaidOut_11 : decode cX0_costAsLaidOut 11 = .ok (.if_icmp .ge 32, 3) := by decide +kernel
theorem dX0_costAsLaidOut_14 : decode cX0_costAsLaidOut 14 = .ok (.aload_n 0, 1) := by decide +kernel
theorem dX0_costAsLaidOut_15 : decode cX0_costAsLaidOut 15 = .ok (.iload_n 3, 1) := by decide +kernel
theorem dX0_costAsLaidOut_16 : decode cX0_costAsLaidOut 16 = .ok (.invokevirtual 61, 3) := by decide +kernel
theorem dX0_costAsLaidOut_19 : decode cX0_costAsLaidOut 19 = .ok (.lload_n 1, 1) := by decide +kernel
theorem dX0_costAsLaidOut_20 : decode cX0_costAsLaidOut 20 = .ok (.aload_n 0, 1) := by decide +kernel
theorem dX0_costAsLaidOut_21 : decode cX0_costAsLaidOut 21 = .ok (.getfield 40, 3) := by decide +kernel
theorem dX0_costAsLaidOut_24 : decode cX0_costAsLaidOut 24 = .ok (.getfield 115, 3) := by decide +kernel
theorem dX0_costAsLaidOut_27 : decode cX0_costAsLaidOut 27 = .ok (.i2l, 1) := by decide +kernel
theorem dX0_costAsLaidOut_28 : decode cX0_costAsLaidOut 28 = .ok (.lmul, 1) := by decide +kernel
theorem dX0_costAsLaidOut_29 : decode cX0_costAsLaidOut 29 = .ok (.aload_n 0, 1) := by decide +kernel
theorem dX0_costAsLaidOut_30 : decode cX0_costAsLaidOut 30 = .ok (.iload_n 3, 1) := by decide +kernel
theorem dX0_costAsLaidOut_31 : decode cX0_costAsLaidOut 31 = .ok (.iconst 0, 1) := by decide +kernel
theorem dX0_costAsLaidOut_32 : decode cX0_costAsLaidOut 32 = .ok (.invokevirtual 65, 3) := by decide +kernel
theorem dX0_costAsLaidOut_35 : decode cX0_costAsLaidOut 35 = .ok (.ladd, 1) := by decide +kernel
theorem dX0_costAsLaidOut_36 : decode cX0_costAsLaidOut 36 = .ok (.lstore_n 1, 1) := by decide +kernel
theorem dX0_costAsLaidOut_37 : decode cX0_costAsLaidOut 37 = .ok (.iinc 3 1, 3) := by decide +kernel
theorem dX0_costAsLaidOut_40 : decode cX0_costAsLaidOut 40 = .ok (.goto (-32), 3) := by decide +kernel
theorem dX0_costAsLaidOut_43 : decode cX0_costAsLaidOut 43 = .ok (.lload_n 1, 1) := by decide +kernel
theorem dX0_costAsLaidOut_44 : decode cX0_costAsLaidOut 44 = .ok (.lreturn, 1) := by decide +kernel
theorem dX0_letRain_0 : decode cX0_letRain 0 = .ok (.aload_n 0, 1) := by decide +kernel
theorem dX0_letRain_1 : decode cX0_letRain 1 = .ok (.getfield 33, 3) := by decide +kernel
theorem dX0_letRain_4 : decode cX0_letRain 4 = .ok (.lconst 0, 1) := by decide +kernel
theorem dX0_letRain_5 : decode cX0_letRain 5 = .ok (.invokestatic 105, 3) := by decide +kernel
theorem dX0_letRain_8 : decode cX0_letRain 8 = .ok (.iconst 2, 1) := by decide +kernel
theorem dX0_letRain_9 : decode cX0_letRain 9 = .ok (.aload_n 0, 1) := by decide +kernel
theorem dX0_letRain_10 : decode cX0_letRain 10 = .ok (.getfield 36, 3) := by decide +kernel
theorem dX0_letRain_13 : decode cX0_letRain 13 = .ok (.getfield 48, 3) := by decide +kernel
theorem dX0_letRain_16 : decode cX0_letRain 16 = .ok (.iconst 1, 1) := by decide +kernel
theorem dX0_letRain_17 : decode cX0_letRain 17 = .ok (.iaload, 1) := by decide +kernel
theorem dX0_letRain_18 : decode cX0_letRain 18 = .ok (.iconst 1, 1) := by decide +kernel
theorem dX0_letRain_19 : decode cX0_letRain 19 = .ok (.iadd, 1) := by decide +kernel
theorem dX0_letRain_20 : decode cX0_letRain 20 = .ok (.imul, 1) := by decide +kernel
theorem dX0_letRain_21 : decode cX0_letRain 21 = .ok (.istore_n 2, 1) := by decide +kernel
theorem dX0_letRain_22 : decode cX0_letRain 22 = .ok (.iconst 0, 1) := by decide +kernel
theorem dX0_letRain_23 : decode cX0_letRain 23 = .ok (.istore_n 3, 1) := by decide +kernel
theorem dX0_letRain_24 : decode cX0_letRain 24 = .ok (.iload_n 3, 1) := by decide +kernel
theorem dX0_letRain_25 : decode cX0_letRain 25 = .ok (.iload_n 2, 1) := by decide +kernel
theorem dX0_letRain_26 : decode cX0_letRain 26 = .ok (.if_icmp .ge 75, 3) := by decide +kernel
theorem dX0_letRain_29 : decode cX0_letRain 29 = .ok (.aload_n 0, 1) := by decide +kernel
theorem dX0_letRain_30 : decode cX0_letRain 30 = .ok (.getfield 29, 3) := by decide +kernel
theorem dX0_letRain_33 : decode cX0_letRain 33 = .ok (.iload_n 3, 1) := by decide +kernel
theorem dX0_letRain_34 : decode cX0_letRain 34 = .ok (.laload, 1) := by decide +kernel
theorem dX0_letRain_35 : decode cX0_letRain 35 = .ok (.lstore 4, 2) := by decide +kernel
theorem dX0_letRain_37 : decode cX0_letRain 37 = .ok (.iconst 0, 1) := by decide +kernel
theorem dX0_letRain_38 : decode cX0_letRain 38 = .ok (.istore 6, 2) := by decide +kernel
theorem dX0_letRain_40 : decode cX0_letRain 40 = .ok (.iload 6, 2) := by decide +kernel
theorem dX0_letRain_42 : decode cX0_letRain 42 = .ok (.aload_n 0, 1) := by decide +kernel
theorem dX0_letRain_43 : decode cX0_letRain 43 = .ok (.getfield 40, 3) := by decide +kernel
theorem dX0_letRain_46 : decode cX0_letRain 46 = .ok (.getfield 115, 3) := by decide +kernel
theorem dX0_letRain_49 : decode cX0_letRain 49 = .ok (.if_icmp .ge 46, 3) := by decide +kernel
theorem dX0_letRain_52 : decode cX0_letRain 52 = .ok (.lload 4, 2) := by decide +kernel
theorem dX0_letRain_54 : decode cX0_letRain 54 = .ok (.lconst 0, 1) := by decide +kernel
theorem dX0_letRain_55 : decode cX0_letRain 55 = .ok (.lcmp, 1) := by decide +kernel
theorem dX0_letRain_56 : decode cX0_letRain 56 = .ok (.ifCond .le 39, 3) := by decide +kernel
theorem dX0_letRain_59 : decode cX0_letRain 59 = .ok (.aload_n 0, 1) := by decide +kernel
theorem dX0_letRain_60 : decode cX0_letRain 60 = .ok (.getfield 33, 3) := by decide +kernel
theorem dX0_letRain_63 : decode cX0_letRain 63 = .ok (.aload_n 0, 1) := by decide +kernel
theorem dX0_letRain_64 : decode cX0_letRain 64 = .ok (.getfield 36, 3) := by decide +kernel
theorem dX0_letRain_67 : decode cX0_letRain 67 = .ok (.iload_n 3, 1) := by decide +kernel
theorem dX0_letRain_68 : decode cX0_letRain 68 = .ok (.aload_n 0, 1) := by decide +kernel
theorem dX0_letRain_69 : decode cX0_letRain 69 = .ok (.getfield 40, 3) := by decide +kernel
theorem dX0_letRain_72 : decode cX0_letRain 72 = .ok (.getfield 120, 3) := by decide +kernel
theorem dX0_letRain_75 : decode cX0_letRain 75 = .ok (.iload 6, 2) := by decide +kernel
theorem dX0_letRain_77 : decode cX0_letRain 77 = .ok (.aaload, 1) := by decide +kernel
theorem dX0_letRain_78 : decode cX0_letRain 78 = .ok (.iload_n 1, 1) := by decide +kernel
theorem dX0_letRain_79 : decode cX0_letRain 79 = .ok (.iaload, 1) := by decide +kernel
theorem dX0_letRain_80 : decode cX0_letRain 80 = .ok (.invokestatic 123, 3) := by decide +kernel
theorem dX0_letRain_83 : decode cX0_letRain 83 = .ok (.dup2, 1) := by decide +kernel
theorem dX0_letRain_84 : decode cX0_letRain 84 = .ok (.laload, 1) := by decide +kernel
theorem dX0_letRain_85 : decode cX0_letRain 85 = .ok (.lload 4, 2) := by decide +kernel
theorem dX0_letRain_87 : decode cX0_letRain 87 = .ok (.ladd, 1) := by decide +kernel
theorem dX0_letRain_88 : decode cX0_letRain 88 = .ok (.lastore, 1) := by decide +kernel
theorem dX0_letRain_89 : decode cX0_letRain 89 = .ok (.iinc 6 1, 3) := by decide +kernel
theorem dX0_letRain_92 : decode cX0_letRain 92 = .ok (.goto (-52), 3) := by decide +kernel
theorem dX0_letRain_95 : decode cX0_letRain 95 = .ok (.iinc 3 1, 3) := by decide +kernel
theorem dX0_letRain_98 : decode cX0_letRain 98 = .ok (.goto (-74), 3) := by decide +kernel
theorem dX0_letRain_101 : decode cX0_letRain 101 = .ok (.return_, 1) := by decide +kernel
theorem dX0_draw_0 : decode cX0_draw 0 = .ok (.aload_n 0, 1) := by decide +kernel
theorem dX0_draw_1 : decode cX0_draw 1 = .ok (.getfield 29, 3) := by decide +kernel
theorem dX0_draw_4 : decode cX0_draw 4 = .ok (.lconst 0, 1) := by decide +kernel
theorem dX0_draw_5 : decode cX0_draw 5 = .ok (.invokestatic 105, 3) := by decide +kernel
theorem dX0_draw_8 : decode cX0_draw 8 = .ok (.iconst 2, 1) := by decide +kernel
theorem dX0_draw_9 : decode cX0_draw 9 = .ok (.aload_n 0, 1) := by decide +kernel
theorem dX0_draw_10 : decode cX0_draw 10 = .ok (.getfield 36, 3) := by decide +kernel
theorem dX0_draw_13 : decode cX0_draw 13 = .ok (.getfield 48, 3) := by decide +kernel
theorem dX0_draw_16 : decode cX0_draw 16 = .ok (.iconst 1, 1) := by decide +kernel
theorem dX0_draw_17 : decode cX0_draw 17 = .ok (.iaload, 1) := by decide +kernel
theorem dX0_draw_18 : decode cX0_draw 18 = .ok (.iconst 1, 1) := by decide +kernel
theorem dX0_draw_19 : decode cX0_draw 19 = .ok (.iadd, 1) := by decide +kernel
theorem dX0_draw_20 : decode cX0_draw 20 = .ok (.imul, 1) := by decide +kernel
theorem dX0_draw_21 : decode cX0_draw 21 = .ok (.istore_n 3, 1) := by decide +kernel
theorem dX0_draw_22 : decode cX0_draw 22 = .ok (.aload_n 0, 1) := by decide +kernel
theorem dX0_draw_23 : decode cX0_draw 23 = .ok (.getfield 20, 3) := by decide +kernel
theorem dX0_draw_26 : decode cX0_draw 26 = .ok (.iload_n 1, 1) := by decide +kernel
theorem dX0_draw_27 : decode cX0_draw 27 = .ok (.aaload, 1) := by decide +kernel
theorem dX0_draw_28 : decode cX0_draw 28 = .ok (.astore 4, 2) := by decide +kernel
theorem dX0_draw_30 : decode cX0_draw 30 = .ok (.aload_n 0, 1) := by decide +kernel
theorem dX0_draw_31 : decode cX0_draw 31 = .ok (.getfield 26, 3) := by decide +kernel
theorem dX0_draw_34 : decode cX0_draw 34 = .ok (.iload_n 1, 1) := by decide +kernel
theorem dX0_draw_35 : decode cX0_draw 35 = .ok (.aaload, 1) := by decide +kernel
theorem dX0_draw_36 : decode cX0_draw 36 = .ok (.astore 5, 2) := by decide +kernel
theorem dX0_draw_38 : decode cX0_draw 38 = .ok (.aload_n 0, 1) := by decide +kernel
theorem dX0_draw_39 : decode cX0_draw 39 = .ok (.getfield 23, 3) := by decide +kernel
theorem dX0_draw_42 : decode cX0_draw 42 = .ok (.iload_n 1, 1) := by decide +kernel
theorem dX0_draw_43 : decode cX0_draw 43 = .ok (.aaload, 1) := by decide +kernel
theorem dX0_draw_44 : decode cX0_draw 44 = .ok (.astore 6, 2) := by decide +kernel
theorem dX0_draw_46 : decode cX0_draw 46 = .ok (.lconst 0, 1) := by decide +kernel
theorem dX0_draw_47 : decode cX0_draw 47 = .ok (.lstore 7, 2) := by decide +kernel
theorem dX0_draw_49 : decode cX0_draw 49 = .ok (.iconst 0, 1) := by decide +kernel
theorem dX0_draw_50 : decode cX0_draw 50 = .ok (.istore 9, 2) := by decide +kernel
theorem dX0_draw_52 : decode cX0_draw 52 = .ok (.iload 9, 2) := by decide +kernel
theorem dX0_draw_54 : decode cX0_draw 54 = .ok (.iload_n 3, 1) := by decide +kernel
theorem dX0_draw_55 : decode cX0_draw 55 = .ok (.if_icmp .ge 73, 3) := by decide +kernel
theorem dX0_draw_58 : decode cX0_draw 58 = .ok (.aload_n 0, 1) := by decide +kernel
theorem dX0_draw_59 : decode cX0_draw 59 = .ok (.getfield 33, 3) := by decide +kernel
theorem dX0_draw_62 : decode cX0_draw 62 = .ok (.iload 9, 2) := by decide +kernel
theorem dX0_draw_64 : decode cX0_draw 64 = .ok (.laload, 1) := by decide +kernel
theorem dX0_draw_65 : decode cX0_draw 65 = .ok (.lstore 10, 2) := by decide +kernel
theorem dX0_draw_67 : decode cX0_draw 67 = .ok (.lload 10, 2) := by decide +kernel
theorem dX0_draw_69 : decode cX0_draw 69 = .ok (.lconst 0, 1) := by decide +kernel
theorem dX0_draw_70 : decode cX0_draw 70 = .ok (.lcmp, 1) := by decide +kernel
theorem dX0_draw_71 : decode cX0_draw 71 = .ok (.ifCond .le 51, 3) := by decide +kernel
theorem dX0_draw_74 : decode cX0_draw 74 = .ok (.iload_n 2, 1) := by decide +kernel
theorem dX0_draw_75 : decode cX0_draw 75 = .ok (.ifCond .eq 11, 3) := by decide +kernel
theorem dX0_draw_78 : decode cX0_draw 78 = .ok (.aload 6, 2) := by decide +kernel
theorem dX0_draw_80 : decode cX0_draw 80 = .ok (.iload 9, 2) := by decide +kernel
theorem dX0_draw_82 : decode cX0_draw 82 = .ok (.iaload, 1) := by decide +kernel
theorem dX0_draw_83 : decode cX0_draw 83 = .ok (.ifCond .gt 39, 3) := by decide +kernel
theorem dX0_draw_86 : decode cX0_draw 86 = .ok (.aload_n 0, 1) := by decide +kernel
theorem dX0_draw_87 : decode cX0_draw 87 = .ok (.getfield 29, 3) := by decide +kernel
theorem dX0_draw_90 : decode cX0_draw 90 = .ok (.iconst 2, 1) := by decide +kernel
theorem dX0_draw_91 : decode cX0_draw 91 = .ok (.aload 4, 2) := by decide +kernel
theorem dX0_draw_93 : decode cX0_draw 93 = .ok (.iload 9, 2) := by decide +kernel
theorem dX0_draw_95 : decode cX0_draw 95 = .ok (.iaload, 1) := by decide +kernel
theorem dX0_draw_96 : decode cX0_draw 96 = .ok (.imul, 1) := by decide +kernel
theorem dX0_draw_97 : decode cX0_draw 97 = .ok (.iload 9, 2) := by decide +kernel
theorem dX0_draw_99 : decode cX0_draw 99 = .ok (.iconst 1, 1) := by decide +kernel
theorem dX0_draw_100 : decode cX0_draw 100 = .ok (.iand, 1) := by decide +kernel
theorem dX0_draw_101 : decode cX0_draw 101 = .ok (.iadd, 1) := by decide +kernel
theorem dX0_draw_102 : decode cX0_draw 102 = .ok (.dup2, 1) := by decide +kernel
theorem dX0_draw_103 : decode cX0_draw 103 = .ok (.laload, 1) := by decide +kernel
theorem dX0_draw_104 : decode cX0_draw 104 = .ok (.lload 10, 2) := by decide +kernel
theorem dX0_draw_106 : decode cX0_draw 106 = .ok (.ladd, 1) := by decide +kernel
theorem dX0_draw_107 : decode cX0_draw 107 = .ok (.lastore, 1) := by decide +kernel
theorem dX0_draw_108 : decode cX0_draw 108 = .ok (.lload 7, 2) := by decide +kernel
theorem dX0_draw_110 : decode cX0_draw 110 = .ok (.lload 10, 2) := by decide +kernel
theorem dX0_draw_112 : decode cX0_draw 112 = .ok (.aload 5, 2) := by decide +kernel
theorem dX0_draw_114 : decode cX0_draw 114 = .ok (.iload 9, 2) := by decide +kernel
theorem dX0_draw_116 : decode cX0_draw 116 = .ok (.iaload, 1) := by decide +kernel
theorem dX0_draw_117 : decode cX0_draw 117 = .ok (.i2l, 1) := by decide +kernel
theorem dX0_draw_118 : decode cX0_draw 118 = .ok (.lmul, 1) := by decide +kernel
theorem dX0_draw_119 : decode cX0_draw 119 = .ok (.ladd, 1) := by decide +kernel
theorem dX0_draw_120 : decode cX0_draw 120 = .ok (.lstore 7, 2) := by decide +kernel
theorem dX0_draw_122 : decode cX0_draw 122 = .ok (.iinc 9 1, 3) := by decide +kernel
theorem dX0_draw_125 : decode cX0_draw 125 = .ok (.goto (-73), 3) := by decide +kernel
theorem dX0_draw_128 : decode cX0_draw 128 = .ok (.lload 7, 2) := by decide +kernel
theorem dX0_draw_130 : decode cX0_draw 130 = .ok (.lreturn, 1) := by decide +kernel
theorem dX1_init_0 : decode cX1_init 0 = .ok (.aload_n 0, 1) := by decide +kernel
theorem dX1_init_1 : decode cX1_init 1 = .ok (.invokespecial 3, 3) := by decide +kernel
theorem dX1_init_4 : decode cX1_init 4 = .ok (.aload_n 0, 1) := by decide +kernel
theorem dX1_init_5 : decode cX1_init 5 = .ok (.bipush 7, 2) := by decide +kernel
theorem dX1_init_7 : decode cX1_init 7 = .ok (.newarray .int, 2) := by decide +kernel
theorem dX1_init_9 : decode cX1_init 9 = .ok (.putfield 9, 3) := by decide +kernel
theorem dX1_init_12 : decode cX1_init 12 = .ok (.aload_n 0, 1) := by decide +kernel
theorem dX1_init_13 : decode cX1_init 13 = .ok (.iconst 3, 1) := by decide +kernel
theorem dX1_init_14 : decode cX1_init 14 = .ok (.newarray .int, 2) := by decide +kernel
theorem dX1_init_16 : decode cX1_init 16 = .ok (.putfield 15, 3) := by decide +kernel
theorem dX1_init_19 : decode cX1_init 19 = .ok (.aload_n 0, 1) := by decide +kernel
theorem dX1_init_20 : decode cX1_init 20 = .ok (.iconst 3, 1) := by decide +kernel
theorem dX1_init_21 : decode cX1_init 21 = .ok (.newarray .int, 2) := by decide +kernel
theorem dX1_init_23 : decode cX1_init 23 = .ok (.putfield 18, 3) := by decide +kernel
theorem dX1_init_26 : decode cX1_init 26 = .ok (.aload_n 0, 1) := by decide +kernel
theorem dX1_init_27 : decode cX1_init 27 = .ok (.iconst 3, 1) := by decide +kernel
theorem dX1_init_28 : decode cX1_init 28 = .ok (.newarray .int, 2) := by decide +kernel
theorem dX1_init_30 : decode cX1_init 30 = .ok (.putfield 21, 3) := by decide +kernel
theorem dX1_init_33 : decode cX1_init 33 = .ok (.aload_n 0, 1) := by decide +kernel
theorem dX1_init_34 : decode cX1_init 34 = .ok (.iconst 3, 1) := by decide +kernel
theorem dX1_init_35 : decode cX1_init 35 = .ok (.newarray .int, 2) := by decide +kernel
theorem dX1_init_37 : decode cX1_init 37 = .ok (.putfield 24, 3) := by decide +kernel
theorem dX1_init_40 : decode cX1_init 40 = .ok (.aload_n 0, 1) := by decide +kernel
theorem dX1_init_41 : decode cX1_init 41 = .ok (.bipush 20, 2) := by decide +kernel
theorem dX1_init_43 : decode cX1_init 43 = .ok (.newarray .int, 2) := by decide +kernel
theorem dX1_init_45 : decode cX1_init 45 = .ok (.putfield 27, 3) := by decide +kernel
theorem dX1_init_48 : decode cX1_init 48 = .ok (.return_, 1) := by decide +kernel
theorem dX1_takeOver_0 : decode cX1_takeOver 0 = .ok (.aload_n 1, 1) := by decide +kernel
theorem dX1_takeOver_1 : decode cX1_takeOver 1 = .ok (.getfield 30, 3) := by decide +kernel
theorem dX1_takeOver_4 : decode cX1_takeOver 4 = .ok (.iconst 0, 1) := by decide +kernel
theorem dX1_takeOver_5 : decode cX1_takeOver 5 = .ok (.aload_n 0, 1) := by decide +kernel
theorem dX1_takeOver_6 : decode cX1_takeOver 6 = .ok (.getfield 9, 3) := by decide +kernel
theorem dX1_takeOver_9 : decode cX1_takeOver 9 = .ok (.iconst 0, 1) := by decide +kernel
theorem dX1_takeOver_10 : decode cX1_takeOver 10 = .ok (.bipush 7, 2) := by decide +kernel
theorem dX1_takeOver_12 : decode cX1_takeOver 12 = .ok (.invokestatic 35, 3) := by decide +kernel
theorem dX1_takeOver_15 : decode cX1_takeOver 15 = .ok (.aload_n 0, 1) := by decide +kernel
theorem dX1_takeOver_16 : decode cX1_takeOver 16 = .ok (.aload_n 1, 1) := by decide +kernel
theorem dX1_takeOver_17 : decode cX1_takeOver 17 = .ok (.getfield 41, 3) := by decide +kernel
theorem dX1_takeOver_20 : decode cX1_takeOver 20 = .ok (.iconst 3, 1) := by decide +kernel
theorem dX1_takeOver_21 : decode cX1_takeOver 21 = .ok (.invokestatic 45, 3) := by decide +kernel
theorem dX1_takeOver_24 : decode cX1_takeOver 24 = .ok (.putfield 51, 3) := by decide +kernel
theorem dX1_takeOver_27 : decode cX1_takeOver 27 = .ok (.iconst 0, 1) := by decide +kernel
theorem dX1_takeOver_28 : decode cX1_takeOver 28 = .ok (.istore_n 2, 1) := by decide +kernel
theorem dX1_takeOver_29 : decode cX1_takeOver 29 = .ok (.iload_n 2, 1) := by decide +kernel
theorem dX1_takeOver_30 : decode cX1_takeOver 30 = .ok (.aload_n 0, 1) := by decide +kernel
theorem dX1_takeOver_31 : decode cX1_takeOver 31 = .ok (.getfield 51, 3) := by decide +kernel
theorem dX1_takeOver_34 : decode cX1_takeOver 34 = .ok (.if_icmp .ge 64, 3) := by decide +kernel
theorem dX1_takeOver_37 : decode cX1_takeOver 37 = .ok (.aload_n 0, 1) := by decide +kernel
theorem dX1_takeOver_38 : decode cX1_takeOver 38 = .ok (.getfield 15, 3) := by decide +kernel
theorem dX1_takeOver_41 : decode cX1_takeOver 41 = .ok (.iload_n 2, 1) := by decide +kernel
theorem dX1_takeOver_42 : decode cX1_takeOver 42 = .ok (.aload_n 1, 1) := by decide +kernel
theorem dX1_takeOver_43 : decode cX1_takeOver 43 = .ok (.getfield 30, 3) := by decide +kernel
theorem dX1_takeOver_46 : decode cX1_takeOver 46 = .ok (.bipush 7, 2) := by decide +kernel
theorem dX1_takeOver_48 : decode cX1_takeOver 48 = .ok (.iconst 3, 1) := by decide +kernel
theorem dX1_takeOver_49 : decode cX1_takeOver 49 = .ok (.iload_n 2, 1) := by decide +kernel
theorem dX1_takeOver_50 : decode cX1_takeOver 50 = .ok (.imul, 1) := by decide +kernel
theorem dX1_takeOver_51 : decode cX1_takeOver 51 = .ok (.iadd, 1) := by decide +kernel
theorem dX1_takeOver_52 : decode cX1_takeOver 52 = .ok (.iaload, 1) := by decide +kernel
theorem dX1_takeOver_53 : decode cX1_takeOver 53 = .ok (.iastore, 1) := by decide +kernel
theorem dX1_takeOver_54 : decode cX1_takeOver 54 = .ok (.aload_n 0, 1) := by decide +kernel
theorem dX1_takeOver_55 : decode cX1_takeOver 55 = .ok (.getfield 18, 3) := by decide +kernel
theorem dX1_takeOver_58 : decode cX1_takeOver 58 = .ok (.iload_n 2, 1) := by decide +kernel
theorem dX1_takeOver_59 : decode cX1_takeOver 59 = .ok (.aload_n 1, 1) := by decide +kernel
theorem dX1_takeOver_60 : decode cX1_takeOver 60 = .ok (.getfield 30, 3) := by decide +kernel
theorem dX1_takeOver_63 : decode cX1_takeOver 63 = .ok (.bipush 7, 2) := by decide +kernel
theorem dX1_takeOver_65 : decode cX1_takeOver 65 = .ok (.iconst 3, 1) := by decide +kernel
theorem dX1_takeOver_66 : decode cX1_takeOver 66 = .ok (.iload_n 2, 1) := by decide +kernel
theorem dX1_takeOver_67 : decode cX1_takeOver 67 = .ok (.imul, 1) := by decide +kernel
theorem dX1_takeOver_68 : decode cX1_takeOver 68 = .ok (.iadd, 1) := by decide +kernel
theorem dX1_takeOver_69 : decode cX1_takeOver 69 = .ok (.iconst 1, 1) := by decide +kernel
theorem dX1_takeOver_70 : decode cX1_takeOver 70 = .ok (.iadd, 1) := by decide +kernel
theorem dX1_takeOver_71 : decode cX1_takeOver 71 = .ok (.iaload, 1) := by decide +kernel
theorem dX1_takeOver_72 : decode cX1_takeOver 72 = .ok (.iastore, 1) := by decide +kernel
theorem dX1_takeOver_73 : decode cX1_takeOver 73 = .ok (.aload_n 0, 1) := by decide +kernel
theorem dX1_takeOver_74 : decode cX1_takeOver 74 = .ok (.getfield 21, 3) := by decide +kernel
theorem dX1_takeOver_77 : decode cX1_takeOver 77 = .ok (.iload_n 2, 1) := by decide +kernel
theorem dX1_takeOver_78 : decode cX1_takeOver 78 = .ok (.aload_n 1, 1) := by decide +kernel
theorem dX1_takeOver_79 : decode cX1_takeOver 79 = .ok (.getfield 30, 3) := by decide +kernel
theorem dX1_takeOver_82 : decode cX1_takeOver 82 = .ok (.bipush 7, 2) := by decide +kernel
theorem dX1_takeOver_84 : decode cX1_takeOver 84 = .ok (.iconst 3, 1) := by decide +kernel
theorem dX1_takeOver_85 : decode cX1_takeOver 85 = .ok (.iload_n 2, 1) := by decide +kernel
theorem dX1_takeOver_86 : decode cX1_takeOver 86 = .ok (.imul, 1) := by decide +kernel
theorem dX1_takeOver_87 : decode cX1_takeOver 87 = .ok (.iadd, 1) := by decide +kernel
theorem dX1_takeOver_88 : decode cX1_takeOver 88 = .ok (.iconst 2, 1) := by decide +kernel
theorem dX1_takeOver_89 : decode cX1_takeOver 89 = .ok (.iadd, 1) := by decide +kernel
theorem dX1_takeOver_90 : decode cX1_takeOver 90 = .ok (.iaload, 1) := by decide +kernel
theorem dX1_takeOver_91 : decode cX1_takeOver 91 = .ok (.iastore, 1) := by decide +kernel
theorem dX1_takeOver_92 : decode cX1_takeOver 92 = .ok (.iinc 2 1, 3) := by decide +kernel
theorem dX1_takeOver_95 : decode cX1_takeOver 95 = .ok (.goto (-66), 3) := by decide +kernel
theorem dX1_takeOver_98 : decode cX1_takeOver 98 = .ok (.aload_n 0, 1) := by decide +kernel
theorem dX1_takeOver_99 : decode cX1_takeOver 99 = .ok (.invokevirtual 52, 3) := by decide +kernel
theorem dX1_takeOver_102 : decode cX1_takeOver 102 = .ok (.aload_n 0, 1) := by decide +kernel
theorem dX1_takeOver_103 : decode cX1_takeOver 103 = .ok (.invokevirtual 55, 3) := by decide +kernel
theorem dX1_takeOver_106 : decode cX1_takeOver 106 = .ok (.return_, 1) := by decide +kernel
theorem dX1_orderByWorth_0 : decode cX1_orderByWorth 0 = .ok (.iconst 0, 1) := by decide +kernel
theorem dX1_orderByWorth_1 : decode cX1_orderByWorth 1 = .ok (.istore_n 1, 1) := by decide +kernel
theorem dX1_orderByWorth_2 : decode cX1_orderByWorth 2 = .ok (.iload_n 1, 1) := by decide +kernel
theorem dX1_orderByWorth_3 : decode cX1_orderByWorth 3 = .ok (.aload_n 0, 1) := by decide +kernel
theorem dX1_orderByWorth_4 : decode cX1_orderByWorth 4 = .ok (.getfield 51, 3) := by decide +kernel
theorem dX1_orderByWorth_7 : decode cX1_orderByWorth 7 = .ok (.if_icmp .ge 70, 3) := by decide +kernel
theorem dX1_orderByWorth_10 : decode cX1_orderByWorth 10 = .ok (.iload_n 1, 1) := by decide +kernel
theorem dX1_orderByWorth_11 : decode cX1_orderByWorth 11 = .ok (.istore_n 2, 1) := by decide +kernel
theorem dX1_orderByWorth_12 : decode cX1_orderByWorth 12 = .ok (.iload_n 1, 1) := by decide +kernel
theorem dX1_orderByWorth_13 : decode cX1_orderByWorth 13 = .ok (.istore_n 3, 1) := by decide +kernel
theorem dX1_orderByWorth_14 : decode cX1_orderByWorth 14 = .ok (.iload_n 3, 1) := by decide +kernel
theorem dX1_orderByWorth_15 : decode cX1_orderByWorth 15 = .ok (.ifCond .le 49, 3) := by decide +kernel
theorem dX1_orderByWorth_18 : decode cX1_orderByWorth 18 = .ok (.aload_n 0, 1) := by decide +kernel
theorem dX1_orderByWorth_19 : decode cX1_orderByWorth 19 = .ok (.getfield 21, 3) := by decide +kernel
theorem dX1_orderByWorth_22 : decode cX1_orderByWorth 22 = .ok (.aload_n 0, 1) := by decide +kernel
theorem dX1_orderByWorth_23 : decode cX1_orderByWorth 23 = .ok (.getfield 24, 3) := by decide +kernel
theorem dX1_orderByWorth_26 : decode cX1_orderByWorth 26 = .ok (.iload_n 3, 1) := by decide +kernel
theorem dX1_orderByWorth_27 : decode cX1_orderByWorth 27 = .ok (.iconst 1, 1) := by decide +kernel
theorem dX1_orderByWorth_28 : decode cX1_orderByWorth 28 = .ok (.isub, 1) := by decide +kernel
theorem dX1_orderByWorth_29 : decode cX1_orderByWorth 29 = .ok (.iaload, 1) := by decide +kernel
theorem dX1_orderByWorth_30 : decode cX1_orderByWorth 30 = .ok (.iaload, 1) := by decide +kernel
theorem dX1_orderByWorth_31 : decode cX1_orderByWorth 31 = .ok (.aload_n 0, 1) := by decide +kernel
theorem dX1_orderByWorth_32 : decode cX1_orderByWorth 32 = .ok (.getfield 21, 3) := by decide +kernel
theorem dX1_orderByWorth_35 : decode cX1_orderByWorth 35 = .ok (.iload_n 1, 1) := by decide +kernel
theorem dX1_orderByWorth_36 : decode cX1_orderByWorth 36 = .ok (.iaload, 1) := by decide +kernel
theorem dX1_orderByWorth_37 : decode cX1_orderByWorth 37 = .ok (.if_icmp .ge 27, 3) := by decide +kernel
theorem dX1_orderByWorth_40 : decode cX1_orderByWorth 40 = .ok (.aload_n 0, 1) := by decide +kernel
theorem dX1_orderByWorth_41 : decode cX1_orderByWorth 41 = .ok (.getfield 24, 3) := by decide +kernel
theorem dX1_orderByWorth_44 : decode cX1_orderByWorth 44 = .ok (.iload_n 3, 1) := by decide +kernel
theorem dX1_orderByWorth_45 : decode cX1_orderByWorth 45 = .ok (.aload_n 0, 1) := by decide +kernel
theorem dX1_orderByWorth_46 : decode cX1_orderByWorth 46 = .ok (.getfield 24, 3) := by decide +kernel
theorem dX1_orderByWorth_49 : decode cX1_orderByWorth 49 = .ok (.iload_n 3, 1) := by decide +kernel
theorem dX1_orderByWorth_50 : decode cX1_orderByWorth 50 = .ok (.iconst 1, 1) := by decide +kernel
theorem dX1_orderByWorth_51 : decode cX1_orderByWorth 51 = .ok (.isub, 1) := by decide +kernel
theorem dX1_orderByWorth_52 : decode cX1_orderByWorth 52 = .ok (.iaload, 1) := by decide +kernel
theorem dX1_orderByWorth_53 : decode cX1_orderByWorth 53 = .ok (.iastore, 1) := by decide +kernel
theorem dX1_orderByWorth_54 : decode cX1_orderByWorth 54 = .ok (.iload_n 3, 1) := by decide +kernel
theorem dX1_orderByWorth_55 : decode cX1_orderByWorth 55 = .ok (.iconst 1, 1) := by decide +kernel
theorem dX1_orderByWorth_56 : decode cX1_orderByWorth 56 = .ok (.isub, 1) := by decide +kernel
theorem dX1_orderByWorth_57 : decode cX1_orderByWorth 57 = .ok (.istore_n 2, 1) := by decide +kernel
theorem dX1_orderByWorth_58 : decode cX1_orderByWorth 58 = .ok (.iinc 3 (-1), 3) := by decide +kernel
theorem dX1_orderByWorth_61 : decode cX1_orderByWorth 61 = .ok (.goto (-47), 3) := by decide +kernel
theorem dX1_orderByWorth_64 : decode cX1_orderByWorth 64 = .ok (.aload_n 0, 1) := by decide +kernel
theorem dX1_orderByWorth_65 : decode cX1_orderByWorth 65 = .ok (.getfield 24, 3) := by decide +kernel
theorem dX1_orderByWorth_68 : decode cX1_orderByWorth 68 = .ok (.iload_n 2, 1) := by decide +kernel
theorem dX1_orderByWorth_69 : decode cX1_orderByWorth 69 = .ok (.iload_n 1, 1) := by decide +kernel
theorem dX1_orderByWorth_70 : decode cX1_orderByWorth 70 = .ok (.iastore, 1) := by decide +kernel
theorem dX1_orderByWorth_71 : decode cX1_orderByWorth 71 = .ok (.iinc 1 1, 3) := by decide +kernel
theorem dX1_orderByWorth_74 : decode cX1_orderByWorth 74 = .ok (.goto (-72), 3) := by decide +kernel
theorem dX1_orderByWorth_77 : decode cX1_orderByWorth 77 = .ok (.return_, 1) := by decide +kernel
theorem dX1_settle_0 : decode cX1_settle 0 = .ok (.iconst 0, 1) := by decide +kernel
theorem dX1_settle_1 : decode cX1_settle 1 = .ok (.istore_n 1, 1) := by decide +kernel
theorem dX1_settle_2 : decode cX1_settle 2 = .ok (.iload_n 1, 1) := by decide +kernel
theorem dX1_settle_3 : decode cX1_settle 3 = .ok (.bipush 10, 2) := by decide +kernel
theorem dX1_settle_5 : decode cX1_settle 5 = .ok (.if_icmp .ge 48, 3) := by decide +kernel
theorem dX1_settle_8 : decode cX1_settle 8 = .ok (.aload_n 0, 1) := by decide +kernel
theorem dX1_settle_9 : decode cX1_settle 9 = .ok (.getfield 27, 3) := by decide +kernel
theorem dX1_settle_12 : decode cX1_settle 12 = .ok (.iload_n 1, 1) := by decide +kernel
theorem dX1_settle_13 : decode cX1_settle 13 = .ok (.aload_n 0, 1) := by decide +kernel
theorem dX1_settle_14 : decode cX1_settle 14 = .ok (.aload_n 0, 1) := by decide +kernel
theorem dX1_settle_15 : decode cX1_settle 15 = .ok (.getfield 9, 3) := by decide +kernel
theorem dX1_settle_18 : decode cX1_settle 18 = .ok (.iconst 0, 1) := by decide +kernel
theorem dX1_settle_19 : decode cX1_settle 19 = .ok (.iaload, 1) := by decide +kernel
theorem dX1_settle_20 : decode cX1_settle 20 = .ok (.iload_n 1, 1) := by decide +kernel
theorem dX1_settle_21 : decode cX1_settle 21 = .ok (.iconst 0, 1) := by decide +kernel
theorem dX1_settle_22 : decode cX1_settle 22 = .ok (.invokevirtual 58, 3) := by decide +kernel
theorem dX1_settle_25 : decode cX1_settle 25 = .ok (.iastore, 1) := by decide +kernel
theorem dX1_settle_26 : decode cX1_settle 26 = .ok (.aload_n 0, 1) := by decide +kernel
theorem dX1_settle_27 : decode cX1_settle 27 = .ok (.getfield 27, 3) := by decide +kernel
theorem dX1_settle_30 : decode cX1_settle 30 = .ok (.bipush 10, 2) := by decide +kernel
theorem dX1_settle_32 : decode cX1_settle 32 = .ok (.iload_n 1, 1) := by decide +kernel
theorem dX1_settle_33 : decode cX1_settle 33 = .ok (.iadd, 1) := by decide +kernel
theorem dX1_settle_34 : decode cX1_settle 34 = .ok (.aload_n 0, 1) := by decide +kernel
theorem dX1_settle_35 : decode cX1_settle 35 = .ok (.aload_n 0, 1) := by decide +kernel
theorem dX1_settle_36 : decode cX1_settle 36 = .ok (.getfield 9, 3) := by decide +kernel
theorem dX1_settle_39 : decode cX1_settle 39 = .ok (.iconst 0, 1) := by decide +kernel
theorem dX1_settle_40 : decode cX1_settle 40 = .ok (.iaload, 1) := by decide +kernel
theorem dX1_settle_41 : decode cX1_settle 41 = .ok (.iload_n 1, 1) := by decide +kernel
theorem dX1_settle_42 : decode cX1_settle 42 = .ok (.iconst 1, 1) := by decide +kernel
theorem dX1_settle_43 : decode cX1_settle 43 = .ok (.invokevirtual 58, 3) := by decide +kernel
theorem dX1_settle_46 : decode cX1_settle 46 = .ok (.iastore, 1) := by decide +kernel
theorem dX1_settle_47 : decode cX1_settle 47 = .ok (.iinc 1 1, 3) := by decide +kernel
theorem dX1_settle_50 : decode cX1_settle 50 = .ok (.goto (-48), 3) := by decide +kernel
theorem dX1_settle_53 : decode cX1_settle 53 = .ok (.return_, 1) := by decide +kernel
theorem dX1_comesBy_0 : decode cX1_comesBy 0 = .ok (.iload_n 2, 1) := by decide +kernel
theorem dX1_comesBy_1 : decode cX1_comesBy 1 = .ok (.ifCond .ne 5, 3) := by decide +kernel
theorem dX1_comesBy_4 : decode cX1_comesBy 4 = .ok (.iconst 0, 1) := by decide +kernel
theorem dX1_comesBy_5 : decode cX1_comesBy 5 = .ok (.ireturn, 1) := by decide +kernel
theorem dX1_comesBy_6 : decode cX1_comesBy 6 = .ok (.iload_n 1, 1) := by decide +kernel
theorem dX1_comesBy_7 : decode cX1_comesBy 7 = .ok (.iload_n 2, 1) := by decide +kernel
theorem dX1_comesBy_8 : decode cX1_comesBy 8 = .ok (.imul, 1) := by decide +kernel
theorem dX1_comesBy_9 : decode cX1_comesBy 9 = .ok (.aload_n 0, 1) := by decide +kernel
theorem dX1_comesBy_10 : decode cX1_comesBy 10 = .ok (.getfield 9, 3) := by decide +kernel
theorem dX1_comesBy_13 : decode cX1_comesBy 13 = .ok (.iconst 2, 1) := by decide +kernel
theorem dX1_comesBy_14 : decode cX1_comesBy 14 = .ok (.iaload, 1) := by decide +kernel
theorem dX1_comesBy_15 : decode cX1_comesBy 15 = .ok (.isub, 1) := by decide +kernel
theorem dX1_comesBy_16 : decode cX1_comesBy 16 = .ok (.iload_n 3, 1) := by decide +kernel
theorem dX1_comesBy_17 : decode cX1_comesBy 17 = .ok (.ifCond .eq 7, 3) := by decide +kernel
theorem dX1_comesBy_20 : decode cX1_comesBy 20 = .ok (.iconst 0, 1) := by decide +kernel
theorem dX1_comesBy_21 : decode cX1_comesBy 21 = .ok (.goto 9, 3) := by decide +kernel
theorem dX1_comesBy_24 : decode cX1_comesBy 24 = .ok (.aload_n 0, 1) := by decide +kernel
theorem dX1_comesBy_25 : decode cX1_comesBy 25 = .ok (.getfield 9, 3) := by decide +kernel
theorem dX1_comesBy_28 : decode cX1_comesBy 28 = .ok (.iconst 3, 1) := by decide +kernel
theorem dX1_comesBy_29 : decode cX1_comesBy 29 = .ok (.iaload, 1) := by decide +kernel
theorem dX1_comesBy_30 : decode cX1_comesBy 30 = .ok (.isub, 1) := by decide +kernel
theorem dX1_comesBy_31 : decode cX1_comesBy 31 = .ok (.istore 4, 2) := by decide +kernel
theorem dX1_comesBy_33 : decode cX1_comesBy 33 = .ok (.iload 4, 2) := by decide +kernel
theorem dX1_comesBy_35 : decode cX1_comesBy 35 = .ok (.ifCond .ge 7, 3) := by decide +kernel
theorem dX1_comesBy_38 : decode cX1_comesBy 38 = .ok (.iconst 0, 1) := by decide +kernel
theorem dX1_comesBy_39 : decode cX1_comesBy 39 = .ok (.goto 5, 3) := by decide +kernel
theorem dX1_comesBy_42 : decode cX1_comesBy 42 = .ok (.iload 4, 2) := by decide +kernel
theorem dX1_comesBy_44 : decode cX1_comesBy 44 = .ok (.ireturn, 1) := by decide +kernel
theorem dX1_wantOf_0 : decode cX1_wantOf 0 = .ok (.iload_n 2, 1) := by decide +kernel
theorem dX1_wantOf_1 : decode cX1_wantOf 1 = .ok (.iconst 5, 1) := by decide +kernel
theorem dX1_wantOf_2 : decode cX1_wantOf 2 = .ok (.if_icmp .lt 25, 3) := by decide +kernel
theorem dX1_wantOf_5 : decode cX1_wantOf 5 = .ok (.iload_n 2, 1) := by decide +kernel
theorem dX1_wantOf_6 : decode cX1_wantOf 6 = .ok (.bipush 7, 2) := by decide +kernel
theorem dX1_wantOf_8 : decode cX1_wantOf 8 = .ok (.if_icmp .gt 19, 3) := by decide +kernel
theorem dX1_wantOf_11 : decode cX1_wantOf 11 = .ok (.aload_n 0, 1) := by decide +kernel
theorem dX1_wantOf_12 : decode cX1_wantOf 12 = .ok (.getfield 15, 3) := by decide +kernel
theorem dX1_wantOf_15 : decode cX1_wantOf 15 = .ok (.iload_n 1, 1) := by decide +kernel
theorem dX1_wantOf_16 : decode cX1_wantOf 16 = .ok (.iaload, 1) := by decide +kernel
theorem dX1_wantOf_17 : decode cX1_wantOf 17 = .ok (.aload_n 0, 1) := by decide +kernel
theorem dX1_wantOf_18 : decode cX1_wantOf 18 = .ok (.getfield 18, 3) := by decide +kernel
theorem dX1_wantOf_21 : decode cX1_wantOf 21 = .ok (.iload_n 1, 1) := by decide +kernel
theorem dX1_wantOf_22 : decode cX1_wantOf 22 = .ok (.iaload, 1) := by decide +kernel
theorem dX1_wantOf_23 : decode cX1_wantOf 23 = .ok (.iadd, 1) := by decide +kernel
theorem dX1_wantOf_24 : decode cX1_wantOf 24 = .ok (.goto 9, 3) := by decide +kernel
theorem dX1_wantOf_27 : decode cX1_wantOf 27 = .ok (.aload_n 0, 1) := by decide +kernel
theorem dX1_wantOf_28 : decode cX1_wantOf 28 = .ok (.getfield 15, 3) := by decide +kernel
theorem dX1_wantOf_31 : decode cX1_wantOf 31 = .ok (.iload_n 1, 1) := by decide +kernel
theorem dX1_wantOf_32 : decode cX1_wantOf 32 = .ok (.iaload, 1) := by decide +kernel
theorem dX1_wantOf_33 : decode cX1_wantOf 33 = .ok (.ireturn, 1) := by decide +kernel
theorem dX1_mostPumped_0 : decode cX1_mostPumped 0 = .ok (.iload_n 1, 1) := by decide +kernel
theorem dX1_mostPumped_1 : decode cX1_mostPumped 1 = .ok (.bipush 7, 2) := by decide +kernel
theorem dX1_mostPumped_3 : decode cX1_mostPumped 3 = .ok (.if_icmp .ne 7, 3) := by decide +kernel
theorem dX1_mostPumped_6 : decode cX1_mostPumped 6 = .ok (.iconst 0, 1) := by decide +kernel
theorem dX1_mostPumped_7 : decode cX1_mostPumped 7 = .ok (.goto 9, 3) := by decide +kernel
theorem dX1_mostPumped_10 : decode cX1_mostPumped 10 = .ok (.aload_n 0, 1) := by decide +kernel
theorem dX1_mostPumped_11 : decode cX1_mostPumped 11 = .ok (.getfield 9, 3) := by decide +kernel
theorem dX1_mostPumped_14 : decode cX1_mostPumped 14 = .ok (.iconst 5, 1) := by decide +kernel
theorem dX1_mostPumped_15 : decode cX1_mostPumped 15 = .ok (.iaload, 1) := by decide +kernel
theorem dX1_mostPumped_16 : decode cX1_mostPumped 16 = .ok (.ireturn, 1) := by decide +kernel
theorem dX1_useTold_0 : decode cX1_useTold 0 = .ok (.iload_n 1, 1) := by decide +kernel
theorem dX1_useTold_1 : decode cX1_useTold 1 = .ok (.ifCond .lt 11, 3) := by decide +kernel
theorem dX1_useTold_4 : decode cX1_useTold 4 = .ok (.iload_n 1, 1) := by decide +kernel
theorem dX1_useTold_5 : decode cX1_useTold 5 = .ok (.aload_n 0, 1) := by decide +kernel
theorem dX1_useTold_6 : decode cX1_useTold 6 = .ok (.getfield 51, 3) := by decide +kernel
theorem dX1_useTold_9 : decode cX1_useTold 9 = .ok (.if_icmp .lt 5, 3) := by decide +kernel
theorem dX1_useTold_12 : decode cX1_useTold 12 = .ok (.iconst (-1), 1) := by decide +kernel
theorem dX1_useTold_13 : decode cX1_useTold 13 = .ok (.ireturn, 1) := by decide +kernel
theorem dX1_useTold_14 : decode cX1_useTold 14 = .ok (.iload_n 2, 1) := by decide +kernel
theorem dX1_useTold_15 : decode cX1_useTold 15 = .ok (.ifCond .ne 10, 3) := by decide +kernel
theorem dX1_useTold_18 : decode cX1_useTold 18 = .ok (.aload_n 0, 1) := by decide +kernel
theorem dX1_useTold_19 : decode cX1_useTold 19 = .ok (.getfield 15, 3) := by decide +kernel
theorem dX1_useTold_22 : decode cX1_useTold 22 = .ok (.iload_n 1, 1) := by decide +kernel
theorem dX1_useTold_23 : decode cX1_useTold 23 = .ok (.iaload, 1) := by decide +kernel
theorem dX1_useTold_24 : decode cX1_useTold 24 = .ok (.ireturn, 1) := by decide +kernel
theorem dX1_useTold_25 : decode cX1_useTold 25 = .ok (.iload_n 2, 1) := by decide +kernel
theorem dX1_useTold_26 : decode cX1_useTold 26 = .ok (.iconst 1, 1) := by decide +kernel
theorem dX1_useTold_27 : decode cX1_useTold 27 = .ok (.if_icmp .ne 12, 3) := by decide +kernel
theorem dX1_useTold_30 : decode cX1_useTold 30 = .ok (.aload_n 0, 1) := by decide +kernel
theorem dX1_useTold_31 : decode cX1_useTold 31 = .ok (.getfield 18, 3) := by decide +kernel
theorem dX1_useTold_34 : decode cX1_useTold 34 = .ok (.iload_n 1, 1) := by decide +kernel
theorem dX1_useTold_35 : decode cX1_useTold 35 = .ok (.iaload, 1) := by decide +kernel
theorem dX1_useTold_36 : decode cX1_useTold 36 = .ok (.goto 9, 3) := by decide +kernel
theorem dX1_useTold_39 : decode cX1_useTold 39 = .ok (.aload_n 0, 1) := by decide +kernel
theorem dX1_useTold_40 : decode cX1_useTold 40 = .ok (.getfield 21, 3) := by decide +kernel
theorem dX1_useTold_43 : decode cX1_useTold 43 = .ok (.iload_n 1, 1) := by decide +kernel
theorem dX1_useTold_44 : decode cX1_useTold 44 = .ok (.iaload, 1) := by decide +kernel
theorem dX1_useTold_45 : decode cX1_useTold 45 = .ok (.ireturn, 1) := by decide +kernel
theorem dX1_digestOnto_0 : decode cX1_digestOnto 0 = .ok (.ldc2_w 62, 3) := by decide +kernel
theorem dX1_digestOnto_3 : decode cX1_digestOnto 3 = .ok (.lload_n 1, 1) := by decide +kernel
theorem dX1_digestOnto_4 : decode cX1_digestOnto 4 = .ok (.aload_n 0, 1) := by decide +kernel
theorem dX1_digestOnto_5 : decode cX1_digestOnto 5 = .ok (.getfield 9, 3) := by decide +kernel
theorem dX1_digestOnto_8 : decode cX1_digestOnto 8 = .ok (.bipush 7, 2) := by decide +kernel
theorem dX1_digestOnto_10 : decode cX1_digestOnto 10 = .ok (.invokestatic 64, 3) := by decide +kernel
theorem dX1_digestOnto_13 : decode cX1_digestOnto 13 = .ok (.lmul, 1) := by decide +kernel
theorem dX1_digestOnto_14 : decode cX1_digestOnto 14 = .ok (.aload_n 0, 1) := by decide +kernel
theorem dX1_digestOnto_15 : decode cX1_digestOnto 15 = .ok (.getfield 51, 3) := by decide +kernel
theorem dX1_digestOnto_18 : decode cX1_digestOnto 18 = .ok (.i2l, 1) := by decide +kernel
theorem dX1_digestOnto_19 : decode cX1_digestOnto 19 = .ok (.ladd, 1) := by decide +kernel
theorem dX1_digestOnto_20 : decode cX1_digestOnto 20 = .ok (.lstore_n 1, 1) := by decide +kernel
theorem dX1_digestOnto_21 : decode cX1_digestOnto 21 = .ok (.iconst 0, 1) := by decide +kernel
theorem dX1_digestOnto_22 : decode cX1_digestOnto 22 = .ok (.istore_n 3, 1) := by decide +kernel
theorem dX1_digestOnto_23 : decode cX1_digestOnto 23 = .ok (.iload_n 3, 1) := by decide +kernel
theorem dX1_digestOnto_24 : decode cX1_digestOnto 24 = .ok (.aload_n 0, 1) := by decide +kernel
theorem dX1_digestOnto_25 : decode cX1_digestOnto 25 = .ok (.getfield 51, 3) := by decide +kernel
theorem dX1_digestOnto_28 : decode cX1_digestOnto 28 = .ok (.if_icmp .ge 51, 3) := by decide +kernel
theorem dX1_digestOnto_31 : decode cX1_digestOnto 31 = .ok (.ldc2_w 62, 3) := by decide +kernel
theorem dX1_digestOnto_34 : decode cX1_digestOnto 34 = .ok (.lload_n 1, 1) := by decide +kernel
theorem dX1_digestOnto_35 : decode cX1_digestOnto 35 = .ok (.lmul, 1) := by decide +kernel
theorem dX1_digestOnto_36 : decode cX1_digestOnto 36 = .ok (.aload_n 0, 1) := by decide +kernel
theorem dX1_digestOnto_37 : decode cX1_digestOnto 37 = .ok (.getfield 15, 3) := by decide +kernel
theorem dX1_digestOnto_40 : decode cX1_digestOnto 40 = .ok (.iload_n 3, 1) := by decide +kernel
theorem dX1_digestOnto_41 : decode cX1_digestOnto 41 = .ok (.iaload, 1) := by decide +kernel
theorem dX1_digestOnto_42 : decode cX1_digestOnto 42 = .ok (.i2l, 1) := by decide +kernel
theorem dX1_digestOnto_43 : decode cX1_digestOnto 43 = .ok (.ladd, 1) := by decide +kernel
theorem dX1_digestOnto_44 : decode cX1_digestOnto 44 = .ok (.lstore_n 1, 1) := by decide +kernel
theorem dX1_digestOnto_45 : decode cX1_digestOnto 45 = .ok (.ldc2_w 62, 3) := by decide +kernel
theorem dX1_digestOnto_48 : decode cX1_digestOnto 48 = .ok (.lload_n 1, 1) := by decide +kernel
theorem dX1_digestOnto_49 : decode cX1_digestOnto 49 = .ok (.lmul, 1) := by decide +kernel
theorem dX1_digestOnto_50 : decode cX1_digestOnto 50 = .ok (.aload_n 0, 1) := by decide +kernel
theorem dX1_digestOnto_51 : decode cX1_digestOnto 51 = .ok (.getfield 18, 3) := by decide +kernel
theorem dX1_digestOnto_54 : decode cX1_digestOnto 54 = .ok (.iload_n 3, 1) := by decide +kernel
theorem dX1_digestOnto_55 : decode cX1_digestOnto 55 = .ok (.iaload, 1) := by decide +kernel
theorem dX1_digestOnto_56 : decode cX1_digestOnto 56 = .ok (.i2l, 1) := by decide +kernel
theorem dX1_digestOnto_57 : decode cX1_digestOnto 57 = .ok (.ladd, 1) := by decide +kernel
theorem dX1_digestOnto_58 : decode cX1_digestOnto 58 = .ok (.lstore_n 1, 1) := by decide +kernel
theorem dX1_digestOnto_59 : decode cX1_digestOnto 59 = .ok (.ldc2_w 62, 3) := by decide +kernel
theorem dX1_digestOnto_62 : decode cX1_digestOnto 62 = .ok (.lload_n 1, 1) := by decide +kernel
theorem dX1_digestOnto_63 : decode cX1_digestOnto 63 = .ok (.lmul, 1) := by decide +kernel
theorem dX1_digestOnto_64 : decode cX1_digestOnto 64 = .ok (.aload_n 0, 1) := by decide +kernel
theorem dX1_digestOnto_65 : decode cX1_digestOnto 65 = .ok (.getfield 21, 3) := by decide +kernel
theorem dX1_digestOnto_68 : decode cX1_digestOnto 68 = .ok (.iload_n 3, 1) := by decide +kernel
theorem dX1_digestOnto_69 : decode cX1_digestOnto 69 = .ok (.iaload, 1) := by decide +kernel
theorem dX1_digestOnto_70 : decode cX1_digestOnto 70 = .ok (.i2l, 1) := by decide +kernel
theorem dX1_digestOnto_71 : decode cX1_digestOnto 71 = .ok (.ladd, 1) := by decide +kernel
theorem dX1_digestOnto_72 : decode cX1_digestOnto 72 = .ok (.lstore_n 1, 1) := by decide +kernel
theorem dX1_digestOnto_73 : decode cX1_digestOnto 73 = .ok (.iinc 3 1, 3) := by decide +kernel
theorem dX1_digestOnto_76 : decode cX1_digestOnto 76 = .ok (.goto (-53), 3) := by decide +kernel
theorem dX1_digestOnto_79 : decode cX1_digestOnto 79 = .ok (.lload_n 1, 1) := by decide +kernel
theorem dX1_digestOnto_80 : decode cX1_digestOnto 80 = .ok (.lreturn, 1) := by decide +kernel
theorem dX2_init_0 : decode cX2_init 0 = .ok (.aload_n 0, 1) := by decide +kernel
theorem dX2_init_1 : decode cX2_init 1 = .ok (.invokespecial 3, 3) := by decide +kernel
theorem dX2_init_4 : decode cX2_init 4 = .ok (.aload_n 0, 1) := by decide +kernel
theorem dX2_init_5 : decode cX2_init 5 = .ok (.bipush 7, 2) := by decide +kernel
theorem dX2_init_7 : decode cX2_init 7 = .ok (.newarray .int, 2) := by decide +kernel
theorem dX2_init_9 : decode cX2_init 9 = .ok (.putfield 9, 3) := by decide +kernel
theorem dX2_init_12 : decode cX2_init 12 = .ok (.aload_n 0, 1) := by decide +kernel
theorem dX2_init_13 : decode cX2_init 13 = .ok (.new 15, 3) := by decide +kernel
theorem dX2_init_16 : decode cX2_init 16 = .ok (.dup, 1) := by decide +kernel
theorem dX2_init_17 : decode cX2_init 17 = .ok (.invokespecial 17, 3) := by decide +kernel
theorem dX2_init_20 : decode cX2_init 20 = .ok (.putfield 18, 3) := by decide +kernel
theorem dX2_init_23 : decode cX2_init 23 = .ok (.aload_n 0, 1) := by decide +kernel
theorem dX2_init_24 : decode cX2_init 24 = .ok (.bipush 12, 2) := by decide +kernel
theorem dX2_init_26 : decode cX2_init 26 = .ok (.newarray .int, 2) := by decide +kernel
theorem dX2_init_28 : decode cX2_init 28 = .ok (.putfield 22, 3) := by decide +kernel
theorem dX2_init_31 : decode cX2_init 31 = .ok (.return_, 1) := by decide +kernel
theorem dX3_init_0 : decode cX3_init 0 = .ok (.aload_n 0, 1) := by decide +kernel
theorem dX3_init_1 : decode cX3_init 1 = .ok (.invokespecial 3, 3) := by decide +kernel
theorem dX3_init_4 : decode cX3_init 4 = .ok (.aload_n 0, 1) := by decide +kernel
theorem dX3_init_5 : decode cX3_init 5 = .ok (.bipush 60, 2) := by decide +kernel
theorem dX3_init_7 : decode cX3_init 7 = .ok (.newarray .int, 2) := by decide +kernel
theorem dX3_init_9 : decode cX3_init 9 = .ok (.putfield 9, 3) := by decide +kernel
theorem dX3_init_12 : decode cX3_init 12 = .ok (.aload_n 0, 1) := by decide +kernel
theorem dX3_init_13 : decode cX3_init 13 = .ok (.bipush 16, 2) := by decide +kernel
theorem dX3_init_15 : decode cX3_init 15 = .ok (.newarray .int, 2) := by decide +kernel
theorem dX3_init_17 : decode cX3_init 17 = .ok (.putfield 15, 3) := by decide +kernel
theorem dX3_init_20 : decode cX3_init 20 = .ok (.return_, 1) := by decide +kernel
theorem dX3_lettersIn_0 : decode cX3_lettersIn 0 = .ok (.iconst 0, 1) := by decide +kernel
theorem dX3_lettersIn_1 : decode cX3_lettersIn 1 = .ok (.istore_n 2, 1) := by decide +kernel
theorem dX3_lettersIn_2 : decode cX3_lettersIn 2 = .ok (.iconst 0, 1) := by decide +kernel
theorem dX3_lettersIn_3 : decode cX3_lettersIn 3 = .ok (.istore_n 3, 1) := by decide +kernel
theorem dX3_lettersIn_4 : decode cX3_lettersIn 4 = .ok (.iload_n 3, 1) := by decide +kernel
theorem dX3_lettersIn_5 : decode cX3_lettersIn 5 = .ok (.bipush 8, 2) := by decide +kernel
theorem dX3_lettersIn_7 : decode cX3_lettersIn 7 = .ok (.if_icmp .ge 54, 3) := by decide +kernel
theorem dX3_lettersIn_10 : decode cX3_lettersIn 10 = .ok (.lload_n 0, 1) := by decide +kernel
theorem dX3_lettersIn_11 : decode cX3_lettersIn 11 = .ok (.bipush 8, 2) := by decide +kernel
theorem dX3_lettersIn_13 : decode cX3_lettersIn 13 = .ok (.iload_n 3, 1) := by decide +kernel
theorem dX3_lettersIn_14 : decode cX3_lettersIn 14 = .ok (.imul, 1) := by decide +kernel
theorem dX3_lettersIn_15 : decode cX3_lettersIn 15 = .ok (.lushr, 1) := by decide +kernel
theorem dX3_lettersIn_16 : decode cX3_lettersIn 16 = .ok (.l2i, 1) := by decide +kernel
theorem dX3_lettersIn_17 : decode cX3_lettersIn 17 = .ok (.sipush 255, 3) := by decide +kernel
theorem dX3_lettersIn_20 : decode cX3_lettersIn 20 = .ok (.iand, 1) := by decide +kernel
theorem dX3_lettersIn_21 : decode cX3_lettersIn 21 = .ok (.istore 4, 2) := by decide +kernel
theorem dX3_lettersIn_23 : decode cX3_lettersIn 23 = .ok (.iload 4, 2) := by decide +kernel
theorem dX3_lettersIn_25 : decode cX3_lettersIn 25 = .ok (.bipush 126, 2) := by decide +kernel
theorem dX3_lettersIn_27 : decode cX3_lettersIn 27 = .ok (.if_icmp .gt 13, 3) := by decide +kernel
theorem dX3_lettersIn_30 : decode cX3_lettersIn 30 = .ok (.iload 4, 2) := by decide +kernel
theorem dX3_lettersIn_32 : decode cX3_lettersIn 32 = .ok (.ifCond .eq 10, 3) := by decide +kernel
theorem dX3_lettersIn_35 : decode cX3_lettersIn 35 = .ok (.iload_n 2, 1) := by decide +kernel
theorem dX3_lettersIn_36 : decode cX3_lettersIn 36 = .ok (.iload_n 3, 1) := by decide +kernel
theorem dX3_lettersIn_37 : decode cX3_lettersIn 37 = .ok (.if_icmp .ge 5, 3) := by decide +kernel
theorem dX3_lettersIn_40 : decode cX3_lettersIn 40 = .ok (.iconst (-1), 1) := by decide +kernel
theorem dX3_lettersIn_41 : decode cX3_lettersIn 41 = .ok (.ireturn, 1) := by decide +kernel
theorem dX3_lettersIn_42 : decode cX3_lettersIn 42 = .ok (.iload_n 2, 1) := by decide +kernel
theorem dX3_lettersIn_43 : decode cX3_lettersIn 43 = .ok (.iload 4, 2) := by decide +kernel
theorem dX3_lettersIn_45 : decode cX3_lettersIn 45 = .ok (.ifCond .ne 7, 3) := by decide +kernel
theorem dX3_lettersIn_48 : decode cX3_lettersIn 48 = .ok (.iconst 0, 1) := by decide +kernel
theorem dX3_lettersIn_49 : decode cX3_lettersIn 49 = .ok (.goto 4, 3) := by decide +kernel
theorem dX3_lettersIn_52 : decode cX3_lettersIn 52 = .ok (.iconst 1, 1) := by decide +kernel
theorem dX3_lettersIn_53 : decode cX3_lettersIn 53 = .ok (.iadd, 1) := by decide +kernel
theorem dX3_lettersIn_54 : decode cX3_lettersIn 54 = .ok (.istore_n 2, 1) := by decide +kernel
theorem dX3_lettersIn_55 : decode cX3_lettersIn 55 = .ok (.iinc 3 1, 3) := by decide +kernel
theorem dX3_lettersIn_58 : decode cX3_lettersIn 58 = .ok (.goto (-54), 3) := by decide +kernel
theorem dX3_lettersIn_61 : decode cX3_lettersIn 61 = .ok (.iload_n 2, 1) := by decide +kernel
theorem dX3_lettersIn_62 : decode cX3_lettersIn 62 = .ok (.ireturn, 1) := by decide +kernel
theorem dX3_append_0 : decode cX3_append 0 = .ok (.iconst 0, 1) := by decide +kernel
theorem dX3_append_1 : decode cX3_append 1 = .ok (.istore 4, 2) := by decide +kernel
theorem dX3_append_3 : decode cX3_append 3 = .ok (.iload 4, 2) := by decide +kernel
theorem dX3_append_5 : decode cX3_append 5 = .ok (.iload_n 3, 1) := by decide +kernel
theorem dX3_append_6 : decode cX3_append 6 = .ok (.if_icmp .ge 56, 3) := by decide +kernel
theorem dX3_append_9 : decode cX3_append 9 = .ok (.iload 4, 2) := by decide +kernel
theorem dX3_append_11 : decode cX3_append 11 = .ok (.bipush 8, 2) := by decide +kernel
theorem dX3_append_13 : decode cX3_append 13 = .ok (.if_icmp .ge 49, 3) := by decide +kernel
theorem dX3_append_16 : decode cX3_append 16 = .ok (.aload_n 0, 1) := by decide +kernel
theorem dX3_append_17 : decode cX3_append 17 = .ok (.getfield 18, 3) := by decide +kernel
theorem dX3_append_20 : decode cX3_append 20 = .ok (.bipush 60, 2) := by decide +kernel
theorem dX3_append_22 : decode cX3_append 22 = .ok (.if_icmp .ge 40, 3) := by decide +kernel
theorem dX3_append_25 : decode cX3_append 25 = .ok (.aload_n 0, 1) := by decide +kernel
theorem dX3_append_26 : decode cX3_append 26 = .ok (.getfield 9, 3) := by decide +kernel
theorem dX3_append_29 : decode cX3_append 29 = .ok (.aload_n 0, 1) := by decide +kernel
theorem dX3_append_30 : decode cX3_append 30 = .ok (.getfield 18, 3) := by decide +kernel
theorem dX3_append_33 : decode cX3_append 33 = .ok (.lload_n 1, 1) := by decide +kernel
theorem dX3_append_34 : decode cX3_append 34 = .ok (.bipush 8, 2) := by decide +kernel
theorem dX3_append_36 : decode cX3_append 36 = .ok (.iload 4, 2) := by decide +kernel
theorem dX3_append_38 : decode cX3_append 38 = .ok (.imul, 1) := by decide +kernel
theorem dX3_append_39 : decode cX3_append 39 = .ok (.lushr, 1) := by decide +kernel
theorem dX3_append_40 : decode cX3_append 40 = .ok (.l2i, 1) := by decide +kernel
theorem dX3_append_41 : decode cX3_append 41 = .ok (.sipush 255, 3) := by decide +kernel
theorem dX3_append_44 : decode cX3_append 44 = .ok (.iand, 1) := by decide +kernel
theorem dX3_append_45 : decode cX3_append 45 = .ok (.iastore, 1) := by decide +kernel
theorem dX3_append_46 : decode cX3_append 46 = .ok (.aload_n 0, 1) := by decide +kernel
theorem dX3_append_47 : decode cX3_append 47 = .ok (.dup, 1) := by decide +kernel
theorem dX3_append_48 : decode cX3_append 48 = .ok (.getfield 18, 3) := by decide +kernel
theorem dX3_append_51 : decode cX3_append 51 = .ok (.iconst 1, 1) := by decide +kernel
theorem dX3_append_52 : decode cX3_append 52 = .ok (.iadd, 1) := by decide +kernel
theorem dX3_append_53 : decode cX3_append 53 = .ok (.putfield 18, 3) := by decide +kernel
theorem dX3_append_56 : decode cX3_append 56 = .ok (.iinc 4 1, 3) := by decide +kernel
theorem dX3_append_59 : decode cX3_append 59 = .ok (.goto (-56), 3) := by decide +kernel
theorem dX3_append_62 : decode cX3_append 62 = .ok (.return_, 1) := by decide +kernel
theorem dX3_isText_0 : decode cX3_isText 0 = .ok (.aload_n 0, 1) := by decide +kernel
theorem dX3_isText_1 : decode cX3_isText 1 = .ok (.iconst 0, 1) := by decide +kernel
theorem dX3_isText_2 : decode cX3_isText 2 = .ok (.putfield 22, 3) := by decide +kernel
theorem dX3_isText_5 : decode cX3_isText 5 = .ok (.aload_n 0, 1) := by decide +kernel
theorem dX3_isText_6 : decode cX3_isText 6 = .ok (.iconst 1, 1) := by decide +kernel
theorem dX3_isText_7 : decode cX3_isText 7 = .ok (.putfield 25, 3) := by decide +kernel
theorem dX3_isText_10 : decode cX3_isText 10 = .ok (.iload_n 1, 1) := by decide +kernel
theorem dX3_isText_11 : decode cX3_isText 11 = .ok (.ifCond .ne 10, 3) := by decide +kernel
theorem dX3_isText_14 : decode cX3_isText 14 = .ok (.aload_n 0, 1) := by decide +kernel
theorem dX3_isText_15 : decode cX3_isText 15 = .ok (.invokevirtual 29, 3) := by decide +kernel
theorem dX3_isText_18 : decode cX3_isText 18 = .ok (.goto 19, 3) := by decide +kernel
theorem dX3_isText_21 : decode cX3_isText 21 = .ok (.iload_n 1, 1) := by decide +kernel
theorem dX3_isText_22 : decode cX3_isText 22 = .ok (.iconst 1, 1) := by decide +kernel
theorem dX3_isText_23 : decode cX3_isText 23 = .ok (.if_icmp .ne 10, 3) := by decide +kernel
theorem dX3_isText_26 : decode cX3_isText 26 = .ok (.aload_n 0, 1) := by decide +kernel
theorem dX3_isText_27 : decode cX3_isText 27 = .ok (.invokevirtual 32, 3) := by decide +kernel
theorem dX3_isText_30 : decode cX3_isText 30 = .ok (.goto 7, 3) := by decide +kernel
theorem dX3_isText_33 : decode cX3_isText 33 = .ok (.aload_n 0, 1) := by decide +kernel
theorem dX3_isText_34 : decode cX3_isText 34 = .ok (.invokevirtual 35, 3) := by decide +kernel
theorem dX3_isText_37 : decode cX3_isText 37 = .ok (.aload_n 0, 1) := by decide +kernel
theorem dX3_isText_38 : decode cX3_isText 38 = .ok (.getfield 25, 3) := by decide +kernel
theorem dX3_isText_41 : decode cX3_isText 41 = .ok (.ifCond .eq 18, 3) := by decide +kernel
theorem dX3_isText_44 : decode cX3_isText 44 = .ok (.aload_n 0, 1) := by decide +kernel
theorem dX3_isText_45 : decode cX3_isText 45 = .ok (.getfield 22, 3) := by decide +kernel
theorem dX3_isText_48 : decode cX3_isText 48 = .ok (.aload_n 0, 1) := by decide +kernel
theorem dX3_isText_49 : decode cX3_isText 49 = .ok (.getfield 18, 3) := by decide +kernel
theorem dX3_isText_52 : decode cX3_isText 52 = .ok (.if_icmp .ne 7, 3) := by decide +kernel
theorem dX3_isText_55 : decode cX3_isText 55 = .ok (.iconst 1, 1) := by decide +kernel
theorem dX3_isText_56 : decode cX3_isText 56 = .ok (.goto 4, 3) := by decide +kernel
theorem dX3_isText_59 : decode cX3_isText 59 = .ok (.iconst 0, 1) := by decide +kernel
theorem dX3_isText_60 : decode cX3_isText 60 = .ok (.ireturn, 1) := by decide +kernel
theorem dX3_takeHouse_0 : decode cX3_takeHouse 0 = .ok (.aload_n 0, 1) := by decide +kernel
theorem dX3_takeHouse_1 : decode cX3_takeHouse 1 = .ok (.bipush 97, 2) := by decide +kernel
theorem dX3_takeHouse_3 : decode cX3_takeHouse 3 = .ok (.iconst 0, 1) := by decide +kernel
theorem dX3_takeHouse_4 : decode cX3_takeHouse 4 = .ok (.getstatic 38, 3) := by decide +kernel
theorem dX3_takeHouse_7 : decode cX3_takeHouse 7 = .ok (.iconst 0, 1) := by decide +kernel
theorem dX3_takeHouse_8 : decode cX3_takeHouse 8 = .ok (.iaload, 1) := by decide +kernel
theorem dX3_takeHouse_9 : decode cX3_takeHouse 9 = .ok (.invokevirtual 41, 3) := by decide +kernel
theorem dX3_takeHouse_12 : decode cX3_takeHouse 12 = .ok (.aload_n 0, 1) := by decide +kernel
theorem dX3_takeHouse_13 : decode cX3_takeHouse 13 = .ok (.bipush 115, 2) := by decide +kernel
theorem dX3_takeHouse_15 : decode cX3_takeHouse 15 = .ok (.iconst 1, 1) := by decide +kernel
theorem dX3_takeHouse_16 : decode cX3_takeHouse 16 = .ok (.getstatic 38, 3) := by decide +kernel
theorem dX3_takeHouse_19 : decode cX3_takeHouse 19 = .ok (.iconst 1, 1) := by decide +kernel
theorem dX3_takeHouse_20 : decode cX3_takeHouse 20 = .ok (.iaload, 1) := by decide +kernel
theorem dX3_takeHouse_21 : decode cX3_takeHouse 21 = .ok (.invokevirtual 41, 3) := by decide +kernel
theorem dX3_takeHouse_24 : decode cX3_takeHouse 24 = .ok (.aload_n 0, 1) := by decide +kernel
theorem dX3_takeHouse_25 : decode cX3_takeHouse 25 = .ok (.bipush 108, 2) := by decide +kernel
theorem dX3_takeHouse_27 : decode cX3_takeHouse 27 = .ok (.iconst 2, 1) := by decide +kernel
theorem dX3_takeHouse_28 : decode cX3_takeHouse 28 = .ok (.getstatic 38, 3) := by decide +kernel
theorem dX3_takeHouse_31 : decode cX3_takeHouse 31 = .ok (.iconst 2, 1) := by decide +kernel
theorem dX3_takeHouse_32 : decode cX3_takeHouse 32 = .ok (.iaload, 1) := by decide +kernel
theorem dX3_takeHouse_33 : decode cX3_takeHouse 33 = .ok (.invokevirtual 41, 3) := by decide +kernel
theorem dX3_takeHouse_36 : decode cX3_takeHouse 36 = .ok (.aload_n 0, 1) := by decide +kernel
theorem dX3_takeHouse_37 : decode cX3_takeHouse 37 = .ok (.bipush 119, 2) := by decide +kernel
theorem dX3_takeHouse_39 : decode cX3_takeHouse 39 = .ok (.iconst 3, 1) := by decide +kernel
theorem dX3_takeHouse_40 : decode cX3_takeHouse 40 = .ok (.getstatic 38, 3) := by decide +kernel
theorem dX3_takeHouse_43 : decode cX3_takeHouse 43 = .ok (.iconst 3, 1) := by decide +kernel
theorem dX3_takeHouse_44 : decode cX3_takeHouse 44 = .ok (.iaload, 1) := by decide +kernel
theorem dX3_takeHouse_45 : decode cX3_takeHouse 45 = .ok (.invokevirtual 41, 3) := by decide +kernel
theorem dX3_takeHouse_48 : decode cX3_takeHouse 48 = .ok (.aload_n 0, 1) := by decide +kernel
theorem dX3_takeHouse_49 : decode cX3_takeHouse 49 = .ok (.getfield 15, 3) := by decide +kernel
theorem dX3_takeHouse_52 : decode cX3_takeHouse 52 = .ok (.iconst 4, 1) := by decide +kernel
theorem dX3_takeHouse_53 : decode cX3_takeHouse 53 = .ok (.iconst 0, 1) := by decide +kernel
theorem dX3_takeHouse_54 : decode cX3_takeHouse 54 = .ok (.iastore, 1) := by decide +kernel
theorem dX3_takeHouse_55 : decode cX3_takeHouse 55 = .ok (.aload_n 0, 1) := by decide +kernel
theorem dX3_takeHouse_56 : decode cX3_takeHouse 56 = .ok (.getfield 15, 3) := by decide +kernel
theorem dX3_takeHouse_59 : decode cX3_takeHouse 59 = .ok (.iconst 5, 1) := by decide +kernel
theorem dX3_takeHouse_60 : decode cX3_takeHouse 60 = .ok (.iconst 0, 1) := by decide +kernel
theorem dX3_takeHouse_61 : decode cX3_takeHouse 61 = .ok (.iastore, 1) := by decide +kernel
theorem dX3_takeHouse_62 : decode cX3_takeHouse 62 = .ok (.aload_n 0, 1) := by decide +kernel
theorem dX3_takeHouse_63 : decode cX3_takeHouse 63 = .ok (.getfield 15, 3) := by decide +kernel
theorem dX3_takeHouse_66 : decode cX3_takeHouse 66 = .ok (.bipush 6, 2) := by decide +kernel
theorem dX3_takeHouse_68 : decode cX3_takeHouse 68 = .ok (.iconst 0, 1) := by decide +kernel
theorem dX3_takeHouse_69 : decode cX3_takeHouse 69 = .ok (.iastore, 1) := by decide +kernel
theorem dX3_takeHouse_70 : decode cX3_takeHouse 70 = .ok (.aload_n 0, 1) := by decide +kernel
theorem dX3_takeHouse_71 : decode cX3_takeHouse 71 = .ok (.bipush 107, 2) := by decide +kernel
theorem dX3_takeHouse_73 : decode cX3_takeHouse 73 = .ok (.invokevirtual 45, 3) := by decide +kernel
theorem dX3_takeHouse_76 : decode cX3_takeHouse 76 = .ok (.ifCond .eq 15, 3) := by decide +kernel
theorem dX3_takeHouse_79 : decode cX3_takeHouse 79 = .ok (.aload_n 0, 1) := by decide +kernel
theorem dX3_takeHouse_80 : decode cX3_takeHouse 80 = .ok (.bipush 107, 2) := by decide +kernel
theorem dX3_takeHouse_82 : decode cX3_takeHouse 82 = .ok (.iconst 4, 1) := by decide +kernel
theorem dX3_takeHouse_83 : decode cX3_takeHouse 83 = .ok (.getstatic 38, 3) := by decide +kernel
theorem dX3_takeHouse_86 : decode cX3_takeHouse 86 = .ok (.iconst 4, 1) := by decide +kernel
theorem dX3_takeHouse_87 : decode cX3_takeHouse 87 = .ok (.iaload, 1) := by decide +kernel
theorem dX3_takeHouse_88 : decode cX3_takeHouse 88 = .ok (.invokevirtual 41, 3) := by decide +kernel
theorem dX3_takeHouse_91 : decode cX3_takeHouse 91 = .ok (.aload_n 0, 1) := by decide +kernel
theorem dX3_takeHouse_92 : decode cX3_takeHouse 92 = .ok (.bipush 112, 2) := by decide +kernel
theorem dX3_takeHouse_94 : decode cX3_takeHouse 94 = .ok (.invokevirtual 45, 3) := by decide +kernel
theorem dX3_takeHouse_97 : decode cX3_takeHouse 97 = .ok (.ifCond .eq 25, 3) := by decide +kernel
theorem dX3_takeHouse_100 : decode cX3_takeHouse 100 = .ok (.aload_n 0, 1) := by decide +kernel
theorem dX3_takeHouse_101 : decode cX3_takeHouse 101 = .ok (.bipush 112, 2) := by decide +kernel
theorem dX3_takeHouse_103 : decode cX3_takeHouse 103 = .ok (.iconst 5, 1) := by decide +kernel
theorem dX3_takeHouse_104 : decode cX3_takeHouse 104 = .ok (.iconst 1, 1) := by decide +kernel
theorem dX3_takeHouse_105 : decode cX3_takeHouse 105 = .ok (.invokevirtual 41, 3) := by decide +kernel
theorem dX3_takeHouse_108 : decode cX3_takeHouse 108 = .ok (.aload_n 0, 1) := by decide +kernel
theorem dX3_takeHouse_109 : decode cX3_takeHouse 109 = .ok (.bipush 113, 2) := by decide +kernel
theorem dX3_takeHouse_111 : decode cX3_takeHouse 111 = .ok (.bipush 6, 2) := by decide +kernel
theorem dX3_takeHouse_113 : decode cX3_takeHouse 113 = .ok (.getstatic 38, 3) := by decide +kernel
theorem dX3_takeHouse_116 : decode cX3_takeHouse 116 = .ok (.bipush 6, 2) := by decide +kernel
theorem dX3_takeHouse_118 : decode cX3_takeHouse 118 = .ok (.iaload, 1) := by decide +kernel
theorem dX3_takeHouse_119 : decode cX3_takeHouse 119 = .ok (.invokevirtual 41, 3) := by decide +kernel
theorem dX3_takeHouse_122 : decode cX3_takeHouse 122 = .ok (.aload_n 0, 1) := by decide +kernel
theorem dX3_takeHouse_123 : decode cX3_takeHouse 123 = .ok (.iconst 0, 1) := by decide +kernel
theorem dX3_takeHouse_124 : decode cX3_takeHouse 124 = .ok (.putfield 49, 3) := by decide +kernel
theorem dX3_takeHouse_127 : decode cX3_takeHouse 127 = .ok (.aload_n 0, 1) := by decide +kernel
theorem dX3_takeHouse_128 : decode cX3_takeHouse 128 = .ok (.bipush 7, 2) := by decide +kernel
theorem dX3_takeHouse_130 : decode cX3_takeHouse 130 = .ok (.iconst 3, 1) := by decide +kernel
theorem dX3_takeHouse_131 : decode cX3_takeHouse 131 = .ok (.aload_n 0, 1) := by decide +kernel
theorem dX3_takeHouse_132 : decode cX3_takeHouse 132 = .ok (.getfield 49, 3) := by decide +kernel
theorem dX3_takeHouse_135 : decode cX3_takeHouse 135 = .ok (.imul, 1) := by decide +kernel
theorem dX3_takeHouse_136 : decode cX3_takeHouse 136 = .ok (.iadd, 1) := by decide +kernel
theorem dX3_takeHouse_137 : decode cX3_takeHouse 137 = .ok (.invokevirtual 52, 3) := by decide +kernel
theorem dX3_takeHouse_140 : decode cX3_takeHouse 140 = .ok (.aload_n 0, 1) := by decide +kernel
theorem dX3_takeHouse_141 : decode cX3_takeHouse 141 = .ok (.dup, 1) := by decide +kernel
theorem dX3_takeHouse_142 : decode cX3_takeHouse 142 = .ok (.getfield 49, 3) := by decide +kernel
theorem dX3_takeHouse_145 : decode cX3_takeHouse 145 = .ok (.iconst 1, 1) := by decide +kernel
theorem dX3_takeHouse_146 : decode cX3_takeHouse 146 = .ok (.iadd, 1) := by decide +kernel
theorem dX3_takeHouse_147 : decode cX3_takeHouse 147 = .ok (.putfield 49, 3) := by decide +kernel
theorem dX3_takeHouse_150 : decode cX3_takeHouse 150 = .ok (.aload_n 0, 1) := by decide +kernel
theorem dX3_takeHouse_151 : decode cX3_takeHouse 151 = .ok (.getfield 25, 3) := by decide +kernel
theorem dX3_takeHouse_154 : decode cX3_takeHouse 154 = .ok (.ifCond .eq 22, 3) := by decide +kernel
theorem dX3_takeHouse_157 : decode cX3_takeHouse 157 = .ok (.aload_n 0, 1) := by decide +kernel
theorem dX3_takeHouse_158 : decode cX3_takeHouse 158 = .ok (.getfield 22, 3) := by decide +kernel
theorem dX3_takeHouse_161 : decode cX3_takeHouse 161 = .ok (.aload_n 0, 1) := by decide +kernel
theorem dX3_takeHouse_162 : decode cX3_takeHouse 162 = .ok (.getfield 18, 3) := by decide +kernel
theorem dX3_takeHouse_165 : decode cX3_takeHouse 165 = .ok (.if_icmp .ge 11, 3) := by decide +kernel
theorem dX3_takeHouse_168 : decode cX3_takeHouse 168 = .ok (.aload_n 0, 1) := by decide +kernel
theorem dX3_takeHouse_169 : decode cX3_takeHouse 169 = .ok (.getfield 49, 3) := by decide +kernel
theorem dX3_takeHouse_172 : decode cX3_takeHouse 172 = .ok (.iconst 3, 1) := by decide +kernel
theorem dX3_takeHouse_173 : decode cX3_takeHouse 173 = .ok (.if_icmp .lt (-46), 3) := by decide +kernel
theorem dX3_takeHouse_176 : decode cX3_takeHouse 176 = .ok (.return_, 1) := by decide +kernel
theorem dX3_takeNamed_0 : decode cX3_takeNamed 0 = .ok (.aload_n 0, 1) := by decide +kernel
theorem dX3_takeNamed_1 : decode cX3_takeNamed 1 = .ok (.iload_n 1, 1) := by decide +kernel
theorem dX3_takeNamed_2 : decode cX3_takeNamed 2 = .ok (.invokevirtual 56, 3) := by decide +kernel
theorem dX3_takeNamed_5 : decode cX3_takeNamed 5 = .ok (.aload_n 0, 1) := by decide +kernel
theorem dX3_takeNamed_6 : decode cX3_takeNamed 6 = .ok (.getfield 15, 3) := by decide +kernel
theorem dX3_takeNamed_9 : decode cX3_takeNamed 9 = .ok (.iload_n 2, 1) := by decide +kernel
theorem dX3_takeNamed_10 : decode cX3_takeNamed 10 = .ok (.aload_n 0, 1) := by decide +kernel
theorem dX3_takeNamed_11 : decode cX3_takeNamed 11 = .ok (.iload_n 3, 1) := by decide +kernel
theorem dX3_takeNamed_12 : decode cX3_takeNamed 12 = .ok (.getstatic 59, 3) := by decide +kernel
theorem dX3_takeNamed_15 : decode cX3_takeNamed 15 = .ok (.iload_n 2, 1) := by decide +kernel
theorem dX3_takeNamed_16 : decode cX3_takeNamed 16 = .ok (.iaload, 1) := by decide +kernel
theorem dX3_takeNamed_17 : decode cX3_takeNamed 17 = .ok (.invokevirtual 62, 3) := by decide +kernel
theorem dX3_takeNamed_20 : decode cX3_takeNamed 20 = .ok (.iastore, 1) := by decide +kernel
theorem dX3_takeNamed_21 : decode cX3_takeNamed 21 = .ok (.return_, 1) := by decide +kernel
theorem dX3_takeUse_0 : decode cX3_takeUse 0 = .ok (.aload_n 0, 1) := by decide +kernel
theorem dX3_takeUse_1 : decode cX3_takeUse 1 = .ok (.bipush 59, 2) := by decide +kernel
theorem dX3_takeUse_3 : decode cX3_takeUse 3 = .ok (.invokevirtual 56, 3) := by decide +kernel
theorem dX3_takeUse_6 : decode cX3_takeUse 6 = .ok (.aload_n 0, 1) := by decide +kernel
theorem dX3_takeUse_7 : decode cX3_takeUse 7 = .ok (.bipush 117, 2) := by decide +kernel
theorem dX3_takeUse_9 : decode cX3_takeUse 9 = .ok (.invokevirtual 56, 3) := by decide +kernel
theorem dX3_takeUse_12 : decode cX3_takeUse 12 = .ok (.aload_n 0, 1) := by decide +kernel
theorem dX3_takeUse_13 : decode cX3_takeUse 13 = .ok (.getfield 15, 3) := by decide +kernel
theorem dX3_takeUse_16 : decode cX3_takeUse 16 = .ok (.iload_n 1, 1) := by decide +kernel
theorem dX3_takeUse_17 : decode cX3_takeUse 17 = .ok (.aload_n 0, 1) := by decide +kernel
theorem dX3_takeUse_18 : decode cX3_takeUse 18 = .ok (.iconst 1, 1) := by decide +kernel
theorem dX3_takeUse_19 : decode cX3_takeUse 19 = .ok (.bipush 15, 2) := by decide +kernel
theorem dX3_takeUse_21 : decode cX3_takeUse 21 = .ok (.invokevirtual 62, 3) := by decide +kernel
theorem dX3_takeUse_24 : decode cX3_takeUse 24 = .ok (.iastore, 1) := by decide +kernel
theorem dX3_takeUse_25 : decode cX3_takeUse 25 = .ok (.aload_n 0, 1) := by decide +kernel
theorem dX3_takeUse_26 : decode cX3_takeUse 26 = .ok (.bipush 104, 2) := by decide +kernel
theorem dX3_takeUse_28 : decode cX3_takeUse 28 = .ok (.invokevirtual 56, 3) := by decide +kernel
theorem dX3_takeUse_31 : decode cX3_takeUse 31 = .ok (.aload_n 0, 1) := by decide +kernel
theorem dX3_takeUse_32 : decode cX3_takeUse 32 = .ok (.getfield 15, 3) := by decide +kernel
theorem dX3_takeUse_35 : decode cX3_takeUse 35 = .ok (.iload_n 1, 1) := by decide +kernel
theorem dX3_takeUse_36 : decode cX3_takeUse 36 = .ok (.iconst 1, 1) := by decide +kernel
theorem dX3_takeUse_37 : decode cX3_takeUse 37 = .ok (.iadd, 1) := by decide +kernel
theorem dX3_takeUse_38 : decode cX3_takeUse 38 = .ok (.aload_n 0, 1) := by decide +kernel
theorem dX3_takeUse_39 : decode cX3_takeUse 39 = .ok (.iconst 0, 1) := by decide +kernel
theorem dX3_takeUse_40 : decode cX3_takeUse 40 = .ok (.bipush 9, 2) := by decide +kernel
theorem dX3_takeUse_42 : decode cX3_takeUse 42 = .ok (.invokevirtual 62, 3) := by decide +kernel
theorem dX3_takeUse_45 : decode cX3_takeUse 45 = .ok (.iastore, 1) := by decide +kernel
theorem dX3_takeUse_46 : decode cX3_takeUse 46 = .ok (.aload_n 0, 1) := by decide +kernel
theorem dX3_takeUse_47 : decode cX3_takeUse 47 = .ok (.bipush 99, 2) := by decide +kernel
theorem dX3_takeUse_49 : decode cX3_takeUse 49 = .ok (.invokevirtual 56, 3) := by decide +kernel
theorem dX3_takeUse_52 : decode cX3_takeUse 52 = .ok (.aload_n 0, 1) := by decide +kernel
theorem dX3_takeUse_53 : decode cX3_takeUse 53 = .ok (.getfield 15, 3) := by decide +kernel
theorem dX3_takeUse_56 : decode cX3_takeUse 56 = .ok (.iload_n 1, 1) := by decide +kernel
theorem dX3_takeUse_57 : decode cX3_takeUse 57 = .ok (.iconst 2, 1) := by decide +kernel
theorem dX3_takeUse_58 : decode cX3_takeUse 58 = .ok (.iadd, 1) := by decide +kernel
theorem dX3_takeUse_59 : decode cX3_takeUse 59 = .ok (.aload_n 0, 1) := by decide +kernel
theorem dX3_takeUse_60 : decode cX3_takeUse 60 = .ok (.iconst 1, 1) := by decide +kernel
theorem dX3_takeUse_61 : decode cX3_takeUse 61 = .ok (.bipush 9, 2) := by decide +kernel
theorem dX3_takeUse_63 : decode cX3_takeUse 63 = .ok (.invokevirtual 62, 3) := by decide +kernel
theorem dX3_takeUse_66 : decode cX3_takeUse 66 = .ok (.iastore, 1) := by decide +kernel
theorem dX3_takeUse_67 : decode cX3_takeUse 67 = .ok (.return_, 1) := by decide +kernel
theorem dX3_takeYear_0 : decode cX3_takeYear 0 = .ok (.iconst 0, 1) := by decide +kernel
theorem dX3_takeYear_1 : decode cX3_takeYear 1 = .ok (.istore_n 1, 1) := by decide +kernel
theorem dX3_takeYear_2 : decode cX3_takeYear 2 = .ok (.iload_n 1, 1) := by decide +kernel
theorem dX3_takeYear_3 : decode cX3_takeYear 3 = .ok (.bipush 12, 2) := by decide +kernel
theorem dX3_takeYear_5 : decode cX3_takeYear 5 = .ok (.if_icmp .ge 29, 3) := by decide +kernel
theorem dX3_takeYear_8 : decode cX3_takeYear 8 = .ok (.aload_n 0, 1) := by decide +kernel
theorem dX3_takeYear_9 : decode cX3_takeYear 9 = .ok (.getfield 25, 3) := by decide +kernel
theorem dX3_takeYear_12 : decode cX3_takeYear 12 = .ok (.ifCond .eq 22, 3) := by decide +kernel
theorem dX3_takeYear_15 : decode cX3_takeYear 15 = .ok (.aload_n 0, 1) := by decide +kernel
theorem dX3_takeYear_16 : decode cX3_takeYear 16 = .ok (.getfield 15, 3) := by decide +kernel
theorem dX3_takeYear_19 : decode cX3_takeYear 19 = .ok (.iload_n 1, 1) := by decide +kernel
theorem dX3_takeYear_20 : decode cX3_takeYear 20 = .ok (.aload_n 0, 1) := by decide +kernel
theorem dX3_takeYear_21 : decode cX3_takeYear 21 = .ok (.iconst 0, 1) := by decide +kernel
theorem dX3_takeYear_22 : decode cX3_takeYear 22 = .ok (.bipush 9, 2) := by decide +kernel
theorem dX3_takeYear_24 : decode cX3_takeYear 24 = .ok (.invokevirtual 62, 3) := by decide +kernel
theorem dX3_takeYear_27 : decode cX3_takeYear 27 = .ok (.iastore, 1) := by decide +kernel
theorem dX3_takeYear_28 : decode cX3_takeYear 28 = .ok (.iinc 1 1, 3) := by decide +kernel
theorem dX3_takeYear_31 : decode cX3_takeYear 31 = .ok (.goto (-29), 3) := by decide +kernel
theorem dX3_takeYear_34 : decode cX3_takeYear 34 = .ok (.return_, 1) := by decide +kernel
theorem dX3_takeRule_0 : decode cX3_takeRule 0 = .ok (.iconst 0, 1) := by decide +kernel
theorem dX3_takeRule_1 : decode cX3_takeRule 1 = .ok (.istore_n 1, 1) := by decide +kernel
theorem dX3_takeRule_2 : decode cX3_takeRule 2 = .ok (.iload_n 1, 1) := by decide +kernel
theorem dX3_takeRule_3 : decode cX3_takeRule 3 = .ok (.bipush 12, 2) := by decide +kernel
theorem dX3_takeRule_5 : decode cX3_takeRule 5 = .ok (.if_icmp .ge 39, 3) := by decide +kernel
theorem dX3_takeRule_8 : decode cX3_takeRule 8 = .ok (.aload_n 0, 1) := by decide +kernel
theorem dX3_takeRule_9 : decode cX3_takeRule 9 = .ok (.getfield 25, 3) := by decide +kernel
theorem dX3_takeRule_12 : decode cX3_takeRule 12 = .ok (.ifCond .eq 32, 3) := by decide +kernel
theorem dX3_takeRule_15 : decode cX3_takeRule 15 = .ok (.iload_n 1, 1) := by decide +kernel
theorem dX3_takeRule_16 : decode cX3_takeRule 16 = .ok (.ifCond .le 9, 3) := by decide +kernel
theorem dX3_takeRule_19 : decode cX3_takeRule 19 = .ok (.aload_n 0, 1) := by decide +kernel
theorem dX3_takeRule_20 : decode cX3_takeRule 20 = .ok (.bipush 44, 2) := by decide +kernel
theorem dX3_takeRule_22 : decode cX3_takeRule 22 = .ok (.invokevirtual 56, 3) := by decide +kernel
theorem dX3_takeRule_25 : decode cX3_takeRule 25 = .ok (.aload_n 0, 1) := by decide +kernel
theorem dX3_takeRule_26 : decode cX3_takeRule 26 = .ok (.getfield 15, 3) := by decide +kernel
theorem dX3_takeRule_29 : decode cX3_takeRule 29 = .ok (.iload_n 1, 1) := by decide +kernel
theorem dX3_takeRule_30 : decode cX3_takeRule 30 = .ok (.aload_n 0, 1) := by decide +kernel
theorem dX3_takeRule_31 : decode cX3_takeRule 31 = .ok (.iconst 0, 1) := by decide +kernel
theorem dX3_takeRule_32 : decode cX3_takeRule 32 = .ok (.bipush 99, 2) := by decide +kernel
theorem dX3_takeRule_34 : decode cX3_takeRule 34 = .ok (.invokevirtual 62, 3) := by decide +kernel
theorem dX3_takeRule_37 : decode cX3_takeRule 37 = .ok (.iastore, 1) := by decide +kernel
theorem dX3_takeRule_38 : decode cX3_takeRule 38 = .ok (.iinc 1 1, 3) := by decide +kernel
theorem dX3_takeRule_41 : decode cX3_takeRule 41 = .ok (.goto (-39), 3) := by decide +kernel
theorem dX3_takeRule_44 : decode cX3_takeRule 44 = .ok (.return_, 1) := by decide +kernel
theorem dX3_sees_0 : decode cX3_sees 0 = .ok (.aload_n 0, 1) := by decide +kernel
theorem dX3_sees_1 : decode cX3_sees 1 = .ok (.getfield 25, 3) := by decide +kernel
theorem dX3_sees_4 : decode cX3_sees 4 = .ok (.ifCond .eq 31, 3) := by decide +kernel
theorem dX3_sees_7 : decode cX3_sees 7 = .ok (.aload_n 0, 1) := by decide +kernel
theorem dX3_sees_8 : decode cX3_sees 8 = .ok (.getfield 22, 3) := by decide +kernel
theorem dX3_sees_11 : decode cX3_sees 11 = .ok (.aload_n 0, 1) := by decide +kernel
theorem dX3_sees_12 : decode cX3_sees 12 = .ok (.getfield 18, 3) := by decide +kernel
theorem dX3_sees_15 : decode cX3_sees 15 = .ok (.if_icmp .ge 20, 3) := by decide +kernel
theorem dX3_sees_18 : decode cX3_sees 18 = .ok (.aload_n 0, 1) := by decide +kernel
theorem dX3_sees_19 : decode cX3_sees 19 = .ok (.getfield 9, 3) := by decide +kernel
theorem dX3_sees_22 : decode cX3_sees 22 = .ok (.aload_n 0, 1) := by decide +kernel
theorem dX3_sees_23 : decode cX3_sees 23 = .ok (.getfield 22, 3) := by decide +kernel
theorem dX3_sees_26 : decode cX3_sees 26 = .ok (.iaload, 1) := by decide +kernel
theorem dX3_sees_27 : decode cX3_sees 27 = .ok (.iload_n 1, 1) := by decide +kernel
theorem dX3_sees_28 : decode cX3_sees 28 = .ok (.if_icmp .ne 7, 3) := by decide +kernel
theorem dX3_sees_31 : decode cX3_sees 31 = .ok (.iconst 1, 1) := by decide +kernel
theorem dX3_sees_32 : decode cX3_sees 32 = .ok (.goto 4, 3) := by decide +kernel
theorem dX3_sees_35 : decode cX3_sees 35 = .ok (.iconst 0, 1) := by decide +kernel
theorem dX3_sees_36 : decode cX3_sees 36 = .ok (.ireturn, 1) := by decide +kernel
theorem dX3_takeSign_0 : decode cX3_takeSign 0 = .ok (.aload_n 0, 1) := by decide +kernel
theorem dX3_takeSign_1 : decode cX3_takeSign 1 = .ok (.aload_n 0, 1) := by decide +kernel
theorem dX3_takeSign_2 : decode cX3_takeSign 2 = .ok (.iload_n 1, 1) := by decide +kernel
theorem dX3_takeSign_3 : decode cX3_takeSign 3 = .ok (.invokevirtual 45, 3) := by decide +kernel
theorem dX3_takeSign_6 : decode cX3_takeSign 6 = .ok (.putfield 25, 3) := by decide +kernel
theorem dX3_takeSign_9 : decode cX3_takeSign 9 = .ok (.aload_n 0, 1) := by decide +kernel
theorem dX3_takeSign_10 : decode cX3_takeSign 10 = .ok (.dup, 1) := by decide +kernel
theorem dX3_takeSign_11 : decode cX3_takeSign 11 = .ok (.getfield 22, 3) := by decide +kernel
theorem dX3_takeSign_14 : decode cX3_takeSign 14 = .ok (.aload_n 0, 1) := by decide +kernel
theorem dX3_takeSign_15 : decode cX3_takeSign 15 = .ok (.getfield 25, 3) := by decide +kernel
theorem dX3_takeSign_18 : decode cX3_takeSign 18 = .ok (.ifCond .eq 7, 3) := by decide +kernel
theorem dX3_takeSign_21 : decode cX3_takeSign 21 = .ok (.iconst 1, 1) := by decide +kernel
theorem dX3_takeSign_22 : decode cX3_takeSign 22 = .ok (.goto 4, 3) := by decide +kernel
theorem dX3_takeSign_25 : decode cX3_takeSign 25 = .ok (.iconst 0, 1) := by decide +kernel
theorem dX3_takeSign_26 : decode cX3_takeSign 26 = .ok (.iadd, 1) := by decide +kernel
theorem dX3_takeSign_27 : decode cX3_takeSign 27 = .ok (.putfield 22, 3) := by decide +kernel
theorem dX3_takeSign_30 : decode cX3_takeSign 30 = .ok (.return_, 1) := by decide +kernel
theorem dX3_digitAhead_0 : decode cX3_digitAhead 0 = .ok (.aload_n 0, 1) := by decide +kernel
theorem dX3_digitAhead_1 : decode cX3_digitAhead 1 = .ok (.getfield 22, 3) := by decide +kernel
theorem dX3_digitAhead_4 : decode cX3_digitAhead 4 = .ok (.aload_n 0, 1) := by decide +kernel
theorem dX3_digitAhead_5 : decode cX3_digitAhead 5 = .ok (.getfield 18, 3) := by decide +kernel
theorem dX3_digitAhead_8 : decode cX3_digitAhead 8 = .ok (.if_icmp .ge 35, 3) := by decide +kernel
theorem dX3_digitAhead_11 : decode cX3_digitAhead 11 = .ok (.aload_n 0, 1) := by decide +kernel
theorem dX3_digitAhead_12 : decode cX3_digitAhead 12 = .ok (.getfield 9, 3) := by decide +kernel
theorem dX3_digitAhead_15 : decode cX3_digitAhead 15 = .ok (.aload_n 0, 1) := by decide +kernel
theorem dX3_digitAhead_16 : decode cX3_digitAhead 16 = .ok (.getfield 22, 3) := by decide +kernel
theorem dX3_digitAhead_19 : decode cX3_digitAhead 19 = .ok (.iaload, 1) := by decide +kernel
theorem dX3_digitAhead_20 : decode cX3_digitAhead 20 = .ok (.bipush 48, 2) := by decide +kernel
theorem dX3_digitAhead_22 : decode cX3_digitAhead 22 = .ok (.if_icmp .lt 21, 3) := by decide +kernel
theorem dX3_digitAhead_25 : decode cX3_digitAhead 25 = .ok (.aload_n 0, 1) := by decide +kernel
theorem dX3_digitAhead_26 : decode cX3_digitAhead 26 = .ok (.getfield 9, 3) := by decide +kernel
theorem dX3_digitAhead_29 : decode cX3_digitAhead 29 = .ok (.aload_n 0, 1) := by decide +kernel
theorem dX3_digitAhead_30 : decode cX3_digitAhead 30 = .ok (.getfield 22, 3) := by decide +kernel
theorem dX3_digitAhead_33 : decode cX3_digitAhead 33 = .ok (.iaload, 1) := by decide +kernel
theorem dX3_digitAhead_34 : decode cX3_digitAhead 34 = .ok (.bipush 57, 2) := by decide +kernel
theorem dX3_digitAhead_36 : decode cX3_digitAhead 36 = .ok (.if_icmp .gt 7, 3) := by decide +kernel
theorem dX3_digitAhead_39 : decode cX3_digitAhead 39 = .ok (.iconst 1, 1) := by decide +kernel
theorem dX3_digitAhead_40 : decode cX3_digitAhead 40 = .ok (.goto 4, 3) := by decide +kernel
theorem dX3_digitAhead_43 : decode cX3_digitAhead 43 = .ok (.iconst 0, 1) := by decide +kernel
theorem dX3_digitAhead_44 : decode cX3_digitAhead 44 = .ok (.istore_n 1, 1) := by decide +kernel
theorem dX3_digitAhead_45 : decode cX3_digitAhead 45 = .ok (.iload_n 1, 1) := by decide +kernel
theorem dX3_digitAhead_46 : decode cX3_digitAhead 46 = .ok (.ifCond .eq 18, 3) := by decide +kernel
theorem dX3_digitAhead_49 : decode cX3_digitAhead 49 = .ok (.aload_n 0, 1) := by decide +kernel
theorem dX3_digitAhead_50 : decode cX3_digitAhead 50 = .ok (.getfield 9, 3) := by decide +kernel
theorem dX3_digitAhead_53 : decode cX3_digitAhead 53 = .ok (.aload_n 0, 1) := by decide +kernel
theorem dX3_digitAhead_54 : decode cX3_digitAhead 54 = .ok (.getfield 22, 3) := by decide +kernel
theorem dX3_digitAhead_57 : decode cX3_digitAhead 57 = .ok (.iaload, 1) := by decide +kernel
theorem dX3_digitAhead_58 : decode cX3_digitAhead 58 = .ok (.bipush 48, 2) := by decide +kernel
theorem dX3_digitAhead_60 : decode cX3_digitAhead 60 = .ok (.isub, 1) := by decide +kernel
theorem dX3_digitAhead_61 : decode cX3_digitAhead 61 = .ok (.goto 4, 3) := by decide +kernel
theorem dX3_digitAhead_64 : decode cX3_digitAhead 64 = .ok (.iconst (-1), 1) := by decide +kernel
theorem dX3_digitAhead_65 : decode cX3_digitAhead 65 = .ok (.ireturn, 1) := by decide +kernel
theorem dX3_takeNumber_0 : decode cX3_takeNumber 0 = .ok (.aload_n 0, 1) := by decide +kernel
theorem dX3_takeNumber_1 : decode cX3_takeNumber 1 = .ok (.getfield 25, 3) := by decide +kernel
theorem dX3_takeNumber_4 : decode cX3_takeNumber 4 = .ok (.ifCond .eq 10, 3) := by decide +kernel
theorem dX3_takeNumber_7 : decode cX3_takeNumber 7 = .ok (.aload_n 0, 1) := by decide +kernel
theorem dX3_takeNumber_8 : decode cX3_takeNumber 8 = .ok (.invokevirtual 66, 3) := by decide +kernel
theorem dX3_takeNumber_11 : decode cX3_takeNumber 11 = .ok (.goto 4, 3) := by decide +kernel
theorem dX3_takeNumber_14 : decode cX3_takeNumber 14 = .ok (.iconst (-1), 1) := by decide +kernel
theorem dX3_takeNumber_15 : decode cX3_takeNumber 15 = .ok (.istore_n 3, 1) := by decide +kernel
theorem dX3_takeNumber_16 : decode cX3_takeNumber 16 = .ok (.iload_n 3, 1) := by decide +kernel
theorem dX3_takeNumber_17 : decode cX3_takeNumber 17 = .ok (.iload_n 1, 1) := by decide +kernel
theorem dX3_takeNumber_18 : decode cX3_takeNumber 18 = .ok (.if_icmp .lt 8, 3) := by decide +kernel
theorem dX3_takeNumber_21 : decode cX3_takeNumber 21 = .ok (.iload_n 3, 1) := by decide +kernel
theorem dX3_takeNumber_22 : decode cX3_takeNumber 22 = .ok (.iload_n 2, 1) := by decide +kernel
theorem dX3_takeNumber_23 : decode cX3_takeNumber 23 = .ok (.if_icmp .le 10, 3) := by decide +kernel
theorem dX3_takeNumber_26 : decode cX3_takeNumber 26 = .ok (.aload_n 0, 1) := by decide +kernel
theorem dX3_takeNumber_27 : decode cX3_takeNumber 27 = .ok (.iconst 0, 1) := by decide +kernel
theorem dX3_takeNumber_28 : decode cX3_takeNumber 28 = .ok (.putfield 25, 3) := by decide +kernel
theorem dX3_takeNumber_31 : decode cX3_takeNumber 31 = .ok (.iconst 0, 1) := by decide +kernel
theorem dX3_takeNumber_32 : decode cX3_takeNumber 32 = .ok (.ireturn, 1) := by decide +kernel
theorem dX3_takeNumber_33 : decode cX3_takeNumber 33 = .ok (.aload_n 0, 1) := by decide +kernel
theorem dX3_takeNumber_34 : decode cX3_takeNumber 34 = .ok (.dup, 1) := by decide +kernel
theorem dX3_takeNumber_35 : decode cX3_takeNumber 35 = .ok (.getfield 22, 3) := by decide +kernel
theorem dX3_takeNumber_38 : decode cX3_takeNumber 38 = .ok (.iconst 1, 1) := by decide +kernel
theorem dX3_takeNumber_39 : decode cX3_takeNumber 39 = .ok (.iadd, 1) := by decide +kernel
theorem dX3_takeNumber_40 : decode cX3_takeNumber 40 = .ok (.putfield 22, 3) := by decide +kernel
theorem dX3_takeNumber_43 : decode cX3_takeNumber 43 = .ok (.iconst 1, 1) := by decide +kernel
theorem dX3_takeNumber_44 : decode cX3_takeNumber 44 = .ok (.istore 4, 2) := by decide +kernel
theorem dX3_takeNumber_46 : decode cX3_takeNumber 46 = .ok (.iload 4, 2) := by decide +kernel
theorem dX3_takeNumber_48 : decode cX3_takeNumber 48 = .ok (.iconst 3, 1) := by decide +kernel
theorem dX3_takeNumber_49 : decode cX3_takeNumber 49 = .ok (.if_icmp .ge 57, 3) := by decide +kernel
theorem dX3_takeNumber_52 : decode cX3_takeNumber 52 = .ok (.iload_n 3, 1) := by decide +kernel
theorem dX3_takeNumber_53 : decode cX3_takeNumber 53 = .ok (.ifCond .le 53, 3) := by decide +kernel
theorem dX3_takeNumber_56 : decode cX3_takeNumber 56 = .ok (.aload_n 0, 1) := by decide +kernel
theorem dX3_takeNumber_57 : decode cX3_takeNumber 57 = .ok (.invokevirtual 66, 3) := by decide +kernel
theorem dX3_takeNumber_60 : decode cX3_takeNumber 60 = .ok (.istore 5, 2) := by decide +kernel
theorem dX3_takeNumber_62 : decode cX3_takeNumber 62 = .ok (.iload 5, 2) := by decide +kernel
theorem dX3_takeNumber_64 : decode cX3_takeNumber 64 = .ok (.iconst (-1), 1) := by decide +kernel
theorem dX3_takeNumber_65 : decode cX3_takeNumber 65 = .ok (.if_icmp .eq 41, 3) := by decide +kernel
theorem dX3_takeNumber_68 : decode cX3_takeNumber 68 = .ok (.bipush 10, 2) := by decide +kernel
theorem dX3_takeNumber_70 : decode cX3_takeNumber 70 = .ok (.iload_n 3, 1) := by decide +kernel
theorem dX3_takeNumber_71 : decode cX3_takeNumber 71 = .ok (.imul, 1) := by decide +kernel
theorem dX3_takeNumber_72 : decode cX3_takeNumber 72 = .ok (.iload 5, 2) := by decide +kernel
theorem dX3_takeNumber_74 : decode cX3_takeNumber 74 = .ok (.iadd, 1) := by decide +kernel
theorem dX3_takeNumber_75 : decode cX3_takeNumber 75 = .ok (.iload_n 2, 1) := by decide +kernel
theorem dX3_takeNumber_76 : decode cX3_takeNumber 76 = .ok (.if_icmp .le 6, 3) := by decide +kernel
theorem dX3_takeNumber_79 : decode cX3_takeNumber 79 = .ok (.goto 27, 3) := by decide +kernel
theorem dX3_takeNumber_82 : decode cX3_takeNumber 82 = .ok (.bipush 10, 2) := by decide +kernel
theorem dX3_takeNumber_84 : decode cX3_takeNumber 84 = .ok (.iload_n 3, 1) := by decide +kernel
theorem dX3_takeNumber_85 : decode cX3_takeNumber 85 = .ok (.imul, 1) := by decide +kernel
theorem dX3_takeNumber_86 : decode cX3_takeNumber 86 = .ok (.iload 5, 2) := by decide +kernel
theorem dX3_takeNumber_88 : decode cX3_takeNumber 88 = .ok (.iadd, 1) := by decide +kernel
theorem dX3_takeNumber_89 : decode cX3_takeNumber 89 = .ok (.istore_n 3, 1) := by decide +kernel
theorem dX3_takeNumber_90 : decode cX3_takeNumber 90 = .ok (.aload_n 0, 1) := by decide +kernel
theorem dX3_takeNumber_91 : decode cX3_takeNumber 91 = .ok (.dup, 1) := by decide +kernel
theorem dX3_takeNumber_92 : decode cX3_takeNumber 92 = .ok (.getfield 22, 3) := by decide +kernel
theorem dX3_takeNumber_95 : decode cX3_takeNumber 95 = .ok (.iconst 1, 1) := by decide +kernel
theorem dX3_takeNumber_96 : decode cX3_takeNumber 96 = .ok (.iadd, 1) := by decide +kernel
theorem dX3_takeNumber_97 : decode cX3_takeNumber 97 = .ok (.putfield 22, 3) := by decide +kernel
theorem dX3_takeNumber_100 : decode cX3_takeNumber 100 = .ok (.iinc 4 1, 3) := by decide +kernel
theorem dX3_takeNumber_103 : decode cX3_takeNumber 103 = .ok (.goto (-57), 3) := by decide +kernel
theorem dX3_takeNumber_106 : decode cX3_takeNumber 106 = .ok (.iload_n 3, 1) := by decide +kernel
theorem dX3_takeNumber_107 : decode cX3_takeNumber 107 = .ok (.ireturn, 1) := by decide +kernel
theorem dX4_init_0 : decode cX4_init 0 = .ok (.aload_n 0, 1) := by decide +kernel
theorem dX4_init_1 : decode cX4_init 1 = .ok (.invokespecial 3, 3) := by decide +kernel
theorem dX4_init_4 : decode cX4_init 4 = .ok (.aload_n 0, 1) := by decide +kernel
theorem dX4_init_5 : decode cX4_init 5 = .ok (.bipush 12, 2) := by decide +kernel
theorem dX4_init_7 : decode cX4_init 7 = .ok (.newarray .int, 2) := by decide +kernel
theorem dX4_init_9 : decode cX4_init 9 = .ok (.putfield 9, 3) := by decide +kernel
theorem dX4_init_12 : decode cX4_init 12 = .ok (.aload_n 0, 1) := by decide +kernel
theorem dX4_init_13 : decode cX4_init 13 = .ok (.iconst (-1), 1) := by decide +kernel
theorem dX4_init_14 : decode cX4_init 14 = .ok (.putfield 15, 3) := by decide +kernel
theorem dX4_init_17 : decode cX4_init 17 = .ok (.aload_n 0, 1) := by decide +kernel
theorem dX4_init_18 : decode cX4_init 18 = .ok (.iconst (-1), 1) := by decide +kernel
theorem dX4_init_19 : decode cX4_init 19 = .ok (.putfield 19, 3) := by decide +kernel
theorem dX4_init_22 : decode cX4_init 22 = .ok (.return_, 1) := by decide +kernel
theorem dX4_isA_0 : decode cX4_isA 0 = .ok (.iload_n 1, 1) := by decide +kernel
theorem dX4_isA_1 : decode cX4_isA 1 = .ok (.ifCond .eq 23, 3) := by decide +kernel
theorem dX4_isA_4 : decode cX4_isA 4 = .ok (.iload_n 1, 1) := by decide +kernel
theorem dX4_isA_5 : decode cX4_isA 5 = .ok (.aload_n 0, 1) := by decide +kernel
theorem dX4_isA_6 : decode cX4_isA 6 = .ok (.getfield 22, 3) := by decide +kernel
theorem dX4_isA_9 : decode cX4_isA 9 = .ok (.if_icmp .eq 15, 3) := by decide +kernel
theorem dX4_isA_12 : decode cX4_isA 12 = .ok (.iload_n 1, 1) := by decide +kernel
theorem dX4_isA_13 : decode cX4_isA 13 = .ok (.iconst 2, 1) := by decide +kernel
theorem dX4_isA_14 : decode cX4_isA 14 = .ok (.if_icmp .ne 14, 3) := by decide +kernel
theorem dX4_isA_17 : decode cX4_isA 17 = .ok (.aload_n 0, 1) := by decide +kernel
theorem dX4_isA_18 : decode cX4_isA 18 = .ok (.invokevirtual 25, 3) := by decide +kernel
theorem dX4_isA_21 : decode cX4_isA 21 = .ok (.ifCond .eq 7, 3) := by decide +kernel
theorem dX4_isA_24 : decode cX4_isA 24 = .ok (.iconst 1, 1) := by decide +kernel
theorem dX4_isA_25 : decode cX4_isA 25 = .ok (.goto 4, 3) := by decide +kernel
theorem dX4_isA_28 : decode cX4_isA 28 = .ok (.iconst 0, 1) := by decide +kernel
theorem dX4_isA_29 : decode cX4_isA 29 = .ok (.ireturn, 1) := by decide +kernel
theorem dX4_goesByWorth_0 : decode cX4_goesByWorth 0 = .ok (.aload_n 0, 1) := by decide +kernel
theorem dX4_goesByWorth_1 : decode cX4_goesByWorth 1 = .ok (.getfield 22, 3) := by decide +kernel
theorem dX4_goesByWorth_4 : decode cX4_goesByWorth 4 = .ok (.iconst 2, 1) := by decide +kernel
theorem dX4_goesByWorth_5 : decode cX4_goesByWorth 5 = .ok (.if_icmp .lt 7, 3) := by decide +kernel
theorem dX4_goesByWorth_8 : decode cX4_goesByWorth 8 = .ok (.iconst 1, 1) := by decide +kernel
theorem dX4_goesByWorth_9 : decode cX4_goesByWorth 9 = .ok (.goto 4, 3) := by decide +kernel
theorem dX4_goesByWorth_12 : decode cX4_goesByWorth 12 = .ok (.iconst 0, 1) := by decide +kernel
theorem dX4_goesByWorth_13 : decode cX4_goesByWorth 13 = .ok (.ireturn, 1) := by decide +kernel
theorem dX5_init_0 : decode cX5_init 0 = .ok (.aload_n 0, 1) := by decide +kernel
theorem dX5_init_1 : decode cX5_init 1 = .ok (.invokespecial 3, 3) := by decide +kernel
theorem dX5_init_4 : decode cX5_init 4 = .ok (.aload_n 0, 1) := by decide +kernel
theorem dX5_init_5 : decode cX5_init 5 = .ok (.bipush 7, 2) := by decide +kernel
theorem dX5_init_7 : decode cX5_init 7 = .ok (.newarray .int, 2) := by decide +kernel
theorem dX5_init_9 : decode cX5_init 9 = .ok (.putfield 9, 3) := by decide +kernel
theorem dX5_init_12 : decode cX5_init 12 = .ok (.aload_n 0, 1) := by decide +kernel
theorem dX5_init_13 : decode cX5_init 13 = .ok (.iconst 3, 1) := by decide +kernel
theorem dX5_init_14 : decode cX5_init 14 = .ok (.newarray .int, 2) := by decide +kernel
theorem dX5_init_16 : decode cX5_init 16 = .ok (.putfield 15, 3) := by decide +kernel
theorem dX5_init_19 : decode cX5_init 19 = .ok (.aload_n 0, 1) := by decide +kernel
theorem dX5_init_20 : decode cX5_init 20 = .ok (.aload_n 1, 1) := by decide +kernel
theorem dX5_init_21 : decode cX5_init 21 = .ok (.putfield 18, 3) := by decide +kernel
theorem dX5_init_24 : decode cX5_init 24 = .ok (.aload_n 0, 1) := by decide +kernel
theorem dX5_init_25 : decode cX5_init 25 = .ok (.aload_n 2, 1) := by decide +kernel
theorem dX5_init_26 : decode cX5_init 26 = .ok (.putfield 22, 3) := by decide +kernel
theorem dX5_init_29 : decode cX5_init 29 = .ok (.aload_n 0, 1) := by decide +kernel
theorem dX5_init_30 : decode cX5_init 30 = .ok (.aload_n 3, 1) := by decide +kernel
theorem dX5_init_31 : decode cX5_init 31 = .ok (.putfield 26, 3) := by decide +kernel
theorem dX5_init_34 : decode cX5_init 34 = .ok (.return_, 1) := by decide +kernel
theorem dX5_passAll_0 : decode cX5_passAll 0 = .ok (.aload_n 0, 1) := by decide +kernel
theorem dX5_passAll_1 : decode cX5_passAll 1 = .ok (.getfield 9, 3) := by decide +kernel
theorem dX5_passAll_4 : decode cX5_passAll 4 = .ok (.iconst 0, 1) := by decide +kernel
theorem dX5_passAll_5 : decode cX5_passAll 5 = .ok (.invokestatic 30, 3) := by decide +kernel
theorem dX5_passAll_8 : decode cX5_passAll 8 = .ok (.aload_n 0, 1) := by decide +kernel
theorem dX5_passAll_9 : decode cX5_passAll 9 = .ok (.getfield 15, 3) := by decide +kernel
theorem dX5_passAll_12 : decode cX5_passAll 12 = .ok (.iconst 0, 1) := by decide +kernel
theorem dX5_passAll_13 : decode cX5_passAll 13 = .ok (.invokestatic 30, 3) := by decide +kernel
theorem dX5_passAll_16 : decode cX5_passAll 16 = .ok (.aload_n 0, 1) := by decide +kernel
theorem dX5_passAll_17 : decode cX5_passAll 17 = .ok (.iconst (-1), 1) := by decide +kernel
theorem dX5_passAll_18 : decode cX5_passAll 18 = .ok (.putfield 36, 3) := by decide +kernel
theorem dX5_passAll_21 : decode cX5_passAll 21 = .ok (.aload_n 0, 1) := by decide +kernel
theorem dX5_passAll_22 : decode cX5_passAll 22 = .ok (.getfield 26, 3) := by decide +kernel
theorem dX5_passAll_25 : decode cX5_passAll 25 = .ok (.iload_n 2, 1) := by decide +kernel
theorem dX5_passAll_26 : decode cX5_passAll 26 = .ok (.iload_n 3, 1) := by decide +kernel
theorem dX5_passAll_27 : decode cX5_passAll 27 = .ok (.invokevirtual 40, 3) := by decide +kernel
theorem dX5_passAll_30 : decode cX5_passAll 30 = .ok (.iconst 0, 1) := by decide +kernel
theorem dX5_passAll_31 : decode cX5_passAll 31 = .ok (.istore 4, 2) := by decide +kernel
theorem dX5_passAll_33 : decode cX5_passAll 33 = .ok (.iload 4, 2) := by decide +kernel
theorem dX5_passAll_35 : decode cX5_passAll 35 = .ok (.aload_n 0, 1) := by decide +kernel
theorem dX5_passAll_36 : decode cX5_passAll 36 = .ok (.getfield 22, 3) := by decide +kernel
theorem dX5_passAll_39 : decode cX5_passAll 39 = .ok (.getfield 46, 3) := by decide +kernel
theorem dX5_passAll_42 : decode cX5_passAll 42 = .ok (.if_icmp .ge 60, 3) := by decide +kernel
theorem dX5_passAll_45 : decode cX5_passAll 45 = .ok (.iconst 0, 1) := by decide +kernel
theorem dX5_passAll_46 : decode cX5_passAll 46 = .ok (.istore 5, 2) := by decide +kernel
theorem dX5_passAll_48 : decode cX5_passAll 48 = .ok (.iload 5, 2) := by decide +kernel
theorem dX5_passAll_50 : decode cX5_passAll 50 = .ok (.bipush 12, 2) := by decide +kernel
theorem dX5_passAll_52 : decode cX5_passAll 52 = .ok (.if_icmp .ge 44, 3) := by decide +kernel
theorem dX5_passAll_55 : decode cX5_passAll 55 = .ok (.aload_n 0, 1) := by decide +kernel
theorem dX5_passAll_56 : decode cX5_passAll 56 = .ok (.getfield 26, 3) := by decide +kernel
theorem dX5_passAll_59 : decode cX5_passAll 59 = .ok (.aload_n 1, 1) := by decide +kernel
theorem dX5_passAll_60 : decode cX5_passAll 60 = .ok (.iload 5, 2) := by decide +kernel
theorem dX5_passAll_62 : decode cX5_passAll 62 = .ok (.aload_n 0, 1) := by decide +kernel
theorem dX5_passAll_63 : decode cX5_passAll 63 = .ok (.getfield 22, 3) := by decide +kernel
theorem dX5_passAll_66 : decode cX5_passAll 66 = .ok (.getfield 51, 3) := by decide +kernel
theorem dX5_passAll_69 : decode cX5_passAll 69 = .ok (.iload 4, 2) := by decide +kernel
theorem dX5_passAll_71 : decode cX5_passAll 71 = .ok (.aaload, 1) := by decide +kernel
theorem dX5_passAll_72 : decode cX5_passAll 72 = .ok (.iload 5, 2) := by decide +kernel
theorem dX5_passAll_74 : decode cX5_passAll 74 = .ok (.iaload, 1) := by decide +kernel
theorem dX5_passAll_75 : decode cX5_passAll 75 = .ok (.invokevirtual 55, 3) := by decide +kernel
theorem dX5_passAll_78 : decode cX5_passAll 78 = .ok (.aload_n 0, 1) := by decide +kernel
theorem dX5_passAll_79 : decode cX5_passAll 79 = .ok (.iload 4, 2) := by decide +kernel
theorem dX5_passAll_81 : decode cX5_passAll 81 = .ok (.bipush 12, 2) := by decide +kernel
theorem dX5_passAll_83 : decode cX5_passAll 83 = .ok (.imul, 1) := by decide +kernel
theorem dX5_passAll_84 : decode cX5_passAll 84 = .ok (.iload 5, 2) := by decide +kernel
theorem dX5_passAll_86 : decode cX5_passAll 86 = .ok (.iadd, 1) := by decide +kernel
theorem dX5_passAll_87 : decode cX5_passAll 87 = .ok (.invokevirtual 59, 3) := by decide +kernel
theorem dX5_passAll_90 : decode cX5_passAll 90 = .ok (.iinc 5 1, 3) := by decide +kernel
theorem dX5_passAll_93 : decode cX5_passAll 93 = .ok (.goto (-45), 3) := by decide +kernel
theorem dX5_passAll_96 : decode cX5_passAll 96 = .ok (.iinc 4 1, 3) := by decide +kernel
theorem dX5_passAll_99 : decode cX5_passAll 99 = .ok (.goto (-66), 3) := by decide +kernel
theorem dX5_passAll_102 : decode cX5_passAll 102 = .ok (.aload_n 0, 1) := by decide +kernel
theorem dX5_passAll_103 : decode cX5_passAll 103 = .ok (.getfield 9, 3) := by decide +kernel
theorem dX5_passAll_106 : decode cX5_passAll 106 = .ok (.bipush 6, 2) := by decide +kernel
theorem dX5_passAll_108 : decode cX5_passAll 108 = .ok (.aload_n 0, 1) := by decide +kernel
theorem dX5_passAll_109 : decode cX5_passAll 109 = .ok (.getfield 26, 3) := by decide +kernel
theorem dX5_passAll_112 : decode cX5_passAll 112 = .ok (.getfield 63, 3) := by decide +kernel
theorem dX5_passAll_115 : decode cX5_passAll 115 = .ok (.iastore, 1) := by decide +kernel
theorem dX5_passAll_116 : decode cX5_passAll 116 = .ok (.return_, 1) := by decide +kernel
theorem dX5_addMonth_0 : decode cX5_addMonth 0 = .ok (.aload_n 0, 1) := by decide +kernel
theorem dX5_addMonth_1 : decode cX5_addMonth 1 = .ok (.getfield 26, 3) := by decide +kernel
theorem dX5_addMonth_4 : decode cX5_addMonth 4 = .ok (.getfield 66, 3) := by decide +kernel
theorem dX5_addMonth_7 : decode cX5_addMonth 7 = .ok (.ifCond .le 70, 3) := by decide +kernel
theorem dX5_addMonth_10 : decode cX5_addMonth 10 = .ok (.aload_n 0, 1) := by decide +kernel
theorem dX5_addMonth_11 : decode cX5_addMonth 11 = .ok (.getfield 9, 3) := by decide +kernel
theorem dX5_addMonth_14 : decode cX5_addMonth 14 = .ok (.iconst 0, 1) := by decide +kernel
theorem dX5_addMonth_15 : decode cX5_addMonth 15 = .ok (.dup2, 1) := by decide +kernel
theorem dX5_addMonth_16 : decode cX5_addMonth 16 = .ok (.iaload, 1) := by decide +kernel
theorem dX5_addMonth_17 : decode cX5_addMonth 17 = .ok (.iconst 1, 1) := by decide +kernel
theorem dX5_addMonth_18 : decode cX5_addMonth 18 = .ok (.iadd, 1) := by decide +kernel
theorem dX5_addMonth_19 : decode cX5_addMonth 19 = .ok (.iastore, 1) := by decide +kernel
theorem dX5_addMonth_20 : decode cX5_addMonth 20 = .ok (.aload_n 0, 1) := by decide +kernel
theorem dX5_addMonth_21 : decode cX5_addMonth 21 = .ok (.aload_n 0, 1) := by decide +kernel
theorem dX5_addMonth_22 : decode cX5_addMonth 22 = .ok (.getfield 36, 3) := by decide +kernel
theorem dX5_addMonth_25 : decode cX5_addMonth 25 = .ok (.iconst (-1), 1) := by decide +kernel
theorem dX5_addMonth_26 : decode cX5_addMonth 26 = .ok (.if_icmp .ne 7, 3) := by decide +kernel
theorem dX5_addMonth_29 : decode cX5_addMonth 29 = .ok (.iload_n 1, 1) := by decide +kernel
theorem dX5_addMonth_30 : decode cX5_addMonth 30 = .ok (.goto 7, 3) := by decide +kernel
theorem dX5_addMonth_33 : decode cX5_addMonth 33 = .ok (.aload_n 0, 1) := by decide +kernel
theorem dX5_addMonth_34 : decode cX5_addMonth 34 = .ok (.getfield 36, 3) := by decide +kernel
theorem dX5_addMonth_37 : decode cX5_addMonth 37 = .ok (.putfield 36, 3) := by decide +kernel
theorem dX5_addMonth_40 : decode cX5_addMonth 40 = .ok (.iconst 0, 1) := by decide +kernel
theorem dX5_addMonth_41 : decode cX5_addMonth 41 = .ok (.istore_n 2, 1) := by decide +kernel
theorem dX5_addMonth_42 : decode cX5_addMonth 42 = .ok (.iload_n 2, 1) := by decide +kernel
theorem dX5_addMonth_43 : decode cX5_addMonth 43 = .ok (.aload_n 0, 1) := by decide +kernel
theorem dX5_addMonth_44 : decode cX5_addMonth 44 = .ok (.getfield 18, 3) := by decide +kernel
theorem dX5_addMonth_47 : decode cX5_addMonth 47 = .ok (.getfield 69, 3) := by decide +kernel
theorem dX5_addMonth_50 : decode cX5_addMonth 50 = .ok (.if_icmp .ge 27, 3) := by decide +kernel
theorem dX5_addMonth_53 : decode cX5_addMonth 53 = .ok (.aload_n 0, 1) := by decide +kernel
theorem dX5_addMonth_54 : decode cX5_addMonth 54 = .ok (.getfield 15, 3) := by decide +kernel
theorem dX5_addMonth_57 : decode cX5_addMonth 57 = .ok (.iload_n 2, 1) := by decide +kernel
theorem dX5_addMonth_58 : decode cX5_addMonth 58 = .ok (.dup2, 1) := by decide +kernel
theorem dX5_addMonth_59 : decode cX5_addMonth 59 = .ok (.iaload, 1) := by decide +kernel
theorem dX5_addMonth_60 : decode cX5_addMonth 60 = .ok (.aload_n 0, 1) := by decide +kernel
theorem dX5_addMonth_61 : decode cX5_addMonth 61 = .ok (.getfield 26, 3) := by decide +kernel
theorem dX5_addMonth_64 : decode cX5_addMonth 64 = .ok (.getfield 74, 3) := by decide +kernel
theorem dX5_addMonth_67 : decode cX5_addMonth 67 = .ok (.iload_n 2, 1) := by decide +kernel
