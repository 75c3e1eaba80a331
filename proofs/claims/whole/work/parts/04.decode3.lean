theorem dX9_rule_18 : decode cX9_rule 18 = .ok (.iconst 4, 1) := by decide +kernel
theorem dX9_rule_19 : decode cX9_rule 19 = .ok (.if_icmp .ne 9, 3) := by decide +kernel
theorem dX9_rule_22 : decode cX9_rule 22 = .ok (.sipush 200, 3) := by decide +kernel
theorem dX9_rule_25 : decode cX9_rule 25 = .ok (.goto 4, 3) := by decide +kernel
theorem dX9_rule_28 : decode cX9_rule 28 = .ok (.iconst 0, 1) := by decide +kernel
theorem dX9_rule_29 : decode cX9_rule 29 = .ok (.istore_n 3, 1) := by decide +kernel
theorem dX9_rule_30 : decode cX9_rule 30 = .ok (.iload_n 2, 1) := by decide +kernel
theorem dX9_rule_31 : decode cX9_rule 31 = .ok (.ifCond .lt 8, 3) := by decide +kernel
theorem dX9_rule_34 : decode cX9_rule 34 = .ok (.iload_n 2, 1) := by decide +kernel
theorem dX9_rule_35 : decode cX9_rule 35 = .ok (.iload_n 3, 1) := by decide +kernel
theorem dX9_rule_36 : decode cX9_rule 36 = .ok (.if_icmp .le 6, 3) := by decide +kernel
theorem dX9_rule_39 : decode cX9_rule 39 = .ok (.bipush (-102), 2) := by decide +kernel
theorem dX9_rule_41 : decode cX9_rule 41 = .ok (.ireturn, 1) := by decide +kernel
theorem dX9_rule_42 : decode cX9_rule 42 = .ok (.aload_n 0, 1) := by decide +kernel
theorem dX9_rule_43 : decode cX9_rule 43 = .ok (.getfield 140, 3) := by decide +kernel
theorem dX9_rule_46 : decode cX9_rule 46 = .ok (.bipush 8, 2) := by decide +kernel
theorem dX9_rule_48 : decode cX9_rule 48 = .ok (.if_icmp .lt 6, 3) := by decide +kernel
theorem dX9_rule_51 : decode cX9_rule 51 = .ok (.bipush (-104), 2) := by decide +kernel
theorem dX9_rule_53 : decode cX9_rule 53 = .ok (.ireturn, 1) := by decide +kernel
theorem dX9_rule_54 : decode cX9_rule 54 = .ok (.aload_n 0, 1) := by decide +kernel
theorem dX9_rule_55 : decode cX9_rule 55 = .ok (.getfield 32, 3) := by decide +kernel
theorem dX9_rule_58 : decode cX9_rule 58 = .ok (.aload_n 0, 1) := by decide +kernel
theorem dX9_rule_59 : decode cX9_rule 59 = .ok (.getfield 140, 3) := by decide +kernel
theorem dX9_rule_62 : decode cX9_rule 62 = .ok (.aaload, 1) := by decide +kernel
theorem dX9_rule_63 : decode cX9_rule 63 = .ok (.iload_n 1, 1) := by decide +kernel
theorem dX9_rule_64 : decode cX9_rule 64 = .ok (.putfield 143, 3) := by decide +kernel
theorem dX9_rule_67 : decode cX9_rule 67 = .ok (.aload_n 0, 1) := by decide +kernel
theorem dX9_rule_68 : decode cX9_rule 68 = .ok (.getfield 32, 3) := by decide +kernel
theorem dX9_rule_71 : decode cX9_rule 71 = .ok (.aload_n 0, 1) := by decide +kernel
theorem dX9_rule_72 : decode cX9_rule 72 = .ok (.getfield 140, 3) := by decide +kernel
theorem dX9_rule_75 : decode cX9_rule 75 = .ok (.aaload, 1) := by decide +kernel
theorem dX9_rule_76 : decode cX9_rule 76 = .ok (.iload_n 2, 1) := by decide +kernel
theorem dX9_rule_77 : decode cX9_rule 77 = .ok (.putfield 146, 3) := by decide +kernel
theorem dX9_rule_80 : decode cX9_rule 80 = .ok (.aload_n 0, 1) := by decide +kernel
theorem dX9_rule_81 : decode cX9_rule 81 = .ok (.dup, 1) := by decide +kernel
theorem dX9_rule_82 : decode cX9_rule 82 = .ok (.getfield 140, 3) := by decide +kernel
theorem dX9_rule_85 : decode cX9_rule 85 = .ok (.iconst 1, 1) := by decide +kernel
theorem dX9_rule_86 : decode cX9_rule 86 = .ok (.iadd, 1) := by decide +kernel
theorem dX9_rule_87 : decode cX9_rule 87 = .ok (.putfield 140, 3) := by decide +kernel
theorem dX9_rule_90 : decode cX9_rule 90 = .ok (.aload_n 0, 1) := by decide +kernel
theorem dX9_rule_91 : decode cX9_rule 91 = .ok (.getfield 140, 3) := by decide +kernel
theorem dX9_rule_94 : decode cX9_rule 94 = .ok (.iconst 1, 1) := by decide +kernel
theorem dX9_rule_95 : decode cX9_rule 95 = .ok (.isub, 1) := by decide +kernel
theorem dX9_rule_96 : decode cX9_rule 96 = .ok (.ireturn, 1) := by decide +kernel
theorem dX9_as_0 : decode cX9_as 0 = .ok (.aload_n 0, 1) := by decide +kernel
theorem dX9_as_1 : decode cX9_as 1 = .ok (.iload_n 1, 1) := by decide +kernel
theorem dX9_as_2 : decode cX9_as 2 = .ok (.invokevirtual 152, 3) := by decide +kernel
theorem dX9_as_5 : decode cX9_as 5 = .ok (.ifCond .eq 6, 3) := by decide +kernel
theorem dX9_as_8 : decode cX9_as 8 = .ok (.bipush (-101), 2) := by decide +kernel
theorem dX9_as_10 : decode cX9_as 10 = .ok (.ireturn, 1) := by decide +kernel
theorem dX9_as_11 : decode cX9_as 11 = .ok (.iload_n 2, 1) := by decide +kernel
theorem dX9_as_12 : decode cX9_as 12 = .ok (.ifCond .lt 8, 3) := by decide +kernel
theorem dX9_as_15 : decode cX9_as 15 = .ok (.iload_n 2, 1) := by decide +kernel
theorem dX9_as_16 : decode cX9_as 16 = .ok (.iconst 5, 1) := by decide +kernel
theorem dX9_as_17 : decode cX9_as 17 = .ok (.if_icmp .le 6, 3) := by decide +kernel
theorem dX9_as_20 : decode cX9_as 20 = .ok (.bipush (-102), 2) := by decide +kernel
theorem dX9_as_22 : decode cX9_as 22 = .ok (.ireturn, 1) := by decide +kernel
theorem dX9_as_23 : decode cX9_as 23 = .ok (.aload_n 0, 1) := by decide +kernel
theorem dX9_as_24 : decode cX9_as 24 = .ok (.getfield 32, 3) := by decide +kernel
theorem dX9_as_27 : decode cX9_as 27 = .ok (.iload_n 1, 1) := by decide +kernel
theorem dX9_as_28 : decode cX9_as 28 = .ok (.aaload, 1) := by decide +kernel
theorem dX9_as_29 : decode cX9_as 29 = .ok (.iload_n 2, 1) := by decide +kernel
theorem dX9_as_30 : decode cX9_as 30 = .ok (.invokevirtual 155, 3) := by decide +kernel
theorem dX9_as_33 : decode cX9_as 33 = .ok (.ifCond .eq 7, 3) := by decide +kernel
theorem dX9_as_36 : decode cX9_as 36 = .ok (.iload_n 1, 1) := by decide +kernel
theorem dX9_as_37 : decode cX9_as 37 = .ok (.goto 4, 3) := by decide +kernel
theorem dX9_as_40 : decode cX9_as 40 = .ok (.iconst (-1), 1) := by decide +kernel
theorem dX9_as_41 : decode cX9_as 41 = .ok (.ireturn, 1) := by decide +kernel
theorem dX9_houseTold_0 : decode cX9_houseTold 0 = .ok (.aload_n 0, 1) := by decide +kernel
theorem dX9_houseTold_1 : decode cX9_houseTold 1 = .ok (.getfield 115, 3) := by decide +kernel
theorem dX9_houseTold_4 : decode cX9_houseTold 4 = .ok (.ifCond .ne 6, 3) := by decide +kernel
theorem dX9_houseTold_7 : decode cX9_houseTold 7 = .ok (.bipush (-103), 2) := by decide +kernel
theorem dX9_houseTold_9 : decode cX9_houseTold 9 = .ok (.ireturn, 1) := by decide +kernel
theorem dX9_houseTold_10 : decode cX9_houseTold 10 = .ok (.iload_n 1, 1) := by decide +kernel
theorem dX9_houseTold_11 : decode cX9_houseTold 11 = .ok (.ifCond .lt 19, 3) := by decide +kernel
theorem dX9_houseTold_14 : decode cX9_houseTold 14 = .ok (.iload_n 1, 1) := by decide +kernel
theorem dX9_houseTold_15 : decode cX9_houseTold 15 = .ok (.bipush 7, 2) := by decide +kernel
theorem dX9_houseTold_17 : decode cX9_houseTold 17 = .ok (.if_icmp .ge 13, 3) := by decide +kernel
theorem dX9_houseTold_20 : decode cX9_houseTold 20 = .ok (.aload_n 0, 1) := by decide +kernel
theorem dX9_houseTold_21 : decode cX9_houseTold 21 = .ok (.getfield 19, 3) := by decide +kernel
theorem dX9_houseTold_24 : decode cX9_houseTold 24 = .ok (.getfield 158, 3) := by decide +kernel
theorem dX9_houseTold_27 : decode cX9_houseTold 27 = .ok (.iload_n 1, 1) := by decide +kernel
theorem dX9_houseTold_28 : decode cX9_houseTold 28 = .ok (.iaload, 1) := by decide +kernel
theorem dX9_houseTold_29 : decode cX9_houseTold 29 = .ok (.ireturn, 1) := by decide +kernel
theorem dX9_houseTold_30 : decode cX9_houseTold 30 = .ok (.iload_n 1, 1) := by decide +kernel
theorem dX9_houseTold_31 : decode cX9_houseTold 31 = .ok (.bipush 7, 2) := by decide +kernel
theorem dX9_houseTold_33 : decode cX9_houseTold 33 = .ok (.if_icmp .ne 11, 3) := by decide +kernel
theorem dX9_houseTold_36 : decode cX9_houseTold 36 = .ok (.aload_n 0, 1) := by decide +kernel
theorem dX9_houseTold_37 : decode cX9_houseTold 37 = .ok (.getfield 19, 3) := by decide +kernel
theorem dX9_houseTold_40 : decode cX9_houseTold 40 = .ok (.getfield 121, 3) := by decide +kernel
theorem dX9_houseTold_43 : decode cX9_houseTold 43 = .ok (.ireturn, 1) := by decide +kernel
theorem dX9_houseTold_44 : decode cX9_houseTold 44 = .ok (.iload_n 1, 1) := by decide +kernel
theorem dX9_houseTold_45 : decode cX9_houseTold 45 = .ok (.bipush 10, 2) := by decide +kernel
theorem dX9_houseTold_47 : decode cX9_houseTold 47 = .ok (.if_icmp .lt 17, 3) := by decide +kernel
theorem dX9_houseTold_50 : decode cX9_houseTold 50 = .ok (.iload_n 1, 1) := by decide +kernel
theorem dX9_houseTold_51 : decode cX9_houseTold 51 = .ok (.bipush 32, 2) := by decide +kernel
theorem dX9_houseTold_53 : decode cX9_houseTold 53 = .ok (.if_icmp .gt 11, 3) := by decide +kernel
theorem dX9_houseTold_56 : decode cX9_houseTold 56 = .ok (.iload_n 1, 1) := by decide +kernel
theorem dX9_houseTold_57 : decode cX9_houseTold 57 = .ok (.bipush 10, 2) := by decide +kernel
theorem dX9_houseTold_59 : decode cX9_houseTold 59 = .ok (.irem, 1) := by decide +kernel
theorem dX9_houseTold_60 : decode cX9_houseTold 60 = .ok (.iconst 2, 1) := by decide +kernel
theorem dX9_houseTold_61 : decode cX9_houseTold 61 = .ok (.if_icmp .le 6, 3) := by decide +kernel
theorem dX9_houseTold_64 : decode cX9_houseTold 64 = .ok (.bipush (-102), 2) := by decide +kernel
theorem dX9_houseTold_66 : decode cX9_houseTold 66 = .ok (.ireturn, 1) := by decide +kernel
theorem dX9_houseTold_67 : decode cX9_houseTold 67 = .ok (.aload_n 0, 1) := by decide +kernel
theorem dX9_houseTold_68 : decode cX9_houseTold 68 = .ok (.getfield 19, 3) := by decide +kernel
theorem dX9_houseTold_71 : decode cX9_houseTold 71 = .ok (.iload_n 1, 1) := by decide +kernel
theorem dX9_houseTold_72 : decode cX9_houseTold 72 = .ok (.bipush 10, 2) := by decide +kernel
theorem dX9_houseTold_74 : decode cX9_houseTold 74 = .ok (.idiv, 1) := by decide +kernel
theorem dX9_houseTold_75 : decode cX9_houseTold 75 = .ok (.iconst 1, 1) := by decide +kernel
theorem dX9_houseTold_76 : decode cX9_houseTold 76 = .ok (.isub, 1) := by decide +kernel
theorem dX9_houseTold_77 : decode cX9_houseTold 77 = .ok (.iload_n 1, 1) := by decide +kernel
theorem dX9_houseTold_78 : decode cX9_houseTold 78 = .ok (.bipush 10, 2) := by decide +kernel
theorem dX9_houseTold_80 : decode cX9_houseTold 80 = .ok (.irem, 1) := by decide +kernel
theorem dX9_houseTold_81 : decode cX9_houseTold 81 = .ok (.invokevirtual 161, 3) := by decide +kernel
theorem dX9_houseTold_84 : decode cX9_houseTold 84 = .ok (.ireturn, 1) := by decide +kernel
theorem dX9_change_0 : decode cX9_change 0 = .ok (.aload_n 0, 1) := by decide +kernel
theorem dX9_change_1 : decode cX9_change 1 = .ok (.getfield 115, 3) := by decide +kernel
theorem dX9_change_4 : decode cX9_change 4 = .ok (.ifCond .ne 6, 3) := by decide +kernel
theorem dX9_change_7 : decode cX9_change 7 = .ok (.bipush (-103), 2) := by decide +kernel
theorem dX9_change_9 : decode cX9_change 9 = .ok (.ireturn, 1) := by decide +kernel
theorem dX9_change_10 : decode cX9_change 10 = .ok (.iload_n 1, 1) := by decide +kernel
theorem dX9_change_11 : decode cX9_change 11 = .ok (.ifCond .lt 27, 3) := by decide +kernel
theorem dX9_change_14 : decode cX9_change 14 = .ok (.iload_n 1, 1) := by decide +kernel
theorem dX9_change_15 : decode cX9_change 15 = .ok (.bipush 7, 2) := by decide +kernel
theorem dX9_change_17 : decode cX9_change 17 = .ok (.if_icmp .ge 21, 3) := by decide +kernel
theorem dX9_change_20 : decode cX9_change 20 = .ok (.iload_n 2, 1) := by decide +kernel
theorem dX9_change_21 : decode cX9_change 21 = .ok (.getstatic 165, 3) := by decide +kernel
theorem dX9_change_24 : decode cX9_change 24 = .ok (.iload_n 1, 1) := by decide +kernel
theorem dX9_change_25 : decode cX9_change 25 = .ok (.iaload, 1) := by decide +kernel
theorem dX9_change_26 : decode cX9_change 26 = .ok (.if_icmp .lt 12, 3) := by decide +kernel
theorem dX9_change_29 : decode cX9_change 29 = .ok (.iload_n 2, 1) := by decide +kernel
theorem dX9_change_30 : decode cX9_change 30 = .ok (.getstatic 168, 3) := by decide +kernel
theorem dX9_change_33 : decode cX9_change 33 = .ok (.iload_n 1, 1) := by decide +kernel
theorem dX9_change_34 : decode cX9_change 34 = .ok (.iaload, 1) := by decide +kernel
theorem dX9_change_35 : decode cX9_change 35 = .ok (.if_icmp .le 6, 3) := by decide +kernel
theorem dX9_change_38 : decode cX9_change 38 = .ok (.bipush (-102), 2) := by decide +kernel
theorem dX9_change_40 : decode cX9_change 40 = .ok (.ireturn, 1) := by decide +kernel
theorem dX9_change_41 : decode cX9_change 41 = .ok (.aload_n 0, 1) := by decide +kernel
theorem dX9_change_42 : decode cX9_change 42 = .ok (.getfield 19, 3) := by decide +kernel
theorem dX9_change_45 : decode cX9_change 45 = .ok (.getfield 158, 3) := by decide +kernel
theorem dX9_change_48 : decode cX9_change 48 = .ok (.iload_n 1, 1) := by decide +kernel
theorem dX9_change_49 : decode cX9_change 49 = .ok (.iaload, 1) := by decide +kernel
theorem dX9_change_50 : decode cX9_change 50 = .ok (.istore_n 3, 1) := by decide +kernel
theorem dX9_change_51 : decode cX9_change 51 = .ok (.aload_n 0, 1) := by decide +kernel
theorem dX9_change_52 : decode cX9_change 52 = .ok (.getfield 19, 3) := by decide +kernel
theorem dX9_change_55 : decode cX9_change 55 = .ok (.getfield 158, 3) := by decide +kernel
theorem dX9_change_58 : decode cX9_change 58 = .ok (.iload_n 1, 1) := by decide +kernel
theorem dX9_change_59 : decode cX9_change 59 = .ok (.iload_n 2, 1) := by decide +kernel
theorem dX9_change_60 : decode cX9_change 60 = .ok (.iastore, 1) := by decide +kernel
theorem dX9_change_61 : decode cX9_change 61 = .ok (.aload_n 0, 1) := by decide +kernel
theorem dX9_change_62 : decode cX9_change 62 = .ok (.getfield 19, 3) := by decide +kernel
theorem dX9_change_65 : decode cX9_change 65 = .ok (.invokevirtual 171, 3) := by decide +kernel
theorem dX9_change_68 : decode cX9_change 68 = .ok (.aload_n 0, 1) := by decide +kernel
theorem dX9_change_69 : decode cX9_change 69 = .ok (.dup, 1) := by decide +kernel
theorem dX9_change_70 : decode cX9_change 70 = .ok (.getfield 118, 3) := by decide +kernel
theorem dX9_change_73 : decode cX9_change 73 = .ok (.iconst 1, 1) := by decide +kernel
theorem dX9_change_74 : decode cX9_change 74 = .ok (.iadd, 1) := by decide +kernel
theorem dX9_change_75 : decode cX9_change 75 = .ok (.putfield 118, 3) := by decide +kernel
theorem dX9_change_78 : decode cX9_change 78 = .ok (.iload_n 3, 1) := by decide +kernel
theorem dX9_change_79 : decode cX9_change 79 = .ok (.ireturn, 1) := by decide +kernel
theorem dX9_rain_0 : decode cX9_rain 0 = .ok (.aload_n 0, 1) := by decide +kernel
theorem dX9_rain_1 : decode cX9_rain 1 = .ok (.iload_n 1, 1) := by decide +kernel
theorem dX9_rain_2 : decode cX9_rain 2 = .ok (.invokevirtual 174, 3) := by decide +kernel
theorem dX9_rain_5 : decode cX9_rain 5 = .ok (.ifCond .ne 10, 3) := by decide +kernel
theorem dX9_rain_8 : decode cX9_rain 8 = .ok (.iload_n 2, 1) := by decide +kernel
theorem dX9_rain_9 : decode cX9_rain 9 = .ok (.invokestatic 177, 3) := by decide +kernel
theorem dX9_rain_12 : decode cX9_rain 12 = .ok (.ifCond .eq 6, 3) := by decide +kernel
theorem dX9_rain_15 : decode cX9_rain 15 = .ok (.bipush (-101), 2) := by decide +kernel
theorem dX9_rain_17 : decode cX9_rain 17 = .ok (.ireturn, 1) := by decide +kernel
theorem dX9_rain_18 : decode cX9_rain 18 = .ok (.aload_n 0, 1) := by decide +kernel
theorem dX9_rain_19 : decode cX9_rain 19 = .ok (.getfield 26, 3) := by decide +kernel
theorem dX9_rain_22 : decode cX9_rain 22 = .ok (.getfield 130, 3) := by decide +kernel
theorem dX9_rain_25 : decode cX9_rain 25 = .ok (.iload_n 1, 1) := by decide +kernel
theorem dX9_rain_26 : decode cX9_rain 26 = .ok (.aaload, 1) := by decide +kernel
theorem dX9_rain_27 : decode cX9_rain 27 = .ok (.iload_n 2, 1) := by decide +kernel
theorem dX9_rain_28 : decode cX9_rain 28 = .ok (.iaload, 1) := by decide +kernel
theorem dX9_rain_29 : decode cX9_rain 29 = .ok (.ireturn, 1) := by decide +kernel
theorem dX9_run_0 : decode cX9_run 0 = .ok (.aload_n 0, 1) := by decide +kernel
theorem dX9_run_1 : decode cX9_run 1 = .ok (.iload_n 1, 1) := by decide +kernel
theorem dX9_run_2 : decode cX9_run 2 = .ok (.invokevirtual 152, 3) := by decide +kernel
theorem dX9_run_5 : decode cX9_run 5 = .ok (.ifCond .eq 6, 3) := by decide +kernel
theorem dX9_run_8 : decode cX9_run 8 = .ok (.bipush (-101), 2) := by decide +kernel
theorem dX9_run_10 : decode cX9_run 10 = .ok (.ireturn, 1) := by decide +kernel
theorem dX9_run_11 : decode cX9_run 11 = .ok (.aload_n 0, 1) := by decide +kernel
theorem dX9_run_12 : decode cX9_run 12 = .ok (.invokevirtual 180, 3) := by decide +kernel
theorem dX9_run_15 : decode cX9_run 15 = .ok (.ifCond .eq 6, 3) := by decide +kernel
theorem dX9_run_18 : decode cX9_run 18 = .ok (.bipush (-103), 2) := by decide +kernel
theorem dX9_run_20 : decode cX9_run 20 = .ok (.ireturn, 1) := by decide +kernel
theorem dX9_run_21 : decode cX9_run 21 = .ok (.iload_n 2, 1) := by decide +kernel
theorem dX9_run_22 : decode cX9_run 22 = .ok (.ifCond .lt 21, 3) := by decide +kernel
theorem dX9_run_25 : decode cX9_run 25 = .ok (.iload_n 2, 1) := by decide +kernel
theorem dX9_run_26 : decode cX9_run 26 = .ok (.bipush 12, 2) := by decide +kernel
theorem dX9_run_28 : decode cX9_run 28 = .ok (.if_icmp .gt 15, 3) := by decide +kernel
theorem dX9_run_31 : decode cX9_run 31 = .ok (.iload_n 2, 1) := by decide +kernel
theorem dX9_run_32 : decode cX9_run 32 = .ok (.bipush 6, 2) := by decide +kernel
theorem dX9_run_34 : decode cX9_run 34 = .ok (.if_icmp .le 12, 3) := by decide +kernel
theorem dX9_run_37 : decode cX9_run 37 = .ok (.iload_n 2, 1) := by decide +kernel
theorem dX9_run_38 : decode cX9_run 38 = .ok (.bipush 10, 2) := by decide +kernel
theorem dX9_run_40 : decode cX9_run 40 = .ok (.if_icmp .ge 6, 3) := by decide +kernel
theorem dX9_run_43 : decode cX9_run 43 = .ok (.bipush (-102), 2) := by decide +kernel
theorem dX9_run_45 : decode cX9_run 45 = .ok (.ireturn, 1) := by decide +kernel
theorem dX9_run_46 : decode cX9_run 46 = .ok (.iload_n 2, 1) := by decide +kernel
theorem dX9_run_47 : decode cX9_run 47 = .ok (.bipush 10, 2) := by decide +kernel
theorem dX9_run_49 : decode cX9_run 49 = .ok (.aload_n 0, 1) := by decide +kernel
theorem dX9_run_50 : decode cX9_run 50 = .ok (.getfield 19, 3) := by decide +kernel
theorem dX9_run_53 : decode cX9_run 53 = .ok (.getfield 121, 3) := by decide +kernel
theorem dX9_run_56 : decode cX9_run 56 = .ok (.iadd, 1) := by decide +kernel
theorem dX9_run_57 : decode cX9_run 57 = .ok (.if_icmp .lt 5, 3) := by decide +kernel
theorem dX9_run_60 : decode cX9_run 60 = .ok (.iconst (-1), 1) := by decide +kernel
theorem dX9_run_61 : decode cX9_run 61 = .ok (.ireturn, 1) := by decide +kernel
theorem dX9_run_62 : decode cX9_run 62 = .ok (.aload_n 0, 1) := by decide +kernel
theorem dX9_run_63 : decode cX9_run 63 = .ok (.aload_n 0, 1) := by decide +kernel
theorem dX9_run_64 : decode cX9_run 64 = .ok (.getfield 32, 3) := by decide +kernel
theorem dX9_run_67 : decode cX9_run 67 = .ok (.iload_n 1, 1) := by decide +kernel
theorem dX9_run_68 : decode cX9_run 68 = .ok (.aaload, 1) := by decide +kernel
theorem dX9_run_69 : decode cX9_run 69 = .ok (.invokevirtual 184, 3) := by decide +kernel
theorem dX9_run_72 : decode cX9_run 72 = .ok (.iload_n 2, 1) := by decide +kernel
theorem dX9_run_73 : decode cX9_run 73 = .ok (.bipush 10, 2) := by decide +kernel
theorem dX9_run_75 : decode cX9_run 75 = .ok (.if_icmp .ge 15, 3) := by decide +kernel
theorem dX9_run_78 : decode cX9_run 78 = .ok (.aload_n 0, 1) := by decide +kernel
theorem dX9_run_79 : decode cX9_run 79 = .ok (.getfield 81, 3) := by decide +kernel
theorem dX9_run_82 : decode cX9_run 82 = .ok (.getfield 188, 3) := by decide +kernel
theorem dX9_run_85 : decode cX9_run 85 = .ok (.iload_n 2, 1) := by decide +kernel
theorem dX9_run_86 : decode cX9_run 86 = .ok (.iaload, 1) := by decide +kernel
theorem dX9_run_87 : decode cX9_run 87 = .ok (.goto 15, 3) := by decide +kernel
theorem dX9_run_90 : decode cX9_run 90 = .ok (.aload_n 0, 1) := by decide +kernel
theorem dX9_run_91 : decode cX9_run 91 = .ok (.getfield 81, 3) := by decide +kernel
theorem dX9_run_94 : decode cX9_run 94 = .ok (.getfield 191, 3) := by decide +kernel
theorem dX9_run_97 : decode cX9_run 97 = .ok (.iload_n 2, 1) := by decide +kernel
theorem dX9_run_98 : decode cX9_run 98 = .ok (.bipush 10, 2) := by decide +kernel
theorem dX9_run_100 : decode cX9_run 100 = .ok (.isub, 1) := by decide +kernel
theorem dX9_run_101 : decode cX9_run 101 = .ok (.iaload, 1) := by decide +kernel
theorem dX9_run_102 : decode cX9_run 102 = .ok (.ireturn, 1) := by decide +kernel
theorem dX9_month_0 : decode cX9_month 0 = .ok (.aload_n 0, 1) := by decide +kernel
theorem dX9_month_1 : decode cX9_month 1 = .ok (.iload_n 1, 1) := by decide +kernel
theorem dX9_month_2 : decode cX9_month 2 = .ok (.invokevirtual 152, 3) := by decide +kernel
theorem dX9_month_5 : decode cX9_month 5 = .ok (.ifCond .ne 18, 3) := by decide +kernel
theorem dX9_month_8 : decode cX9_month 8 = .ok (.aload_n 0, 1) := by decide +kernel
theorem dX9_month_9 : decode cX9_month 9 = .ok (.iload_n 2, 1) := by decide +kernel
theorem dX9_month_10 : decode cX9_month 10 = .ok (.invokevirtual 174, 3) := by decide +kernel
theorem dX9_month_13 : decode cX9_month 13 = .ok (.ifCond .ne 10, 3) := by decide +kernel
theorem dX9_month_16 : decode cX9_month 16 = .ok (.iload_n 3, 1) := by decide +kernel
theorem dX9_month_17 : decode cX9_month 17 = .ok (.invokestatic 177, 3) := by decide +kernel
theorem dX9_month_20 : decode cX9_month 20 = .ok (.ifCond .eq 6, 3) := by decide +kernel
theorem dX9_month_23 : decode cX9_month 23 = .ok (.bipush (-101), 2) := by decide +kernel
theorem dX9_month_25 : decode cX9_month 25 = .ok (.ireturn, 1) := by decide +kernel
theorem dX9_month_26 : decode cX9_month 26 = .ok (.aload_n 0, 1) := by decide +kernel
theorem dX9_month_27 : decode cX9_month 27 = .ok (.invokevirtual 180, 3) := by decide +kernel
theorem dX9_month_30 : decode cX9_month 30 = .ok (.ifCond .eq 6, 3) := by decide +kernel
theorem dX9_month_33 : decode cX9_month 33 = .ok (.bipush (-103), 2) := by decide +kernel
theorem dX9_month_35 : decode cX9_month 35 = .ok (.ireturn, 1) := by decide +kernel
theorem dX9_month_36 : decode cX9_month 36 = .ok (.iload 4, 2) := by decide +kernel
theorem dX9_month_38 : decode cX9_month 38 = .ok (.ifCond .lt 10, 3) := by decide +kernel
theorem dX9_month_41 : decode cX9_month 41 = .ok (.iload 4, 2) := by decide +kernel
theorem dX9_month_43 : decode cX9_month 43 = .ok (.bipush 6, 2) := by decide +kernel
theorem dX9_month_45 : decode cX9_month 45 = .ok (.if_icmp .le 6, 3) := by decide +kernel
theorem dX9_month_48 : decode cX9_month 48 = .ok (.bipush (-102), 2) := by decide +kernel
theorem dX9_month_50 : decode cX9_month 50 = .ok (.ireturn, 1) := by decide +kernel
theorem dX9_month_51 : decode cX9_month 51 = .ok (.aload_n 0, 1) := by decide +kernel
theorem dX9_month_52 : decode cX9_month 52 = .ok (.aload_n 0, 1) := by decide +kernel
theorem dX9_month_53 : decode cX9_month 53 = .ok (.getfield 32, 3) := by decide +kernel
theorem dX9_month_56 : decode cX9_month 56 = .ok (.iload_n 1, 1) := by decide +kernel
theorem dX9_month_57 : decode cX9_month 57 = .ok (.aaload, 1) := by decide +kernel
theorem dX9_month_58 : decode cX9_month 58 = .ok (.invokevirtual 194, 3) := by decide +kernel
theorem dX9_month_61 : decode cX9_month 61 = .ok (.aload_n 0, 1) := by decide +kernel
theorem dX9_month_62 : decode cX9_month 62 = .ok (.getfield 81, 3) := by decide +kernel
theorem dX9_month_65 : decode cX9_month 65 = .ok (.aload_n 0, 1) := by decide +kernel
theorem dX9_month_66 : decode cX9_month 66 = .ok (.getfield 32, 3) := by decide +kernel
theorem dX9_month_69 : decode cX9_month 69 = .ok (.iload_n 1, 1) := by decide +kernel
theorem dX9_month_70 : decode cX9_month 70 = .ok (.aaload, 1) := by decide +kernel
theorem dX9_month_71 : decode cX9_month 71 = .ok (.iload_n 2, 1) := by decide +kernel
theorem dX9_month_72 : decode cX9_month 72 = .ok (.iload_n 3, 1) := by decide +kernel
theorem dX9_month_73 : decode cX9_month 73 = .ok (.invokevirtual 197, 3) := by decide +kernel
theorem dX9_month_76 : decode cX9_month 76 = .ok (.aload_n 0, 1) := by decide +kernel
theorem dX9_month_77 : decode cX9_month 77 = .ok (.getfield 72, 3) := by decide +kernel
theorem dX9_month_80 : decode cX9_month 80 = .ok (.iload 4, 2) := by decide +kernel
theorem dX9_month_82 : decode cX9_month 82 = .ok (.invokevirtual 201, 3) := by decide +kernel
theorem dX9_month_85 : decode cX9_month 85 = .ok (.ireturn, 1) := by decide +kernel
theorem dX9_never_0 : decode cX9_never 0 = .ok (.aload_n 0, 1) := by decide +kernel
theorem dX9_never_1 : decode cX9_never 1 = .ok (.invokevirtual 180, 3) := by decide +kernel
theorem dX9_never_4 : decode cX9_never 4 = .ok (.ifCond .eq 6, 3) := by decide +kernel
theorem dX9_never_7 : decode cX9_never 7 = .ok (.bipush (-103), 2) := by decide +kernel
theorem dX9_never_9 : decode cX9_never 9 = .ok (.ireturn, 1) := by decide +kernel
theorem dX9_never_10 : decode cX9_never 10 = .ok (.iload_n 1, 1) := by decide +kernel
theorem dX9_never_11 : decode cX9_never 11 = .ok (.ifCond .lt 8, 3) := by decide +kernel
theorem dX9_never_14 : decode cX9_never 14 = .ok (.iload_n 1, 1) := by decide +kernel
theorem dX9_never_15 : decode cX9_never 15 = .ok (.iconst 2, 1) := by decide +kernel
theorem dX9_never_16 : decode cX9_never 16 = .ok (.if_icmp .le 6, 3) := by decide +kernel
theorem dX9_never_19 : decode cX9_never 19 = .ok (.bipush (-102), 2) := by decide +kernel
theorem dX9_never_21 : decode cX9_never 21 = .ok (.ireturn, 1) := by decide +kernel
theorem dX9_never_22 : decode cX9_never 22 = .ok (.aload_n 0, 1) := by decide +kernel
theorem dX9_never_23 : decode cX9_never 23 = .ok (.getfield 81, 3) := by decide +kernel
theorem dX9_never_26 : decode cX9_never 26 = .ok (.aload_n 0, 1) := by decide +kernel
theorem dX9_never_27 : decode cX9_never 27 = .ok (.getfield 48, 3) := by decide +kernel
theorem dX9_never_30 : decode cX9_never 30 = .ok (.iconst 0, 1) := by decide +kernel
theorem dX9_never_31 : decode cX9_never 31 = .ok (.invokevirtual 205, 3) := by decide +kernel
theorem dX9_never_34 : decode cX9_never 34 = .ok (.istore_n 2, 1) := by decide +kernel
theorem dX9_never_35 : decode cX9_never 35 = .ok (.iload_n 1, 1) := by decide +kernel
theorem dX9_never_36 : decode cX9_never 36 = .ok (.ifCond .eq 8, 3) := by decide +kernel
theorem dX9_never_39 : decode cX9_never 39 = .ok (.iload_n 2, 1) := by decide +kernel
theorem dX9_never_40 : decode cX9_never 40 = .ok (.iconst (-1), 1) := by decide +kernel
theorem dX9_never_41 : decode cX9_never 41 = .ok (.if_icmp .ne 5, 3) := by decide +kernel
theorem dX9_never_44 : decode cX9_never 44 = .ok (.iload_n 2, 1) := by decide +kernel
theorem dX9_never_45 : decode cX9_never 45 = .ok (.ireturn, 1) := by decide +kernel
theorem dX9_never_46 : decode cX9_never 46 = .ok (.iload_n 2, 1) := by decide +kernel
theorem dX9_never_47 : decode cX9_never 47 = .ok (.ifCond .ne 5, 3) := by decide +kernel
theorem dX9_never_50 : decode cX9_never 50 = .ok (.iconst (-1), 1) := by decide +kernel
theorem dX9_never_51 : decode cX9_never 51 = .ok (.ireturn, 1) := by decide +kernel
theorem dX9_never_52 : decode cX9_never 52 = .ok (.aload_n 0, 1) := by decide +kernel
theorem dX9_never_53 : decode cX9_never 53 = .ok (.getfield 81, 3) := by decide +kernel
theorem dX9_never_56 : decode cX9_never 56 = .ok (.aload_n 0, 1) := by decide +kernel
theorem dX9_never_57 : decode cX9_never 57 = .ok (.getfield 48, 3) := by decide +kernel
theorem dX9_never_60 : decode cX9_never 60 = .ok (.aload_n 0, 1) := by decide +kernel
theorem dX9_never_61 : decode cX9_never 61 = .ok (.getfield 19, 3) := by decide +kernel
theorem dX9_never_64 : decode cX9_never 64 = .ok (.getfield 158, 3) := by decide +kernel
theorem dX9_never_67 : decode cX9_never 67 = .ok (.iconst 0, 1) := by decide +kernel
theorem dX9_never_68 : decode cX9_never 68 = .ok (.iaload, 1) := by decide +kernel
theorem dX9_never_69 : decode cX9_never 69 = .ok (.iload_n 2, 1) := by decide +kernel
theorem dX9_never_70 : decode cX9_never 70 = .ok (.iconst 1, 1) := by decide +kernel
theorem dX9_never_71 : decode cX9_never 71 = .ok (.isub, 1) := by decide +kernel
theorem dX9_never_72 : decode cX9_never 72 = .ok (.invokevirtual 209, 3) := by decide +kernel
theorem dX9_never_75 : decode cX9_never 75 = .ok (.iload_n 1, 1) := by decide +kernel
theorem dX9_never_76 : decode cX9_never 76 = .ok (.iconst 1, 1) := by decide +kernel
theorem dX9_never_77 : decode cX9_never 77 = .ok (.if_icmp .ne 16, 3) := by decide +kernel
theorem dX9_never_80 : decode cX9_never 80 = .ok (.aload_n 0, 1) := by decide +kernel
theorem dX9_never_81 : decode cX9_never 81 = .ok (.getfield 81, 3) := by decide +kernel
theorem dX9_never_84 : decode cX9_never 84 = .ok (.getfield 212, 3) := by decide +kernel
theorem dX9_never_87 : decode cX9_never 87 = .ok (.bipush 12, 2) := by decide +kernel
theorem dX9_never_89 : decode cX9_never 89 = .ok (.idiv, 1) := by decide +kernel
theorem dX9_never_90 : decode cX9_never 90 = .ok (.goto 13, 3) := by decide +kernel
theorem dX9_never_93 : decode cX9_never 93 = .ok (.aload_n 0, 1) := by decide +kernel
theorem dX9_never_94 : decode cX9_never 94 = .ok (.getfield 81, 3) := by decide +kernel
theorem dX9_never_97 : decode cX9_never 97 = .ok (.getfield 212, 3) := by decide +kernel
theorem dX9_never_100 : decode cX9_never 100 = .ok (.bipush 12, 2) := by decide +kernel
theorem dX9_never_102 : decode cX9_never 102 = .ok (.irem, 1) := by decide +kernel
theorem dX9_never_103 : decode cX9_never 103 = .ok (.ireturn, 1) := by decide +kernel
theorem dX9_let_0 : decode cX9_let 0 = .ok (.aload_n 0, 1) := by decide +kernel
theorem dX9_let_1 : decode cX9_let 1 = .ok (.invokevirtual 180, 3) := by decide +kernel
theorem dX9_let_4 : decode cX9_let 4 = .ok (.ifCond .eq 6, 3) := by decide +kernel
theorem dX9_let_7 : decode cX9_let 7 = .ok (.bipush (-103), 2) := by decide +kernel
theorem dX9_let_9 : decode cX9_let 9 = .ok (.ireturn, 1) := by decide +kernel
theorem dX9_let_10 : decode cX9_let 10 = .ok (.iload_n 1, 1) := by decide +kernel
theorem dX9_let_11 : decode cX9_let 11 = .ok (.ifCond .lt 9, 3) := by decide +kernel
theorem dX9_let_14 : decode cX9_let 14 = .ok (.iload_n 1, 1) := by decide +kernel
theorem dX9_let_15 : decode cX9_let 15 = .ok (.bipush 96, 2) := by decide +kernel
theorem dX9_let_17 : decode cX9_let 17 = .ok (.if_icmp .le 6, 3) := by decide +kernel
theorem dX9_let_20 : decode cX9_let 20 = .ok (.bipush (-102), 2) := by decide +kernel
theorem dX9_let_22 : decode cX9_let 22 = .ok (.ireturn, 1) := by decide +kernel
theorem dX9_let_23 : decode cX9_let 23 = .ok (.aload_n 0, 1) := by decide +kernel
theorem dX9_let_24 : decode cX9_let 24 = .ok (.getfield 81, 3) := by decide +kernel
theorem dX9_let_27 : decode cX9_let 27 = .ok (.aload_n 0, 1) := by decide +kernel
theorem dX9_let_28 : decode cX9_let 28 = .ok (.getfield 48, 3) := by decide +kernel
theorem dX9_let_31 : decode cX9_let 31 = .ok (.iload_n 1, 1) := by decide +kernel
theorem dX9_let_32 : decode cX9_let 32 = .ok (.invokevirtual 205, 3) := by decide +kernel
theorem dX9_let_35 : decode cX9_let 35 = .ok (.ireturn, 1) := by decide +kernel
theorem dX9_cheapest_0 : decode cX9_cheapest 0 = .ok (.aload_n 0, 1) := by decide +kernel
theorem dX9_cheapest_1 : decode cX9_cheapest 1 = .ok (.iload_n 1, 1) := by decide +kernel
theorem dX9_cheapest_2 : decode cX9_cheapest 2 = .ok (.invokevirtual 152, 3) := by decide +kernel
theorem dX9_cheapest_5 : decode cX9_cheapest 5 = .ok (.ifCond .eq 6, 3) := by decide +kernel
theorem dX9_cheapest_8 : decode cX9_cheapest 8 = .ok (.bipush (-101), 2) := by decide +kernel
theorem dX9_cheapest_10 : decode cX9_cheapest 10 = .ok (.ireturn, 1) := by decide +kernel
theorem dX9_cheapest_11 : decode cX9_cheapest 11 = .ok (.aload_n 0, 1) := by decide +kernel
theorem dX9_cheapest_12 : decode cX9_cheapest 12 = .ok (.invokevirtual 180, 3) := by decide +kernel
theorem dX9_cheapest_15 : decode cX9_cheapest 15 = .ok (.ifCond .ne 16, 3) := by decide +kernel
theorem dX9_cheapest_18 : decode cX9_cheapest 18 = .ok (.aload_n 0, 1) := by decide +kernel
theorem dX9_cheapest_19 : decode cX9_cheapest 19 = .ok (.getfield 32, 3) := by decide +kernel
theorem dX9_cheapest_22 : decode cX9_cheapest 22 = .ok (.iload_n 1, 1) := by decide +kernel
theorem dX9_cheapest_23 : decode cX9_cheapest 23 = .ok (.aaload, 1) := by decide +kernel
theorem dX9_cheapest_24 : decode cX9_cheapest 24 = .ok (.getfield 143, 3) := by decide +kernel
theorem dX9_cheapest_27 : decode cX9_cheapest 27 = .ok (.iconst 3, 1) := by decide +kernel
theorem dX9_cheapest_28 : decode cX9_cheapest 28 = .ok (.if_icmp .ne 6, 3) := by decide +kernel
theorem dX9_cheapest_31 : decode cX9_cheapest 31 = .ok (.bipush (-103), 2) := by decide +kernel
theorem dX9_cheapest_33 : decode cX9_cheapest 33 = .ok (.ireturn, 1) := by decide +kernel
theorem dX9_cheapest_34 : decode cX9_cheapest 34 = .ok (.iload_n 2, 1) := by decide +kernel
theorem dX9_cheapest_35 : decode cX9_cheapest 35 = .ok (.invokestatic 215, 3) := by decide +kernel
theorem dX9_cheapest_38 : decode cX9_cheapest 38 = .ok (.ifCond .ne 12, 3) := by decide +kernel
theorem dX9_cheapest_41 : decode cX9_cheapest 41 = .ok (.iload_n 3, 1) := by decide +kernel
theorem dX9_cheapest_42 : decode cX9_cheapest 42 = .ok (.ifCond .lt 8, 3) := by decide +kernel
theorem dX9_cheapest_45 : decode cX9_cheapest 45 = .ok (.iload_n 3, 1) := by decide +kernel
theorem dX9_cheapest_46 : decode cX9_cheapest 46 = .ok (.iconst 1, 1) := by decide +kernel
theorem dX9_cheapest_47 : decode cX9_cheapest 47 = .ok (.if_icmp .le 6, 3) := by decide +kernel
theorem dX9_cheapest_50 : decode cX9_cheapest 50 = .ok (.bipush (-102), 2) := by decide +kernel
theorem dX9_cheapest_52 : decode cX9_cheapest 52 = .ok (.ireturn, 1) := by decide +kernel
theorem dX9_cheapest_53 : decode cX9_cheapest 53 = .ok (.aload_n 0, 1) := by decide +kernel
theorem dX9_cheapest_54 : decode cX9_cheapest 54 = .ok (.getfield 218, 3) := by decide +kernel
theorem dX9_cheapest_57 : decode cX9_cheapest 57 = .ok (.bipush 20, 2) := by decide +kernel
theorem dX9_cheapest_59 : decode cX9_cheapest 59 = .ok (.if_icmp .lt 6, 3) := by decide +kernel
theorem dX9_cheapest_62 : decode cX9_cheapest 62 = .ok (.bipush (-103), 2) := by decide +kernel
theorem dX9_cheapest_64 : decode cX9_cheapest 64 = .ok (.ireturn, 1) := by decide +kernel
theorem dX9_cheapest_65 : decode cX9_cheapest 65 = .ok (.aload_n 0, 1) := by decide +kernel
theorem dX9_cheapest_66 : decode cX9_cheapest 66 = .ok (.dup, 1) := by decide +kernel
theorem dX9_cheapest_67 : decode cX9_cheapest 67 = .ok (.getfield 218, 3) := by decide +kernel
theorem dX9_cheapest_70 : decode cX9_cheapest 70 = .ok (.iconst 1, 1) := by decide +kernel
theorem dX9_cheapest_71 : decode cX9_cheapest 71 = .ok (.iadd, 1) := by decide +kernel
theorem dX9_cheapest_72 : decode cX9_cheapest 72 = .ok (.putfield 218, 3) := by decide +kernel
theorem dX9_cheapest_75 : decode cX9_cheapest 75 = .ok (.aload_n 0, 1) := by decide +kernel
theorem dX9_cheapest_76 : decode cX9_cheapest 76 = .ok (.getfield 81, 3) := by decide +kernel
theorem dX9_cheapest_79 : decode cX9_cheapest 79 = .ok (.aload_n 0, 1) := by decide +kernel
theorem dX9_cheapest_80 : decode cX9_cheapest 80 = .ok (.getfield 32, 3) := by decide +kernel
theorem dX9_cheapest_83 : decode cX9_cheapest 83 = .ok (.iload_n 1, 1) := by decide +kernel
theorem dX9_cheapest_84 : decode cX9_cheapest 84 = .ok (.aaload, 1) := by decide +kernel
theorem dX9_cheapest_85 : decode cX9_cheapest 85 = .ok (.iload_n 2, 1) := by decide +kernel
theorem dX9_cheapest_86 : decode cX9_cheapest 86 = .ok (.iconst 0, 1) := by decide +kernel
theorem dX9_cheapest_87 : decode cX9_cheapest 87 = .ok (.iconst 0, 1) := by decide +kernel
theorem dX9_cheapest_88 : decode cX9_cheapest 88 = .ok (.invokevirtual 221, 3) := by decide +kernel
theorem dX9_cheapest_91 : decode cX9_cheapest 91 = .ok (.iload_n 3, 1) := by decide +kernel
theorem dX9_cheapest_92 : decode cX9_cheapest 92 = .ok (.ifCond .ne 13, 3) := by decide +kernel
theorem dX9_cheapest_95 : decode cX9_cheapest 95 = .ok (.aload_n 0, 1) := by decide +kernel
theorem dX9_cheapest_96 : decode cX9_cheapest 96 = .ok (.getfield 81, 3) := by decide +kernel
theorem dX9_cheapest_99 : decode cX9_cheapest 99 = .ok (.getfield 225, 3) := by decide +kernel
theorem dX9_cheapest_102 : decode cX9_cheapest 102 = .ok (.goto 10, 3) := by decide +kernel
theorem dX9_cheapest_105 : decode cX9_cheapest 105 = .ok (.aload_n 0, 1) := by decide +kernel
theorem dX9_cheapest_106 : decode cX9_cheapest 106 = .ok (.getfield 81, 3) := by decide +kernel
theorem dX9_cheapest_109 : decode cX9_cheapest 109 = .ok (.getfield 228, 3) := by decide +kernel
theorem dX9_cheapest_112 : decode cX9_cheapest 112 = .ok (.ireturn, 1) := by decide +kernel
theorem dX9_share_0 : decode cX9_share 0 = .ok (.aload_n 0, 1) := by decide +kernel
theorem dX9_share_1 : decode cX9_share 1 = .ok (.invokevirtual 180, 3) := by decide +kernel
theorem dX9_share_4 : decode cX9_share 4 = .ok (.ifCond .eq 6, 3) := by decide +kernel
theorem dX9_share_7 : decode cX9_share 7 = .ok (.bipush (-103), 2) := by decide +kernel
theorem dX9_share_9 : decode cX9_share 9 = .ok (.ireturn, 1) := by decide +kernel
theorem dX9_share_10 : decode cX9_share 10 = .ok (.iload_n 1, 1) := by decide +kernel
theorem dX9_share_11 : decode cX9_share 11 = .ok (.invokestatic 215, 3) := by decide +kernel
theorem dX9_share_14 : decode cX9_share 14 = .ok (.ifCond .ne 19, 3) := by decide +kernel
theorem dX9_share_17 : decode cX9_share 17 = .ok (.iload_n 2, 1) := by decide +kernel
theorem dX9_share_18 : decode cX9_share 18 = .ok (.invokestatic 215, 3) := by decide +kernel
theorem dX9_share_21 : decode cX9_share 21 = .ok (.ifCond .ne 12, 3) := by decide +kernel
theorem dX9_share_24 : decode cX9_share 24 = .ok (.iload_n 3, 1) := by decide +kernel
theorem dX9_share_25 : decode cX9_share 25 = .ok (.ifCond .lt 8, 3) := by decide +kernel
theorem dX9_share_28 : decode cX9_share 28 = .ok (.iload_n 3, 1) := by decide +kernel
theorem dX9_share_29 : decode cX9_share 29 = .ok (.iconst 2, 1) := by decide +kernel
theorem dX9_share_30 : decode cX9_share 30 = .ok (.if_icmp .le 6, 3) := by decide +kernel
theorem dX9_share_33 : decode cX9_share 33 = .ok (.bipush (-102), 2) := by decide +kernel
theorem dX9_share_35 : decode cX9_share 35 = .ok (.ireturn, 1) := by decide +kernel
theorem dX9_share_36 : decode cX9_share 36 = .ok (.aload_n 0, 1) := by decide +kernel
theorem dX9_share_37 : decode cX9_share 37 = .ok (.getfield 218, 3) := by decide +kernel
theorem dX9_share_40 : decode cX9_share 40 = .ok (.bipush 20, 2) := by decide +kernel
theorem dX9_share_42 : decode cX9_share 42 = .ok (.if_icmp .lt 6, 3) := by decide +kernel
theorem dX9_share_45 : decode cX9_share 45 = .ok (.bipush (-103), 2) := by decide +kernel
theorem dX9_share_47 : decode cX9_share 47 = .ok (.ireturn, 1) := by decide +kernel
theorem dX9_share_48 : decode cX9_share 48 = .ok (.aload_n 0, 1) := by decide +kernel
theorem dX9_share_49 : decode cX9_share 49 = .ok (.dup, 1) := by decide +kernel
theorem dX9_share_50 : decode cX9_share 50 = .ok (.getfield 218, 3) := by decide +kernel
theorem dX9_share_53 : decode cX9_share 53 = .ok (.iconst 1, 1) := by decide +kernel
theorem dX9_share_54 : decode cX9_share 54 = .ok (.iadd, 1) := by decide +kernel
theorem dX9_share_55 : decode cX9_share 55 = .ok (.putfield 218, 3) := by decide +kernel
theorem dX9_share_58 : decode cX9_share 58 = .ok (.aload_n 0, 1) := by decide +kernel
theorem dX9_share_59 : decode cX9_share 59 = .ok (.getfield 81, 3) := by decide +kernel
theorem dX9_share_62 : decode cX9_share 62 = .ok (.aload_n 0, 1) := by decide +kernel
theorem dX9_share_63 : decode cX9_share 63 = .ok (.getfield 48, 3) := by decide +kernel
theorem dX9_share_66 : decode cX9_share 66 = .ok (.iload_n 1, 1) := by decide +kernel
theorem dX9_share_67 : decode cX9_share 67 = .ok (.iload_n 2, 1) := by decide +kernel
theorem dX9_share_68 : decode cX9_share 68 = .ok (.iconst 5, 1) := by decide +kernel
theorem dX9_share_69 : decode cX9_share 69 = .ok (.invokevirtual 221, 3) := by decide +kernel
theorem dX9_share_72 : decode cX9_share 72 = .ok (.iload_n 3, 1) := by decide +kernel
theorem dX9_share_73 : decode cX9_share 73 = .ok (.ifCond .ne 11, 3) := by decide +kernel
theorem dX9_share_76 : decode cX9_share 76 = .ok (.aload_n 0, 1) := by decide +kernel
theorem dX9_share_77 : decode cX9_share 77 = .ok (.getfield 81, 3) := by decide +kernel
theorem dX9_share_80 : decode cX9_share 80 = .ok (.getfield 225, 3) := by decide +kernel
theorem dX9_share_83 : decode cX9_share 83 = .ok (.ireturn, 1) := by decide +kernel
theorem dX9_share_84 : decode cX9_share 84 = .ok (.iload_n 3, 1) := by decide +kernel
theorem dX9_share_85 : decode cX9_share 85 = .ok (.iconst 1, 1) := by decide +kernel
theorem dX9_share_86 : decode cX9_share 86 = .ok (.if_icmp .ne 13, 3) := by decide +kernel
theorem dX9_share_89 : decode cX9_share 89 = .ok (.aload_n 0, 1) := by decide +kernel
theorem dX9_share_90 : decode cX9_share 90 = .ok (.getfield 81, 3) := by decide +kernel
theorem dX9_share_93 : decode cX9_share 93 = .ok (.getfield 231, 3) := by decide +kernel
theorem dX9_share_96 : decode cX9_share 96 = .ok (.goto 10, 3) := by decide +kernel
theorem dX9_share_99 : decode cX9_share 99 = .ok (.aload_n 0, 1) := by decide +kernel
theorem dX9_share_100 : decode cX9_share 100 = .ok (.getfield 81, 3) := by decide +kernel
theorem dX9_share_103 : decode cX9_share 103 = .ok (.getfield 228, 3) := by decide +kernel
theorem dX9_share_106 : decode cX9_share 106 = .ok (.ireturn, 1) := by decide +kernel
theorem dX9_sure_0 : decode cX9_sure 0 = .ok (.aload_n 0, 1) := by decide +kernel
theorem dX9_sure_1 : decode cX9_sure 1 = .ok (.iload_n 1, 1) := by decide +kernel
theorem dX9_sure_2 : decode cX9_sure 2 = .ok (.invokevirtual 152, 3) := by decide +kernel
theorem dX9_sure_5 : decode cX9_sure 5 = .ok (.ifCond .eq 7, 3) := by decide +kernel
theorem dX9_sure_8 : decode cX9_sure 8 = .ok (.ldc2_w 234, 3) := by decide +kernel
theorem dX9_sure_11 : decode cX9_sure 11 = .ok (.lreturn, 1) := by decide +kernel
theorem dX9_sure_12 : decode cX9_sure 12 = .ok (.aload_n 0, 1) := by decide +kernel
theorem dX9_sure_13 : decode cX9_sure 13 = .ok (.invokevirtual 180, 3) := by decide +kernel
theorem dX9_sure_16 : decode cX9_sure 16 = .ok (.ifCond .eq 7, 3) := by decide +kernel
theorem dX9_sure_19 : decode cX9_sure 19 = .ok (.ldc2_w 236, 3) := by decide +kernel
theorem dX9_sure_22 : decode cX9_sure 22 = .ok (.lreturn, 1) := by decide +kernel
theorem dX9_sure_23 : decode cX9_sure 23 = .ok (.iload_n 2, 1) := by decide +kernel
theorem dX9_sure_24 : decode cX9_sure 24 = .ok (.ifCond .lt 8, 3) := by decide +kernel
theorem dX9_sure_27 : decode cX9_sure 27 = .ok (.iload_n 2, 1) := by decide +kernel
theorem dX9_sure_28 : decode cX9_sure 28 = .ok (.iconst 1, 1) := by decide +kernel
theorem dX9_sure_29 : decode cX9_sure 29 = .ok (.if_icmp .le 7, 3) := by decide +kernel
theorem dX9_sure_32 : decode cX9_sure 32 = .ok (.ldc2_w 238, 3) := by decide +kernel
theorem dX9_sure_35 : decode cX9_sure 35 = .ok (.lreturn, 1) := by decide +kernel
theorem dX9_sure_36 : decode cX9_sure 36 = .ok (.aload_n 0, 1) := by decide +kernel
theorem dX9_sure_37 : decode cX9_sure 37 = .ok (.getfield 32, 3) := by decide +kernel
theorem dX9_sure_40 : decode cX9_sure 40 = .ok (.iload_n 1, 1) := by decide +kernel
theorem dX9_sure_41 : decode cX9_sure 41 = .ok (.aaload, 1) := by decide +kernel
theorem dX9_sure_42 : decode cX9_sure 42 = .ok (.astore_n 3, 1) := by decide +kernel
theorem dX9_sure_43 : decode cX9_sure 43 = .ok (.aload_n 3, 1) := by decide +kernel
theorem dX9_sure_44 : decode cX9_sure 44 = .ok (.getfield 240, 3) := by decide +kernel
theorem dX9_sure_47 : decode cX9_sure 47 = .ok (.aload_n 0, 1) := by decide +kernel
theorem dX9_sure_48 : decode cX9_sure 48 = .ok (.getfield 118, 3) := by decide +kernel
theorem dX9_sure_51 : decode cX9_sure 51 = .ok (.if_icmp .eq 28, 3) := by decide +kernel
theorem dX9_sure_54 : decode cX9_sure 54 = .ok (.aload_n 0, 1) := by decide +kernel
theorem dX9_sure_55 : decode cX9_sure 55 = .ok (.aload_n 3, 1) := by decide +kernel
theorem dX9_sure_56 : decode cX9_sure 56 = .ok (.invokevirtual 194, 3) := by decide +kernel
theorem dX9_sure_59 : decode cX9_sure 59 = .ok (.aload_n 3, 1) := by decide +kernel
theorem dX9_sure_60 : decode cX9_sure 60 = .ok (.aload_n 0, 1) := by decide +kernel
theorem dX9_sure_61 : decode cX9_sure 61 = .ok (.getfield 88, 3) := by decide +kernel
theorem dX9_sure_64 : decode cX9_sure 64 = .ok (.aload_n 3, 1) := by decide +kernel
theorem dX9_sure_65 : decode cX9_sure 65 = .ok (.invokevirtual 243, 3) := by decide +kernel
theorem dX9_sure_68 : decode cX9_sure 68 = .ok (.putfield 247, 3) := by decide +kernel
theorem dX9_sure_71 : decode cX9_sure 71 = .ok (.aload_n 3, 1) := by decide +kernel
theorem dX9_sure_72 : decode cX9_sure 72 = .ok (.aload_n 0, 1) := by decide +kernel
theorem dX9_sure_73 : decode cX9_sure 73 = .ok (.getfield 118, 3) := by decide +kernel
theorem dX9_sure_76 : decode cX9_sure 76 = .ok (.putfield 240, 3) := by decide +kernel
theorem dX9_sure_79 : decode cX9_sure 79 = .ok (.aload_n 0, 1) := by decide +kernel
theorem dX9_sure_80 : decode cX9_sure 80 = .ok (.aload_n 3, 1) := by decide +kernel
theorem dX9_sure_81 : decode cX9_sure 81 = .ok (.getfield 247, 3) := by decide +kernel
theorem dX9_sure_84 : decode cX9_sure 84 = .ok (.iload_n 2, 1) := by decide +kernel
theorem dX9_sure_85 : decode cX9_sure 85 = .ok (.invokevirtual 250, 3) := by decide +kernel
theorem dX9_sure_88 : decode cX9_sure 88 = .ok (.lreturn, 1) := by decide +kernel
theorem dX9_mean_0 : decode cX9_mean 0 = .ok (.aload_n 0, 1) := by decide +kernel
theorem dX9_mean_1 : decode cX9_mean 1 = .ok (.iload_n 1, 1) := by decide +kernel
theorem dX9_mean_2 : decode cX9_mean 2 = .ok (.invokevirtual 152, 3) := by decide +kernel
theorem dX9_mean_5 : decode cX9_mean 5 = .ok (.ifCond .eq 7, 3) := by decide +kernel
theorem dX9_mean_8 : decode cX9_mean 8 = .ok (.ldc2_w 234, 3) := by decide +kernel
theorem dX9_mean_11 : decode cX9_mean 11 = .ok (.lreturn, 1) := by decide +kernel
theorem dX9_mean_12 : decode cX9_mean 12 = .ok (.aload_n 0, 1) := by decide +kernel
theorem dX9_mean_13 : decode cX9_mean 13 = .ok (.invokevirtual 180, 3) := by decide +kernel
theorem dX9_mean_16 : decode cX9_mean 16 = .ok (.ifCond .eq 7, 3) := by decide +kernel
theorem dX9_mean_19 : decode cX9_mean 19 = .ok (.ldc2_w 236, 3) := by decide +kernel
theorem dX9_mean_22 : decode cX9_mean 22 = .ok (.lreturn, 1) := by decide +kernel
theorem dX9_mean_23 : decode cX9_mean 23 = .ok (.iload_n 2, 1) := by decide +kernel
theorem dX9_mean_24 : decode cX9_mean 24 = .ok (.ifCond .lt 8, 3) := by decide +kernel
theorem dX9_mean_27 : decode cX9_mean 27 = .ok (.iload_n 2, 1) := by decide +kernel
theorem dX9_mean_28 : decode cX9_mean 28 = .ok (.iconst 1, 1) := by decide +kernel
theorem dX9_mean_29 : decode cX9_mean 29 = .ok (.if_icmp .le 7, 3) := by decide +kernel
theorem dX9_mean_32 : decode cX9_mean 32 = .ok (.ldc2_w 238, 3) := by decide +kernel
theorem dX9_mean_35 : decode cX9_mean 35 = .ok (.lreturn, 1) := by decide +kernel
theorem dX9_mean_36 : decode cX9_mean 36 = .ok (.aload_n 0, 1) := by decide +kernel
theorem dX9_mean_37 : decode cX9_mean 37 = .ok (.getfield 32, 3) := by decide +kernel
theorem dX9_mean_40 : decode cX9_mean 40 = .ok (.iload_n 1, 1) := by decide +kernel
theorem dX9_mean_41 : decode cX9_mean 41 = .ok (.aaload, 1) := by decide +kernel
theorem dX9_mean_42 : decode cX9_mean 42 = .ok (.astore_n 3, 1) := by decide +kernel
theorem dX9_mean_43 : decode cX9_mean 43 = .ok (.aload_n 3, 1) := by decide +kernel
theorem dX9_mean_44 : decode cX9_mean 44 = .ok (.getfield 254, 3) := by decide +kernel
theorem dX9_mean_47 : decode cX9_mean 47 = .ok (.aload_n 0, 1) := by decide +kernel
theorem dX9_mean_48 : decode cX9_mean 48 = .ok (.getfield 118, 3) := by decide +kernel
theorem dX9_mean_51 : decode cX9_mean 51 = .ok (.if_icmp .eq 28, 3) := by decide +kernel
theorem dX9_mean_54 : decode cX9_mean 54 = .ok (.aload_n 0, 1) := by decide +kernel
theorem dX9_mean_55 : decode cX9_mean 55 = .ok (.aload_n 3, 1) := by decide +kernel
theorem dX9_mean_56 : decode cX9_mean 56 = .ok (.invokevirtual 194, 3) := by decide +kernel
theorem dX9_mean_59 : decode cX9_mean 59 = .ok (.aload_n 3, 1) := by decide +kernel
theorem dX9_mean_60 : decode cX9_mean 60 = .ok (.aload_n 0, 1) := by decide +kernel
theorem dX9_mean_61 : decode cX9_mean 61 = .ok (.getfield 88, 3) := by decide +kernel
theorem dX9_mean_64 : decode cX9_mean 64 = .ok (.aload_n 3, 1) := by decide +kernel
theorem dX9_mean_65 : decode cX9_mean 65 = .ok (.invokevirtual 257, 3) := by decide +kernel
theorem dX9_mean_68 : decode cX9_mean 68 = .ok (.putfield 260, 3) := by decide +kernel
theorem dX9_mean_71 : decode cX9_mean 71 = .ok (.aload_n 3, 1) := by decide +kernel
theorem dX9_mean_72 : decode cX9_mean 72 = .ok (.aload_n 0, 1) := by decide +kernel
theorem dX9_mean_73 : decode cX9_mean 73 = .ok (.getfield 118, 3) := by decide +kernel
theorem dX9_mean_76 : decode cX9_mean 76 = .ok (.putfield 254, 3) := by decide +kernel
theorem dX9_mean_79 : decode cX9_mean 79 = .ok (.aload_n 0, 1) := by decide +kernel
theorem dX9_mean_80 : decode cX9_mean 80 = .ok (.aload_n 3, 1) := by decide +kernel
theorem dX9_mean_81 : decode cX9_mean 81 = .ok (.getfield 260, 3) := by decide +kernel
theorem dX9_mean_84 : decode cX9_mean 84 = .ok (.iload_n 2, 1) := by decide +kernel
theorem dX9_mean_85 : decode cX9_mean 85 = .ok (.invokevirtual 250, 3) := by decide +kernel
theorem dX9_mean_88 : decode cX9_mean 88 = .ok (.lreturn, 1) := by decide +kernel
theorem dX9_wise_0 : decode cX9_wise 0 = .ok (.aload_n 0, 1) := by decide +kernel
theorem dX9_wise_1 : decode cX9_wise 1 = .ok (.invokevirtual 180, 3) := by decide +kernel
theorem dX9_wise_4 : decode cX9_wise 4 = .ok (.ifCond .eq 6, 3) := by decide +kernel
theorem dX9_wise_7 : decode cX9_wise 7 = .ok (.bipush (-103), 2) := by decide +kernel
theorem dX9_wise_9 : decode cX9_wise 9 = .ok (.ireturn, 1) := by decide +kernel
theorem dX9_wise_10 : decode cX9_wise 10 = .ok (.iload_n 1, 1) := by decide +kernel
theorem dX9_wise_11 : decode cX9_wise 11 = .ok (.invokestatic 177, 3) := by decide +kernel
theorem dX9_wise_14 : decode cX9_wise 14 = .ok (.ifCond .ne 31, 3) := by decide +kernel
theorem dX9_wise_17 : decode cX9_wise 17 = .ok (.iload_n 2, 1) := by decide +kernel
theorem dX9_wise_18 : decode cX9_wise 18 = .ok (.ifCond .lt 27, 3) := by decide +kernel
theorem dX9_wise_21 : decode cX9_wise 21 = .ok (.iload_n 2, 1) := by decide +kernel
theorem dX9_wise_22 : decode cX9_wise 22 = .ok (.aload_n 0, 1) := by decide +kernel
theorem dX9_wise_23 : decode cX9_wise 23 = .ok (.getfield 19, 3) := by decide +kernel
theorem dX9_wise_26 : decode cX9_wise 26 = .ok (.getfield 158, 3) := by decide +kernel
theorem dX9_wise_29 : decode cX9_wise 29 = .ok (.iconst 1, 1) := by decide +kernel
theorem dX9_wise_30 : decode cX9_wise 30 = .ok (.iaload, 1) := by decide +kernel
theorem dX9_wise_31 : decode cX9_wise 31 = .ok (.if_icmp .gt 14, 3) := by decide +kernel
theorem dX9_wise_34 : decode cX9_wise 34 = .ok (.iload 4, 2) := by decide +kernel
theorem dX9_wise_36 : decode cX9_wise 36 = .ok (.ifCond .lt 9, 3) := by decide +kernel
theorem dX9_wise_39 : decode cX9_wise 39 = .ok (.iload 4, 2) := by decide +kernel
theorem dX9_wise_41 : decode cX9_wise 41 = .ok (.iconst 1, 1) := by decide +kernel
theorem dX9_wise_42 : decode cX9_wise 42 = .ok (.if_icmp .le 6, 3) := by decide +kernel
theorem dX9_wise_45 : decode cX9_wise 45 = .ok (.bipush (-102), 2) := by decide +kernel
theorem dX9_wise_47 : decode cX9_wise 47 = .ok (.ireturn, 1) := by decide +kernel
theorem dX9_wise_48 : decode cX9_wise 48 = .ok (.aload_n 0, 1) := by decide +kernel
theorem dX9_wise_49 : decode cX9_wise 49 = .ok (.getfield 63, 3) := by decide +kernel
theorem dX9_wise_52 : decode cX9_wise 52 = .ok (.aload_n 0, 1) := by decide +kernel
theorem dX9_wise_53 : decode cX9_wise 53 = .ok (.getfield 118, 3) := by decide +kernel
theorem dX9_wise_56 : decode cX9_wise 56 = .ok (.invokevirtual 262, 3) := by decide +kernel
theorem dX9_wise_59 : decode cX9_wise 59 = .ok (.iload_n 2, 1) := by decide +kernel
theorem dX9_wise_60 : decode cX9_wise 60 = .ok (.iload_n 3, 1) := by decide +kernel
theorem dX9_wise_61 : decode cX9_wise 61 = .ok (.invokestatic 266, 3) := by decide +kernel
theorem dX9_wise_64 : decode cX9_wise 64 = .ok (.istore 5, 2) := by decide +kernel
theorem dX9_wise_66 : decode cX9_wise 66 = .ok (.iload 4, 2) := by decide +kernel
theorem dX9_wise_68 : decode cX9_wise 68 = .ok (.ifCond .ne 18, 3) := by decide +kernel
theorem dX9_wise_71 : decode cX9_wise 71 = .ok (.aload_n 0, 1) := by decide +kernel
theorem dX9_wise_72 : decode cX9_wise 72 = .ok (.getfield 63, 3) := by decide +kernel
theorem dX9_wise_75 : decode cX9_wise 75 = .ok (.getfield 270, 3) := by decide +kernel
theorem dX9_wise_78 : decode cX9_wise 78 = .ok (.iload_n 1, 1) := by decide +kernel
theorem dX9_wise_79 : decode cX9_wise 79 = .ok (.aaload, 1) := by decide +kernel
theorem dX9_wise_80 : decode cX9_wise 80 = .ok (.iload 5, 2) := by decide +kernel
theorem dX9_wise_82 : decode cX9_wise 82 = .ok (.iaload, 1) := by decide +kernel
theorem dX9_wise_83 : decode cX9_wise 83 = .ok (.goto 15, 3) := by decide +kernel
theorem dX9_wise_86 : decode cX9_wise 86 = .ok (.aload_n 0, 1) := by decide +kernel
theorem dX9_wise_87 : decode cX9_wise 87 = .ok (.getfield 63, 3) := by decide +kernel
theorem dX9_wise_90 : decode cX9_wise 90 = .ok (.getfield 273, 3) := by decide +kernel
theorem dX9_wise_93 : decode cX9_wise 93 = .ok (.iload_n 1, 1) := by decide +kernel
theorem dX9_wise_94 : decode cX9_wise 94 = .ok (.aaload, 1) := by decide +kernel
theorem dX9_wise_95 : decode cX9_wise 95 = .ok (.iload 5, 2) := by decide +kernel
theorem dX9_wise_97 : decode cX9_wise 97 = .ok (.iaload, 1) := by decide +kernel
theorem dX9_wise_98 : decode cX9_wise 98 = .ok (.ireturn, 1) := by decide +kernel
theorem dX9_hedge_0 : decode cX9_hedge 0 = .ok (.aload_n 0, 1) := by decide +kernel
theorem dX9_hedge_1 : decode cX9_hedge 1 = .ok (.invokevirtual 180, 3) := by decide +kernel
theorem dX9_hedge_4 : decode cX9_hedge 4 = .ok (.ifCond .ne 11, 3) := by decide +kernel
theorem dX9_hedge_7 : decode cX9_hedge 7 = .ok (.aload_n 0, 1) := by decide +kernel
theorem dX9_hedge_8 : decode cX9_hedge 8 = .ok (.getfield 276, 3) := by decide +kernel
theorem dX9_hedge_11 : decode cX9_hedge 11 = .ok (.iconst 2, 1) := by decide +kernel
theorem dX9_hedge_12 : decode cX9_hedge 12 = .ok (.if_icmp .lt 6, 3) := by decide +kernel
theorem dX9_hedge_15 : decode cX9_hedge 15 = .ok (.bipush (-103), 2) := by decide +kernel
theorem dX9_hedge_17 : decode cX9_hedge 17 = .ok (.ireturn, 1) := by decide +kernel
theorem dX9_hedge_18 : decode cX9_hedge 18 = .ok (.aload_n 0, 1) := by decide +kernel
theorem dX9_hedge_19 : decode cX9_hedge 19 = .ok (.dup, 1) := by decide +kernel
theorem dX9_hedge_20 : decode cX9_hedge 20 = .ok (.getfield 276, 3) := by decide +kernel
theorem dX9_hedge_23 : decode cX9_hedge 23 = .ok (.iconst 1, 1) := by decide +kernel
theorem dX9_hedge_24 : decode cX9_hedge 24 = .ok (.iadd, 1) := by decide +kernel
theorem dX9_hedge_25 : decode cX9_hedge 25 = .ok (.putfield 276, 3) := by decide +kernel
theorem dX9_hedge_28 : decode cX9_hedge 28 = .ok (.aload_n 0, 1) := by decide +kernel
theorem dX9_hedge_29 : decode cX9_hedge 29 = .ok (.getfield 88, 3) := by decide +kernel
theorem dX9_hedge_32 : decode cX9_hedge 32 = .ok (.invokevirtual 279, 3) := by decide +kernel
theorem dX9_hedge_35 : decode cX9_hedge 35 = .ok (.ireturn, 1) := by decide +kernel
theorem dX9_read_0 : decode cX9_read 0 = .ok (.iload_n 1, 1) := by decide +kernel
theorem dX9_read_1 : decode cX9_read 1 = .ok (.invokestatic 177, 3) := by decide +kernel
theorem dX9_read_4 : decode cX9_read 4 = .ok (.ifCond .eq 6, 3) := by decide +kernel
theorem dX9_read_7 : decode cX9_read 7 = .ok (.bipush (-101), 2) := by decide +kernel
theorem dX9_read_9 : decode cX9_read 9 = .ok (.ireturn, 1) := by decide +kernel
theorem dX9_read_10 : decode cX9_read 10 = .ok (.iload_n 2, 1) := by decide +kernel
theorem dX9_read_11 : decode cX9_read 11 = .ok (.iconst (-1), 1) := by decide +kernel
theorem dX9_read_12 : decode cX9_read 12 = .ok (.if_icmp .lt 10, 3) := by decide +kernel
theorem dX9_read_15 : decode cX9_read 15 = .ok (.iload_n 2, 1) := by decide +kernel
theorem dX9_read_16 : decode cX9_read 16 = .ok (.sipush 200, 3) := by decide +kernel
theorem dX9_read_19 : decode cX9_read 19 = .ok (.if_icmp .le 6, 3) := by decide +kernel
theorem dX9_read_22 : decode cX9_read 22 = .ok (.bipush (-102), 2) := by decide +kernel
theorem dX9_read_24 : decode cX9_read 24 = .ok (.ireturn, 1) := by decide +kernel
theorem dX9_read_25 : decode cX9_read 25 = .ok (.aload_n 0, 1) := by decide +kernel
theorem dX9_read_26 : decode cX9_read 26 = .ok (.getfield 36, 3) := by decide +kernel
theorem dX9_read_29 : decode cX9_read 29 = .ok (.iload_n 1, 1) := by decide +kernel
theorem dX9_read_30 : decode cX9_read 30 = .ok (.iaload, 1) := by decide +kernel
theorem dX9_read_31 : decode cX9_read 31 = .ok (.istore_n 3, 1) := by decide +kernel
theorem dX9_read_32 : decode cX9_read 32 = .ok (.aload_n 0, 1) := by decide +kernel
theorem dX9_read_33 : decode cX9_read 33 = .ok (.getfield 36, 3) := by decide +kernel
theorem dX9_read_36 : decode cX9_read 36 = .ok (.iload_n 1, 1) := by decide +kernel
theorem dX9_read_37 : decode cX9_read 37 = .ok (.iload_n 2, 1) := by decide +kernel
theorem dX9_read_38 : decode cX9_read 38 = .ok (.iastore, 1) := by decide +kernel
theorem dX9_read_39 : decode cX9_read 39 = .ok (.iload_n 3, 1) := by decide +kernel
theorem dX9_read_40 : decode cX9_read 40 = .ok (.ireturn, 1) := by decide +kernel
theorem dX9_leaks_0 : decode cX9_leaks 0 = .ok (.aload_n 0, 1) := by decide +kernel
theorem dX9_leaks_1 : decode cX9_leaks 1 = .ok (.iload_n 1, 1) := by decide +kernel
theorem dX9_leaks_2 : decode cX9_leaks 2 = .ok (.invokevirtual 152, 3) := by decide +kernel
theorem dX9_leaks_5 : decode cX9_leaks 5 = .ok (.ifCond .ne 11, 3) := by decide +kernel
theorem dX9_leaks_8 : decode cX9_leaks 8 = .ok (.aload_n 0, 1) := by decide +kernel
theorem dX9_leaks_9 : decode cX9_leaks 9 = .ok (.iload_n 2, 1) := by decide +kernel
theorem dX9_leaks_10 : decode cX9_leaks 10 = .ok (.invokevirtual 174, 3) := by decide +kernel
theorem dX9_leaks_13 : decode cX9_leaks 13 = .ok (.ifCond .eq 6, 3) := by decide +kernel
theorem dX9_leaks_16 : decode cX9_leaks 16 = .ok (.bipush (-101), 2) := by decide +kernel
theorem dX9_leaks_18 : decode cX9_leaks 18 = .ok (.ireturn, 1) := by decide +kernel
theorem dX9_leaks_19 : decode cX9_leaks 19 = .ok (.aload_n 0, 1) := by decide +kernel
theorem dX9_leaks_20 : decode cX9_leaks 20 = .ok (.getfield 115, 3) := by decide +kernel
theorem dX9_leaks_23 : decode cX9_leaks 23 = .ok (.ifCond .eq 16, 3) := by decide +kernel
theorem dX9_leaks_26 : decode cX9_leaks 26 = .ok (.aload_n 0, 1) := by decide +kernel
theorem dX9_leaks_27 : decode cX9_leaks 27 = .ok (.getfield 32, 3) := by decide +kernel
theorem dX9_leaks_30 : decode cX9_leaks 30 = .ok (.iload_n 1, 1) := by decide +kernel
theorem dX9_leaks_31 : decode cX9_leaks 31 = .ok (.aaload, 1) := by decide +kernel
theorem dX9_leaks_32 : decode cX9_leaks 32 = .ok (.getfield 143, 3) := by decide +kernel
theorem dX9_leaks_35 : decode cX9_leaks 35 = .ok (.iconst 3, 1) := by decide +kernel
theorem dX9_leaks_36 : decode cX9_leaks 36 = .ok (.if_icmp .ne 6, 3) := by decide +kernel
theorem dX9_leaks_39 : decode cX9_leaks 39 = .ok (.bipush (-103), 2) := by decide +kernel
theorem dX9_leaks_41 : decode cX9_leaks 41 = .ok (.ireturn, 1) := by decide +kernel
theorem dX9_leaks_42 : decode cX9_leaks 42 = .ok (.iload_n 3, 1) := by decide +kernel
theorem dX9_leaks_43 : decode cX9_leaks 43 = .ok (.ifCond .lt 8, 3) := by decide +kernel
theorem dX9_leaks_46 : decode cX9_leaks 46 = .ok (.iload_n 3, 1) := by decide +kernel
theorem dX9_leaks_47 : decode cX9_leaks 47 = .ok (.iconst 4, 1) := by decide +kernel
theorem dX9_leaks_48 : decode cX9_leaks 48 = .ok (.if_icmp .le 6, 3) := by decide +kernel
theorem dX9_leaks_51 : decode cX9_leaks 51 = .ok (.bipush (-102), 2) := by decide +kernel
theorem dX9_leaks_53 : decode cX9_leaks 53 = .ok (.ireturn, 1) := by decide +kernel
theorem dX9_leaks_54 : decode cX9_leaks 54 = .ok (.iconst 0, 1) := by decide +kernel
theorem dX9_leaks_55 : decode cX9_leaks 55 = .ok (.istore 4, 2) := by decide +kernel
theorem dX9_leaks_57 : decode cX9_leaks 57 = .ok (.iconst (-1), 1) := by decide +kernel
theorem dX9_leaks_58 : decode cX9_leaks 58 = .ok (.istore 5, 2) := by decide +kernel
theorem dX9_leaks_60 : decode cX9_leaks 60 = .ok (.iconst (-1), 1) := by decide +kernel
theorem dX9_leaks_61 : decode cX9_leaks 61 = .ok (.istore 6, 2) := by decide +kernel
theorem dX9_leaks_63 : decode cX9_leaks 63 = .ok (.iconst (-1), 1) := by decide +kernel
theorem dX9_leaks_64 : decode cX9_leaks 64 = .ok (.istore 7, 2) := by decide +kernel
theorem dX9_leaks_66 : decode cX9_leaks 66 = .ok (.iconst (-1), 1) := by decide +kernel
theorem dX9_leaks_67 : decode cX9_leaks 67 = .ok (.istore 8, 2) := by decide +kernel
theorem dX9_leaks_69 : decode cX9_leaks 69 = .ok (.iconst 0, 1) := by decide +kernel
theorem dX9_leaks_70 : decode cX9_leaks 70 = .ok (.istore 9, 2) := by decide +kernel
theorem dX9_leaks_72 : decode cX9_leaks 72 = .ok (.iload 9, 2) := by decide +kernel
theorem dX9_leaks_74 : decode cX9_leaks 74 = .ok (.bipush 9, 2) := by decide +kernel
theorem dX9_leaks_76 : decode cX9_leaks 76 = .ok (.if_icmp .gt 125, 3) := by decide +kernel
theorem dX9_leaks_79 : decode cX9_leaks 79 = .ok (.iload 9, 2) := by decide +kernel
theorem dX9_leaks_81 : decode cX9_leaks 81 = .ok (.ifCond .ne 7, 3) := by decide +kernel
theorem dX9_leaks_84 : decode cX9_leaks 84 = .ok (.iconst 1, 1) := by decide +kernel
theorem dX9_leaks_85 : decode cX9_leaks 85 = .ok (.goto 5, 3) := by decide +kernel
theorem dX9_leaks_88 : decode cX9_leaks 88 = .ok (.bipush 12, 2) := by decide +kernel
theorem dX9_leaks_90 : decode cX9_leaks 90 = .ok (.istore 10, 2) := by decide +kernel
theorem dX9_leaks_92 : decode cX9_leaks 92 = .ok (.iconst 0, 1) := by decide +kernel
theorem dX9_leaks_93 : decode cX9_leaks 93 = .ok (.istore 11, 2) := by decide +kernel
theorem dX9_leaks_95 : decode cX9_leaks 95 = .ok (.iload 11, 2) := by decide +kernel
theorem dX9_leaks_97 : decode cX9_leaks 97 = .ok (.iload 10, 2) := by decide +kernel
theorem dX9_leaks_99 : decode cX9_leaks 99 = .ok (.if_icmp .ge 96, 3) := by decide +kernel
theorem dX9_leaks_102 : decode cX9_leaks 102 = .ok (.aload_n 0, 1) := by decide +kernel
theorem dX9_leaks_103 : decode cX9_leaks 103 = .ok (.getfield 72, 3) := by decide +kernel
theorem dX9_leaks_106 : decode cX9_leaks 106 = .ok (.aload_n 0, 1) := by decide +kernel
theorem dX9_leaks_107 : decode cX9_leaks 107 = .ok (.getfield 32, 3) := by decide +kernel
theorem dX9_leaks_110 : decode cX9_leaks 110 = .ok (.iload_n 1, 1) := by decide +kernel
theorem dX9_leaks_111 : decode cX9_leaks 111 = .ok (.aaload, 1) := by decide +kernel
theorem dX9_leaks_112 : decode cX9_leaks 112 = .ok (.aload_n 0, 1) := by decide +kernel
theorem dX9_leaks_113 : decode cX9_leaks 113 = .ok (.getfield 26, 3) := by decide +kernel
theorem dX9_leaks_116 : decode cX9_leaks 116 = .ok (.getfield 130, 3) := by decide +kernel
theorem dX9_leaks_119 : decode cX9_leaks 119 = .ok (.iload_n 2, 1) := by decide +kernel
theorem dX9_leaks_120 : decode cX9_leaks 120 = .ok (.aaload, 1) := by decide +kernel
theorem dX9_leaks_121 : decode cX9_leaks 121 = .ok (.aload_n 0, 1) := by decide +kernel
theorem dX9_leaks_122 : decode cX9_leaks 122 = .ok (.getfield 36, 3) := by decide +kernel
theorem dX9_leaks_125 : decode cX9_leaks 125 = .ok (.iload 9, 2) := by decide +kernel
theorem dX9_leaks_127 : decode cX9_leaks 127 = .ok (.iload 11, 2) := by decide +kernel
theorem dX9_leaks_129 : decode cX9_leaks 129 = .ok (.invokevirtual 283, 3) := by decide +kernel
theorem dX9_leaks_132 : decode cX9_leaks 132 = .ok (.ifCond .ne 6, 3) := by decide +kernel
theorem dX9_leaks_135 : decode cX9_leaks 135 = .ok (.goto 54, 3) := by decide +kernel
theorem dX9_leaks_138 : decode cX9_leaks 138 = .ok (.iinc 4 1, 3) := by decide +kernel
theorem dX9_leaks_141 : decode cX9_leaks 141 = .ok (.iload 5, 2) := by decide +kernel
theorem dX9_leaks_143 : decode cX9_leaks 143 = .ok (.iconst (-1), 1) := by decide +kernel
theorem dX9_leaks_144 : decode cX9_leaks 144 = .ok (.if_icmp .ne 8, 3) := by decide +kernel
theorem dX9_leaks_147 : decode cX9_leaks 147 = .ok (.iload 9, 2) := by decide +kernel
theorem dX9_leaks_149 : decode cX9_leaks 149 = .ok (.goto 5, 3) := by decide +kernel
theorem dX9_leaks_152 : decode cX9_leaks 152 = .ok (.iload 5, 2) := by decide +kernel
theorem dX9_leaks_154 : decode cX9_leaks 154 = .ok (.istore 5, 2) := by decide +kernel
theorem dX9_leaks_156 : decode cX9_leaks 156 = .ok (.iload 9, 2) := by decide +kernel
theorem dX9_leaks_158 : decode cX9_leaks 158 = .ok (.istore 6, 2) := by decide +kernel
theorem dX9_leaks_160 : decode cX9_leaks 160 = .ok (.iload 7, 2) := by decide +kernel
theorem dX9_leaks_162 : decode cX9_leaks 162 = .ok (.iconst (-1), 1) := by decide +kernel
theorem dX9_leaks_163 : decode cX9_leaks 163 = .ok (.if_icmp .ne 8, 3) := by decide +kernel
theorem dX9_leaks_166 : decode cX9_leaks 166 = .ok (.iload 11, 2) := by decide +kernel
theorem dX9_leaks_168 : decode cX9_leaks 168 = .ok (.goto 10, 3) := by decide +kernel
theorem dX9_leaks_171 : decode cX9_leaks 171 = .ok (.iload 7, 2) := by decide +kernel
theorem dX9_leaks_173 : decode cX9_leaks 173 = .ok (.iload 11, 2) := by decide +kernel
theorem dX9_leaks_175 : decode cX9_leaks 175 = .ok (.invokestatic 287, 3) := by decide +kernel
theorem dX9_leaks_178 : decode cX9_leaks 178 = .ok (.istore 7, 2) := by decide +kernel
theorem dX9_leaks_180 : decode cX9_leaks 180 = .ok (.iload 8, 2) := by decide +kernel
theorem dX9_leaks_182 : decode cX9_leaks 182 = .ok (.iload 11, 2) := by decide +kernel
theorem dX9_leaks_184 : decode cX9_leaks 184 = .ok (.invokestatic 292, 3) := by decide +kernel
theorem dX9_leaks_187 : decode cX9_leaks 187 = .ok (.istore 8, 2) := by decide +kernel
theorem dX9_leaks_189 : decode cX9_leaks 189 = .ok (.iinc 11 1, 3) := by decide +kernel
theorem dX9_leaks_192 : decode cX9_leaks 192 = .ok (.goto (-97), 3) := by decide +kernel
theorem dX9_leaks_195 : decode cX9_leaks 195 = .ok (.iinc 9 1, 3) := by decide +kernel
theorem dX9_leaks_198 : decode cX9_leaks 198 = .ok (.goto (-126), 3) := by decide +kernel
theorem dX9_leaks_201 : decode cX9_leaks 201 = .ok (.iload_n 3, 1) := by decide +kernel
theorem dX9_leaks_202 : decode cX9_leaks 202 = .ok (.tableswitch 42 0 3 #[30, 33, 36, 39], 30) := by decide +kernel
theorem dX9_leaks_232 : decode cX9_leaks 232 = .ok (.iload 4, 2) := by decide +kernel
theorem dX9_leaks_234 : decode cX9_leaks 234 = .ok (.ireturn, 1) := by decide +kernel
theorem dX9_leaks_235 : decode cX9_leaks 235 = .ok (.iload 5, 2) := by decide +kernel
theorem dX9_leaks_237 : decode cX9_leaks 237 = .ok (.ireturn, 1) := by decide +kernel
theorem dX9_leaks_238 : decode cX9_leaks 238 = .ok (.iload 6, 2) := by decide +kernel
theorem dX9_leaks_240 : decode cX9_leaks 240 = .ok (.ireturn, 1) := by decide +kernel
theorem dX9_leaks_241 : decode cX9_leaks 241 = .ok (.iload 7, 2) := by decide +kernel
theorem dX9_leaks_243 : decode cX9_leaks 243 = .ok (.ireturn, 1) := by decide +kernel
theorem dX9_leaks_244 : decode cX9_leaks 244 = .ok (.iload 8, 2) := by decide +kernel
theorem dX9_leaks_246 : decode cX9_leaks 246 = .ok (.ireturn, 1) := by decide +kernel
theorem dX9_image_0 : decode cX9_image 0 = .ok (.aload_n 0, 1) := by decide +kernel
theorem dX9_image_1 : decode cX9_image 1 = .ok (.getfield 115, 3) := by decide +kernel
theorem dX9_image_4 : decode cX9_image 4 = .ok (.ifCond .ne 6, 3) := by decide +kernel
theorem dX9_image_7 : decode cX9_image 7 = .ok (.bipush (-103), 2) := by decide +kernel
theorem dX9_image_9 : decode cX9_image 9 = .ok (.ireturn, 1) := by decide +kernel
theorem dX9_image_10 : decode cX9_image 10 = .ok (.aload_n 0, 1) := by decide +kernel
theorem dX9_image_11 : decode cX9_image 11 = .ok (.getfield 19, 3) := by decide +kernel
theorem dX9_image_14 : decode cX9_image 14 = .ok (.getfield 158, 3) := by decide +kernel
theorem dX9_image_17 : decode cX9_image 17 = .ok (.iconst 0, 1) := by decide +kernel
theorem dX9_image_18 : decode cX9_image 18 = .ok (.aload_n 0, 1) := by decide +kernel
theorem dX9_image_19 : decode cX9_image 19 = .ok (.getfield 43, 3) := by decide +kernel
theorem dX9_image_22 : decode cX9_image 22 = .ok (.getfield 295, 3) := by decide +kernel
theorem dX9_image_25 : decode cX9_image 25 = .ok (.iconst 0, 1) := by decide +kernel
theorem dX9_image_26 : decode cX9_image 26 = .ok (.bipush 7, 2) := by decide +kernel
theorem dX9_image_28 : decode cX9_image 28 = .ok (.invokestatic 134, 3) := by decide +kernel
theorem dX9_image_31 : decode cX9_image 31 = .ok (.aload_n 0, 1) := by decide +kernel
theorem dX9_image_32 : decode cX9_image 32 = .ok (.getfield 43, 3) := by decide +kernel
theorem dX9_image_35 : decode cX9_image 35 = .ok (.getfield 296, 3) := by decide +kernel
theorem dX9_image_38 : decode cX9_image 38 = .ok (.aload_n 0, 1) := by decide +kernel
theorem dX9_image_39 : decode cX9_image 39 = .ok (.getfield 26, 3) := by decide +kernel
theorem dX9_image_42 : decode cX9_image 42 = .ok (.invokevirtual 297, 3) := by decide +kernel
theorem dX9_image_45 : decode cX9_image 45 = .ok (.aload_n 0, 1) := by decide +kernel
theorem dX9_image_46 : decode cX9_image 46 = .ok (.getfield 36, 3) := by decide +kernel
theorem dX9_image_49 : decode cX9_image 49 = .ok (.iconst 0, 1) := by decide +kernel
theorem dX9_image_50 : decode cX9_image 50 = .ok (.aload_n 0, 1) := by decide +kernel
theorem dX9_image_51 : decode cX9_image 51 = .ok (.getfield 43, 3) := by decide +kernel
theorem dX9_image_54 : decode cX9_image 54 = .ok (.getfield 301, 3) := by decide +kernel
theorem dX9_image_57 : decode cX9_image 57 = .ok (.iconst 0, 1) := by decide +kernel
theorem dX9_image_58 : decode cX9_image 58 = .ok (.bipush 12, 2) := by decide +kernel
theorem dX9_image_60 : decode cX9_image 60 = .ok (.invokestatic 134, 3) := by decide +kernel
theorem dX9_image_63 : decode cX9_image 63 = .ok (.aload_n 0, 1) := by decide +kernel
theorem dX9_image_64 : decode cX9_image 64 = .ok (.getfield 43, 3) := by decide +kernel
theorem dX9_image_67 : decode cX9_image 67 = .ok (.aload_n 0, 1) := by decide +kernel
theorem dX9_image_68 : decode cX9_image 68 = .ok (.getfield 115, 3) := by decide +kernel
theorem dX9_image_71 : decode cX9_image 71 = .ok (.putfield 302, 3) := by decide +kernel
theorem dX9_image_74 : decode cX9_image 74 = .ok (.aload_n 0, 1) := by decide +kernel
theorem dX9_image_75 : decode cX9_image 75 = .ok (.getfield 26, 3) := by decide +kernel
theorem dX9_image_78 : decode cX9_image 78 = .ok (.getfield 124, 3) := by decide +kernel
theorem dX9_image_81 : decode cX9_image 81 = .ok (.ireturn, 1) := by decide +kernel
theorem dX9_restore_0 : decode cX9_restore 0 = .ok (.aload_n 0, 1) := by decide +kernel
theorem dX9_restore_1 : decode cX9_restore 1 = .ok (.getfield 43, 3) := by decide +kernel
theorem dX9_restore_4 : decode cX9_restore 4 = .ok (.getfield 302, 3) := by decide +kernel
theorem dX9_restore_7 : decode cX9_restore 7 = .ok (.ifCond .eq 17, 3) := by decide +kernel
theorem dX9_restore_10 : decode cX9_restore 10 = .ok (.aload_n 0, 1) := by decide +kernel
theorem dX9_restore_11 : decode cX9_restore 11 = .ok (.getfield 43, 3) := by decide +kernel
theorem dX9_restore_14 : decode cX9_restore 14 = .ok (.getfield 302, 3) := by decide +kernel
theorem dX9_restore_17 : decode cX9_restore 17 = .ok (.aload_n 0, 1) := by decide +kernel
theorem dX9_restore_18 : decode cX9_restore 18 = .ok (.getfield 115, 3) := by decide +kernel
theorem dX9_restore_21 : decode cX9_restore 21 = .ok (.if_icmp .eq 6, 3) := by decide +kernel
theorem dX9_restore_24 : decode cX9_restore 24 = .ok (.bipush (-103), 2) := by decide +kernel
theorem dX9_restore_26 : decode cX9_restore 26 = .ok (.ireturn, 1) := by decide +kernel
theorem dX9_restore_27 : decode cX9_restore 27 = .ok (.aload_n 0, 1) := by decide +kernel
theorem dX9_restore_28 : decode cX9_restore 28 = .ok (.getfield 43, 3) := by decide +kernel
theorem dX9_restore_31 : decode cX9_restore 31 = .ok (.getfield 295, 3) := by decide +kernel
theorem dX9_restore_34 : decode cX9_restore 34 = .ok (.iconst 0, 1) := by decide +kernel
theorem dX9_restore_35 : decode cX9_restore 35 = .ok (.aload_n 0, 1) := by decide +kernel
theorem dX9_restore_36 : decode cX9_restore 36 = .ok (.getfield 19, 3) := by decide +kernel
theorem dX9_restore_39 : decode cX9_restore 39 = .ok (.getfield 158, 3) := by decide +kernel
theorem dX9_restore_42 : decode cX9_restore 42 = .ok (.iconst 0, 1) := by decide +kernel
theorem dX9_restore_43 : decode cX9_restore 43 = .ok (.bipush 7, 2) := by decide +kernel
theorem dX9_restore_45 : decode cX9_restore 45 = .ok (.invokestatic 134, 3) := by decide +kernel
theorem dX9_restore_48 : decode cX9_restore 48 = .ok (.aload_n 0, 1) := by decide +kernel
theorem dX9_restore_49 : decode cX9_restore 49 = .ok (.getfield 19, 3) := by decide +kernel
theorem dX9_restore_52 : decode cX9_restore 52 = .ok (.invokevirtual 171, 3) := by decide +kernel
theorem dX9_restore_55 : decode cX9_restore 55 = .ok (.aload_n 0, 1) := by decide +kernel
theorem dX9_restore_56 : decode cX9_restore 56 = .ok (.getfield 26, 3) := by decide +kernel
theorem dX9_restore_59 : decode cX9_restore 59 = .ok (.aload_n 0, 1) := by decide +kernel
theorem dX9_restore_60 : decode cX9_restore 60 = .ok (.getfield 43, 3) := by decide +kernel
theorem dX9_restore_63 : decode cX9_restore 63 = .ok (.getfield 296, 3) := by decide +kernel
theorem dX9_restore_66 : decode cX9_restore 66 = .ok (.invokevirtual 297, 3) := by decide +kernel
theorem dX9_restore_69 : decode cX9_restore 69 = .ok (.aload_n 0, 1) := by decide +kernel
theorem dX9_restore_70 : decode cX9_restore 70 = .ok (.getfield 43, 3) := by decide +kernel
theorem dX9_restore_73 : decode cX9_restore 73 = .ok (.getfield 301, 3) := by decide +kernel
theorem dX9_restore_76 : decode cX9_restore 76 = .ok (.iconst 0, 1) := by decide +kernel
theorem dX9_restore_77 : decode cX9_restore 77 = .ok (.aload_n 0, 1) := by decide +kernel
theorem dX9_restore_78 : decode cX9_restore 78 = .ok (.getfield 36, 3) := by decide +kernel
theorem dX9_restore_81 : decode cX9_restore 81 = .ok (.iconst 0, 1) := by decide +kernel
theorem dX9_restore_82 : decode cX9_restore 82 = .ok (.bipush 12, 2) := by decide +kernel
theorem dX9_restore_84 : decode cX9_restore 84 = .ok (.invokestatic 134, 3) := by decide +kernel
theorem dX9_restore_87 : decode cX9_restore 87 = .ok (.aload_n 0, 1) := by decide +kernel
theorem dX9_restore_88 : decode cX9_restore 88 = .ok (.dup, 1) := by decide +kernel
theorem dX9_restore_89 : decode cX9_restore 89 = .ok (.getfield 118, 3) := by decide +kernel
theorem dX9_restore_92 : decode cX9_restore 92 = .ok (.iconst 1, 1) := by decide +kernel
theorem dX9_restore_93 : decode cX9_restore 93 = .ok (.iadd, 1) := by decide +kernel
theorem dX9_restore_94 : decode cX9_restore 94 = .ok (.putfield 118, 3) := by decide +kernel
theorem dX9_restore_97 : decode cX9_restore 97 = .ok (.aload_n 0, 1) := by decide +kernel
theorem dX9_restore_98 : decode cX9_restore 98 = .ok (.getfield 26, 3) := by decide +kernel
theorem dX9_restore_101 : decode cX9_restore 101 = .ok (.getfield 124, 3) := by decide +kernel
theorem dX9_restore_104 : decode cX9_restore 104 = .ok (.ireturn, 1) := by decide +kernel
theorem dX9_count_0 : decode cX9_count 0 = .ok (.iload_n 1, 1) := by decide +kernel
theorem dX9_count_1 : decode cX9_count 1 = .ok (.tableswitch 96 0 7 #[47, 55, 63, 68, 73, 81, 86, 91], 47) := by decide +kernel
theorem dX9_count_48 : decode cX9_count 48 = .ok (.aload_n 0, 1) := by decide +kernel
theorem dX9_count_49 : decode cX9_count 49 = .ok (.getfield 19, 3) := by decide +kernel
theorem dX9_count_52 : decode cX9_count 52 = .ok (.getfield 121, 3) := by decide +kernel
theorem dX9_count_55 : decode cX9_count 55 = .ok (.ireturn, 1) := by decide +kernel
theorem dX9_count_56 : decode cX9_count 56 = .ok (.aload_n 0, 1) := by decide +kernel
theorem dX9_count_57 : decode cX9_count 57 = .ok (.getfield 26, 3) := by decide +kernel
theorem dX9_count_60 : decode cX9_count 60 = .ok (.getfield 124, 3) := by decide +kernel
theorem dX9_count_63 : decode cX9_count 63 = .ok (.ireturn, 1) := by decide +kernel
theorem dX9_count_64 : decode cX9_count 64 = .ok (.aload_n 0, 1) := by decide +kernel
theorem dX9_count_65 : decode cX9_count 65 = .ok (.getfield 140, 3) := by decide +kernel
theorem dX9_count_68 : decode cX9_count 68 = .ok (.ireturn, 1) := by decide +kernel
theorem dX9_count_69 : decode cX9_count 69 = .ok (.aload_n 0, 1) := by decide +kernel
theorem dX9_count_70 : decode cX9_count 70 = .ok (.invokevirtual 305, 3) := by decide +kernel
theorem dX9_count_73 : decode cX9_count 73 = .ok (.ireturn, 1) := by decide +kernel
theorem dX9_count_74 : decode cX9_count 74 = .ok (.aload_n 0, 1) := by decide +kernel
theorem dX9_count_75 : decode cX9_count 75 = .ok (.getfield 12, 3) := by decide +kernel
theorem dX9_count_78 : decode cX9_count 78 = .ok (.getfield 96, 3) := by decide +kernel
theorem dX9_count_81 : decode cX9_count 81 = .ok (.ireturn, 1) := by decide +kernel
theorem dX9_count_82 : decode cX9_count 82 = .ok (.aload_n 0, 1) := by decide +kernel
theorem dX9_count_83 : decode cX9_count 83 = .ok (.getfield 115, 3) := by decide +kernel
theorem dX9_count_86 : decode cX9_count 86 = .ok (.ireturn, 1) := by decide +kernel
theorem dX9_count_87 : decode cX9_count 87 = .ok (.aload_n 0, 1) := by decide +kernel
theorem dX9_count_88 : decode cX9_count 88 = .ok (.getfield 218, 3) := by decide +kernel
theorem dX9_count_91 : decode cX9_count 91 = .ok (.ireturn, 1) := by decide +kernel
theorem dX9_count_92 : decode cX9_count 92 = .ok (.aload_n 0, 1) := by decide +kernel
theorem dX9_count_93 : decode cX9_count 93 = .ok (.getfield 276, 3) := by decide +kernel
theorem dX9_count_96 : decode cX9_count 96 = .ok (.ireturn, 1) := by decide +kernel
theorem dX9_count_97 : decode cX9_count 97 = .ok (.bipush (-102), 2) := by decide +kernel
theorem dX9_count_99 : decode cX9_count 99 = .ok (.ireturn, 1) := by decide +kernel
theorem dX9_digest_0 : decode cX9_digest 0 = .ok (.ldc2_w 308, 3) := by decide +kernel
theorem dX9_digest_3 : decode cX9_digest 3 = .ok (.lstore_n 1, 1) := by decide +kernel
theorem dX9_digest_4 : decode cX9_digest 4 = .ok (.aload_n 0, 1) := by decide +kernel
theorem dX9_digest_5 : decode cX9_digest 5 = .ok (.getfield 115, 3) := by decide +kernel
theorem dX9_digest_8 : decode cX9_digest 8 = .ok (.ifCond .le 12, 3) := by decide +kernel
theorem dX9_digest_11 : decode cX9_digest 11 = .ok (.aload_n 0, 1) := by decide +kernel
theorem dX9_digest_12 : decode cX9_digest 12 = .ok (.getfield 19, 3) := by decide +kernel
theorem dX9_digest_15 : decode cX9_digest 15 = .ok (.lload_n 1, 1) := by decide +kernel
theorem dX9_digest_16 : decode cX9_digest 16 = .ok (.invokevirtual 310, 3) := by decide +kernel
theorem dX9_digest_19 : decode cX9_digest 19 = .ok (.lstore_n 1, 1) := by decide +kernel
theorem dX9_digest_20 : decode cX9_digest 20 = .ok (.iconst 0, 1) := by decide +kernel
theorem dX9_digest_21 : decode cX9_digest 21 = .ok (.istore_n 3, 1) := by decide +kernel
theorem dX9_digest_22 : decode cX9_digest 22 = .ok (.iload_n 3, 1) := by decide +kernel
theorem dX9_digest_23 : decode cX9_digest 23 = .ok (.aload_n 0, 1) := by decide +kernel
theorem dX9_digest_24 : decode cX9_digest 24 = .ok (.getfield 26, 3) := by decide +kernel
theorem dX9_digest_27 : decode cX9_digest 27 = .ok (.getfield 124, 3) := by decide +kernel
theorem dX9_digest_30 : decode cX9_digest 30 = .ok (.if_icmp .ge 25, 3) := by decide +kernel
theorem dX9_digest_33 : decode cX9_digest 33 = .ok (.lload_n 1, 1) := by decide +kernel
theorem dX9_digest_34 : decode cX9_digest 34 = .ok (.aload_n 0, 1) := by decide +kernel
theorem dX9_digest_35 : decode cX9_digest 35 = .ok (.getfield 26, 3) := by decide +kernel
theorem dX9_digest_38 : decode cX9_digest 38 = .ok (.getfield 130, 3) := by decide +kernel
theorem dX9_digest_41 : decode cX9_digest 41 = .ok (.iload_n 3, 1) := by decide +kernel
theorem dX9_digest_42 : decode cX9_digest 42 = .ok (.aaload, 1) := by decide +kernel
theorem dX9_digest_43 : decode cX9_digest 43 = .ok (.bipush 12, 2) := by decide +kernel
theorem dX9_digest_45 : decode cX9_digest 45 = .ok (.invokestatic 314, 3) := by decide +kernel
theorem dX9_digest_48 : decode cX9_digest 48 = .ok (.lstore_n 1, 1) := by decide +kernel
theorem dX9_digest_49 : decode cX9_digest 49 = .ok (.iinc 3 1, 3) := by decide +kernel
theorem dX9_digest_52 : decode cX9_digest 52 = .ok (.goto (-30), 3) := by decide +kernel
theorem dX9_digest_55 : decode cX9_digest 55 = .ok (.iconst 0, 1) := by decide +kernel
theorem dX9_digest_56 : decode cX9_digest 56 = .ok (.istore_n 3, 1) := by decide +kernel
theorem dX9_digest_57 : decode cX9_digest 57 = .ok (.iload_n 3, 1) := by decide +kernel
theorem dX9_digest_58 : decode cX9_digest 58 = .ok (.aload_n 0, 1) := by decide +kernel
theorem dX9_digest_59 : decode cX9_digest 59 = .ok (.getfield 140, 3) := by decide +kernel
theorem dX9_digest_62 : decode cX9_digest 62 = .ok (.if_icmp .ge 87, 3) := by decide +kernel
theorem dX9_digest_65 : decode cX9_digest 65 = .ok (.ldc2_w 318, 3) := by decide +kernel
theorem dX9_digest_68 : decode cX9_digest 68 = .ok (.lload_n 1, 1) := by decide +kernel
theorem dX9_digest_69 : decode cX9_digest 69 = .ok (.lmul, 1) := by decide +kernel
theorem dX9_digest_70 : decode cX9_digest 70 = .ok (.aload_n 0, 1) := by decide +kernel
theorem dX9_digest_71 : decode cX9_digest 71 = .ok (.getfield 32, 3) := by decide +kernel
theorem dX9_digest_74 : decode cX9_digest 74 = .ok (.iload_n 3, 1) := by decide +kernel
theorem dX9_digest_75 : decode cX9_digest 75 = .ok (.aaload, 1) := by decide +kernel
theorem dX9_digest_76 : decode cX9_digest 76 = .ok (.getfield 143, 3) := by decide +kernel
theorem dX9_digest_79 : decode cX9_digest 79 = .ok (.i2l, 1) := by decide +kernel
theorem dX9_digest_80 : decode cX9_digest 80 = .ok (.ladd, 1) := by decide +kernel
theorem dX9_digest_81 : decode cX9_digest 81 = .ok (.lstore_n 1, 1) := by decide +kernel
theorem dX9_digest_82 : decode cX9_digest 82 = .ok (.ldc2_w 318, 3) := by decide +kernel
theorem dX9_digest_85 : decode cX9_digest 85 = .ok (.lload_n 1, 1) := by decide +kernel
theorem dX9_digest_86 : decode cX9_digest 86 = .ok (.lmul, 1) := by decide +kernel
theorem dX9_digest_87 : decode cX9_digest 87 = .ok (.aload_n 0, 1) := by decide +kernel
theorem dX9_digest_88 : decode cX9_digest 88 = .ok (.getfield 32, 3) := by decide +kernel
theorem dX9_digest_91 : decode cX9_digest 91 = .ok (.iload_n 3, 1) := by decide +kernel
theorem dX9_digest_92 : decode cX9_digest 92 = .ok (.aaload, 1) := by decide +kernel
theorem dX9_digest_93 : decode cX9_digest 93 = .ok (.getfield 146, 3) := by decide +kernel
theorem dX9_digest_96 : decode cX9_digest 96 = .ok (.i2l, 1) := by decide +kernel
theorem dX9_digest_97 : decode cX9_digest 97 = .ok (.ladd, 1) := by decide +kernel
theorem dX9_digest_98 : decode cX9_digest 98 = .ok (.lstore_n 1, 1) := by decide +kernel
theorem dX9_digest_99 : decode cX9_digest 99 = .ok (.aload_n 0, 1) := by decide +kernel
theorem dX9_digest_100 : decode cX9_digest 100 = .ok (.getfield 32, 3) := by decide +kernel
theorem dX9_digest_103 : decode cX9_digest 103 = .ok (.iload_n 3, 1) := by decide +kernel
theorem dX9_digest_104 : decode cX9_digest 104 = .ok (.aaload, 1) := by decide +kernel
theorem dX9_digest_105 : decode cX9_digest 105 = .ok (.getfield 143, 3) := by decide +kernel
theorem dX9_digest_108 : decode cX9_digest 108 = .ok (.iconst 3, 1) := by decide +kernel
theorem dX9_digest_109 : decode cX9_digest 109 = .ok (.if_icmp .eq 34, 3) := by decide +kernel
theorem dX9_digest_112 : decode cX9_digest 112 = .ok (.aload_n 0, 1) := by decide +kernel
theorem dX9_digest_113 : decode cX9_digest 113 = .ok (.invokevirtual 180, 3) := by decide +kernel
theorem dX9_digest_116 : decode cX9_digest 116 = .ok (.ifCond .ne 27, 3) := by decide +kernel
theorem dX9_digest_119 : decode cX9_digest 119 = .ok (.aload_n 0, 1) := by decide +kernel
theorem dX9_digest_120 : decode cX9_digest 120 = .ok (.aload_n 0, 1) := by decide +kernel
theorem dX9_digest_121 : decode cX9_digest 121 = .ok (.getfield 32, 3) := by decide +kernel
theorem dX9_digest_124 : decode cX9_digest 124 = .ok (.iload_n 3, 1) := by decide +kernel
theorem dX9_digest_125 : decode cX9_digest 125 = .ok (.aaload, 1) := by decide +kernel
theorem dX9_digest_126 : decode cX9_digest 126 = .ok (.invokevirtual 184, 3) := by decide +kernel
theorem dX9_digest_129 : decode cX9_digest 129 = .ok (.lload_n 1, 1) := by decide +kernel
theorem dX9_digest_130 : decode cX9_digest 130 = .ok (.aload_n 0, 1) := by decide +kernel
theorem dX9_digest_131 : decode cX9_digest 131 = .ok (.getfield 81, 3) := by decide +kernel
theorem dX9_digest_134 : decode cX9_digest 134 = .ok (.getfield 188, 3) := by decide +kernel
theorem dX9_digest_137 : decode cX9_digest 137 = .ok (.bipush 7, 2) := by decide +kernel
theorem dX9_digest_139 : decode cX9_digest 139 = .ok (.invokestatic 314, 3) := by decide +kernel
theorem dX9_digest_142 : decode cX9_digest 142 = .ok (.lstore_n 1, 1) := by decide +kernel
theorem dX9_digest_143 : decode cX9_digest 143 = .ok (.iinc 3 1, 3) := by decide +kernel
theorem dX9_digest_146 : decode cX9_digest 146 = .ok (.goto (-89), 3) := by decide +kernel
theorem dX9_digest_149 : decode cX9_digest 149 = .ok (.lload_n 1, 1) := by decide +kernel
theorem dX9_digest_150 : decode cX9_digest 150 = .ok (.aload_n 0, 1) := by decide +kernel
theorem dX9_digest_151 : decode cX9_digest 151 = .ok (.getfield 36, 3) := by decide +kernel
theorem dX9_digest_154 : decode cX9_digest 154 = .ok (.bipush 12, 2) := by decide +kernel
theorem dX9_digest_156 : decode cX9_digest 156 = .ok (.invokestatic 314, 3) := by decide +kernel
theorem dX9_digest_159 : decode cX9_digest 159 = .ok (.lstore_n 1, 1) := by decide +kernel
theorem dX9_digest_160 : decode cX9_digest 160 = .ok (.lload_n 1, 1) := by decide +kernel
theorem dX9_digest_161 : decode cX9_digest 161 = .ok (.aload_n 0, 1) := by decide +kernel
theorem dX9_digest_162 : decode cX9_digest 162 = .ok (.getfield 12, 3) := by decide +kernel
theorem dX9_digest_165 : decode cX9_digest 165 = .ok (.getfield 320, 3) := by decide +kernel
theorem dX9_digest_168 : decode cX9_digest 168 = .ok (.aload_n 0, 1) := by decide +kernel
theorem dX9_digest_169 : decode cX9_digest 169 = .ok (.getfield 12, 3) := by decide +kernel
theorem dX9_digest_172 : decode cX9_digest 172 = .ok (.getfield 96, 3) := by decide +kernel
theorem dX9_digest_175 : decode cX9_digest 175 = .ok (.invokestatic 314, 3) := by decide +kernel
theorem dX9_digest_178 : decode cX9_digest 178 = .ok (.lstore_n 1, 1) := by decide +kernel
theorem dX9_digest_179 : decode cX9_digest 179 = .ok (.iconst 0, 1) := by decide +kernel
theorem dX9_digest_180 : decode cX9_digest 180 = .ok (.istore_n 3, 1) := by decide +kernel
theorem dX9_digest_181 : decode cX9_digest 181 = .ok (.iload_n 3, 1) := by decide +kernel
theorem dX9_digest_182 : decode cX9_digest 182 = .ok (.bipush 7, 2) := by decide +kernel
theorem dX9_digest_184 : decode cX9_digest 184 = .ok (.if_icmp .gt 22, 3) := by decide +kernel
theorem dX9_digest_187 : decode cX9_digest 187 = .ok (.ldc2_w 318, 3) := by decide +kernel
theorem dX9_digest_190 : decode cX9_digest 190 = .ok (.lload_n 1, 1) := by decide +kernel
theorem dX9_digest_191 : decode cX9_digest 191 = .ok (.lmul, 1) := by decide +kernel
theorem dX9_digest_192 : decode cX9_digest 192 = .ok (.aload_n 0, 1) := by decide +kernel
theorem dX9_digest_193 : decode cX9_digest 193 = .ok (.iload_n 3, 1) := by decide +kernel
theorem dX9_digest_194 : decode cX9_digest 194 = .ok (.invokevirtual 323, 3) := by decide +kernel
theorem dX9_digest_197 : decode cX9_digest 197 = .ok (.i2l, 1) := by decide +kernel
theorem dX9_digest_198 : decode cX9_digest 198 = .ok (.ladd, 1) := by decide +kernel
theorem dX9_digest_199 : decode cX9_digest 199 = .ok (.lstore_n 1, 1) := by decide +kernel
theorem dX9_digest_200 : decode cX9_digest 200 = .ok (.iinc 3 1, 3) := by decide +kernel
theorem dX9_digest_203 : decode cX9_digest 203 = .ok (.goto (-22), 3) := by decide +kernel
theorem dX9_digest_206 : decode cX9_digest 206 = .ok (.lload_n 1, 1) := by decide +kernel
theorem dX9_digest_207 : decode cX9_digest 207 = .ok (.lreturn, 1) := by decide +kernel
theorem dX9_digestRow_0 : decode cX9_digestRow 0 = .ok (.iconst 0, 1) := by decide +kernel
theorem dX9_digestRow_1 : decode cX9_digestRow 1 = .ok (.istore 4, 2) := by decide +kernel
theorem dX9_digestRow_3 : decode cX9_digestRow 3 = .ok (.iload 4, 2) := by decide +kernel
theorem dX9_digestRow_5 : decode cX9_digestRow 5 = .ok (.iload_n 3, 1) := by decide +kernel
theorem dX9_digestRow_6 : decode cX9_digestRow 6 = .ok (.if_icmp .ge 28, 3) := by decide +kernel
theorem dX9_digestRow_9 : decode cX9_digestRow 9 = .ok (.iload 4, 2) := by decide +kernel
theorem dX9_digestRow_11 : decode cX9_digestRow 11 = .ok (.aload_n 2, 1) := by decide +kernel
theorem dX9_digestRow_12 : decode cX9_digestRow 12 = .ok (.arraylength, 1) := by decide +kernel
theorem dX9_digestRow_13 : decode cX9_digestRow 13 = .ok (.if_icmp .ge 21, 3) := by decide +kernel
theorem dX9_digestRow_16 : decode cX9_digestRow 16 = .ok (.ldc2_w 318, 3) := by decide +kernel
theorem dX9_digestRow_19 : decode cX9_digestRow 19 = .ok (.lload_n 0, 1) := by decide +kernel
theorem dX9_digestRow_20 : decode cX9_digestRow 20 = .ok (.lmul, 1) := by decide +kernel
theorem dX9_digestRow_21 : decode cX9_digestRow 21 = .ok (.aload_n 2, 1) := by decide +kernel
theorem dX9_digestRow_22 : decode cX9_digestRow 22 = .ok (.iload 4, 2) := by decide +kernel
theorem dX9_digestRow_24 : decode cX9_digestRow 24 = .ok (.iaload, 1) := by decide +kernel
theorem dX9_digestRow_25 : decode cX9_digestRow 25 = .ok (.i2l, 1) := by decide +kernel
theorem dX9_digestRow_26 : decode cX9_digestRow 26 = .ok (.ladd, 1) := by decide +kernel
theorem dX9_digestRow_27 : decode cX9_digestRow 27 = .ok (.lstore_n 0, 1) := by decide +kernel
theorem dX9_digestRow_28 : decode cX9_digestRow 28 = .ok (.iinc 4 1, 3) := by decide +kernel
theorem dX9_digestRow_31 : decode cX9_digestRow 31 = .ok (.goto (-28), 3) := by decide +kernel
theorem dX9_digestRow_34 : decode cX9_digestRow 34 = .ok (.lload_n 0, 1) := by decide +kernel
theorem dX9_digestRow_35 : decode cX9_digestRow 35 = .ok (.lreturn, 1) := by decide +kernel
theorem dX9_stateOf_0 : decode cX9_stateOf 0 = .ok (.iconst 2, 1) := by decide +kernel
theorem dX9_stateOf_1 : decode cX9_stateOf 1 = .ok (.iload_n 0, 1) := by decide +kernel
theorem dX9_stateOf_2 : decode cX9_stateOf 2 = .ok (.imul, 1) := by decide +kernel
theorem dX9_stateOf_3 : decode cX9_stateOf 3 = .ok (.iload_n 1, 1) := by decide +kernel
theorem dX9_stateOf_4 : decode cX9_stateOf 4 = .ok (.ifCond .eq 7, 3) := by decide +kernel
theorem dX9_stateOf_7 : decode cX9_stateOf 7 = .ok (.iconst 1, 1) := by decide +kernel
theorem dX9_stateOf_8 : decode cX9_stateOf 8 = .ok (.goto 4, 3) := by decide +kernel
theorem dX9_stateOf_11 : decode cX9_stateOf 11 = .ok (.iconst 0, 1) := by decide +kernel
theorem dX9_stateOf_12 : decode cX9_stateOf 12 = .ok (.iadd, 1) := by decide +kernel
theorem dX9_stateOf_13 : decode cX9_stateOf 13 = .ok (.ireturn, 1) := by decide +kernel
theorem dX9_stateBehindLeak_0 : decode cX9_stateBehindLeak 0 = .ok (.aload_n 0, 1) := by decide +kernel
theorem dX9_stateBehindLeak_1 : decode cX9_stateBehindLeak 1 = .ok (.getfield 158, 3) := by decide +kernel
theorem dX9_stateBehindLeak_4 : decode cX9_stateBehindLeak 4 = .ok (.iconst 1, 1) := by decide +kernel
theorem dX9_stateBehindLeak_5 : decode cX9_stateBehindLeak 5 = .ok (.iaload, 1) := by decide +kernel
theorem dX9_stateBehindLeak_6 : decode cX9_stateBehindLeak 6 = .ok (.istore_n 3, 1) := by decide +kernel
theorem dX9_stateBehindLeak_7 : decode cX9_stateBehindLeak 7 = .ok (.iload_n 1, 1) := by decide +kernel
theorem dX9_stateBehindLeak_8 : decode cX9_stateBehindLeak 8 = .ok (.iconst 1, 1) := by decide +kernel
theorem dX9_stateBehindLeak_9 : decode cX9_stateBehindLeak 9 = .ok (.ishr, 1) := by decide +kernel
theorem dX9_stateBehindLeak_10 : decode cX9_stateBehindLeak 10 = .ok (.aload_n 0, 1) := by decide +kernel
theorem dX9_stateBehindLeak_11 : decode cX9_stateBehindLeak 11 = .ok (.getfield 325, 3) := by decide +kernel
theorem dX9_stateBehindLeak_14 : decode cX9_stateBehindLeak 14 = .ok (.bipush 10, 2) := by decide +kernel
theorem dX9_stateBehindLeak_16 : decode cX9_stateBehindLeak 16 = .ok (.iload_n 1, 1) := by decide +kernel
theorem dX9_stateBehindLeak_17 : decode cX9_stateBehindLeak 17 = .ok (.iconst 1, 1) := by decide +kernel
theorem dX9_stateBehindLeak_18 : decode cX9_stateBehindLeak 18 = .ok (.iand, 1) := by decide +kernel
theorem dX9_stateBehindLeak_19 : decode cX9_stateBehindLeak 19 = .ok (.imul, 1) := by decide +kernel
theorem dX9_stateBehindLeak_20 : decode cX9_stateBehindLeak 20 = .ok (.iload_n 2, 1) := by decide +kernel
theorem dX9_stateBehindLeak_21 : decode cX9_stateBehindLeak 21 = .ok (.iadd, 1) := by decide +kernel
theorem dX9_stateBehindLeak_22 : decode cX9_stateBehindLeak 22 = .ok (.iaload, 1) := by decide +kernel
theorem dX9_stateBehindLeak_23 : decode cX9_stateBehindLeak 23 = .ok (.iadd, 1) := by decide +kernel
theorem dX9_stateBehindLeak_24 : decode cX9_stateBehindLeak 24 = .ok (.istore 4, 2) := by decide +kernel
theorem dX9_stateBehindLeak_26 : decode cX9_stateBehindLeak 26 = .ok (.iload 4, 2) := by decide +kernel
theorem dX9_stateBehindLeak_28 : decode cX9_stateBehindLeak 28 = .ok (.iload_n 3, 1) := by decide +kernel
theorem dX9_stateBehindLeak_29 : decode cX9_stateBehindLeak 29 = .ok (.if_icmp .le 7, 3) := by decide +kernel
theorem dX9_stateBehindLeak_32 : decode cX9_stateBehindLeak 32 = .ok (.iload_n 3, 1) := by decide +kernel
theorem dX9_stateBehindLeak_33 : decode cX9_stateBehindLeak 33 = .ok (.goto 5, 3) := by decide +kernel
theorem dX9_stateBehindLeak_36 : decode cX9_stateBehindLeak 36 = .ok (.iload 4, 2) := by decide +kernel
theorem dX9_stateBehindLeak_38 : decode cX9_stateBehindLeak 38 = .ok (.aload_n 0, 1) := by decide +kernel
theorem dX9_stateBehindLeak_39 : decode cX9_stateBehindLeak 39 = .ok (.getfield 158, 3) := by decide +kernel
theorem dX9_stateBehindLeak_42 : decode cX9_stateBehindLeak 42 = .ok (.iconst 4, 1) := by decide +kernel
theorem dX9_stateBehindLeak_43 : decode cX9_stateBehindLeak 43 = .ok (.iaload, 1) := by decide +kernel
theorem dX9_stateBehindLeak_44 : decode cX9_stateBehindLeak 44 = .ok (.isub, 1) := by decide +kernel
theorem dX9_stateBehindLeak_45 : decode cX9_stateBehindLeak 45 = .ok (.istore 4, 2) := by decide +kernel
theorem dX9_stateBehindLeak_47 : decode cX9_stateBehindLeak 47 = .ok (.iload 4, 2) := by decide +kernel
theorem dX9_stateBehindLeak_49 : decode cX9_stateBehindLeak 49 = .ok (.ifCond .ge 7, 3) := by decide +kernel
theorem dX9_stateBehindLeak_52 : decode cX9_stateBehindLeak 52 = .ok (.iconst 0, 1) := by decide +kernel
theorem dX9_stateBehindLeak_53 : decode cX9_stateBehindLeak 53 = .ok (.goto 7, 3) := by decide +kernel
theorem dX9_stateBehindLeak_56 : decode cX9_stateBehindLeak 56 = .ok (.iconst 2, 1) := by decide +kernel
theorem dX9_stateBehindLeak_57 : decode cX9_stateBehindLeak 57 = .ok (.iload 4, 2) := by decide +kernel
theorem dX9_stateBehindLeak_59 : decode cX9_stateBehindLeak 59 = .ok (.imul, 1) := by decide +kernel
theorem dX9_stateBehindLeak_60 : decode cX9_stateBehindLeak 60 = .ok (.iload_n 2, 1) := by decide +kernel
theorem dX9_stateBehindLeak_61 : decode cX9_stateBehindLeak 61 = .ok (.ifCond .le 7, 3) := by decide +kernel
theorem dX9_stateBehindLeak_64 : decode cX9_stateBehindLeak 64 = .ok (.iconst 1, 1) := by decide +kernel
theorem dX9_stateBehindLeak_65 : decode cX9_stateBehindLeak 65 = .ok (.goto 4, 3) := by decide +kernel
theorem dX9_stateBehindLeak_68 : decode cX9_stateBehindLeak 68 = .ok (.iconst 0, 1) := by decide +kernel
theorem dX9_stateBehindLeak_69 : decode cX9_stateBehindLeak 69 = .ok (.iadd, 1) := by decide +kernel
theorem dX9_stateBehindLeak_70 : decode cX9_stateBehindLeak 70 = .ok (.ireturn, 1) := by decide +kernel
theorem dX9_isNoMonth_0 : decode cX9_isNoMonth 0 = .ok (.iload_n 0, 1) := by decide +kernel
theorem dX9_isNoMonth_1 : decode cX9_isNoMonth 1 = .ok (.ifCond .lt 9, 3) := by decide +kernel
theorem dX9_isNoMonth_4 : decode cX9_isNoMonth 4 = .ok (.iload_n 0, 1) := by decide +kernel
theorem dX9_isNoMonth_5 : decode cX9_isNoMonth 5 = .ok (.bipush 12, 2) := by decide +kernel
theorem dX9_isNoMonth_7 : decode cX9_isNoMonth 7 = .ok (.if_icmp .lt 7, 3) := by decide +kernel
theorem dX9_isNoMonth_10 : decode cX9_isNoMonth 10 = .ok (.iconst 1, 1) := by decide +kernel
theorem dX9_isNoMonth_11 : decode cX9_isNoMonth 11 = .ok (.goto 4, 3) := by decide +kernel
theorem dX9_isNoMonth_14 : decode cX9_isNoMonth 14 = .ok (.iconst 0, 1) := by decide +kernel
theorem dX9_isNoMonth_15 : decode cX9_isNoMonth 15 = .ok (.ireturn, 1) := by decide +kernel
theorem dX9_isNoPrice_0 : decode cX9_isNoPrice 0 = .ok (.iload_n 0, 1) := by decide +kernel
theorem dX9_isNoPrice_1 : decode cX9_isNoPrice 1 = .ok (.ifCond .lt 9, 3) := by decide +kernel
theorem dX9_isNoPrice_4 : decode cX9_isNoPrice 4 = .ok (.iload_n 0, 1) := by decide +kernel
theorem dX9_isNoPrice_5 : decode cX9_isNoPrice 5 = .ok (.bipush 99, 2) := by decide +kernel
theorem dX9_isNoPrice_7 : decode cX9_isNoPrice 7 = .ok (.if_icmp .le 7, 3) := by decide +kernel
theorem dX9_isNoPrice_10 : decode cX9_isNoPrice 10 = .ok (.iconst 1, 1) := by decide +kernel
theorem dX9_isNoPrice_11 : decode cX9_isNoPrice 11 = .ok (.goto 4, 3) := by decide +kernel
theorem dX9_isNoPrice_14 : decode cX9_isNoPrice 14 = .ok (.iconst 0, 1) := by decide +kernel
theorem dX9_isNoPrice_15 : decode cX9_isNoPrice 15 = .ok (.ireturn, 1) := by decide +kernel
theorem dX9_isNoRule_0 : decode cX9_isNoRule 0 = .ok (.iload_n 1, 1) := by decide +kernel
theorem dX9_isNoRule_1 : decode cX9_isNoRule 1 = .ok (.ifCond .lt 11, 3) := by decide +kernel
theorem dX9_isNoRule_4 : decode cX9_isNoRule 4 = .ok (.iload_n 1, 1) := by decide +kernel
theorem dX9_isNoRule_5 : decode cX9_isNoRule 5 = .ok (.aload_n 0, 1) := by decide +kernel
theorem dX9_isNoRule_6 : decode cX9_isNoRule 6 = .ok (.getfield 140, 3) := by decide +kernel
theorem dX9_isNoRule_9 : decode cX9_isNoRule 9 = .ok (.if_icmp .lt 7, 3) := by decide +kernel
theorem dX9_isNoRule_12 : decode cX9_isNoRule 12 = .ok (.iconst 1, 1) := by decide +kernel
theorem dX9_isNoRule_13 : decode cX9_isNoRule 13 = .ok (.goto 4, 3) := by decide +kernel
theorem dX9_isNoRule_16 : decode cX9_isNoRule 16 = .ok (.iconst 0, 1) := by decide +kernel
theorem dX9_isNoRule_17 : decode cX9_isNoRule 17 = .ok (.ireturn, 1) := by decide +kernel
theorem dX9_isNoYear_0 : decode cX9_isNoYear 0 = .ok (.iload_n 1, 1) := by decide +kernel
theorem dX9_isNoYear_1 : decode cX9_isNoYear 1 = .ok (.ifCond .lt 14, 3) := by decide +kernel
theorem dX9_isNoYear_4 : decode cX9_isNoYear 4 = .ok (.iload_n 1, 1) := by decide +kernel
theorem dX9_isNoYear_5 : decode cX9_isNoYear 5 = .ok (.aload_n 0, 1) := by decide +kernel
theorem dX9_isNoYear_6 : decode cX9_isNoYear 6 = .ok (.getfield 26, 3) := by decide +kernel
theorem dX9_isNoYear_9 : decode cX9_isNoYear 9 = .ok (.getfield 124, 3) := by decide +kernel
theorem dX9_isNoYear_12 : decode cX9_isNoYear 12 = .ok (.if_icmp .lt 7, 3) := by decide +kernel
theorem dX9_isNoYear_15 : decode cX9_isNoYear 15 = .ok (.iconst 1, 1) := by decide +kernel
theorem dX9_isNoYear_16 : decode cX9_isNoYear 16 = .ok (.goto 4, 3) := by decide +kernel
theorem dX9_isNoYear_19 : decode cX9_isNoYear 19 = .ok (.iconst 0, 1) := by decide +kernel
theorem dX9_isNoYear_20 : decode cX9_isNoYear 20 = .ok (.ireturn, 1) := by decide +kernel
theorem dX9_lacksHouseOrYear_0 : decode cX9_lacksHouseOrYear 0 = .ok (.aload_n 0, 1) := by decide +kernel
theorem dX9_lacksHouseOrYear_1 : decode cX9_lacksHouseOrYear 1 = .ok (.getfield 115, 3) := by decide +kernel
theorem dX9_lacksHouseOrYear_4 : decode cX9_lacksHouseOrYear 4 = .ok (.ifCond .eq 13, 3) := by decide +kernel
theorem dX9_lacksHouseOrYear_7 : decode cX9_lacksHouseOrYear 7 = .ok (.aload_n 0, 1) := by decide +kernel
theorem dX9_lacksHouseOrYear_8 : decode cX9_lacksHouseOrYear 8 = .ok (.getfield 26, 3) := by decide +kernel
theorem dX9_lacksHouseOrYear_11 : decode cX9_lacksHouseOrYear 11 = .ok (.getfield 124, 3) := by decide +kernel
theorem dX9_lacksHouseOrYear_14 : decode cX9_lacksHouseOrYear 14 = .ok (.ifCond .ne 7, 3) := by decide +kernel
theorem dX9_lacksHouseOrYear_17 : decode cX9_lacksHouseOrYear 17 = .ok (.iconst 1, 1) := by decide +kernel
theorem dX9_lacksHouseOrYear_18 : decode cX9_lacksHouseOrYear 18 = .ok (.goto 4, 3) := by decide +kernel
theorem dX9_lacksHouseOrYear_21 : decode cX9_lacksHouseOrYear 21 = .ok (.iconst 0, 1) := by decide +kernel
theorem dX9_lacksHouseOrYear_22 : decode cX9_lacksHouseOrYear 22 = .ok (.ireturn, 1) := by decide +kernel
theorem dX9_readingsKept_0 : decode cX9_readingsKept 0 = .ok (.iconst 0, 1) := by decide +kernel
theorem dX9_readingsKept_1 : decode cX9_readingsKept 1 = .ok (.istore_n 1, 1) := by decide +kernel
theorem dX9_readingsKept_2 : decode cX9_readingsKept 2 = .ok (.iconst 0, 1) := by decide +kernel
theorem dX9_readingsKept_3 : decode cX9_readingsKept 3 = .ok (.istore_n 2, 1) := by decide +kernel
theorem dX9_readingsKept_4 : decode cX9_readingsKept 4 = .ok (.iload_n 2, 1) := by decide +kernel
theorem dX9_readingsKept_5 : decode cX9_readingsKept 5 = .ok (.bipush 12, 2) := by decide +kernel
theorem dX9_readingsKept_7 : decode cX9_readingsKept 7 = .ok (.if_icmp .ge 22, 3) := by decide +kernel
theorem dX9_readingsKept_10 : decode cX9_readingsKept 10 = .ok (.aload_n 0, 1) := by decide +kernel
theorem dX9_readingsKept_11 : decode cX9_readingsKept 11 = .ok (.getfield 36, 3) := by decide +kernel
theorem dX9_readingsKept_14 : decode cX9_readingsKept 14 = .ok (.iload_n 2, 1) := by decide +kernel
theorem dX9_readingsKept_15 : decode cX9_readingsKept 15 = .ok (.iaload, 1) := by decide +kernel
theorem dX9_readingsKept_16 : decode cX9_readingsKept 16 = .ok (.iconst (-1), 1) := by decide +kernel
theorem dX9_readingsKept_17 : decode cX9_readingsKept 17 = .ok (.if_icmp .eq 6, 3) := by decide +kernel
theorem dX9_readingsKept_20 : decode cX9_readingsKept 20 = .ok (.iinc 1 1, 3) := by decide +kernel
theorem dX9_readingsKept_23 : decode cX9_readingsKept 23 = .ok (.iinc 2 1, 3) := by decide +kernel
theorem dX9_readingsKept_26 : decode cX9_readingsKept 26 = .ok (.goto (-22), 3) := by decide +kernel
theorem dX9_readingsKept_29 : decode cX9_readingsKept 29 = .ok (.iload_n 1, 1) := by decide +kernel
theorem dX9_readingsKept_30 : decode cX9_readingsKept 30 = .ok (.ireturn, 1) := by decide +kernel
theorem dX9_makeWise_0 : decode cX9_makeWise 0 = .ok (.aload_n 1, 1) := by decide +kernel
theorem dX9_makeWise_1 : decode cX9_makeWise 1 = .ok (.getfield 143, 3) := by decide +kernel
theorem dX9_makeWise_4 : decode cX9_makeWise 4 = .ok (.iconst 3, 1) := by decide +kernel
theorem dX9_makeWise_5 : decode cX9_makeWise 5 = .ok (.if_icmp .ne 14, 3) := by decide +kernel
theorem dX9_makeWise_8 : decode cX9_makeWise 8 = .ok (.aload_n 0, 1) := by decide +kernel
theorem dX9_makeWise_9 : decode cX9_makeWise 9 = .ok (.getfield 63, 3) := by decide +kernel
theorem dX9_makeWise_12 : decode cX9_makeWise 12 = .ok (.aload_n 0, 1) := by decide +kernel
theorem dX9_makeWise_13 : decode cX9_makeWise 13 = .ok (.getfield 118, 3) := by decide +kernel
theorem dX9_makeWise_16 : decode cX9_makeWise 16 = .ok (.invokevirtual 262, 3) := by decide +kernel
theorem dX9_makeWise_19 : decode cX9_makeWise 19 = .ok (.return_, 1) := by decide +kernel
theorem dX9_passAllYears_0 : decode cX9_passAllYears 0 = .ok (.aload_n 0, 1) := by decide +kernel
theorem dX9_passAllYears_1 : decode cX9_passAllYears 1 = .ok (.aload_n 1, 1) := by decide +kernel
theorem dX9_passAllYears_2 : decode cX9_passAllYears 2 = .ok (.invokevirtual 194, 3) := by decide +kernel
theorem dX9_passAllYears_5 : decode cX9_passAllYears 5 = .ok (.aload_n 0, 1) := by decide +kernel
theorem dX9_passAllYears_6 : decode cX9_passAllYears 6 = .ok (.getfield 81, 3) := by decide +kernel
theorem dX9_passAllYears_9 : decode cX9_passAllYears 9 = .ok (.aload_n 1, 1) := by decide +kernel
theorem dX9_passAllYears_10 : decode cX9_passAllYears 10 = .ok (.aload_n 0, 1) := by decide +kernel
theorem dX9_passAllYears_11 : decode cX9_passAllYears 11 = .ok (.getfield 19, 3) := by decide +kernel
theorem dX9_passAllYears_14 : decode cX9_passAllYears 14 = .ok (.getfield 158, 3) := by decide +kernel
theorem dX9_passAllYears_17 : decode cX9_passAllYears 17 = .ok (.iconst 0, 1) := by decide +kernel
theorem dX9_passAllYears_18 : decode cX9_passAllYears 18 = .ok (.iaload, 1) := by decide +kernel
theorem dX9_passAllYears_19 : decode cX9_passAllYears 19 = .ok (.aload_n 0, 1) := by decide +kernel
theorem dX9_passAllYears_20 : decode cX9_passAllYears 20 = .ok (.getfield 19, 3) := by decide +kernel
theorem dX9_passAllYears_23 : decode cX9_passAllYears 23 = .ok (.getfield 158, 3) := by decide +kernel
theorem dX9_passAllYears_26 : decode cX9_passAllYears 26 = .ok (.iconst 1, 1) := by decide +kernel
theorem dX9_passAllYears_27 : decode cX9_passAllYears 27 = .ok (.iaload, 1) := by decide +kernel
theorem dX9_passAllYears_28 : decode cX9_passAllYears 28 = .ok (.invokevirtual 209, 3) := by decide +kernel
theorem dX9_passAllYears_31 : decode cX9_passAllYears 31 = .ok (.return_, 1) := by decide +kernel
theorem dX9_inLowestTerms_0 : decode cX9_inLowestTerms 0 = .ok (.lconst 1, 1) := by decide +kernel
theorem dX9_inLowestTerms_1 : decode cX9_inLowestTerms 1 = .ok (.lstore 4, 2) := by decide +kernel
theorem dX9_inLowestTerms_3 : decode cX9_inLowestTerms 3 = .ok (.iconst 0, 1) := by decide +kernel
theorem dX9_inLowestTerms_4 : decode cX9_inLowestTerms 4 = .ok (.istore 6, 2) := by decide +kernel
theorem dX9_inLowestTerms_6 : decode cX9_inLowestTerms 6 = .ok (.iload 6, 2) := by decide +kernel
theorem dX9_inLowestTerms_8 : decode cX9_inLowestTerms 8 = .ok (.bipush 12, 2) := by decide +kernel
theorem dX9_inLowestTerms_10 : decode cX9_inLowestTerms 10 = .ok (.if_icmp .ge 22, 3) := by decide +kernel
theorem dX9_inLowestTerms_13 : decode cX9_inLowestTerms 13 = .ok (.lload 4, 2) := by decide +kernel
theorem dX9_inLowestTerms_15 : decode cX9_inLowestTerms 15 = .ok (.aload_n 0, 1) := by decide +kernel
theorem dX9_inLowestTerms_16 : decode cX9_inLowestTerms 16 = .ok (.getfield 26, 3) := by decide +kernel
theorem dX9_inLowestTerms_19 : decode cX9_inLowestTerms 19 = .ok (.getfield 124, 3) := by decide +kernel
theorem dX9_inLowestTerms_22 : decode cX9_inLowestTerms 22 = .ok (.i2l, 1) := by decide +kernel
theorem dX9_inLowestTerms_23 : decode cX9_inLowestTerms 23 = .ok (.lmul, 1) := by decide +kernel
theorem dX9_inLowestTerms_24 : decode cX9_inLowestTerms 24 = .ok (.lstore 4, 2) := by decide +kernel
theorem dX9_inLowestTerms_26 : decode cX9_inLowestTerms 26 = .ok (.iinc 6 1, 3) := by decide +kernel
theorem dX9_inLowestTerms_29 : decode cX9_inLowestTerms 29 = .ok (.goto (-23), 3) := by decide +kernel
theorem dX9_inLowestTerms_32 : decode cX9_inLowestTerms 32 = .ok (.lload_n 1, 1) := by decide +kernel
theorem dX9_inLowestTerms_33 : decode cX9_inLowestTerms 33 = .ok (.lstore 6, 2) := by decide +kernel
theorem dX9_inLowestTerms_35 : decode cX9_inLowestTerms 35 = .ok (.lload 4, 2) := by decide +kernel
theorem dX9_inLowestTerms_37 : decode cX9_inLowestTerms 37 = .ok (.lstore 8, 2) := by decide +kernel
theorem dX9_inLowestTerms_39 : decode cX9_inLowestTerms 39 = .ok (.iconst 0, 1) := by decide +kernel
theorem dX9_inLowestTerms_40 : decode cX9_inLowestTerms 40 = .ok (.istore 10, 2) := by decide +kernel
theorem dX9_inLowestTerms_42 : decode cX9_inLowestTerms 42 = .ok (.iload 10, 2) := by decide +kernel
theorem dX9_inLowestTerms_44 : decode cX9_inLowestTerms 44 = .ok (.sipush 200, 3) := by decide +kernel
theorem dX9_inLowestTerms_47 : decode cX9_inLowestTerms 47 = .ok (.if_icmp .ge 31, 3) := by decide +kernel
theorem dX9_inLowestTerms_50 : decode cX9_inLowestTerms 50 = .ok (.lload 8, 2) := by decide +kernel
theorem dX9_inLowestTerms_52 : decode cX9_inLowestTerms 52 = .ok (.lconst 0, 1) := by decide +kernel
theorem dX9_inLowestTerms_53 : decode cX9_inLowestTerms 53 = .ok (.lcmp, 1) := by decide +kernel
theorem dX9_inLowestTerms_54 : decode cX9_inLowestTerms 54 = .ok (.ifCond .eq 24, 3) := by decide +kernel
theorem dX9_inLowestTerms_57 : decode cX9_inLowestTerms 57 = .ok (.lload 6, 2) := by decide +kernel
theorem dX9_inLowestTerms_59 : decode cX9_inLowestTerms 59 = .ok (.lload 8, 2) := by decide +kernel
theorem dX9_inLowestTerms_61 : decode cX9_inLowestTerms 61 = .ok (.lrem, 1) := by decide +kernel
theorem dX9_inLowestTerms_62 : decode cX9_inLowestTerms 62 = .ok (.lstore 11, 2) := by decide +kernel
theorem dX9_inLowestTerms_64 : decode cX9_inLowestTerms 64 = .ok (.lload 8, 2) := by decide +kernel
theorem dX9_inLowestTerms_66 : decode cX9_inLowestTerms 66 = .ok (.lstore 6, 2) := by decide +kernel
theorem dX9_inLowestTerms_68 : decode cX9_inLowestTerms 68 = .ok (.lload 11, 2) := by decide +kernel
theorem dX9_inLowestTerms_70 : decode cX9_inLowestTerms 70 = .ok (.lstore 8, 2) := by decide +kernel
theorem dX9_inLowestTerms_72 : decode cX9_inLowestTerms 72 = .ok (.iinc 10 1, 3) := by decide +kernel
theorem dX9_inLowestTerms_75 : decode cX9_inLowestTerms 75 = .ok (.goto (-33), 3) := by decide +kernel
theorem dX9_inLowestTerms_78 : decode cX9_inLowestTerms 78 = .ok (.iload_n 3, 1) := by decide +kernel
theorem dX9_inLowestTerms_79 : decode cX9_inLowestTerms 79 = .ok (.ifCond .ne 7, 3) := by decide +kernel
theorem dX9_inLowestTerms_82 : decode cX9_inLowestTerms 82 = .ok (.lload_n 1, 1) := by decide +kernel
theorem dX9_inLowestTerms_83 : decode cX9_inLowestTerms 83 = .ok (.goto 5, 3) := by decide +kernel
theorem dX9_inLowestTerms_86 : decode cX9_inLowestTerms 86 = .ok (.lload 4, 2) := by decide +kernel
theorem dX9_inLowestTerms_88 : decode cX9_inLowestTerms 88 = .ok (.lstore 10, 2) := by decide +kernel
theorem dX9_inLowestTerms_90 : decode cX9_inLowestTerms 90 = .ok (.lload 6, 2) := by decide +kernel
theorem dX9_inLowestTerms_92 : decode cX9_inLowestTerms 92 = .ok (.lconst 0, 1) := by decide +kernel
theorem dX9_inLowestTerms_93 : decode cX9_inLowestTerms 93 = .ok (.lcmp, 1) := by decide +kernel
theorem dX9_inLowestTerms_94 : decode cX9_inLowestTerms 94 = .ok (.ifCond .ne 8, 3) := by decide +kernel
theorem dX9_inLowestTerms_97 : decode cX9_inLowestTerms 97 = .ok (.lload 10, 2) := by decide +kernel
theorem dX9_inLowestTerms_99 : decode cX9_inLowestTerms 99 = .ok (.goto 8, 3) := by decide +kernel
theorem dX9_inLowestTerms_102 : decode cX9_inLowestTerms 102 = .ok (.lload 10, 2) := by decide +kernel
theorem dX9_inLowestTerms_104 : decode cX9_inLowestTerms 104 = .ok (.lload 6, 2) := by decide +kernel
theorem dX9_inLowestTerms_106 : decode cX9_inLowestTerms 106 = .ok (.ldiv, 1) := by decide +kernel
theorem dX9_inLowestTerms_107 : decode cX9_inLowestTerms 107 = .ok (.lreturn, 1) := by decide +kernel
theorem dX10_init_0 : decode cX10_init 0 = .ok (.aload_n 0, 1) := by decide +kernel
theorem dX10_init_1 : decode cX10_init 1 = .ok (.invokespecial 1, 3) := by decide +kernel
theorem dX10_init_4 : decode cX10_init 4 = .ok (.aload_n 0, 1) := by decide +kernel
theorem dX10_init_5 : decode cX10_init 5 = .ok (.bipush 60, 2) := by decide +kernel
theorem dX10_init_7 : decode cX10_init 7 = .ok (.newarray .int, 2) := by decide +kernel
theorem dX10_init_9 : decode cX10_init 9 = .ok (.putfield 7, 3) := by decide +kernel
theorem dX10_init_12 : decode cX10_init 12 = .ok (.aload_n 0, 1) := by decide +kernel
theorem dX10_init_13 : decode cX10_init 13 = .ok (.bipush 16, 2) := by decide +kernel
theorem dX10_init_15 : decode cX10_init 15 = .ok (.newarray .int, 2) := by decide +kernel
theorem dX10_init_17 : decode cX10_init 17 = .ok (.putfield 13, 3) := by decide +kernel
theorem dX10_init_20 : decode cX10_init 20 = .ok (.aload_n 0, 1) := by decide +kernel
theorem dX10_init_21 : decode cX10_init 21 = .ok (.bipush 12, 2) := by decide +kernel
theorem dX10_init_23 : decode cX10_init 23 = .ok (.newarray .int, 2) := by decide +kernel
theorem dX10_init_25 : decode cX10_init 25 = .ok (.putfield 16, 3) := by decide +kernel
theorem dX10_init_28 : decode cX10_init 28 = .ok (.aload_n 0, 1) := by decide +kernel
theorem dX10_init_29 : decode cX10_init 29 = .ok (.bipush 16, 2) := by decide +kernel
theorem dX10_init_31 : decode cX10_init 31 = .ok (.newarray .int, 2) := by decide +kernel
theorem dX10_init_33 : decode cX10_init 33 = .ok (.putfield 19, 3) := by decide +kernel
theorem dX10_init_36 : decode cX10_init 36 = .ok (.aload_n 0, 1) := by decide +kernel
theorem dX10_init_37 : decode cX10_init 37 = .ok (.bipush 96, 2) := by decide +kernel
theorem dX10_init_39 : decode cX10_init 39 = .ok (.newarray .int, 2) := by decide +kernel
theorem dX10_init_41 : decode cX10_init 41 = .ok (.putfield 22, 3) := by decide +kernel
theorem dX10_init_44 : decode cX10_init 44 = .ok (.aload_n 0, 1) := by decide +kernel
theorem dX10_init_45 : decode cX10_init 45 = .ok (.bipush 8, 2) := by decide +kernel
theorem dX10_init_47 : decode cX10_init 47 = .ok (.newarray .int, 2) := by decide +kernel
theorem dX10_init_49 : decode cX10_init 49 = .ok (.putfield 25, 3) := by decide +kernel
theorem dX10_init_52 : decode cX10_init 52 = .ok (.aload_n 0, 1) := by decide +kernel
theorem dX10_init_53 : decode cX10_init 53 = .ok (.bipush 8, 2) := by decide +kernel
theorem dX10_init_55 : decode cX10_init 55 = .ok (.newarray .int, 2) := by decide +kernel
theorem dX10_init_57 : decode cX10_init 57 = .ok (.putfield 28, 3) := by decide +kernel
theorem dX10_init_60 : decode cX10_init 60 = .ok (.aload_n 0, 1) := by decide +kernel
theorem dX10_init_61 : decode cX10_init 61 = .ok (.bipush 96, 2) := by decide +kernel
theorem dX10_init_63 : decode cX10_init 63 = .ok (.newarray .int, 2) := by decide +kernel
theorem dX10_init_65 : decode cX10_init 65 = .ok (.putfield 31, 3) := by decide +kernel
theorem dX10_init_68 : decode cX10_init 68 = .ok (.aload_n 0, 1) := by decide +kernel
theorem dX10_init_69 : decode cX10_init 69 = .ok (.iconst 3, 1) := by decide +kernel
theorem dX10_init_70 : decode cX10_init 70 = .ok (.newarray .int, 2) := by decide +kernel
theorem dX10_init_72 : decode cX10_init 72 = .ok (.putfield 34, 3) := by decide +kernel
theorem dX10_init_75 : decode cX10_init 75 = .ok (.aload_n 0, 1) := by decide +kernel
theorem dX10_init_76 : decode cX10_init 76 = .ok (.sipush 4824, 3) := by decide +kernel
theorem dX10_init_79 : decode cX10_init 79 = .ok (.newarray .long, 2) := by decide +kernel
theorem dX10_init_81 : decode cX10_init 81 = .ok (.putfield 37, 3) := by decide +kernel
theorem dX10_init_84 : decode cX10_init 84 = .ok (.aload_n 0, 1) := by decide +kernel
theorem dX10_init_85 : decode cX10_init 85 = .ok (.sipush 4824, 3) := by decide +kernel
theorem dX10_init_88 : decode cX10_init 88 = .ok (.newarray .int, 2) := by decide +kernel
theorem dX10_init_90 : decode cX10_init 90 = .ok (.putfield 41, 3) := by decide +kernel
theorem dX10_init_93 : decode cX10_init 93 = .ok (.aload_n 0, 1) := by decide +kernel
theorem dX10_init_94 : decode cX10_init 94 = .ok (.sipush 4824, 3) := by decide +kernel
theorem dX10_init_97 : decode cX10_init 97 = .ok (.newarray .int, 2) := by decide +kernel
theorem dX10_init_99 : decode cX10_init 99 = .ok (.putfield 44, 3) := by decide +kernel
theorem dX10_init_102 : decode cX10_init 102 = .ok (.aload_n 0, 1) := by decide +kernel
theorem dX10_init_103 : decode cX10_init 103 = .ok (.sipush 402, 3) := by decide +kernel
theorem dX10_init_106 : decode cX10_init 106 = .ok (.newarray .long, 2) := by decide +kernel
theorem dX10_init_108 : decode cX10_init 108 = .ok (.putfield 47, 3) := by decide +kernel
theorem dX10_init_111 : decode cX10_init 111 = .ok (.aload_n 0, 1) := by decide +kernel
theorem dX10_init_112 : decode cX10_init 112 = .ok (.bipush 7, 2) := by decide +kernel
theorem dX10_init_114 : decode cX10_init 114 = .ok (.newarray .int, 2) := by decide +kernel
theorem dX10_init_116 : decode cX10_init 116 = .ok (.putfield 50, 3) := by decide +kernel
theorem dX10_init_119 : decode cX10_init 119 = .ok (.aload_n 0, 1) := by decide +kernel
theorem dX10_init_120 : decode cX10_init 120 = .ok (.iconst 3, 1) := by decide +kernel
theorem dX10_init_121 : decode cX10_init 121 = .ok (.newarray .int, 2) := by decide +kernel
theorem dX10_init_123 : decode cX10_init 123 = .ok (.putfield 53, 3) := by decide +kernel
theorem dX10_init_126 : decode cX10_init 126 = .ok (.aload_n 0, 1) := by decide +kernel
theorem dX10_init_127 : decode cX10_init 127 = .ok (.sipush 402, 3) := by decide +kernel
theorem dX10_init_130 : decode cX10_init 130 = .ok (.newarray .long, 2) := by decide +kernel
theorem dX10_init_132 : decode cX10_init 132 = .ok (.putfield 56, 3) := by decide +kernel
theorem dX10_init_135 : decode cX10_init 135 = .ok (.aload_n 0, 1) := by decide +kernel
theorem dX10_init_136 : decode cX10_init 136 = .ok (.sipush 402, 3) := by decide +kernel
theorem dX10_init_139 : decode cX10_init 139 = .ok (.newarray .long, 2) := by decide +kernel
theorem dX10_init_141 : decode cX10_init 141 = .ok (.putfield 59, 3) := by decide +kernel
theorem dX10_init_144 : decode cX10_init 144 = .ok (.aload_n 0, 1) := by decide +kernel
theorem dX10_init_145 : decode cX10_init 145 = .ok (.bipush 12, 2) := by decide +kernel
theorem dX10_init_147 : decode cX10_init 147 = .ok (.newarray .int, 2) := by decide +kernel
theorem dX10_init_149 : decode cX10_init 149 = .ok (.putfield 62, 3) := by decide +kernel
theorem dX10_init_152 : decode cX10_init 152 = .ok (.aload_n 0, 1) := by decide +kernel
theorem dX10_init_153 : decode cX10_init 153 = .ok (.bipush 16, 2) := by decide +kernel
theorem dX10_init_155 : decode cX10_init 155 = .ok (.newarray .int, 2) := by decide +kernel
theorem dX10_init_157 : decode cX10_init 157 = .ok (.putfield 65, 3) := by decide +kernel
theorem dX10_init_160 : decode cX10_init 160 = .ok (.aload_n 0, 1) := by decide +kernel
theorem dX10_init_161 : decode cX10_init 161 = .ok (.bipush 96, 2) := by decide +kernel
theorem dX10_init_163 : decode cX10_init 163 = .ok (.newarray .int, 2) := by decide +kernel
theorem dX10_init_165 : decode cX10_init 165 = .ok (.putfield 68, 3) := by decide +kernel
theorem dX10_init_168 : decode cX10_init 168 = .ok (.aload_n 0, 1) := by decide +kernel
theorem dX10_init_169 : decode cX10_init 169 = .ok (.bipush 12, 2) := by decide +kernel
theorem dX10_init_171 : decode cX10_init 171 = .ok (.newarray .int, 2) := by decide +kernel
theorem dX10_init_173 : decode cX10_init 173 = .ok (.putfield 71, 3) := by decide +kernel
theorem dX10_init_176 : decode cX10_init 176 = .ok (.aload_n 0, 1) := by decide +kernel
theorem dX10_init_177 : decode cX10_init 177 = .ok (.iconst (-1), 1) := by decide +kernel
theorem dX10_init_178 : decode cX10_init 178 = .ok (.putfield 74, 3) := by decide +kernel
theorem dX10_init_181 : decode cX10_init 181 = .ok (.iconst 0, 1) := by decide +kernel
theorem dX10_init_182 : decode cX10_init 182 = .ok (.istore_n 1, 1) := by decide +kernel
theorem dX10_init_183 : decode cX10_init 183 = .ok (.iload_n 1, 1) := by decide +kernel
theorem dX10_init_184 : decode cX10_init 184 = .ok (.bipush 12, 2) := by decide +kernel
theorem dX10_init_186 : decode cX10_init 186 = .ok (.if_icmp .ge 16, 3) := by decide +kernel
theorem dX10_init_189 : decode cX10_init 189 = .ok (.aload_n 0, 1) := by decide +kernel
theorem dX10_init_190 : decode cX10_init 190 = .ok (.getfield 62, 3) := by decide +kernel
theorem dX10_init_193 : decode cX10_init 193 = .ok (.iload_n 1, 1) := by decide +kernel
theorem dX10_init_194 : decode cX10_init 194 = .ok (.iconst (-1), 1) := by decide +kernel
theorem dX10_init_195 : decode cX10_init 195 = .ok (.iastore, 1) := by decide +kernel
theorem dX10_init_196 : decode cX10_init 196 = .ok (.iinc 1 1, 3) := by decide +kernel
theorem dX10_init_199 : decode cX10_init 199 = .ok (.goto (-16), 3) := by decide +kernel
theorem dX10_init_202 : decode cX10_init 202 = .ok (.return_, 1) := by decide +kernel
theorem dX10_in_0 : decode cX10_in 0 = .ok (.lload_n 0, 1) := by decide +kernel
theorem dX10_in_1 : decode cX10_in 1 = .ok (.lload_n 2, 1) := by decide +kernel
theorem dX10_in_2 : decode cX10_in 2 = .ok (.lcmp, 1) := by decide +kernel
theorem dX10_in_3 : decode cX10_in 3 = .ok (.ifCond .lt 14, 3) := by decide +kernel
theorem dX10_in_6 : decode cX10_in 6 = .ok (.lload_n 0, 1) := by decide +kernel
theorem dX10_in_7 : decode cX10_in 7 = .ok (.lload 4, 2) := by decide +kernel
theorem dX10_in_9 : decode cX10_in 9 = .ok (.lcmp, 1) := by decide +kernel
theorem dX10_in_10 : decode cX10_in 10 = .ok (.ifCond .gt 7, 3) := by decide +kernel
theorem dX10_in_13 : decode cX10_in 13 = .ok (.iconst 1, 1) := by decide +kernel
theorem dX10_in_14 : decode cX10_in 14 = .ok (.goto 4, 3) := by decide +kernel
theorem dX10_in_17 : decode cX10_in 17 = .ok (.iconst 0, 1) := by decide +kernel
theorem dX10_in_18 : decode cX10_in 18 = .ok (.ireturn, 1) := by decide +kernel
theorem dX10_letters_0 : decode cX10_letters 0 = .ok (.iconst 0, 1) := by decide +kernel
theorem dX10_letters_1 : decode cX10_letters 1 = .ok (.istore_n 3, 1) := by decide +kernel
theorem dX10_letters_2 : decode cX10_letters 2 = .ok (.iconst 1, 1) := by decide +kernel
theorem dX10_letters_3 : decode cX10_letters 3 = .ok (.istore 4, 2) := by decide +kernel
theorem dX10_letters_5 : decode cX10_letters 5 = .ok (.lload_n 1, 1) := by decide +kernel
theorem dX10_letters_6 : decode cX10_letters 6 = .ok (.lstore 5, 2) := by decide +kernel
theorem dX10_letters_8 : decode cX10_letters 8 = .ok (.iconst 0, 1) := by decide +kernel
theorem dX10_letters_9 : decode cX10_letters 9 = .ok (.istore 7, 2) := by decide +kernel
theorem dX10_letters_11 : decode cX10_letters 11 = .ok (.iload 7, 2) := by decide +kernel
theorem dX10_letters_13 : decode cX10_letters 13 = .ok (.bipush 8, 2) := by decide +kernel
theorem dX10_letters_15 : decode cX10_letters 15 = .ok (.if_icmp .ge 68, 3) := by decide +kernel
theorem dX10_letters_18 : decode cX10_letters 18 = .ok (.lload 5, 2) := by decide +kernel
theorem dX10_letters_20 : decode cX10_letters 20 = .ok (.ldc2_w 78, 3) := by decide +kernel
theorem dX10_letters_23 : decode cX10_letters 23 = .ok (.land, 1) := by decide +kernel
theorem dX10_letters_24 : decode cX10_letters 24 = .ok (.l2i, 1) := by decide +kernel
theorem dX10_letters_25 : decode cX10_letters 25 = .ok (.istore 8, 2) := by decide +kernel
