theorem dX10_undo_69 : decode cX10_undo 69 = .ok (.iconst 0, 1) := by decide +kernel
theorem dX10_undo_70 : decode cX10_undo 70 = .ok (.istore_n 1, 1) := by decide +kernel
theorem dX10_undo_71 : decode cX10_undo 71 = .ok (.iload_n 1, 1) := by decide +kernel
theorem dX10_undo_72 : decode cX10_undo 72 = .ok (.iconst 4, 1) := by decide +kernel
theorem dX10_undo_73 : decode cX10_undo 73 = .ok (.if_icmp .ge 28, 3) := by decide +kernel
theorem dX10_undo_76 : decode cX10_undo 76 = .ok (.aload_n 0, 1) := by decide +kernel
theorem dX10_undo_77 : decode cX10_undo 77 = .ok (.getfield 13, 3) := by decide +kernel
theorem dX10_undo_80 : decode cX10_undo 80 = .ok (.iload_n 1, 1) := by decide +kernel
theorem dX10_undo_81 : decode cX10_undo 81 = .ok (.aload_n 0, 1) := by decide +kernel
theorem dX10_undo_82 : decode cX10_undo 82 = .ok (.getfield 20, 3) := by decide +kernel
theorem dX10_undo_85 : decode cX10_undo 85 = .ok (.iconst 4, 1) := by decide +kernel
theorem dX10_undo_86 : decode cX10_undo 86 = .ok (.aload_n 0, 1) := by decide +kernel
theorem dX10_undo_87 : decode cX10_undo 87 = .ok (.getfield 43, 3) := by decide +kernel
theorem dX10_undo_90 : decode cX10_undo 90 = .ok (.imul, 1) := by decide +kernel
theorem dX10_undo_91 : decode cX10_undo 91 = .ok (.iload_n 1, 1) := by decide +kernel
theorem dX10_undo_92 : decode cX10_undo 92 = .ok (.iadd, 1) := by decide +kernel
theorem dX10_undo_93 : decode cX10_undo 93 = .ok (.daload, 1) := by decide +kernel
theorem dX10_undo_94 : decode cX10_undo 94 = .ok (.dastore, 1) := by decide +kernel
theorem dX10_undo_95 : decode cX10_undo 95 = .ok (.iinc 1 1, 3) := by decide +kernel
theorem dX10_undo_98 : decode cX10_undo 98 = .ok (.goto (-27), 3) := by decide +kernel
theorem dX10_undo_101 : decode cX10_undo 101 = .ok (.aload_n 0, 1) := by decide +kernel
theorem dX10_undo_102 : decode cX10_undo 102 = .ok (.getfield 43, 3) := by decide +kernel
theorem dX10_undo_105 : decode cX10_undo 105 = .ok (.ireturn, 1) := by decide +kernel
theorem dX10_leastLoad_0 : decode cX10_leastLoad 0 = .ok (.iconst 0, 1) := by decide +kernel
theorem dX10_leastLoad_1 : decode cX10_leastLoad 1 = .ok (.istore_n 2, 1) := by decide +kernel
theorem dX10_leastLoad_2 : decode cX10_leastLoad 2 = .ok (.aload_n 0, 1) := by decide +kernel
theorem dX10_leastLoad_3 : decode cX10_leastLoad 3 = .ok (.iload_n 1, 1) := by decide +kernel
theorem dX10_leastLoad_4 : decode cX10_leastLoad 4 = .ok (.iload_n 2, 1) := by decide +kernel
theorem dX10_leastLoad_5 : decode cX10_leastLoad 5 = .ok (.invokevirtual 50, 3) := by decide +kernel
theorem dX10_leastLoad_8 : decode cX10_leastLoad 8 = .ok (.ifCond .ne 9, 3) := by decide +kernel
theorem dX10_leastLoad_11 : decode cX10_leastLoad 11 = .ok (.iinc 2 1, 3) := by decide +kernel
theorem dX10_leastLoad_14 : decode cX10_leastLoad 14 = .ok (.goto (-12), 3) := by decide +kernel
theorem dX10_leastLoad_17 : decode cX10_leastLoad 17 = .ok (.iload_n 2, 1) := by decide +kernel
theorem dX10_leastLoad_18 : decode cX10_leastLoad 18 = .ok (.ireturn, 1) := by decide +kernel
theorem dX10_greatestLoad_0 : decode cX10_greatestLoad 0 = .ok (.iconst 5, 1) := by decide +kernel
theorem dX10_greatestLoad_1 : decode cX10_greatestLoad 1 = .ok (.istore_n 2, 1) := by decide +kernel
theorem dX10_greatestLoad_2 : decode cX10_greatestLoad 2 = .ok (.aload_n 0, 1) := by decide +kernel
theorem dX10_greatestLoad_3 : decode cX10_greatestLoad 3 = .ok (.iload_n 1, 1) := by decide +kernel
theorem dX10_greatestLoad_4 : decode cX10_greatestLoad 4 = .ok (.iload_n 2, 1) := by decide +kernel
theorem dX10_greatestLoad_5 : decode cX10_greatestLoad 5 = .ok (.invokevirtual 50, 3) := by decide +kernel
theorem dX10_greatestLoad_8 : decode cX10_greatestLoad 8 = .ok (.ifCond .ne 9, 3) := by decide +kernel
theorem dX10_greatestLoad_11 : decode cX10_greatestLoad 11 = .ok (.iinc 2 (-1), 3) := by decide +kernel
theorem dX10_greatestLoad_14 : decode cX10_greatestLoad 14 = .ok (.goto (-12), 3) := by decide +kernel
theorem dX10_greatestLoad_17 : decode cX10_greatestLoad 17 = .ok (.iload_n 2, 1) := by decide +kernel
theorem dX10_greatestLoad_18 : decode cX10_greatestLoad 18 = .ok (.ireturn, 1) := by decide +kernel
theorem dX10_loadSum_0 : decode cX10_loadSum 0 = .ok (.iconst 0, 1) := by decide +kernel
theorem dX10_loadSum_1 : decode cX10_loadSum 1 = .ok (.istore_n 3, 1) := by decide +kernel
theorem dX10_loadSum_2 : decode cX10_loadSum 2 = .ok (.iconst 0, 1) := by decide +kernel
theorem dX10_loadSum_3 : decode cX10_loadSum 3 = .ok (.istore 4, 2) := by decide +kernel
theorem dX10_loadSum_5 : decode cX10_loadSum 5 = .ok (.iload 4, 2) := by decide +kernel
theorem dX10_loadSum_7 : decode cX10_loadSum 7 = .ok (.bipush 6, 2) := by decide +kernel
theorem dX10_loadSum_9 : decode cX10_loadSum 9 = .ok (.if_icmp .ge 36, 3) := by decide +kernel
theorem dX10_loadSum_12 : decode cX10_loadSum 12 = .ok (.iload_n 3, 1) := by decide +kernel
theorem dX10_loadSum_13 : decode cX10_loadSum 13 = .ok (.iload 4, 2) := by decide +kernel
theorem dX10_loadSum_15 : decode cX10_loadSum 15 = .ok (.iload_n 2, 1) := by decide +kernel
theorem dX10_loadSum_16 : decode cX10_loadSum 16 = .ok (.ifCond .eq 13, 3) := by decide +kernel
theorem dX10_loadSum_19 : decode cX10_loadSum 19 = .ok (.aload_n 0, 1) := by decide +kernel
theorem dX10_loadSum_20 : decode cX10_loadSum 20 = .ok (.iload_n 1, 1) := by decide +kernel
theorem dX10_loadSum_21 : decode cX10_loadSum 21 = .ok (.iload 4, 2) := by decide +kernel
theorem dX10_loadSum_23 : decode cX10_loadSum 23 = .ok (.invokevirtual 54, 3) := by decide +kernel
theorem dX10_loadSum_26 : decode cX10_loadSum 26 = .ok (.goto 10, 3) := by decide +kernel
theorem dX10_loadSum_29 : decode cX10_loadSum 29 = .ok (.aload_n 0, 1) := by decide +kernel
theorem dX10_loadSum_30 : decode cX10_loadSum 30 = .ok (.iload_n 1, 1) := by decide +kernel
theorem dX10_loadSum_31 : decode cX10_loadSum 31 = .ok (.iload 4, 2) := by decide +kernel
theorem dX10_loadSum_33 : decode cX10_loadSum 33 = .ok (.invokevirtual 50, 3) := by decide +kernel
theorem dX10_loadSum_36 : decode cX10_loadSum 36 = .ok (.imul, 1) := by decide +kernel
theorem dX10_loadSum_37 : decode cX10_loadSum 37 = .ok (.iadd, 1) := by decide +kernel
theorem dX10_loadSum_38 : decode cX10_loadSum 38 = .ok (.istore_n 3, 1) := by decide +kernel
theorem dX10_loadSum_39 : decode cX10_loadSum 39 = .ok (.iinc 4 1, 3) := by decide +kernel
theorem dX10_loadSum_42 : decode cX10_loadSum 42 = .ok (.goto (-37), 3) := by decide +kernel
theorem dX10_loadSum_45 : decode cX10_loadSum 45 = .ok (.iload_n 3, 1) := by decide +kernel
theorem dX10_loadSum_46 : decode cX10_loadSum 46 = .ok (.ireturn, 1) := by decide +kernel
theorem dX10_partNow_0 : decode cX10_partNow 0 = .ok (.iload_n 2, 1) := by decide +kernel
theorem dX10_partNow_1 : decode cX10_partNow 1 = .ok (.tableswitch 79 0 5 #[39, 45, 51, 57, 63, 63], 39) := by decide +kernel
theorem dX10_partNow_40 : decode cX10_partNow 40 = .ok (.aload_n 0, 1) := by decide +kernel
theorem dX10_partNow_41 : decode cX10_partNow 41 = .ok (.iload_n 1, 1) := by decide +kernel
theorem dX10_partNow_42 : decode cX10_partNow 42 = .ok (.invokevirtual 68, 3) := by decide +kernel
theorem dX10_partNow_45 : decode cX10_partNow 45 = .ok (.ireturn, 1) := by decide +kernel
theorem dX10_partNow_46 : decode cX10_partNow 46 = .ok (.aload_n 0, 1) := by decide +kernel
theorem dX10_partNow_47 : decode cX10_partNow 47 = .ok (.iload_n 1, 1) := by decide +kernel
theorem dX10_partNow_48 : decode cX10_partNow 48 = .ok (.invokevirtual 64, 3) := by decide +kernel
theorem dX10_partNow_51 : decode cX10_partNow 51 = .ok (.ireturn, 1) := by decide +kernel
theorem dX10_partNow_52 : decode cX10_partNow 52 = .ok (.aload_n 0, 1) := by decide +kernel
theorem dX10_partNow_53 : decode cX10_partNow 53 = .ok (.iload_n 1, 1) := by decide +kernel
theorem dX10_partNow_54 : decode cX10_partNow 54 = .ok (.invokevirtual 147, 3) := by decide +kernel
theorem dX10_partNow_57 : decode cX10_partNow 57 = .ok (.ireturn, 1) := by decide +kernel
theorem dX10_partNow_58 : decode cX10_partNow 58 = .ok (.aload_n 0, 1) := by decide +kernel
theorem dX10_partNow_59 : decode cX10_partNow 59 = .ok (.iload_n 1, 1) := by decide +kernel
theorem dX10_partNow_60 : decode cX10_partNow 60 = .ok (.invokevirtual 150, 3) := by decide +kernel
theorem dX10_partNow_63 : decode cX10_partNow 63 = .ok (.ireturn, 1) := by decide +kernel
theorem dX10_partNow_64 : decode cX10_partNow 64 = .ok (.aload_n 0, 1) := by decide +kernel
theorem dX10_partNow_65 : decode cX10_partNow 65 = .ok (.iload_n 1, 1) := by decide +kernel
theorem dX10_partNow_66 : decode cX10_partNow 66 = .ok (.iload_n 2, 1) := by decide +kernel
theorem dX10_partNow_67 : decode cX10_partNow 67 = .ok (.iconst 5, 1) := by decide +kernel
theorem dX10_partNow_68 : decode cX10_partNow 68 = .ok (.if_icmp .ne 7, 3) := by decide +kernel
theorem dX10_partNow_71 : decode cX10_partNow 71 = .ok (.iconst 1, 1) := by decide +kernel
theorem dX10_partNow_72 : decode cX10_partNow 72 = .ok (.goto 4, 3) := by decide +kernel
theorem dX10_partNow_75 : decode cX10_partNow 75 = .ok (.iconst 0, 1) := by decide +kernel
theorem dX10_partNow_76 : decode cX10_partNow 76 = .ok (.invokevirtual 153, 3) := by decide +kernel
theorem dX10_partNow_79 : decode cX10_partNow 79 = .ok (.ireturn, 1) := by decide +kernel
theorem dX10_partNow_80 : decode cX10_partNow 80 = .ok (.aload_n 0, 1) := by decide +kernel
theorem dX10_partNow_81 : decode cX10_partNow 81 = .ok (.getfield 7, 3) := by decide +kernel
theorem dX10_partNow_84 : decode cX10_partNow 84 = .ok (.iconst 3, 1) := by decide +kernel
theorem dX10_partNow_85 : decode cX10_partNow 85 = .ok (.iaload, 1) := by decide +kernel
theorem dX10_partNow_86 : decode cX10_partNow 86 = .ok (.ifCond .ne 7, 3) := by decide +kernel
theorem dX10_partNow_89 : decode cX10_partNow 89 = .ok (.iconst (-1), 1) := by decide +kernel
theorem dX10_partNow_90 : decode cX10_partNow 90 = .ok (.goto 11, 3) := by decide +kernel
theorem dX10_partNow_93 : decode cX10_partNow 93 = .ok (.aload_n 0, 1) := by decide +kernel
theorem dX10_partNow_94 : decode cX10_partNow 94 = .ok (.getfield 7, 3) := by decide +kernel
theorem dX10_partNow_97 : decode cX10_partNow 97 = .ok (.iconst 5, 1) := by decide +kernel
theorem dX10_partNow_98 : decode cX10_partNow 98 = .ok (.iload_n 1, 1) := by decide +kernel
theorem dX10_partNow_99 : decode cX10_partNow 99 = .ok (.iadd, 1) := by decide +kernel
theorem dX10_partNow_100 : decode cX10_partNow 100 = .ok (.iaload, 1) := by decide +kernel
theorem dX10_partNow_101 : decode cX10_partNow 101 = .ok (.ireturn, 1) := by decide +kernel
theorem dX10_part_0 : decode cX10_part 0 = .ok (.aload_n 0, 1) := by decide +kernel
theorem dX10_part_1 : decode cX10_part 1 = .ok (.aload_n 0, 1) := by decide +kernel
theorem dX10_part_2 : decode cX10_part 2 = .ok (.iload_n 1, 1) := by decide +kernel
theorem dX10_part_3 : decode cX10_part 3 = .ok (.invokevirtual 113, 3) := by decide +kernel
theorem dX10_part_6 : decode cX10_part 6 = .ok (.ifCond .ne 7, 3) := by decide +kernel
theorem dX10_part_9 : decode cX10_part 9 = .ok (.iconst 1, 1) := by decide +kernel
theorem dX10_part_10 : decode cX10_part 10 = .ok (.goto 18, 3) := by decide +kernel
theorem dX10_part_13 : decode cX10_part 13 = .ok (.iload_n 2, 1) := by decide +kernel
theorem dX10_part_14 : decode cX10_part 14 = .ok (.iconst 0, 1) := by decide +kernel
theorem dX10_part_15 : decode cX10_part 15 = .ok (.bipush 6, 2) := by decide +kernel
theorem dX10_part_17 : decode cX10_part 17 = .ok (.invokestatic 46, 3) := by decide +kernel
theorem dX10_part_20 : decode cX10_part 20 = .ok (.ifCond .eq 7, 3) := by decide +kernel
theorem dX10_part_23 : decode cX10_part 23 = .ok (.iconst 0, 1) := by decide +kernel
theorem dX10_part_24 : decode cX10_part 24 = .ok (.goto 4, 3) := by decide +kernel
theorem dX10_part_27 : decode cX10_part 27 = .ok (.iconst 2, 1) := by decide +kernel
theorem dX10_part_28 : decode cX10_part 28 = .ok (.putfield 39, 3) := by decide +kernel
theorem dX10_part_31 : decode cX10_part 31 = .ok (.aload_n 0, 1) := by decide +kernel
theorem dX10_part_32 : decode cX10_part 32 = .ok (.getfield 39, 3) := by decide +kernel
theorem dX10_part_35 : decode cX10_part 35 = .ok (.ifCond .le 7, 3) := by decide +kernel
theorem dX10_part_38 : decode cX10_part 38 = .ok (.iconst 0, 1) := by decide +kernel
theorem dX10_part_39 : decode cX10_part 39 = .ok (.goto 9, 3) := by decide +kernel
theorem dX10_part_42 : decode cX10_part 42 = .ok (.aload_n 0, 1) := by decide +kernel
theorem dX10_part_43 : decode cX10_part 43 = .ok (.iload_n 1, 1) := by decide +kernel
theorem dX10_part_44 : decode cX10_part 44 = .ok (.iload_n 2, 1) := by decide +kernel
theorem dX10_part_45 : decode cX10_part 45 = .ok (.invokevirtual 157, 3) := by decide +kernel
theorem dX10_part_48 : decode cX10_part 48 = .ok (.ireturn, 1) := by decide +kernel
theorem dX10_weight_0 : decode cX10_weight 0 = .ok (.aload_n 0, 1) := by decide +kernel
theorem dX10_weight_1 : decode cX10_weight 1 = .ok (.aload_n 0, 1) := by decide +kernel
theorem dX10_weight_2 : decode cX10_weight 2 = .ok (.iload_n 1, 1) := by decide +kernel
theorem dX10_weight_3 : decode cX10_weight 3 = .ok (.invokevirtual 113, 3) := by decide +kernel
theorem dX10_weight_6 : decode cX10_weight 6 = .ok (.ifCond .eq 14, 3) := by decide +kernel
theorem dX10_weight_9 : decode cX10_weight 9 = .ok (.iload_n 2, 1) := by decide +kernel
theorem dX10_weight_10 : decode cX10_weight 10 = .ok (.invokestatic 100, 3) := by decide +kernel
theorem dX10_weight_13 : decode cX10_weight 13 = .ok (.ifCond .eq 7, 3) := by decide +kernel
theorem dX10_weight_16 : decode cX10_weight 16 = .ok (.iconst 0, 1) := by decide +kernel
theorem dX10_weight_17 : decode cX10_weight 17 = .ok (.goto 4, 3) := by decide +kernel
theorem dX10_weight_20 : decode cX10_weight 20 = .ok (.iconst 1, 1) := by decide +kernel
theorem dX10_weight_21 : decode cX10_weight 21 = .ok (.putfield 39, 3) := by decide +kernel
theorem dX10_weight_24 : decode cX10_weight 24 = .ok (.aload_n 0, 1) := by decide +kernel
theorem dX10_weight_25 : decode cX10_weight 25 = .ok (.getfield 39, 3) := by decide +kernel
theorem dX10_weight_28 : decode cX10_weight 28 = .ok (.ifCond .le 7, 3) := by decide +kernel
theorem dX10_weight_31 : decode cX10_weight 31 = .ok (.iconst 0, 1) := by decide +kernel
theorem dX10_weight_32 : decode cX10_weight 32 = .ok (.goto 22, 3) := by decide +kernel
theorem dX10_weight_35 : decode cX10_weight 35 = .ok (.iload_n 3, 1) := by decide +kernel
theorem dX10_weight_36 : decode cX10_weight 36 = .ok (.ifCond .eq 12, 3) := by decide +kernel
theorem dX10_weight_39 : decode cX10_weight 39 = .ok (.aload_n 0, 1) := by decide +kernel
theorem dX10_weight_40 : decode cX10_weight 40 = .ok (.iload_n 1, 1) := by decide +kernel
theorem dX10_weight_41 : decode cX10_weight 41 = .ok (.iload_n 2, 1) := by decide +kernel
theorem dX10_weight_42 : decode cX10_weight 42 = .ok (.invokevirtual 54, 3) := by decide +kernel
theorem dX10_weight_45 : decode cX10_weight 45 = .ok (.goto 9, 3) := by decide +kernel
theorem dX10_weight_48 : decode cX10_weight 48 = .ok (.aload_n 0, 1) := by decide +kernel
theorem dX10_weight_49 : decode cX10_weight 49 = .ok (.iload_n 1, 1) := by decide +kernel
theorem dX10_weight_50 : decode cX10_weight 50 = .ok (.iload_n 2, 1) := by decide +kernel
theorem dX10_weight_51 : decode cX10_weight 51 = .ok (.invokevirtual 50, 3) := by decide +kernel
theorem dX10_weight_54 : decode cX10_weight 54 = .ok (.ireturn, 1) := by decide +kernel
theorem dX10_waysNow_0 : decode cX10_waysNow 0 = .ok (.aload_n 0, 1) := by decide +kernel
theorem dX10_waysNow_1 : decode cX10_waysNow 1 = .ok (.iconst (-1), 1) := by decide +kernel
theorem dX10_waysNow_2 : decode cX10_waysNow 2 = .ok (.invokevirtual 82, 3) := by decide +kernel
theorem dX10_waysNow_5 : decode cX10_waysNow 5 = .ok (.iload_n 2, 1) := by decide +kernel
theorem dX10_waysNow_6 : decode cX10_waysNow 6 = .ok (.ifCond .eq 11, 3) := by decide +kernel
theorem dX10_waysNow_9 : decode cX10_waysNow 9 = .ok (.aload_n 0, 1) := by decide +kernel
theorem dX10_waysNow_10 : decode cX10_waysNow 10 = .ok (.iload_n 1, 1) := by decide +kernel
theorem dX10_waysNow_11 : decode cX10_waysNow 11 = .ok (.invokevirtual 85, 3) := by decide +kernel
theorem dX10_waysNow_14 : decode cX10_waysNow 14 = .ok (.goto 19, 3) := by decide +kernel
theorem dX10_waysNow_17 : decode cX10_waysNow 17 = .ok (.iload_n 1, 1) := by decide +kernel
theorem dX10_waysNow_18 : decode cX10_waysNow 18 = .ok (.bipush 31, 2) := by decide +kernel
theorem dX10_waysNow_20 : decode cX10_waysNow 20 = .ok (.if_icmp .ge 12, 3) := by decide +kernel
theorem dX10_waysNow_23 : decode cX10_waysNow 23 = .ok (.aload_n 0, 1) := by decide +kernel
theorem dX10_waysNow_24 : decode cX10_waysNow 24 = .ok (.getfield 26, 3) := by decide +kernel
theorem dX10_waysNow_27 : decode cX10_waysNow 27 = .ok (.iload_n 1, 1) := by decide +kernel
theorem dX10_waysNow_28 : decode cX10_waysNow 28 = .ok (.laload, 1) := by decide +kernel
theorem dX10_waysNow_29 : decode cX10_waysNow 29 = .ok (.goto 4, 3) := by decide +kernel
theorem dX10_waysNow_32 : decode cX10_waysNow 32 = .ok (.lconst 0, 1) := by decide +kernel
theorem dX10_waysNow_33 : decode cX10_waysNow 33 = .ok (.lreturn, 1) := by decide +kernel
theorem dX10_ways_0 : decode cX10_ways 0 = .ok (.aload_n 0, 1) := by decide +kernel
theorem dX10_ways_1 : decode cX10_ways 1 = .ok (.iload_n 1, 1) := by decide +kernel
theorem dX10_ways_2 : decode cX10_ways 2 = .ok (.invokestatic 120, 3) := by decide +kernel
theorem dX10_ways_5 : decode cX10_ways 5 = .ok (.ifCond .eq 7, 3) := by decide +kernel
theorem dX10_ways_8 : decode cX10_ways 8 = .ok (.iconst 0, 1) := by decide +kernel
theorem dX10_ways_9 : decode cX10_ways 9 = .ok (.goto 4, 3) := by decide +kernel
theorem dX10_ways_12 : decode cX10_ways 12 = .ok (.iconst 1, 1) := by decide +kernel
theorem dX10_ways_13 : decode cX10_ways 13 = .ok (.putfield 39, 3) := by decide +kernel
theorem dX10_ways_16 : decode cX10_ways 16 = .ok (.aload_n 0, 1) := by decide +kernel
theorem dX10_ways_17 : decode cX10_ways 17 = .ok (.getfield 39, 3) := by decide +kernel
theorem dX10_ways_20 : decode cX10_ways 20 = .ok (.ifCond .le 7, 3) := by decide +kernel
theorem dX10_ways_23 : decode cX10_ways 23 = .ok (.lconst 0, 1) := by decide +kernel
theorem dX10_ways_24 : decode cX10_ways 24 = .ok (.goto 9, 3) := by decide +kernel
theorem dX10_ways_27 : decode cX10_ways 27 = .ok (.aload_n 0, 1) := by decide +kernel
theorem dX10_ways_28 : decode cX10_ways 28 = .ok (.iload_n 1, 1) := by decide +kernel
theorem dX10_ways_29 : decode cX10_ways 29 = .ok (.iload_n 2, 1) := by decide +kernel
theorem dX10_ways_30 : decode cX10_ways 30 = .ok (.invokevirtual 160, 3) := by decide +kernel
theorem dX10_ways_33 : decode cX10_ways 33 = .ok (.lreturn, 1) := by decide +kernel
theorem dX10_likeliest_0 : decode cX10_likeliest 0 = .ok (.aload_n 0, 1) := by decide +kernel
theorem dX10_likeliest_1 : decode cX10_likeliest 1 = .ok (.aload_n 0, 1) := by decide +kernel
theorem dX10_likeliest_2 : decode cX10_likeliest 2 = .ok (.iload_n 1, 1) := by decide +kernel
theorem dX10_likeliest_3 : decode cX10_likeliest 3 = .ok (.invokevirtual 113, 3) := by decide +kernel
theorem dX10_likeliest_6 : decode cX10_likeliest 6 = .ok (.ifCond .eq 7, 3) := by decide +kernel
theorem dX10_likeliest_9 : decode cX10_likeliest 9 = .ok (.iconst 0, 1) := by decide +kernel
theorem dX10_likeliest_10 : decode cX10_likeliest 10 = .ok (.goto 4, 3) := by decide +kernel
theorem dX10_likeliest_13 : decode cX10_likeliest 13 = .ok (.iconst 1, 1) := by decide +kernel
theorem dX10_likeliest_14 : decode cX10_likeliest 14 = .ok (.putfield 39, 3) := by decide +kernel
theorem dX10_likeliest_17 : decode cX10_likeliest 17 = .ok (.aload_n 0, 1) := by decide +kernel
theorem dX10_likeliest_18 : decode cX10_likeliest 18 = .ok (.getfield 39, 3) := by decide +kernel
theorem dX10_likeliest_21 : decode cX10_likeliest 21 = .ok (.ifCond .le 7, 3) := by decide +kernel
theorem dX10_likeliest_24 : decode cX10_likeliest 24 = .ok (.iconst 0, 1) := by decide +kernel
theorem dX10_likeliest_25 : decode cX10_likeliest 25 = .ok (.goto 8, 3) := by decide +kernel
theorem dX10_likeliest_28 : decode cX10_likeliest 28 = .ok (.aload_n 0, 1) := by decide +kernel
theorem dX10_likeliest_29 : decode cX10_likeliest 29 = .ok (.iload_n 1, 1) := by decide +kernel
theorem dX10_likeliest_30 : decode cX10_likeliest 30 = .ok (.invokevirtual 164, 3) := by decide +kernel
theorem dX10_likeliest_33 : decode cX10_likeliest 33 = .ok (.ireturn, 1) := by decide +kernel
theorem dX10_endSum_0 : decode cX10_endSum 0 = .ok (.iconst 0, 1) := by decide +kernel
theorem dX10_endSum_1 : decode cX10_endSum 1 = .ok (.istore_n 2, 1) := by decide +kernel
theorem dX10_endSum_2 : decode cX10_endSum 2 = .ok (.iconst 0, 1) := by decide +kernel
theorem dX10_endSum_3 : decode cX10_endSum 3 = .ok (.istore_n 3, 1) := by decide +kernel
theorem dX10_endSum_4 : decode cX10_endSum 4 = .ok (.iload_n 3, 1) := by decide +kernel
theorem dX10_endSum_5 : decode cX10_endSum 5 = .ok (.aload_n 0, 1) := by decide +kernel
theorem dX10_endSum_6 : decode cX10_endSum 6 = .ok (.getfield 7, 3) := by decide +kernel
theorem dX10_endSum_9 : decode cX10_endSum 9 = .ok (.iconst 0, 1) := by decide +kernel
theorem dX10_endSum_10 : decode cX10_endSum 10 = .ok (.iaload, 1) := by decide +kernel
theorem dX10_endSum_11 : decode cX10_endSum 11 = .ok (.if_icmp .ge 33, 3) := by decide +kernel
theorem dX10_endSum_14 : decode cX10_endSum 14 = .ok (.iload_n 1, 1) := by decide +kernel
theorem dX10_endSum_15 : decode cX10_endSum 15 = .ok (.ifCond .eq 11, 3) := by decide +kernel
theorem dX10_endSum_18 : decode cX10_endSum 18 = .ok (.aload_n 0, 1) := by decide +kernel
theorem dX10_endSum_19 : decode cX10_endSum 19 = .ok (.iload_n 3, 1) := by decide +kernel
theorem dX10_endSum_20 : decode cX10_endSum 20 = .ok (.invokevirtual 147, 3) := by decide +kernel
theorem dX10_endSum_23 : decode cX10_endSum 23 = .ok (.goto 8, 3) := by decide +kernel
theorem dX10_endSum_26 : decode cX10_endSum 26 = .ok (.aload_n 0, 1) := by decide +kernel
theorem dX10_endSum_27 : decode cX10_endSum 27 = .ok (.iload_n 3, 1) := by decide +kernel
theorem dX10_endSum_28 : decode cX10_endSum 28 = .ok (.invokevirtual 150, 3) := by decide +kernel
theorem dX10_endSum_31 : decode cX10_endSum 31 = .ok (.istore 4, 2) := by decide +kernel
theorem dX10_endSum_33 : decode cX10_endSum 33 = .ok (.iload_n 2, 1) := by decide +kernel
theorem dX10_endSum_34 : decode cX10_endSum 34 = .ok (.iload 4, 2) := by decide +kernel
theorem dX10_endSum_36 : decode cX10_endSum 36 = .ok (.iadd, 1) := by decide +kernel
theorem dX10_endSum_37 : decode cX10_endSum 37 = .ok (.istore_n 2, 1) := by decide +kernel
theorem dX10_endSum_38 : decode cX10_endSum 38 = .ok (.iinc 3 1, 3) := by decide +kernel
theorem dX10_endSum_41 : decode cX10_endSum 41 = .ok (.goto (-37), 3) := by decide +kernel
theorem dX10_endSum_44 : decode cX10_endSum 44 = .ok (.iload_n 2, 1) := by decide +kernel
theorem dX10_endSum_45 : decode cX10_endSum 45 = .ok (.ireturn, 1) := by decide +kernel
theorem dX10_counted_0 : decode cX10_counted 0 = .ok (.iload_n 1, 1) := by decide +kernel
theorem dX10_counted_1 : decode cX10_counted 1 = .ok (.tableswitch 56 5 8 #[31, 31, 46, 51], 31) := by decide +kernel
theorem dX10_counted_32 : decode cX10_counted 32 = .ok (.aload_n 0, 1) := by decide +kernel
theorem dX10_counted_33 : decode cX10_counted 33 = .ok (.iload_n 1, 1) := by decide +kernel
theorem dX10_counted_34 : decode cX10_counted 34 = .ok (.iconst 5, 1) := by decide +kernel
theorem dX10_counted_35 : decode cX10_counted 35 = .ok (.if_icmp .ne 7, 3) := by decide +kernel
theorem dX10_counted_38 : decode cX10_counted 38 = .ok (.iconst 1, 1) := by decide +kernel
theorem dX10_counted_39 : decode cX10_counted 39 = .ok (.goto 4, 3) := by decide +kernel
theorem dX10_counted_42 : decode cX10_counted 42 = .ok (.iconst 0, 1) := by decide +kernel
theorem dX10_counted_43 : decode cX10_counted 43 = .ok (.invokevirtual 167, 3) := by decide +kernel
theorem dX10_counted_46 : decode cX10_counted 46 = .ok (.ireturn, 1) := by decide +kernel
theorem dX10_counted_47 : decode cX10_counted 47 = .ok (.aload_n 0, 1) := by decide +kernel
theorem dX10_counted_48 : decode cX10_counted 48 = .ok (.invokevirtual 96, 3) := by decide +kernel
theorem dX10_counted_51 : decode cX10_counted 51 = .ok (.ireturn, 1) := by decide +kernel
theorem dX10_counted_52 : decode cX10_counted 52 = .ok (.aload_n 0, 1) := by decide +kernel
theorem dX10_counted_53 : decode cX10_counted 53 = .ok (.getfield 43, 3) := by decide +kernel
theorem dX10_counted_56 : decode cX10_counted 56 = .ok (.ireturn, 1) := by decide +kernel
theorem dX10_counted_57 : decode cX10_counted 57 = .ok (.aload_n 0, 1) := by decide +kernel
theorem dX10_counted_58 : decode cX10_counted 58 = .ok (.getfield 7, 3) := by decide +kernel
theorem dX10_counted_61 : decode cX10_counted 61 = .ok (.iload_n 1, 1) := by decide +kernel
theorem dX10_counted_62 : decode cX10_counted 62 = .ok (.iaload, 1) := by decide +kernel
theorem dX10_counted_63 : decode cX10_counted 63 = .ok (.ireturn, 1) := by decide +kernel
theorem dX10_count_0 : decode cX10_count 0 = .ok (.aload_n 0, 1) := by decide +kernel
theorem dX10_count_1 : decode cX10_count 1 = .ok (.iload_n 1, 1) := by decide +kernel
theorem dX10_count_2 : decode cX10_count 2 = .ok (.iconst 0, 1) := by decide +kernel
theorem dX10_count_3 : decode cX10_count 3 = .ok (.bipush 8, 2) := by decide +kernel
theorem dX10_count_5 : decode cX10_count 5 = .ok (.invokestatic 46, 3) := by decide +kernel
theorem dX10_count_8 : decode cX10_count 8 = .ok (.ifCond .eq 7, 3) := by decide +kernel
theorem dX10_count_11 : decode cX10_count 11 = .ok (.iconst 0, 1) := by decide +kernel
theorem dX10_count_12 : decode cX10_count 12 = .ok (.goto 4, 3) := by decide +kernel
theorem dX10_count_15 : decode cX10_count 15 = .ok (.iconst 1, 1) := by decide +kernel
theorem dX10_count_16 : decode cX10_count 16 = .ok (.putfield 39, 3) := by decide +kernel
theorem dX10_count_19 : decode cX10_count 19 = .ok (.aload_n 0, 1) := by decide +kernel
theorem dX10_count_20 : decode cX10_count 20 = .ok (.getfield 39, 3) := by decide +kernel
theorem dX10_count_23 : decode cX10_count 23 = .ok (.ifCond .le 7, 3) := by decide +kernel
theorem dX10_count_26 : decode cX10_count 26 = .ok (.iconst 0, 1) := by decide +kernel
theorem dX10_count_27 : decode cX10_count 27 = .ok (.goto 8, 3) := by decide +kernel
theorem dX10_count_30 : decode cX10_count 30 = .ok (.aload_n 0, 1) := by decide +kernel
theorem dX10_count_31 : decode cX10_count 31 = .ok (.iload_n 1, 1) := by decide +kernel
theorem dX10_count_32 : decode cX10_count 32 = .ok (.invokevirtual 171, 3) := by decide +kernel
theorem dX10_count_35 : decode cX10_count 35 = .ok (.ireturn, 1) := by decide +kernel
theorem dX10_bySamples_0 : decode cX10_bySamples 0 = .ok (.aload_n 0, 1) := by decide +kernel
theorem dX10_bySamples_1 : decode cX10_bySamples 1 = .ok (.getfield 7, 3) := by decide +kernel
theorem dX10_bySamples_4 : decode cX10_bySamples 4 = .ok (.iconst 3, 1) := by decide +kernel
theorem dX10_bySamples_5 : decode cX10_bySamples 5 = .ok (.iaload, 1) := by decide +kernel
theorem dX10_bySamples_6 : decode cX10_bySamples 6 = .ok (.ifCond .ne 7, 3) := by decide +kernel
theorem dX10_bySamples_9 : decode cX10_bySamples 9 = .ok (.dconst 0, 1) := by decide +kernel
theorem dX10_bySamples_10 : decode cX10_bySamples 10 = .ok (.goto 12, 3) := by decide +kernel
theorem dX10_bySamples_13 : decode cX10_bySamples 13 = .ok (.dload_n 1, 1) := by decide +kernel
theorem dX10_bySamples_14 : decode cX10_bySamples 14 = .ok (.aload_n 0, 1) := by decide +kernel
theorem dX10_bySamples_15 : decode cX10_bySamples 15 = .ok (.getfield 7, 3) := by decide +kernel
theorem dX10_bySamples_18 : decode cX10_bySamples 18 = .ok (.iconst 3, 1) := by decide +kernel
theorem dX10_bySamples_19 : decode cX10_bySamples 19 = .ok (.iaload, 1) := by decide +kernel
theorem dX10_bySamples_20 : decode cX10_bySamples 20 = .ok (.i2d, 1) := by decide +kernel
theorem dX10_bySamples_21 : decode cX10_bySamples 21 = .ok (.ddiv, 1) := by decide +kernel
theorem dX10_bySamples_22 : decode cX10_bySamples 22 = .ok (.dreturn, 1) := by decide +kernel
theorem dX10_effective_0 : decode cX10_effective 0 = .ok (.aload_n 0, 1) := by decide +kernel
theorem dX10_effective_1 : decode cX10_effective 1 = .ok (.getfield 7, 3) := by decide +kernel
theorem dX10_effective_4 : decode cX10_effective 4 = .ok (.iconst 3, 1) := by decide +kernel
theorem dX10_effective_5 : decode cX10_effective 5 = .ok (.iaload, 1) := by decide +kernel
theorem dX10_effective_6 : decode cX10_effective 6 = .ok (.ifCond .ne 7, 3) := by decide +kernel
theorem dX10_effective_9 : decode cX10_effective 9 = .ok (.dconst 0, 1) := by decide +kernel
theorem dX10_effective_10 : decode cX10_effective 10 = .ok (.goto 23, 3) := by decide +kernel
theorem dX10_effective_13 : decode cX10_effective 13 = .ok (.aload_n 0, 1) := by decide +kernel
theorem dX10_effective_14 : decode cX10_effective 14 = .ok (.getfield 13, 3) := by decide +kernel
theorem dX10_effective_17 : decode cX10_effective 17 = .ok (.iconst 1, 1) := by decide +kernel
theorem dX10_effective_18 : decode cX10_effective 18 = .ok (.daload, 1) := by decide +kernel
theorem dX10_effective_19 : decode cX10_effective 19 = .ok (.aload_n 0, 1) := by decide +kernel
theorem dX10_effective_20 : decode cX10_effective 20 = .ok (.getfield 13, 3) := by decide +kernel
theorem dX10_effective_23 : decode cX10_effective 23 = .ok (.iconst 1, 1) := by decide +kernel
theorem dX10_effective_24 : decode cX10_effective 24 = .ok (.daload, 1) := by decide +kernel
theorem dX10_effective_25 : decode cX10_effective 25 = .ok (.dmul, 1) := by decide +kernel
theorem dX10_effective_26 : decode cX10_effective 26 = .ok (.aload_n 0, 1) := by decide +kernel
theorem dX10_effective_27 : decode cX10_effective 27 = .ok (.getfield 13, 3) := by decide +kernel
theorem dX10_effective_30 : decode cX10_effective 30 = .ok (.iconst 2, 1) := by decide +kernel
theorem dX10_effective_31 : decode cX10_effective 31 = .ok (.daload, 1) := by decide +kernel
theorem dX10_effective_32 : decode cX10_effective 32 = .ok (.ddiv, 1) := by decide +kernel
theorem dX10_effective_33 : decode cX10_effective 33 = .ok (.dreturn, 1) := by decide +kernel
theorem dX10_measured_0 : decode cX10_measured 0 = .ok (.iload_n 1, 1) := by decide +kernel
theorem dX10_measured_1 : decode cX10_measured 1 = .ok (.tableswitch 97 0 5 #[39, 51, 62, 74, 85, 90], 39) := by decide +kernel
theorem dX10_measured_40 : decode cX10_measured 40 = .ok (.aload_n 0, 1) := by decide +kernel
theorem dX10_measured_41 : decode cX10_measured 41 = .ok (.aload_n 0, 1) := by decide +kernel
theorem dX10_measured_42 : decode cX10_measured 42 = .ok (.getfield 7, 3) := by decide +kernel
theorem dX10_measured_45 : decode cX10_measured 45 = .ok (.iconst 1, 1) := by decide +kernel
theorem dX10_measured_46 : decode cX10_measured 46 = .ok (.iaload, 1) := by decide +kernel
theorem dX10_measured_47 : decode cX10_measured 47 = .ok (.iconst (-1), 1) := by decide +kernel
theorem dX10_measured_48 : decode cX10_measured 48 = .ok (.invokevirtual 174, 3) := by decide +kernel
theorem dX10_measured_51 : decode cX10_measured 51 = .ok (.dreturn, 1) := by decide +kernel
theorem dX10_measured_52 : decode cX10_measured 52 = .ok (.aload_n 0, 1) := by decide +kernel
theorem dX10_measured_53 : decode cX10_measured 53 = .ok (.aload_n 0, 1) := by decide +kernel
theorem dX10_measured_54 : decode cX10_measured 54 = .ok (.getfield 13, 3) := by decide +kernel
theorem dX10_measured_57 : decode cX10_measured 57 = .ok (.iconst 0, 1) := by decide +kernel
theorem dX10_measured_58 : decode cX10_measured 58 = .ok (.daload, 1) := by decide +kernel
theorem dX10_measured_59 : decode cX10_measured 59 = .ok (.invokevirtual 178, 3) := by decide +kernel
theorem dX10_measured_62 : decode cX10_measured 62 = .ok (.dreturn, 1) := by decide +kernel
theorem dX10_measured_63 : decode cX10_measured 63 = .ok (.aload_n 0, 1) := by decide +kernel
theorem dX10_measured_64 : decode cX10_measured 64 = .ok (.aload_n 0, 1) := by decide +kernel
theorem dX10_measured_65 : decode cX10_measured 65 = .ok (.getfield 7, 3) := by decide +kernel
theorem dX10_measured_68 : decode cX10_measured 68 = .ok (.iconst 4, 1) := by decide +kernel
theorem dX10_measured_69 : decode cX10_measured 69 = .ok (.iaload, 1) := by decide +kernel
theorem dX10_measured_70 : decode cX10_measured 70 = .ok (.i2d, 1) := by decide +kernel
theorem dX10_measured_71 : decode cX10_measured 71 = .ok (.invokevirtual 178, 3) := by decide +kernel
theorem dX10_measured_74 : decode cX10_measured 74 = .ok (.dreturn, 1) := by decide +kernel
theorem dX10_measured_75 : decode cX10_measured 75 = .ok (.aload_n 0, 1) := by decide +kernel
theorem dX10_measured_76 : decode cX10_measured 76 = .ok (.aload_n 0, 1) := by decide +kernel
theorem dX10_measured_77 : decode cX10_measured 77 = .ok (.getfield 13, 3) := by decide +kernel
theorem dX10_measured_80 : decode cX10_measured 80 = .ok (.iconst 1, 1) := by decide +kernel
theorem dX10_measured_81 : decode cX10_measured 81 = .ok (.daload, 1) := by decide +kernel
theorem dX10_measured_82 : decode cX10_measured 82 = .ok (.invokevirtual 178, 3) := by decide +kernel
theorem dX10_measured_85 : decode cX10_measured 85 = .ok (.dreturn, 1) := by decide +kernel
theorem dX10_measured_86 : decode cX10_measured 86 = .ok (.aload_n 0, 1) := by decide +kernel
theorem dX10_measured_87 : decode cX10_measured 87 = .ok (.invokevirtual 182, 3) := by decide +kernel
theorem dX10_measured_90 : decode cX10_measured 90 = .ok (.dreturn, 1) := by decide +kernel
theorem dX10_measured_91 : decode cX10_measured 91 = .ok (.aload_n 0, 1) := by decide +kernel
theorem dX10_measured_92 : decode cX10_measured 92 = .ok (.getfield 13, 3) := by decide +kernel
theorem dX10_measured_95 : decode cX10_measured 95 = .ok (.iconst 3, 1) := by decide +kernel
theorem dX10_measured_96 : decode cX10_measured 96 = .ok (.daload, 1) := by decide +kernel
theorem dX10_measured_97 : decode cX10_measured 97 = .ok (.dreturn, 1) := by decide +kernel
theorem dX10_measured_98 : decode cX10_measured 98 = .ok (.aload_n 0, 1) := by decide +kernel
theorem dX10_measured_99 : decode cX10_measured 99 = .ok (.aload_n 0, 1) := by decide +kernel
theorem dX10_measured_100 : decode cX10_measured 100 = .ok (.getfield 13, 3) := by decide +kernel
theorem dX10_measured_103 : decode cX10_measured 103 = .ok (.iconst 0, 1) := by decide +kernel
theorem dX10_measured_104 : decode cX10_measured 104 = .ok (.daload, 1) := by decide +kernel
theorem dX10_measured_105 : decode cX10_measured 105 = .ok (.invokevirtual 178, 3) := by decide +kernel
theorem dX10_measured_108 : decode cX10_measured 108 = .ok (.aload_n 0, 1) := by decide +kernel
theorem dX10_measured_109 : decode cX10_measured 109 = .ok (.aload_n 0, 1) := by decide +kernel
theorem dX10_measured_110 : decode cX10_measured 110 = .ok (.getfield 7, 3) := by decide +kernel
theorem dX10_measured_113 : decode cX10_measured 113 = .ok (.iconst 1, 1) := by decide +kernel
theorem dX10_measured_114 : decode cX10_measured 114 = .ok (.iaload, 1) := by decide +kernel
theorem dX10_measured_115 : decode cX10_measured 115 = .ok (.iconst (-1), 1) := by decide +kernel
theorem dX10_measured_116 : decode cX10_measured 116 = .ok (.invokevirtual 174, 3) := by decide +kernel
theorem dX10_measured_119 : decode cX10_measured 119 = .ok (.dsub, 1) := by decide +kernel
theorem dX10_measured_120 : decode cX10_measured 120 = .ok (.dreturn, 1) := by decide +kernel
theorem dX10_measure_0 : decode cX10_measure 0 = .ok (.aload_n 0, 1) := by decide +kernel
theorem dX10_measure_1 : decode cX10_measure 1 = .ok (.iload_n 1, 1) := by decide +kernel
theorem dX10_measure_2 : decode cX10_measure 2 = .ok (.iconst 0, 1) := by decide +kernel
theorem dX10_measure_3 : decode cX10_measure 3 = .ok (.bipush 6, 2) := by decide +kernel
theorem dX10_measure_5 : decode cX10_measure 5 = .ok (.invokestatic 46, 3) := by decide +kernel
theorem dX10_measure_8 : decode cX10_measure 8 = .ok (.ifCond .eq 7, 3) := by decide +kernel
theorem dX10_measure_11 : decode cX10_measure 11 = .ok (.iconst 0, 1) := by decide +kernel
theorem dX10_measure_12 : decode cX10_measure 12 = .ok (.goto 4, 3) := by decide +kernel
theorem dX10_measure_15 : decode cX10_measure 15 = .ok (.iconst 1, 1) := by decide +kernel
theorem dX10_measure_16 : decode cX10_measure 16 = .ok (.putfield 39, 3) := by decide +kernel
theorem dX10_measure_19 : decode cX10_measure 19 = .ok (.aload_n 0, 1) := by decide +kernel
theorem dX10_measure_20 : decode cX10_measure 20 = .ok (.getfield 39, 3) := by decide +kernel
theorem dX10_measure_23 : decode cX10_measure 23 = .ok (.ifCond .le 7, 3) := by decide +kernel
theorem dX10_measure_26 : decode cX10_measure 26 = .ok (.dconst 0, 1) := by decide +kernel
theorem dX10_measure_27 : decode cX10_measure 27 = .ok (.goto 8, 3) := by decide +kernel
theorem dX10_measure_30 : decode cX10_measure 30 = .ok (.aload_n 0, 1) := by decide +kernel
theorem dX10_measure_31 : decode cX10_measure 31 = .ok (.iload_n 1, 1) := by decide +kernel
theorem dX10_measure_32 : decode cX10_measure 32 = .ok (.invokevirtual 186, 3) := by decide +kernel
theorem dX10_measure_35 : decode cX10_measure 35 = .ok (.dreturn, 1) := by decide +kernel
theorem dX10_ifLimit_0 : decode cX10_ifLimit 0 = .ok (.aload_n 0, 1) := by decide +kernel
theorem dX10_ifLimit_1 : decode cX10_ifLimit 1 = .ok (.iload_n 1, 1) := by decide +kernel
theorem dX10_ifLimit_2 : decode cX10_ifLimit 2 = .ok (.invokestatic 120, 3) := by decide +kernel
theorem dX10_ifLimit_5 : decode cX10_ifLimit 5 = .ok (.ifCond .eq 7, 3) := by decide +kernel
theorem dX10_ifLimit_8 : decode cX10_ifLimit 8 = .ok (.iconst 0, 1) := by decide +kernel
theorem dX10_ifLimit_9 : decode cX10_ifLimit 9 = .ok (.goto 4, 3) := by decide +kernel
theorem dX10_ifLimit_12 : decode cX10_ifLimit 12 = .ok (.iconst 1, 1) := by decide +kernel
theorem dX10_ifLimit_13 : decode cX10_ifLimit 13 = .ok (.putfield 39, 3) := by decide +kernel
theorem dX10_ifLimit_16 : decode cX10_ifLimit 16 = .ok (.aload_n 0, 1) := by decide +kernel
theorem dX10_ifLimit_17 : decode cX10_ifLimit 17 = .ok (.getfield 39, 3) := by decide +kernel
theorem dX10_ifLimit_20 : decode cX10_ifLimit 20 = .ok (.ifCond .le 7, 3) := by decide +kernel
theorem dX10_ifLimit_23 : decode cX10_ifLimit 23 = .ok (.dconst 0, 1) := by decide +kernel
theorem dX10_ifLimit_24 : decode cX10_ifLimit 24 = .ok (.goto 9, 3) := by decide +kernel
theorem dX10_ifLimit_27 : decode cX10_ifLimit 27 = .ok (.aload_n 0, 1) := by decide +kernel
theorem dX10_ifLimit_28 : decode cX10_ifLimit 28 = .ok (.iload_n 1, 1) := by decide +kernel
theorem dX10_ifLimit_29 : decode cX10_ifLimit 29 = .ok (.iconst (-1), 1) := by decide +kernel
theorem dX10_ifLimit_30 : decode cX10_ifLimit 30 = .ok (.invokevirtual 174, 3) := by decide +kernel
theorem dX10_ifLimit_33 : decode cX10_ifLimit 33 = .ok (.dreturn, 1) := by decide +kernel
theorem dX10_limitNow_0 : decode cX10_limitNow 0 = .ok (.aload_n 0, 1) := by decide +kernel
theorem dX10_limitNow_1 : decode cX10_limitNow 1 = .ok (.iconst (-1), 1) := by decide +kernel
theorem dX10_limitNow_2 : decode cX10_limitNow 2 = .ok (.invokevirtual 82, 3) := by decide +kernel
theorem dX10_limitNow_5 : decode cX10_limitNow 5 = .ok (.iconst 0, 1) := by decide +kernel
theorem dX10_limitNow_6 : decode cX10_limitNow 6 = .ok (.istore_n 2, 1) := by decide +kernel
theorem dX10_limitNow_7 : decode cX10_limitNow 7 = .ok (.aload_n 0, 1) := by decide +kernel
theorem dX10_limitNow_8 : decode cX10_limitNow 8 = .ok (.iload_n 2, 1) := by decide +kernel
theorem dX10_limitNow_9 : decode cX10_limitNow 9 = .ok (.invokevirtual 85, 3) := by decide +kernel
theorem dX10_limitNow_12 : decode cX10_limitNow 12 = .ok (.ldc2_w 190, 3) := by decide +kernel
theorem dX10_limitNow_15 : decode cX10_limitNow 15 = .ok (.lmul, 1) := by decide +kernel
theorem dX10_limitNow_16 : decode cX10_limitNow 16 = .ok (.aload_n 0, 1) := by decide +kernel
theorem dX10_limitNow_17 : decode cX10_limitNow 17 = .ok (.iconst 0, 1) := by decide +kernel
theorem dX10_limitNow_18 : decode cX10_limitNow 18 = .ok (.invokevirtual 85, 3) := by decide +kernel
theorem dX10_limitNow_21 : decode cX10_limitNow 21 = .ok (.iload_n 1, 1) := by decide +kernel
theorem dX10_limitNow_22 : decode cX10_limitNow 22 = .ok (.i2l, 1) := by decide +kernel
theorem dX10_limitNow_23 : decode cX10_limitNow 23 = .ok (.lmul, 1) := by decide +kernel
theorem dX10_limitNow_24 : decode cX10_limitNow 24 = .ok (.lcmp, 1) := by decide +kernel
theorem dX10_limitNow_25 : decode cX10_limitNow 25 = .ok (.ifCond .le 9, 3) := by decide +kernel
theorem dX10_limitNow_28 : decode cX10_limitNow 28 = .ok (.iinc 2 1, 3) := by decide +kernel
theorem dX10_limitNow_31 : decode cX10_limitNow 31 = .ok (.goto (-24), 3) := by decide +kernel
theorem dX10_limitNow_34 : decode cX10_limitNow 34 = .ok (.iload_n 2, 1) := by decide +kernel
theorem dX10_limitNow_35 : decode cX10_limitNow 35 = .ok (.ireturn, 1) := by decide +kernel
theorem dX10_limitFor_0 : decode cX10_limitFor 0 = .ok (.aload_n 0, 1) := by decide +kernel
theorem dX10_limitFor_1 : decode cX10_limitFor 1 = .ok (.iload_n 1, 1) := by decide +kernel
theorem dX10_limitFor_2 : decode cX10_limitFor 2 = .ok (.iconst 0, 1) := by decide +kernel
theorem dX10_limitFor_3 : decode cX10_limitFor 3 = .ok (.sipush 1000, 3) := by decide +kernel
theorem dX10_limitFor_6 : decode cX10_limitFor 6 = .ok (.invokestatic 46, 3) := by decide +kernel
theorem dX10_limitFor_9 : decode cX10_limitFor 9 = .ok (.ifCond .eq 7, 3) := by decide +kernel
theorem dX10_limitFor_12 : decode cX10_limitFor 12 = .ok (.iconst 0, 1) := by decide +kernel
theorem dX10_limitFor_13 : decode cX10_limitFor 13 = .ok (.goto 4, 3) := by decide +kernel
theorem dX10_limitFor_16 : decode cX10_limitFor 16 = .ok (.iconst 1, 1) := by decide +kernel
theorem dX10_limitFor_17 : decode cX10_limitFor 17 = .ok (.putfield 39, 3) := by decide +kernel
theorem dX10_limitFor_20 : decode cX10_limitFor 20 = .ok (.aload_n 0, 1) := by decide +kernel
theorem dX10_limitFor_21 : decode cX10_limitFor 21 = .ok (.getfield 39, 3) := by decide +kernel
theorem dX10_limitFor_24 : decode cX10_limitFor 24 = .ok (.ifCond .le 7, 3) := by decide +kernel
theorem dX10_limitFor_27 : decode cX10_limitFor 27 = .ok (.iconst 0, 1) := by decide +kernel
theorem dX10_limitFor_28 : decode cX10_limitFor 28 = .ok (.goto 8, 3) := by decide +kernel
theorem dX10_limitFor_31 : decode cX10_limitFor 31 = .ok (.aload_n 0, 1) := by decide +kernel
theorem dX10_limitFor_32 : decode cX10_limitFor 32 = .ok (.iload_n 1, 1) := by decide +kernel
theorem dX10_limitFor_33 : decode cX10_limitFor 33 = .ok (.invokevirtual 192, 3) := by decide +kernel
theorem dX10_limitFor_36 : decode cX10_limitFor 36 = .ok (.ireturn, 1) := by decide +kernel
theorem dX10_correctionOf_0 : decode cX10_correctionOf 0 = .ok (.iconst 0, 1) := by decide +kernel
theorem dX10_correctionOf_1 : decode cX10_correctionOf 1 = .ok (.istore_n 2, 1) := by decide +kernel
theorem dX10_correctionOf_2 : decode cX10_correctionOf 2 = .ok (.dconst 1, 1) := by decide +kernel
theorem dX10_correctionOf_3 : decode cX10_correctionOf 3 = .ok (.dstore_n 3, 1) := by decide +kernel
theorem dX10_correctionOf_4 : decode cX10_correctionOf 4 = .ok (.iconst 0, 1) := by decide +kernel
theorem dX10_correctionOf_5 : decode cX10_correctionOf 5 = .ok (.istore 5, 2) := by decide +kernel
theorem dX10_correctionOf_7 : decode cX10_correctionOf 7 = .ok (.iload 5, 2) := by decide +kernel
theorem dX10_correctionOf_9 : decode cX10_correctionOf 9 = .ok (.aload_n 0, 1) := by decide +kernel
theorem dX10_correctionOf_10 : decode cX10_correctionOf 10 = .ok (.getfield 7, 3) := by decide +kernel
theorem dX10_correctionOf_13 : decode cX10_correctionOf 13 = .ok (.iconst 0, 1) := by decide +kernel
theorem dX10_correctionOf_14 : decode cX10_correctionOf 14 = .ok (.iaload, 1) := by decide +kernel
theorem dX10_correctionOf_15 : decode cX10_correctionOf 15 = .ok (.if_icmp .ge 52, 3) := by decide +kernel
theorem dX10_correctionOf_18 : decode cX10_correctionOf 18 = .ok (.aload_n 0, 1) := by decide +kernel
theorem dX10_correctionOf_19 : decode cX10_correctionOf 19 = .ok (.iload 5, 2) := by decide +kernel
theorem dX10_correctionOf_21 : decode cX10_correctionOf 21 = .ok (.aload_n 0, 1) := by decide +kernel
theorem dX10_correctionOf_22 : decode cX10_correctionOf 22 = .ok (.getfield 36, 3) := by decide +kernel
theorem dX10_correctionOf_25 : decode cX10_correctionOf 25 = .ok (.iload 5, 2) := by decide +kernel
theorem dX10_correctionOf_27 : decode cX10_correctionOf 27 = .ok (.iaload, 1) := by decide +kernel
theorem dX10_correctionOf_28 : decode cX10_correctionOf 28 = .ok (.invokevirtual 50, 3) := by decide +kernel
theorem dX10_correctionOf_31 : decode cX10_correctionOf 31 = .ok (.ifCond .ne 5, 3) := by decide +kernel
theorem dX10_correctionOf_34 : decode cX10_correctionOf 34 = .ok (.dconst 0, 1) := by decide +kernel
theorem dX10_correctionOf_35 : decode cX10_correctionOf 35 = .ok (.dreturn, 1) := by decide +kernel
theorem dX10_correctionOf_36 : decode cX10_correctionOf 36 = .ok (.iload_n 2, 1) := by decide +kernel
theorem dX10_correctionOf_37 : decode cX10_correctionOf 37 = .ok (.aload_n 0, 1) := by decide +kernel
theorem dX10_correctionOf_38 : decode cX10_correctionOf 38 = .ok (.getfield 36, 3) := by decide +kernel
theorem dX10_correctionOf_41 : decode cX10_correctionOf 41 = .ok (.iload 5, 2) := by decide +kernel
theorem dX10_correctionOf_43 : decode cX10_correctionOf 43 = .ok (.iaload, 1) := by decide +kernel
theorem dX10_correctionOf_44 : decode cX10_correctionOf 44 = .ok (.iadd, 1) := by decide +kernel
theorem dX10_correctionOf_45 : decode cX10_correctionOf 45 = .ok (.istore_n 2, 1) := by decide +kernel
theorem dX10_correctionOf_46 : decode cX10_correctionOf 46 = .ok (.aload_n 0, 1) := by decide +kernel
theorem dX10_correctionOf_47 : decode cX10_correctionOf 47 = .ok (.dload_n 3, 1) := by decide +kernel
theorem dX10_correctionOf_48 : decode cX10_correctionOf 48 = .ok (.iload 5, 2) := by decide +kernel
theorem dX10_correctionOf_50 : decode cX10_correctionOf 50 = .ok (.aload_n 0, 1) := by decide +kernel
theorem dX10_correctionOf_51 : decode cX10_correctionOf 51 = .ok (.getfield 36, 3) := by decide +kernel
theorem dX10_correctionOf_54 : decode cX10_correctionOf 54 = .ok (.iload 5, 2) := by decide +kernel
theorem dX10_correctionOf_56 : decode cX10_correctionOf 56 = .ok (.iaload, 1) := by decide +kernel
theorem dX10_correctionOf_57 : decode cX10_correctionOf 57 = .ok (.invokevirtual 74, 3) := by decide +kernel
theorem dX10_correctionOf_60 : decode cX10_correctionOf 60 = .ok (.dstore_n 3, 1) := by decide +kernel
theorem dX10_correctionOf_61 : decode cX10_correctionOf 61 = .ok (.iinc 5 1, 3) := by decide +kernel
theorem dX10_correctionOf_64 : decode cX10_correctionOf 64 = .ok (.goto (-57), 3) := by decide +kernel
theorem dX10_correctionOf_67 : decode cX10_correctionOf 67 = .ok (.iload_n 1, 1) := by decide +kernel
theorem dX10_correctionOf_68 : decode cX10_correctionOf 68 = .ok (.ifCond .eq 17, 3) := by decide +kernel
theorem dX10_correctionOf_71 : decode cX10_correctionOf 71 = .ok (.iload_n 2, 1) := by decide +kernel
theorem dX10_correctionOf_72 : decode cX10_correctionOf 72 = .ok (.aload_n 0, 1) := by decide +kernel
theorem dX10_correctionOf_73 : decode cX10_correctionOf 73 = .ok (.getfield 7, 3) := by decide +kernel
theorem dX10_correctionOf_76 : decode cX10_correctionOf 76 = .ok (.iconst 1, 1) := by decide +kernel
theorem dX10_correctionOf_77 : decode cX10_correctionOf 77 = .ok (.iaload, 1) := by decide +kernel
theorem dX10_correctionOf_78 : decode cX10_correctionOf 78 = .ok (.if_icmp .ge 7, 3) := by decide +kernel
theorem dX10_correctionOf_81 : decode cX10_correctionOf 81 = .ok (.dconst 0, 1) := by decide +kernel
theorem dX10_correctionOf_82 : decode cX10_correctionOf 82 = .ok (.goto 4, 3) := by decide +kernel
theorem dX10_correctionOf_85 : decode cX10_correctionOf 85 = .ok (.dload_n 3, 1) := by decide +kernel
theorem dX10_correctionOf_86 : decode cX10_correctionOf 86 = .ok (.dreturn, 1) := by decide +kernel
theorem dX10_goesOn_0 : decode cX10_goesOn 0 = .ok (.aload_n 0, 1) := by decide +kernel
theorem dX10_goesOn_1 : decode cX10_goesOn 1 = .ok (.getfield 7, 3) := by decide +kernel
theorem dX10_goesOn_4 : decode cX10_goesOn 4 = .ok (.iconst 0, 1) := by decide +kernel
theorem dX10_goesOn_5 : decode cX10_goesOn 5 = .ok (.iaload, 1) := by decide +kernel
theorem dX10_goesOn_6 : decode cX10_goesOn 6 = .ok (.iconst 1, 1) := by decide +kernel
theorem dX10_goesOn_7 : decode cX10_goesOn 7 = .ok (.isub, 1) := by decide +kernel
theorem dX10_goesOn_8 : decode cX10_goesOn 8 = .ok (.istore_n 1, 1) := by decide +kernel
theorem dX10_goesOn_9 : decode cX10_goesOn 9 = .ok (.iload_n 1, 1) := by decide +kernel
theorem dX10_goesOn_10 : decode cX10_goesOn 10 = .ok (.ifCond .lt 26, 3) := by decide +kernel
theorem dX10_goesOn_13 : decode cX10_goesOn 13 = .ok (.aload_n 0, 1) := by decide +kernel
theorem dX10_goesOn_14 : decode cX10_goesOn 14 = .ok (.getfield 36, 3) := by decide +kernel
theorem dX10_goesOn_17 : decode cX10_goesOn 17 = .ok (.iload_n 1, 1) := by decide +kernel
theorem dX10_goesOn_18 : decode cX10_goesOn 18 = .ok (.iaload, 1) := by decide +kernel
theorem dX10_goesOn_19 : decode cX10_goesOn 19 = .ok (.iconst 5, 1) := by decide +kernel
theorem dX10_goesOn_20 : decode cX10_goesOn 20 = .ok (.if_icmp .ne 16, 3) := by decide +kernel
theorem dX10_goesOn_23 : decode cX10_goesOn 23 = .ok (.aload_n 0, 1) := by decide +kernel
theorem dX10_goesOn_24 : decode cX10_goesOn 24 = .ok (.getfield 36, 3) := by decide +kernel
theorem dX10_goesOn_27 : decode cX10_goesOn 27 = .ok (.iload_n 1, 1) := by decide +kernel
theorem dX10_goesOn_28 : decode cX10_goesOn 28 = .ok (.iconst 0, 1) := by decide +kernel
theorem dX10_goesOn_29 : decode cX10_goesOn 29 = .ok (.iastore, 1) := by decide +kernel
theorem dX10_goesOn_30 : decode cX10_goesOn 30 = .ok (.iinc 1 (-1), 3) := by decide +kernel
theorem dX10_goesOn_33 : decode cX10_goesOn 33 = .ok (.goto (-24), 3) := by decide +kernel
theorem dX10_goesOn_36 : decode cX10_goesOn 36 = .ok (.iload_n 1, 1) := by decide +kernel
theorem dX10_goesOn_37 : decode cX10_goesOn 37 = .ok (.ifCond .lt 13, 3) := by decide +kernel
theorem dX10_goesOn_40 : decode cX10_goesOn 40 = .ok (.aload_n 0, 1) := by decide +kernel
theorem dX10_goesOn_41 : decode cX10_goesOn 41 = .ok (.getfield 36, 3) := by decide +kernel
theorem dX10_goesOn_44 : decode cX10_goesOn 44 = .ok (.iload_n 1, 1) := by decide +kernel
theorem dX10_goesOn_45 : decode cX10_goesOn 45 = .ok (.dup2, 1) := by decide +kernel
theorem dX10_goesOn_46 : decode cX10_goesOn 46 = .ok (.iaload, 1) := by decide +kernel
theorem dX10_goesOn_47 : decode cX10_goesOn 47 = .ok (.iconst 1, 1) := by decide +kernel
theorem dX10_goesOn_48 : decode cX10_goesOn 48 = .ok (.iadd, 1) := by decide +kernel
theorem dX10_goesOn_49 : decode cX10_goesOn 49 = .ok (.iastore, 1) := by decide +kernel
theorem dX10_goesOn_50 : decode cX10_goesOn 50 = .ok (.iload_n 1, 1) := by decide +kernel
theorem dX10_goesOn_51 : decode cX10_goesOn 51 = .ok (.ifCond .lt 7, 3) := by decide +kernel
theorem dX10_goesOn_54 : decode cX10_goesOn 54 = .ok (.iconst 1, 1) := by decide +kernel
theorem dX10_goesOn_55 : decode cX10_goesOn 55 = .ok (.goto 4, 3) := by decide +kernel
theorem dX10_goesOn_58 : decode cX10_goesOn 58 = .ok (.iconst 0, 1) := by decide +kernel
theorem dX10_goesOn_59 : decode cX10_goesOn 59 = .ok (.ireturn, 1) := by decide +kernel
theorem dX10_greatestNow_0 : decode cX10_greatestNow 0 = .ok (.iconst 0, 1) := by decide +kernel
theorem dX10_greatestNow_1 : decode cX10_greatestNow 1 = .ok (.istore_n 2, 1) := by decide +kernel
theorem dX10_greatestNow_2 : decode cX10_greatestNow 2 = .ok (.iload_n 2, 1) := by decide +kernel
theorem dX10_greatestNow_3 : decode cX10_greatestNow 3 = .ok (.bipush 6, 2) := by decide +kernel
theorem dX10_greatestNow_5 : decode cX10_greatestNow 5 = .ok (.if_icmp .ge 16, 3) := by decide +kernel
theorem dX10_greatestNow_8 : decode cX10_greatestNow 8 = .ok (.aload_n 0, 1) := by decide +kernel
theorem dX10_greatestNow_9 : decode cX10_greatestNow 9 = .ok (.getfield 36, 3) := by decide +kernel
theorem dX10_greatestNow_12 : decode cX10_greatestNow 12 = .ok (.iload_n 2, 1) := by decide +kernel
theorem dX10_greatestNow_13 : decode cX10_greatestNow 13 = .ok (.iconst 0, 1) := by decide +kernel
theorem dX10_greatestNow_14 : decode cX10_greatestNow 14 = .ok (.iastore, 1) := by decide +kernel
theorem dX10_greatestNow_15 : decode cX10_greatestNow 15 = .ok (.iinc 2 1, 3) := by decide +kernel
theorem dX10_greatestNow_18 : decode cX10_greatestNow 18 = .ok (.goto (-16), 3) := by decide +kernel
theorem dX10_greatestNow_21 : decode cX10_greatestNow 21 = .ok (.aload_n 0, 1) := by decide +kernel
theorem dX10_greatestNow_22 : decode cX10_greatestNow 22 = .ok (.iload_n 1, 1) := by decide +kernel
theorem dX10_greatestNow_23 : decode cX10_greatestNow 23 = .ok (.invokevirtual 195, 3) := by decide +kernel
theorem dX10_greatestNow_26 : decode cX10_greatestNow 26 = .ok (.dstore_n 2, 1) := by decide +kernel
theorem dX10_greatestNow_27 : decode cX10_greatestNow 27 = .ok (.aload_n 0, 1) := by decide +kernel
theorem dX10_greatestNow_28 : decode cX10_greatestNow 28 = .ok (.invokevirtual 199, 3) := by decide +kernel
theorem dX10_greatestNow_31 : decode cX10_greatestNow 31 = .ok (.ifCond .eq 27, 3) := by decide +kernel
theorem dX10_greatestNow_34 : decode cX10_greatestNow 34 = .ok (.aload_n 0, 1) := by decide +kernel
theorem dX10_greatestNow_35 : decode cX10_greatestNow 35 = .ok (.iload_n 1, 1) := by decide +kernel
theorem dX10_greatestNow_36 : decode cX10_greatestNow 36 = .ok (.invokevirtual 195, 3) := by decide +kernel
theorem dX10_greatestNow_39 : decode cX10_greatestNow 39 = .ok (.dstore 4, 2) := by decide +kernel
theorem dX10_greatestNow_41 : decode cX10_greatestNow 41 = .ok (.dload 4, 2) := by decide +kernel
theorem dX10_greatestNow_43 : decode cX10_greatestNow 43 = .ok (.dload_n 2, 1) := by decide +kernel
theorem dX10_greatestNow_44 : decode cX10_greatestNow 44 = .ok (.dcmp .l, 1) := by decide +kernel
theorem dX10_greatestNow_45 : decode cX10_greatestNow 45 = .ok (.ifCond .le 8, 3) := by decide +kernel
theorem dX10_greatestNow_48 : decode cX10_greatestNow 48 = .ok (.dload 4, 2) := by decide +kernel
theorem dX10_greatestNow_50 : decode cX10_greatestNow 50 = .ok (.goto 4, 3) := by decide +kernel
theorem dX10_greatestNow_53 : decode cX10_greatestNow 53 = .ok (.dload_n 2, 1) := by decide +kernel
theorem dX10_greatestNow_54 : decode cX10_greatestNow 54 = .ok (.dstore_n 2, 1) := by decide +kernel
theorem dX10_greatestNow_55 : decode cX10_greatestNow 55 = .ok (.goto (-28), 3) := by decide +kernel
theorem dX10_greatestNow_58 : decode cX10_greatestNow 58 = .ok (.dload_n 2, 1) := by decide +kernel
theorem dX10_greatestNow_59 : decode cX10_greatestNow 59 = .ok (.dreturn, 1) := by decide +kernel
theorem dX10_greatest_0 : decode cX10_greatest 0 = .ok (.aload_n 0, 1) := by decide +kernel
theorem dX10_greatest_1 : decode cX10_greatest 1 = .ok (.iconst 0, 1) := by decide +kernel
theorem dX10_greatest_2 : decode cX10_greatest 2 = .ok (.putfield 39, 3) := by decide +kernel
theorem dX10_greatest_5 : decode cX10_greatest 5 = .ok (.aload_n 0, 1) := by decide +kernel
theorem dX10_greatest_6 : decode cX10_greatest 6 = .ok (.iload_n 1, 1) := by decide +kernel
theorem dX10_greatest_7 : decode cX10_greatest 7 = .ok (.invokevirtual 203, 3) := by decide +kernel
theorem dX10_greatest_10 : decode cX10_greatest 10 = .ok (.dreturn, 1) := by decide +kernel
theorem dX10_slightestNow_0 : decode cX10_slightestNow 0 = .ok (.iconst (-1), 1) := by decide +kernel
theorem dX10_slightestNow_1 : decode cX10_slightestNow 1 = .ok (.istore_n 1, 1) := by decide +kernel
theorem dX10_slightestNow_2 : decode cX10_slightestNow 2 = .ok (.dconst 0, 1) := by decide +kernel
theorem dX10_slightestNow_3 : decode cX10_slightestNow 3 = .ok (.dstore_n 2, 1) := by decide +kernel
theorem dX10_slightestNow_4 : decode cX10_slightestNow 4 = .ok (.iconst 0, 1) := by decide +kernel
theorem dX10_slightestNow_5 : decode cX10_slightestNow 5 = .ok (.istore 4, 2) := by decide +kernel
theorem dX10_slightestNow_7 : decode cX10_slightestNow 7 = .ok (.iload 4, 2) := by decide +kernel
theorem dX10_slightestNow_9 : decode cX10_slightestNow 9 = .ok (.aload_n 0, 1) := by decide +kernel
theorem dX10_slightestNow_10 : decode cX10_slightestNow 10 = .ok (.getfield 7, 3) := by decide +kernel
theorem dX10_slightestNow_13 : decode cX10_slightestNow 13 = .ok (.iconst 0, 1) := by decide +kernel
theorem dX10_slightestNow_14 : decode cX10_slightestNow 14 = .ok (.iaload, 1) := by decide +kernel
theorem dX10_slightestNow_15 : decode cX10_slightestNow 15 = .ok (.if_icmp .ge 66, 3) := by decide +kernel
theorem dX10_slightestNow_18 : decode cX10_slightestNow 18 = .ok (.aload_n 0, 1) := by decide +kernel
theorem dX10_slightestNow_19 : decode cX10_slightestNow 19 = .ok (.aload_n 0, 1) := by decide +kernel
theorem dX10_slightestNow_20 : decode cX10_slightestNow 20 = .ok (.getfield 7, 3) := by decide +kernel
theorem dX10_slightestNow_23 : decode cX10_slightestNow 23 = .ok (.iconst 1, 1) := by decide +kernel
theorem dX10_slightestNow_24 : decode cX10_slightestNow 24 = .ok (.iaload, 1) := by decide +kernel
theorem dX10_slightestNow_25 : decode cX10_slightestNow 25 = .ok (.iload 4, 2) := by decide +kernel
theorem dX10_slightestNow_27 : decode cX10_slightestNow 27 = .ok (.invokevirtual 174, 3) := by decide +kernel
theorem dX10_slightestNow_30 : decode cX10_slightestNow 30 = .ok (.dstore 5, 2) := by decide +kernel
theorem dX10_slightestNow_32 : decode cX10_slightestNow 32 = .ok (.iload_n 1, 1) := by decide +kernel
theorem dX10_slightestNow_33 : decode cX10_slightestNow 33 = .ok (.iconst (-1), 1) := by decide +kernel
theorem dX10_slightestNow_34 : decode cX10_slightestNow 34 = .ok (.if_icmp .eq 10, 3) := by decide +kernel
theorem dX10_slightestNow_37 : decode cX10_slightestNow 37 = .ok (.dload 5, 2) := by decide +kernel
theorem dX10_slightestNow_39 : decode cX10_slightestNow 39 = .ok (.dload_n 2, 1) := by decide +kernel
theorem dX10_slightestNow_40 : decode cX10_slightestNow 40 = .ok (.dcmp .l, 1) := by decide +kernel
theorem dX10_slightestNow_41 : decode cX10_slightestNow 41 = .ok (.ifCond .le 7, 3) := by decide +kernel
theorem dX10_slightestNow_44 : decode cX10_slightestNow 44 = .ok (.iconst 1, 1) := by decide +kernel
theorem dX10_slightestNow_45 : decode cX10_slightestNow 45 = .ok (.goto 4, 3) := by decide +kernel
theorem dX10_slightestNow_48 : decode cX10_slightestNow 48 = .ok (.iconst 0, 1) := by decide +kernel
theorem dX10_slightestNow_49 : decode cX10_slightestNow 49 = .ok (.istore 7, 2) := by decide +kernel
theorem dX10_slightestNow_51 : decode cX10_slightestNow 51 = .ok (.iload 7, 2) := by decide +kernel
theorem dX10_slightestNow_53 : decode cX10_slightestNow 53 = .ok (.ifCond .eq 8, 3) := by decide +kernel
theorem dX10_slightestNow_56 : decode cX10_slightestNow 56 = .ok (.iload 4, 2) := by decide +kernel
theorem dX10_slightestNow_58 : decode cX10_slightestNow 58 = .ok (.goto 4, 3) := by decide +kernel
theorem dX10_slightestNow_61 : decode cX10_slightestNow 61 = .ok (.iload_n 1, 1) := by decide +kernel
theorem dX10_slightestNow_62 : decode cX10_slightestNow 62 = .ok (.istore_n 1, 1) := by decide +kernel
theorem dX10_slightestNow_63 : decode cX10_slightestNow 63 = .ok (.iload 7, 2) := by decide +kernel
theorem dX10_slightestNow_65 : decode cX10_slightestNow 65 = .ok (.ifCond .eq 8, 3) := by decide +kernel
theorem dX10_slightestNow_68 : decode cX10_slightestNow 68 = .ok (.dload 5, 2) := by decide +kernel
theorem dX10_slightestNow_70 : decode cX10_slightestNow 70 = .ok (.goto 4, 3) := by decide +kernel
theorem dX10_slightestNow_73 : decode cX10_slightestNow 73 = .ok (.dload_n 2, 1) := by decide +kernel
theorem dX10_slightestNow_74 : decode cX10_slightestNow 74 = .ok (.dstore_n 2, 1) := by decide +kernel
theorem dX10_slightestNow_75 : decode cX10_slightestNow 75 = .ok (.iinc 4 1, 3) := by decide +kernel
theorem dX10_slightestNow_78 : decode cX10_slightestNow 78 = .ok (.goto (-71), 3) := by decide +kernel
theorem dX10_slightestNow_81 : decode cX10_slightestNow 81 = .ok (.iload_n 1, 1) := by decide +kernel
theorem dX10_slightestNow_82 : decode cX10_slightestNow 82 = .ok (.ireturn, 1) := by decide +kernel
theorem dX10_slightest_0 : decode cX10_slightest 0 = .ok (.aload_n 0, 1) := by decide +kernel
theorem dX10_slightest_1 : decode cX10_slightest 1 = .ok (.iconst 0, 1) := by decide +kernel
theorem dX10_slightest_2 : decode cX10_slightest 2 = .ok (.putfield 39, 3) := by decide +kernel
theorem dX10_slightest_5 : decode cX10_slightest 5 = .ok (.aload_n 0, 1) := by decide +kernel
theorem dX10_slightest_6 : decode cX10_slightest 6 = .ok (.invokevirtual 206, 3) := by decide +kernel
theorem dX10_slightest_9 : decode cX10_slightest 9 = .ok (.ireturn, 1) := by decide +kernel
theorem dX10_mix_0 : decode cX10_mix 0 = .ok (.aload_n 0, 1) := by decide +kernel
theorem dX10_mix_1 : decode cX10_mix 1 = .ok (.ldc2_w 209, 3) := by decide +kernel
theorem dX10_mix_4 : decode cX10_mix 4 = .ok (.aload_n 0, 1) := by decide +kernel
theorem dX10_mix_5 : decode cX10_mix 5 = .ok (.getfield 211, 3) := by decide +kernel
theorem dX10_mix_8 : decode cX10_mix 8 = .ok (.lmul, 1) := by decide +kernel
theorem dX10_mix_9 : decode cX10_mix 9 = .ok (.lload_n 1, 1) := by decide +kernel
theorem dX10_mix_10 : decode cX10_mix 10 = .ok (.ladd, 1) := by decide +kernel
theorem dX10_mix_11 : decode cX10_mix 11 = .ok (.putfield 211, 3) := by decide +kernel
theorem dX10_mix_14 : decode cX10_mix 14 = .ok (.return_, 1) := by decide +kernel
theorem dX10_mixPart_0 : decode cX10_mixPart 0 = .ok (.iconst 0, 1) := by decide +kernel
theorem dX10_mixPart_1 : decode cX10_mixPart 1 = .ok (.istore_n 2, 1) := by decide +kernel
theorem dX10_mixPart_2 : decode cX10_mixPart 2 = .ok (.iload_n 2, 1) := by decide +kernel
theorem dX10_mixPart_3 : decode cX10_mixPart 3 = .ok (.bipush 7, 2) := by decide +kernel
theorem dX10_mixPart_5 : decode cX10_mixPart 5 = .ok (.if_icmp .ge 20, 3) := by decide +kernel
theorem dX10_mixPart_8 : decode cX10_mixPart 8 = .ok (.aload_n 0, 1) := by decide +kernel
theorem dX10_mixPart_9 : decode cX10_mixPart 9 = .ok (.aload_n 0, 1) := by decide +kernel
theorem dX10_mixPart_10 : decode cX10_mixPart 10 = .ok (.iload_n 1, 1) := by decide +kernel
theorem dX10_mixPart_11 : decode cX10_mixPart 11 = .ok (.iload_n 2, 1) := by decide +kernel
theorem dX10_mixPart_12 : decode cX10_mixPart 12 = .ok (.invokevirtual 157, 3) := by decide +kernel
theorem dX10_mixPart_15 : decode cX10_mixPart 15 = .ok (.i2l, 1) := by decide +kernel
theorem dX10_mixPart_16 : decode cX10_mixPart 16 = .ok (.invokevirtual 215, 3) := by decide +kernel
theorem dX10_mixPart_19 : decode cX10_mixPart 19 = .ok (.iinc 2 1, 3) := by decide +kernel
theorem dX10_mixPart_22 : decode cX10_mixPart 22 = .ok (.goto (-20), 3) := by decide +kernel
theorem dX10_mixPart_25 : decode cX10_mixPart 25 = .ok (.iconst 0, 1) := by decide +kernel
theorem dX10_mixPart_26 : decode cX10_mixPart 26 = .ok (.istore_n 2, 1) := by decide +kernel
theorem dX10_mixPart_27 : decode cX10_mixPart 27 = .ok (.iload_n 2, 1) := by decide +kernel
theorem dX10_mixPart_28 : decode cX10_mixPart 28 = .ok (.bipush 6, 2) := by decide +kernel
theorem dX10_mixPart_30 : decode cX10_mixPart 30 = .ok (.if_icmp .ge 20, 3) := by decide +kernel
theorem dX10_mixPart_33 : decode cX10_mixPart 33 = .ok (.aload_n 0, 1) := by decide +kernel
theorem dX10_mixPart_34 : decode cX10_mixPart 34 = .ok (.aload_n 0, 1) := by decide +kernel
theorem dX10_mixPart_35 : decode cX10_mixPart 35 = .ok (.iload_n 1, 1) := by decide +kernel
theorem dX10_mixPart_36 : decode cX10_mixPart 36 = .ok (.iload_n 2, 1) := by decide +kernel
theorem dX10_mixPart_37 : decode cX10_mixPart 37 = .ok (.invokevirtual 50, 3) := by decide +kernel
theorem dX10_mixPart_40 : decode cX10_mixPart 40 = .ok (.i2l, 1) := by decide +kernel
theorem dX10_mixPart_41 : decode cX10_mixPart 41 = .ok (.invokevirtual 215, 3) := by decide +kernel
theorem dX10_mixPart_44 : decode cX10_mixPart 44 = .ok (.iinc 2 1, 3) := by decide +kernel
theorem dX10_mixPart_47 : decode cX10_mixPart 47 = .ok (.goto (-20), 3) := by decide +kernel
theorem dX10_mixPart_50 : decode cX10_mixPart 50 = .ok (.iconst 0, 1) := by decide +kernel
theorem dX10_mixPart_51 : decode cX10_mixPart 51 = .ok (.istore_n 2, 1) := by decide +kernel
theorem dX10_mixPart_52 : decode cX10_mixPart 52 = .ok (.iload_n 2, 1) := by decide +kernel
theorem dX10_mixPart_53 : decode cX10_mixPart 53 = .ok (.bipush 6, 2) := by decide +kernel
theorem dX10_mixPart_55 : decode cX10_mixPart 55 = .ok (.if_icmp .ge 20, 3) := by decide +kernel
theorem dX10_mixPart_58 : decode cX10_mixPart 58 = .ok (.aload_n 0, 1) := by decide +kernel
theorem dX10_mixPart_59 : decode cX10_mixPart 59 = .ok (.aload_n 0, 1) := by decide +kernel
theorem dX10_mixPart_60 : decode cX10_mixPart 60 = .ok (.iload_n 1, 1) := by decide +kernel
theorem dX10_mixPart_61 : decode cX10_mixPart 61 = .ok (.iload_n 2, 1) := by decide +kernel
theorem dX10_mixPart_62 : decode cX10_mixPart 62 = .ok (.invokevirtual 54, 3) := by decide +kernel
theorem dX10_mixPart_65 : decode cX10_mixPart 65 = .ok (.i2l, 1) := by decide +kernel
theorem dX10_mixPart_66 : decode cX10_mixPart 66 = .ok (.invokevirtual 215, 3) := by decide +kernel
theorem dX10_mixPart_69 : decode cX10_mixPart 69 = .ok (.iinc 2 1, 3) := by decide +kernel
theorem dX10_mixPart_72 : decode cX10_mixPart 72 = .ok (.goto (-20), 3) := by decide +kernel
theorem dX10_mixPart_75 : decode cX10_mixPart 75 = .ok (.aload_n 0, 1) := by decide +kernel
theorem dX10_mixPart_76 : decode cX10_mixPart 76 = .ok (.aload_n 0, 1) := by decide +kernel
theorem dX10_mixPart_77 : decode cX10_mixPart 77 = .ok (.iload_n 1, 1) := by decide +kernel
theorem dX10_mixPart_78 : decode cX10_mixPart 78 = .ok (.invokevirtual 164, 3) := by decide +kernel
theorem dX10_mixPart_81 : decode cX10_mixPart 81 = .ok (.i2l, 1) := by decide +kernel
theorem dX10_mixPart_82 : decode cX10_mixPart 82 = .ok (.invokevirtual 215, 3) := by decide +kernel
theorem dX10_mixPart_85 : decode cX10_mixPart 85 = .ok (.return_, 1) := by decide +kernel
theorem dX10_digest_0 : decode cX10_digest 0 = .ok (.aload_n 0, 1) := by decide +kernel
theorem dX10_digest_1 : decode cX10_digest 1 = .ok (.iconst 0, 1) := by decide +kernel
theorem dX10_digest_2 : decode cX10_digest 2 = .ok (.putfield 39, 3) := by decide +kernel
theorem dX10_digest_5 : decode cX10_digest 5 = .ok (.aload_n 0, 1) := by decide +kernel
theorem dX10_digest_6 : decode cX10_digest 6 = .ok (.ldc2_w 219, 3) := by decide +kernel
theorem dX10_digest_9 : decode cX10_digest 9 = .ok (.putfield 211, 3) := by decide +kernel
theorem dX10_digest_12 : decode cX10_digest 12 = .ok (.iconst 0, 1) := by decide +kernel
theorem dX10_digest_13 : decode cX10_digest 13 = .ok (.istore_n 1, 1) := by decide +kernel
theorem dX10_digest_14 : decode cX10_digest 14 = .ok (.iload_n 1, 1) := by decide +kernel
theorem dX10_digest_15 : decode cX10_digest 15 = .ok (.bipush 9, 2) := by decide +kernel
theorem dX10_digest_17 : decode cX10_digest 17 = .ok (.if_icmp .ge 19, 3) := by decide +kernel
theorem dX10_digest_20 : decode cX10_digest 20 = .ok (.aload_n 0, 1) := by decide +kernel
theorem dX10_digest_21 : decode cX10_digest 21 = .ok (.aload_n 0, 1) := by decide +kernel
theorem dX10_digest_22 : decode cX10_digest 22 = .ok (.iload_n 1, 1) := by decide +kernel
theorem dX10_digest_23 : decode cX10_digest 23 = .ok (.invokevirtual 171, 3) := by decide +kernel
theorem dX10_digest_26 : decode cX10_digest 26 = .ok (.i2l, 1) := by decide +kernel
theorem dX10_digest_27 : decode cX10_digest 27 = .ok (.invokevirtual 215, 3) := by decide +kernel
theorem dX10_digest_30 : decode cX10_digest 30 = .ok (.iinc 1 1, 3) := by decide +kernel
theorem dX10_digest_33 : decode cX10_digest 33 = .ok (.goto (-19), 3) := by decide +kernel
theorem dX10_digest_36 : decode cX10_digest 36 = .ok (.iconst 0, 1) := by decide +kernel
theorem dX10_digest_37 : decode cX10_digest 37 = .ok (.istore_n 1, 1) := by decide +kernel
theorem dX10_digest_38 : decode cX10_digest 38 = .ok (.iload_n 1, 1) := by decide +kernel
theorem dX10_digest_39 : decode cX10_digest 39 = .ok (.aload_n 0, 1) := by decide +kernel
theorem dX10_digest_40 : decode cX10_digest 40 = .ok (.getfield 7, 3) := by decide +kernel
theorem dX10_digest_43 : decode cX10_digest 43 = .ok (.iconst 0, 1) := by decide +kernel
theorem dX10_digest_44 : decode cX10_digest 44 = .ok (.iaload, 1) := by decide +kernel
theorem dX10_digest_45 : decode cX10_digest 45 = .ok (.if_icmp .ge 14, 3) := by decide +kernel
theorem dX10_digest_48 : decode cX10_digest 48 = .ok (.aload_n 0, 1) := by decide +kernel
theorem dX10_digest_49 : decode cX10_digest 49 = .ok (.iload_n 1, 1) := by decide +kernel
theorem dX10_digest_50 : decode cX10_digest 50 = .ok (.invokevirtual 221, 3) := by decide +kernel
theorem dX10_digest_53 : decode cX10_digest 53 = .ok (.iinc 1 1, 3) := by decide +kernel
theorem dX10_digest_56 : decode cX10_digest 56 = .ok (.goto (-18), 3) := by decide +kernel
theorem dX10_digest_59 : decode cX10_digest 59 = .ok (.iconst 0, 1) := by decide +kernel
theorem dX10_digest_60 : decode cX10_digest 60 = .ok (.istore_n 1, 1) := by decide +kernel
theorem dX10_digest_61 : decode cX10_digest 61 = .ok (.iload_n 1, 1) := by decide +kernel
theorem dX10_digest_62 : decode cX10_digest 62 = .ok (.bipush 15, 2) := by decide +kernel
theorem dX10_digest_64 : decode cX10_digest 64 = .ok (.if_icmp .ge 29, 3) := by decide +kernel
theorem dX10_digest_67 : decode cX10_digest 67 = .ok (.aload_n 0, 1) := by decide +kernel
theorem dX10_digest_68 : decode cX10_digest 68 = .ok (.aload_n 0, 1) := by decide +kernel
theorem dX10_digest_69 : decode cX10_digest 69 = .ok (.iload_n 1, 1) := by decide +kernel
theorem dX10_digest_70 : decode cX10_digest 70 = .ok (.iconst 0, 1) := by decide +kernel
theorem dX10_digest_71 : decode cX10_digest 71 = .ok (.invokevirtual 160, 3) := by decide +kernel
theorem dX10_digest_74 : decode cX10_digest 74 = .ok (.invokevirtual 215, 3) := by decide +kernel
theorem dX10_digest_77 : decode cX10_digest 77 = .ok (.aload_n 0, 1) := by decide +kernel
theorem dX10_digest_78 : decode cX10_digest 78 = .ok (.aload_n 0, 1) := by decide +kernel
theorem dX10_digest_79 : decode cX10_digest 79 = .ok (.iload_n 1, 1) := by decide +kernel
theorem dX10_digest_80 : decode cX10_digest 80 = .ok (.iconst 1, 1) := by decide +kernel
theorem dX10_digest_81 : decode cX10_digest 81 = .ok (.invokevirtual 160, 3) := by decide +kernel
theorem dX10_digest_84 : decode cX10_digest 84 = .ok (.invokevirtual 215, 3) := by decide +kernel
theorem dX10_digest_87 : decode cX10_digest 87 = .ok (.iinc 1 5, 3) := by decide +kernel
theorem dX10_digest_90 : decode cX10_digest 90 = .ok (.goto (-29), 3) := by decide +kernel
theorem dX10_digest_93 : decode cX10_digest 93 = .ok (.iconst 0, 1) := by decide +kernel
theorem dX10_digest_94 : decode cX10_digest 94 = .ok (.istore_n 1, 1) := by decide +kernel
theorem dX10_digest_95 : decode cX10_digest 95 = .ok (.iload_n 1, 1) := by decide +kernel
theorem dX10_digest_96 : decode cX10_digest 96 = .ok (.bipush 7, 2) := by decide +kernel
theorem dX10_digest_98 : decode cX10_digest 98 = .ok (.if_icmp .ge 21, 3) := by decide +kernel
theorem dX10_digest_101 : decode cX10_digest 101 = .ok (.aload_n 0, 1) := by decide +kernel
theorem dX10_digest_102 : decode cX10_digest 102 = .ok (.aload_n 0, 1) := by decide +kernel
theorem dX10_digest_103 : decode cX10_digest 103 = .ok (.iload_n 1, 1) := by decide +kernel
theorem dX10_digest_104 : decode cX10_digest 104 = .ok (.invokevirtual 186, 3) := by decide +kernel
theorem dX10_digest_107 : decode cX10_digest 107 = .ok (.invokestatic 224, 3) := by decide +kernel
theorem dX10_digest_110 : decode cX10_digest 110 = .ok (.invokevirtual 215, 3) := by decide +kernel
theorem dX10_digest_113 : decode cX10_digest 113 = .ok (.iinc 1 1, 3) := by decide +kernel
theorem dX10_digest_116 : decode cX10_digest 116 = .ok (.goto (-21), 3) := by decide +kernel
theorem dX10_digest_119 : decode cX10_digest 119 = .ok (.aload_n 0, 1) := by decide +kernel
theorem dX10_digest_120 : decode cX10_digest 120 = .ok (.aload_n 0, 1) := by decide +kernel
theorem dX10_digest_121 : decode cX10_digest 121 = .ok (.iconst 5, 1) := by decide +kernel
theorem dX10_digest_122 : decode cX10_digest 122 = .ok (.iconst (-1), 1) := by decide +kernel
theorem dX10_digest_123 : decode cX10_digest 123 = .ok (.invokevirtual 174, 3) := by decide +kernel
theorem dX10_digest_126 : decode cX10_digest 126 = .ok (.invokestatic 224, 3) := by decide +kernel
theorem dX10_digest_129 : decode cX10_digest 129 = .ok (.invokevirtual 215, 3) := by decide +kernel
theorem dX10_digest_132 : decode cX10_digest 132 = .ok (.aload_n 0, 1) := by decide +kernel
theorem dX10_digest_133 : decode cX10_digest 133 = .ok (.aload_n 0, 1) := by decide +kernel
theorem dX10_digest_134 : decode cX10_digest 134 = .ok (.iconst 1, 1) := by decide +kernel
theorem dX10_digest_135 : decode cX10_digest 135 = .ok (.invokevirtual 203, 3) := by decide +kernel
theorem dX10_digest_138 : decode cX10_digest 138 = .ok (.invokestatic 224, 3) := by decide +kernel
theorem dX10_digest_141 : decode cX10_digest 141 = .ok (.invokevirtual 215, 3) := by decide +kernel
theorem dX10_digest_144 : decode cX10_digest 144 = .ok (.aload_n 0, 1) := by decide +kernel
theorem dX10_digest_145 : decode cX10_digest 145 = .ok (.aload_n 0, 1) := by decide +kernel
theorem dX10_digest_146 : decode cX10_digest 146 = .ok (.bipush 100, 2) := by decide +kernel
theorem dX10_digest_148 : decode cX10_digest 148 = .ok (.invokevirtual 192, 3) := by decide +kernel
theorem dX10_digest_151 : decode cX10_digest 151 = .ok (.i2l, 1) := by decide +kernel
theorem dX10_digest_152 : decode cX10_digest 152 = .ok (.invokevirtual 215, 3) := by decide +kernel
theorem dX10_digest_155 : decode cX10_digest 155 = .ok (.aload_n 0, 1) := by decide +kernel
theorem dX10_digest_156 : decode cX10_digest 156 = .ok (.aload_n 0, 1) := by decide +kernel
theorem dX10_digest_157 : decode cX10_digest 157 = .ok (.invokevirtual 206, 3) := by decide +kernel
theorem dX10_digest_160 : decode cX10_digest 160 = .ok (.i2l, 1) := by decide +kernel
theorem dX10_digest_161 : decode cX10_digest 161 = .ok (.invokevirtual 215, 3) := by decide +kernel
theorem dX10_digest_164 : decode cX10_digest 164 = .ok (.aload_n 0, 1) := by decide +kernel
theorem dX10_digest_165 : decode cX10_digest 165 = .ok (.aload_n 0, 1) := by decide +kernel
theorem dX10_digest_166 : decode cX10_digest 166 = .ok (.getfield 126, 3) := by decide +kernel
theorem dX10_digest_169 : decode cX10_digest 169 = .ok (.i2l, 1) := by decide +kernel
theorem dX10_digest_170 : decode cX10_digest 170 = .ok (.invokevirtual 215, 3) := by decide +kernel
theorem dX10_digest_173 : decode cX10_digest 173 = .ok (.iconst 0, 1) := by decide +kernel
theorem dX10_digest_174 : decode cX10_digest 174 = .ok (.istore_n 1, 1) := by decide +kernel
theorem dX10_digest_175 : decode cX10_digest 175 = .ok (.iload_n 1, 1) := by decide +kernel
theorem dX10_digest_176 : decode cX10_digest 176 = .ok (.aload_n 0, 1) := by decide +kernel
theorem dX10_digest_177 : decode cX10_digest 177 = .ok (.getfield 126, 3) := by decide +kernel
theorem dX10_digest_180 : decode cX10_digest 180 = .ok (.if_icmp .ge 20, 3) := by decide +kernel
theorem dX10_digest_183 : decode cX10_digest 183 = .ok (.aload_n 0, 1) := by decide +kernel
theorem dX10_digest_184 : decode cX10_digest 184 = .ok (.aload_n 0, 1) := by decide +kernel
theorem dX10_digest_185 : decode cX10_digest 185 = .ok (.getfield 23, 3) := by decide +kernel
theorem dX10_digest_188 : decode cX10_digest 188 = .ok (.iload_n 1, 1) := by decide +kernel
theorem dX10_digest_189 : decode cX10_digest 189 = .ok (.iaload, 1) := by decide +kernel
theorem dX10_digest_190 : decode cX10_digest 190 = .ok (.i2l, 1) := by decide +kernel
theorem dX10_digest_191 : decode cX10_digest 191 = .ok (.invokevirtual 215, 3) := by decide +kernel
theorem dX10_digest_194 : decode cX10_digest 194 = .ok (.iinc 1 1, 3) := by decide +kernel
theorem dX10_digest_197 : decode cX10_digest 197 = .ok (.goto (-22), 3) := by decide +kernel
theorem dX10_digest_200 : decode cX10_digest 200 = .ok (.aload_n 0, 1) := by decide +kernel
theorem dX10_digest_201 : decode cX10_digest 201 = .ok (.getfield 211, 3) := by decide +kernel
theorem dX10_digest_204 : decode cX10_digest 204 = .ok (.lreturn, 1) := by decide +kernel
theorem dJxe99ae_isNaN_b9ae7_0 : decode cJxe99ae_isNaN_b9ae7 0 = .ok (.dload_n 0, 1) := by decide +kernel
theorem dJxe99ae_isNaN_b9ae7_1 : decode cJxe99ae_isNaN_b9ae7 1 = .ok (.dload_n 0, 1) := by decide +kernel
theorem dJxe99ae_isNaN_b9ae7_2 : decode cJxe99ae_isNaN_b9ae7 2 = .ok (.dcmp .l, 1) := by decide +kernel
theorem dJxe99ae_isNaN_b9ae7_3 : decode cJxe99ae_isNaN_b9ae7 3 = .ok (.ifCond .eq 7, 3) := by decide +kernel
theorem dJxe99ae_isNaN_b9ae7_6 : decode cJxe99ae_isNaN_b9ae7 6 = .ok (.iconst 1, 1) := by decide +kernel
theorem dJxe99ae_isNaN_b9ae7_7 : decode cJxe99ae_isNaN_b9ae7 7 = .ok (.goto 4, 3) := by decide +kernel
theorem dJxe99ae_isNaN_b9ae7_10 : decode cJxe99ae_isNaN_b9ae7 10 = .ok (.iconst 0, 1) := by decide +kernel
theorem dJxe99ae_isNaN_b9ae7_11 : decode cJxe99ae_isNaN_b9ae7 11 = .ok (.ireturn, 1) := by decide +kernel
theorem dJxe99ae_doubleToLongBits_ccdee_0 : decode cJxe99ae_doubleToLongBits_ccdee 0 = .ok (.dload_n 0, 1) := by decide +kernel
theorem dJxe99ae_doubleToLongBits_ccdee_1 : decode cJxe99ae_doubleToLongBits_ccdee 1 = .ok (.invokestatic 122, 3) := by decide +kernel
theorem dJxe99ae_doubleToLongBits_ccdee_4 : decode cJxe99ae_doubleToLongBits_ccdee 4 = .ok (.ifCond .ne 8, 3) := by decide +kernel
theorem dJxe99ae_doubleToLongBits_ccdee_7 : decode cJxe99ae_doubleToLongBits_ccdee 7 = .ok (.dload_n 0, 1) := by decide +kernel
theorem dJxe99ae_doubleToLongBits_ccdee_8 : decode cJxe99ae_doubleToLongBits_ccdee 8 = .ok (.invokestatic 134, 3) := by decide +kernel
theorem dJxe99ae_doubleToLongBits_ccdee_11 : decode cJxe99ae_doubleToLongBits_ccdee 11 = .ok (.lreturn, 1) := by decide +kernel
theorem dJxe99ae_doubleToLongBits_ccdee_12 : decode cJxe99ae_doubleToLongBits_ccdee 12 = .ok (.ldc2_w 137, 3) := by decide +kernel
theorem dJxe99ae_doubleToLongBits_ccdee_15 : decode cJxe99ae_doubleToLongBits_ccdee 15 = .ok (.lreturn, 1) := by decide +kernel
theorem dJ9_max_7cf53_0 : decode cJ9_max_7cf53 0 = .ok (.iload_n 0, 1) := by decide +kernel
theorem dJ9_max_7cf53_1 : decode cJ9_max_7cf53 1 = .ok (.iload_n 1, 1) := by decide +kernel
theorem dJ9_max_7cf53_2 : decode cJ9_max_7cf53 2 = .ok (.if_icmp .lt 7, 3) := by decide +kernel
theorem dJ9_max_7cf53_5 : decode cJ9_max_7cf53 5 = .ok (.iload_n 0, 1) := by decide +kernel
theorem dJ9_max_7cf53_6 : decode cJ9_max_7cf53 6 = .ok (.goto 4, 3) := by decide +kernel
theorem dJ9_max_7cf53_9 : decode cJ9_max_7cf53 9 = .ok (.iload_n 1, 1) := by decide +kernel
theorem dJ9_max_7cf53_10 : decode cJ9_max_7cf53 10 = .ok (.ireturn, 1) := by decide +kernel
theorem dJ9_min_7cf53_0 : decode cJ9_min_7cf53 0 = .ok (.iload_n 0, 1) := by decide +kernel
theorem dJ9_min_7cf53_1 : decode cJ9_min_7cf53 1 = .ok (.iload_n 1, 1) := by decide +kernel
theorem dJ9_min_7cf53_2 : decode cJ9_min_7cf53 2 = .ok (.if_icmp .gt 7, 3) := by decide +kernel
theorem dJ9_min_7cf53_5 : decode cJ9_min_7cf53 5 = .ok (.iload_n 0, 1) := by decide +kernel
theorem dJ9_min_7cf53_6 : decode cJ9_min_7cf53 6 = .ok (.goto 4, 3) := by decide +kernel
theorem dJ9_min_7cf53_9 : decode cJ9_min_7cf53 9 = .ok (.iload_n 1, 1) := by decide +kernel
theorem dJ9_min_7cf53_10 : decode cJ9_min_7cf53 10 = .ok (.ireturn, 1) := by decide +kernel
theorem dL_addPart_0 : decode cL_addPart 0 = .ok (.aload_n 2, 1) := by decide +kernel
theorem dL_addPart_1 : decode cL_addPart 1 = .ok (.iconst 0, 1) := by decide +kernel
theorem dL_addPart_2 : decode cL_addPart 2 = .ok (.aload_n 0, 1) := by decide +kernel
theorem dL_addPart_3 : decode cL_addPart 3 = .ok (.iload_n 1, 1) := by decide +kernel
theorem dL_addPart_4 : decode cL_addPart 4 = .ok (.invokevirtual 7, 3) := by decide +kernel
theorem dL_addPart_7 : decode cL_addPart 7 = .ok (.i2l, 1) := by decide +kernel
theorem dL_addPart_8 : decode cL_addPart 8 = .ok (.lastore, 1) := by decide +kernel
theorem dL_addPart_9 : decode cL_addPart 9 = .ok (.goto 9, 3) := by decide +kernel
theorem dL_addPart_12 : decode cL_addPart 12 = .ok (.astore_n 3, 1) := by decide +kernel
theorem dL_addPart_13 : decode cL_addPart 13 = .ok (.iconst 1, 1) := by decide +kernel
theorem dL_addPart_14 : decode cL_addPart 14 = .ok (.ireturn, 1) := by decide +kernel
theorem dL_addPart_15 : decode cL_addPart 15 = .ok (.astore_n 3, 1) := by decide +kernel
theorem dL_addPart_16 : decode cL_addPart 16 = .ok (.iconst 2, 1) := by decide +kernel
theorem dL_addPart_17 : decode cL_addPart 17 = .ok (.ireturn, 1) := by decide +kernel
theorem dL_addPart_18 : decode cL_addPart 18 = .ok (.iconst 0, 1) := by decide +kernel
theorem dL_addPart_19 : decode cL_addPart 19 = .ok (.ireturn, 1) := by decide +kernel
theorem dL_removePart_0 : decode cL_removePart 0 = .ok (.aload_n 2, 1) := by decide +kernel
theorem dL_removePart_1 : decode cL_removePart 1 = .ok (.iconst 0, 1) := by decide +kernel
theorem dL_removePart_2 : decode cL_removePart 2 = .ok (.aload_n 0, 1) := by decide +kernel
theorem dL_removePart_3 : decode cL_removePart 3 = .ok (.iload_n 1, 1) := by decide +kernel
theorem dL_removePart_4 : decode cL_removePart 4 = .ok (.invokevirtual 17, 3) := by decide +kernel
theorem dL_removePart_7 : decode cL_removePart 7 = .ok (.i2l, 1) := by decide +kernel
theorem dL_removePart_8 : decode cL_removePart 8 = .ok (.lastore, 1) := by decide +kernel
theorem dL_removePart_9 : decode cL_removePart 9 = .ok (.goto 6, 3) := by decide +kernel
theorem dL_removePart_12 : decode cL_removePart 12 = .ok (.astore_n 3, 1) := by decide +kernel
theorem dL_removePart_13 : decode cL_removePart 13 = .ok (.iconst 1, 1) := by decide +kernel
theorem dL_removePart_14 : decode cL_removePart 14 = .ok (.ireturn, 1) := by decide +kernel
theorem dL_removePart_15 : decode cL_removePart 15 = .ok (.iconst 0, 1) := by decide +kernel
theorem dL_removePart_16 : decode cL_removePart 16 = .ok (.ireturn, 1) := by decide +kernel
theorem dL_weigh_0 : decode cL_weigh 0 = .ok (.aload 4, 2) := by decide +kernel
theorem dL_weigh_2 : decode cL_weigh 2 = .ok (.iconst 0, 1) := by decide +kernel
theorem dL_weigh_3 : decode cL_weigh 3 = .ok (.aload_n 0, 1) := by decide +kernel
theorem dL_weigh_4 : decode cL_weigh 4 = .ok (.iload_n 1, 1) := by decide +kernel
theorem dL_weigh_5 : decode cL_weigh 5 = .ok (.iload_n 2, 1) := by decide +kernel
theorem dL_weigh_6 : decode cL_weigh 6 = .ok (.iload_n 3, 1) := by decide +kernel
theorem dL_weigh_7 : decode cL_weigh 7 = .ok (.invokevirtual 22, 3) := by decide +kernel
theorem dL_weigh_10 : decode cL_weigh 10 = .ok (.i2l, 1) := by decide +kernel
theorem dL_weigh_11 : decode cL_weigh 11 = .ok (.lastore, 1) := by decide +kernel
theorem dL_weigh_12 : decode cL_weigh 12 = .ok (.goto 15, 3) := by decide +kernel
theorem dL_weigh_15 : decode cL_weigh 15 = .ok (.astore 5, 2) := by decide +kernel
theorem dL_weigh_17 : decode cL_weigh 17 = .ok (.iconst 1, 1) := by decide +kernel
theorem dL_weigh_18 : decode cL_weigh 18 = .ok (.ireturn, 1) := by decide +kernel
theorem dL_weigh_19 : decode cL_weigh 19 = .ok (.astore 5, 2) := by decide +kernel
theorem dL_weigh_21 : decode cL_weigh 21 = .ok (.iconst 2, 1) := by decide +kernel
theorem dL_weigh_22 : decode cL_weigh 22 = .ok (.ireturn, 1) := by decide +kernel
theorem dL_weigh_23 : decode cL_weigh 23 = .ok (.astore 5, 2) := by decide +kernel
theorem dL_weigh_25 : decode cL_weigh 25 = .ok (.iconst 3, 1) := by decide +kernel
theorem dL_weigh_26 : decode cL_weigh 26 = .ok (.ireturn, 1) := by decide +kernel
theorem dL_weigh_27 : decode cL_weigh 27 = .ok (.iconst 0, 1) := by decide +kernel
theorem dL_weigh_28 : decode cL_weigh 28 = .ok (.ireturn, 1) := by decide +kernel
theorem dL_tilt_0 : decode cL_tilt 0 = .ok (.aload 4, 2) := by decide +kernel
theorem dL_tilt_2 : decode cL_tilt 2 = .ok (.iconst 0, 1) := by decide +kernel
theorem dL_tilt_3 : decode cL_tilt 3 = .ok (.aload_n 0, 1) := by decide +kernel
theorem dL_tilt_4 : decode cL_tilt 4 = .ok (.iload_n 1, 1) := by decide +kernel
theorem dL_tilt_5 : decode cL_tilt 5 = .ok (.iload_n 2, 1) := by decide +kernel
theorem dL_tilt_6 : decode cL_tilt 6 = .ok (.iload_n 3, 1) := by decide +kernel
theorem dL_tilt_7 : decode cL_tilt 7 = .ok (.invokevirtual 26, 3) := by decide +kernel
theorem dL_tilt_10 : decode cL_tilt 10 = .ok (.i2l, 1) := by decide +kernel
theorem dL_tilt_11 : decode cL_tilt 11 = .ok (.lastore, 1) := by decide +kernel
theorem dL_tilt_12 : decode cL_tilt 12 = .ok (.goto 15, 3) := by decide +kernel
theorem dL_tilt_15 : decode cL_tilt 15 = .ok (.astore 5, 2) := by decide +kernel
theorem dL_tilt_17 : decode cL_tilt 17 = .ok (.iconst 1, 1) := by decide +kernel
theorem dL_tilt_18 : decode cL_tilt 18 = .ok (.ireturn, 1) := by decide +kernel
theorem dL_tilt_19 : decode cL_tilt 19 = .ok (.astore 5, 2) := by decide +kernel
theorem dL_tilt_21 : decode cL_tilt 21 = .ok (.iconst 2, 1) := by decide +kernel
theorem dL_tilt_22 : decode cL_tilt 22 = .ok (.ireturn, 1) := by decide +kernel
theorem dL_tilt_23 : decode cL_tilt 23 = .ok (.astore 5, 2) := by decide +kernel
theorem dL_tilt_25 : decode cL_tilt 25 = .ok (.iconst 3, 1) := by decide +kernel
theorem dL_tilt_26 : decode cL_tilt 26 = .ok (.ireturn, 1) := by decide +kernel
theorem dL_tilt_27 : decode cL_tilt 27 = .ok (.iconst 0, 1) := by decide +kernel
theorem dL_tilt_28 : decode cL_tilt 28 = .ok (.ireturn, 1) := by decide +kernel
theorem dL_tiltAll_0 : decode cL_tiltAll 0 = .ok (.aload_n 2, 1) := by decide +kernel
theorem dL_tiltAll_1 : decode cL_tiltAll 1 = .ok (.iconst 0, 1) := by decide +kernel
theorem dL_tiltAll_2 : decode cL_tiltAll 2 = .ok (.aload_n 0, 1) := by decide +kernel
theorem dL_tiltAll_3 : decode cL_tiltAll 3 = .ok (.iload_n 1, 1) := by decide +kernel
theorem dL_tiltAll_4 : decode cL_tiltAll 4 = .ok (.invokevirtual 29, 3) := by decide +kernel
theorem dL_tiltAll_7 : decode cL_tiltAll 7 = .ok (.i2l, 1) := by decide +kernel
theorem dL_tiltAll_8 : decode cL_tiltAll 8 = .ok (.lastore, 1) := by decide +kernel
theorem dL_tiltAll_9 : decode cL_tiltAll 9 = .ok (.goto 6, 3) := by decide +kernel
theorem dL_tiltAll_12 : decode cL_tiltAll 12 = .ok (.astore_n 3, 1) := by decide +kernel
theorem dL_tiltAll_13 : decode cL_tiltAll 13 = .ok (.iconst 1, 1) := by decide +kernel
theorem dL_tiltAll_14 : decode cL_tiltAll 14 = .ok (.ireturn, 1) := by decide +kernel
theorem dL_tiltAll_15 : decode cL_tiltAll 15 = .ok (.iconst 0, 1) := by decide +kernel
theorem dL_tiltAll_16 : decode cL_tiltAll 16 = .ok (.ireturn, 1) := by decide +kernel
theorem dL_limit_0 : decode cL_limit 0 = .ok (.aload_n 2, 1) := by decide +kernel
theorem dL_limit_1 : decode cL_limit 1 = .ok (.iconst 0, 1) := by decide +kernel
theorem dL_limit_2 : decode cL_limit 2 = .ok (.aload_n 0, 1) := by decide +kernel
theorem dL_limit_3 : decode cL_limit 3 = .ok (.iload_n 1, 1) := by decide +kernel
theorem dL_limit_4 : decode cL_limit 4 = .ok (.invokevirtual 32, 3) := by decide +kernel
theorem dL_limit_7 : decode cL_limit 7 = .ok (.i2l, 1) := by decide +kernel
theorem dL_limit_8 : decode cL_limit 8 = .ok (.lastore, 1) := by decide +kernel
theorem dL_limit_9 : decode cL_limit 9 = .ok (.goto 6, 3) := by decide +kernel
theorem dL_limit_12 : decode cL_limit 12 = .ok (.astore_n 3, 1) := by decide +kernel
theorem dL_limit_13 : decode cL_limit 13 = .ok (.iconst 1, 1) := by decide +kernel
theorem dL_limit_14 : decode cL_limit 14 = .ok (.ireturn, 1) := by decide +kernel
theorem dL_limit_15 : decode cL_limit 15 = .ok (.iconst 0, 1) := by decide +kernel
theorem dL_limit_16 : decode cL_limit 16 = .ok (.ireturn, 1) := by decide +kernel
theorem dL_seed_0 : decode cL_seed 0 = .ok (.aload_n 2, 1) := by decide +kernel
theorem dL_seed_1 : decode cL_seed 1 = .ok (.iconst 0, 1) := by decide +kernel
theorem dL_seed_2 : decode cL_seed 2 = .ok (.aload_n 0, 1) := by decide +kernel
theorem dL_seed_3 : decode cL_seed 3 = .ok (.iload_n 1, 1) := by decide +kernel
theorem dL_seed_4 : decode cL_seed 4 = .ok (.invokevirtual 35, 3) := by decide +kernel
theorem dL_seed_7 : decode cL_seed 7 = .ok (.i2l, 1) := by decide +kernel
theorem dL_seed_8 : decode cL_seed 8 = .ok (.lastore, 1) := by decide +kernel
theorem dL_seed_9 : decode cL_seed 9 = .ok (.goto 6, 3) := by decide +kernel
theorem dL_seed_12 : decode cL_seed 12 = .ok (.astore_n 3, 1) := by decide +kernel
theorem dL_seed_13 : decode cL_seed 13 = .ok (.iconst 1, 1) := by decide +kernel
theorem dL_seed_14 : decode cL_seed 14 = .ok (.ireturn, 1) := by decide +kernel
theorem dL_seed_15 : decode cL_seed 15 = .ok (.iconst 0, 1) := by decide +kernel
theorem dL_seed_16 : decode cL_seed 16 = .ok (.ireturn, 1) := by decide +kernel
theorem dL_draw_0 : decode cL_draw 0 = .ok (.aload_n 2, 1) := by decide +kernel
theorem dL_draw_1 : decode cL_draw 1 = .ok (.iconst 0, 1) := by decide +kernel
theorem dL_draw_2 : decode cL_draw 2 = .ok (.aload_n 0, 1) := by decide +kernel
theorem dL_draw_3 : decode cL_draw 3 = .ok (.iload_n 1, 1) := by decide +kernel
theorem dL_draw_4 : decode cL_draw 4 = .ok (.invokevirtual 38, 3) := by decide +kernel
theorem dL_draw_7 : decode cL_draw 7 = .ok (.i2l, 1) := by decide +kernel
theorem dL_draw_8 : decode cL_draw 8 = .ok (.lastore, 1) := by decide +kernel
theorem dL_draw_9 : decode cL_draw 9 = .ok (.goto 9, 3) := by decide +kernel
theorem dL_draw_12 : decode cL_draw 12 = .ok (.astore_n 3, 1) := by decide +kernel
theorem dL_draw_13 : decode cL_draw 13 = .ok (.iconst 1, 1) := by decide +kernel
theorem dL_draw_14 : decode cL_draw 14 = .ok (.ireturn, 1) := by decide +kernel
theorem dL_draw_15 : decode cL_draw 15 = .ok (.astore_n 3, 1) := by decide +kernel
theorem dL_draw_16 : decode cL_draw 16 = .ok (.iconst 2, 1) := by decide +kernel
theorem dL_draw_17 : decode cL_draw 17 = .ok (.ireturn, 1) := by decide +kernel
theorem dL_draw_18 : decode cL_draw 18 = .ok (.iconst 0, 1) := by decide +kernel
theorem dL_draw_19 : decode cL_draw 19 = .ok (.ireturn, 1) := by decide +kernel
theorem dL_append_0 : decode cL_append 0 = .ok (.aload_n 2, 1) := by decide +kernel
theorem dL_append_1 : decode cL_append 1 = .ok (.iconst 0, 1) := by decide +kernel
theorem dL_append_2 : decode cL_append 2 = .ok (.aload_n 0, 1) := by decide +kernel
theorem dL_append_3 : decode cL_append 3 = .ok (.iload_n 1, 1) := by decide +kernel
theorem dL_append_4 : decode cL_append 4 = .ok (.invokevirtual 41, 3) := by decide +kernel
theorem dL_append_7 : decode cL_append 7 = .ok (.i2l, 1) := by decide +kernel
theorem dL_append_8 : decode cL_append 8 = .ok (.lastore, 1) := by decide +kernel
theorem dL_append_9 : decode cL_append 9 = .ok (.goto 9, 3) := by decide +kernel
theorem dL_append_12 : decode cL_append 12 = .ok (.astore_n 3, 1) := by decide +kernel
theorem dL_append_13 : decode cL_append 13 = .ok (.iconst 1, 1) := by decide +kernel
theorem dL_append_14 : decode cL_append 14 = .ok (.ireturn, 1) := by decide +kernel
theorem dL_append_15 : decode cL_append 15 = .ok (.astore_n 3, 1) := by decide +kernel
theorem dL_append_16 : decode cL_append 16 = .ok (.iconst 2, 1) := by decide +kernel
theorem dL_append_17 : decode cL_append 17 = .ok (.ireturn, 1) := by decide +kernel
theorem dL_append_18 : decode cL_append 18 = .ok (.iconst 0, 1) := by decide +kernel
theorem dL_append_19 : decode cL_append 19 = .ok (.ireturn, 1) := by decide +kernel
theorem dL_addAll_0 : decode cL_addAll 0 = .ok (.aload_n 1, 1) := by decide +kernel
theorem dL_addAll_1 : decode cL_addAll 1 = .ok (.iconst 0, 1) := by decide +kernel
theorem dL_addAll_2 : decode cL_addAll 2 = .ok (.aload_n 0, 1) := by decide +kernel
theorem dL_addAll_3 : decode cL_addAll 3 = .ok (.invokevirtual 44, 3) := by decide +kernel
theorem dL_addAll_6 : decode cL_addAll 6 = .ok (.i2l, 1) := by decide +kernel
theorem dL_addAll_7 : decode cL_addAll 7 = .ok (.lastore, 1) := by decide +kernel
theorem dL_addAll_8 : decode cL_addAll 8 = .ok (.goto 9, 3) := by decide +kernel
theorem dL_addAll_11 : decode cL_addAll 11 = .ok (.astore_n 2, 1) := by decide +kernel
theorem dL_addAll_12 : decode cL_addAll 12 = .ok (.iconst 1, 1) := by decide +kernel
theorem dL_addAll_13 : decode cL_addAll 13 = .ok (.ireturn, 1) := by decide +kernel
theorem dL_addAll_14 : decode cL_addAll 14 = .ok (.astore_n 2, 1) := by decide +kernel
theorem dL_addAll_15 : decode cL_addAll 15 = .ok (.iconst 2, 1) := by decide +kernel
theorem dL_addAll_16 : decode cL_addAll 16 = .ok (.ireturn, 1) := by decide +kernel
theorem dL_addAll_17 : decode cL_addAll 17 = .ok (.iconst 0, 1) := by decide +kernel
theorem dL_addAll_18 : decode cL_addAll 18 = .ok (.ireturn, 1) := by decide +kernel
theorem dL_undo_0 : decode cL_undo 0 = .ok (.aload_n 1, 1) := by decide +kernel
theorem dL_undo_1 : decode cL_undo 1 = .ok (.iconst 0, 1) := by decide +kernel
theorem dL_undo_2 : decode cL_undo 2 = .ok (.aload_n 0, 1) := by decide +kernel
theorem dL_undo_3 : decode cL_undo 3 = .ok (.invokevirtual 48, 3) := by decide +kernel
theorem dL_undo_6 : decode cL_undo 6 = .ok (.i2l, 1) := by decide +kernel
theorem dL_undo_7 : decode cL_undo 7 = .ok (.lastore, 1) := by decide +kernel
theorem dL_undo_8 : decode cL_undo 8 = .ok (.goto 6, 3) := by decide +kernel
theorem dL_undo_11 : decode cL_undo 11 = .ok (.astore_n 2, 1) := by decide +kernel
theorem dL_undo_12 : decode cL_undo 12 = .ok (.iconst 1, 1) := by decide +kernel
theorem dL_undo_13 : decode cL_undo 13 = .ok (.ireturn, 1) := by decide +kernel
theorem dL_undo_14 : decode cL_undo 14 = .ok (.iconst 0, 1) := by decide +kernel
theorem dL_undo_15 : decode cL_undo 15 = .ok (.ireturn, 1) := by decide +kernel
theorem dL_part_0 : decode cL_part 0 = .ok (.aload_n 3, 1) := by decide +kernel
theorem dL_part_1 : decode cL_part 1 = .ok (.iconst 0, 1) := by decide +kernel
theorem dL_part_2 : decode cL_part 2 = .ok (.aload_n 0, 1) := by decide +kernel
theorem dL_part_3 : decode cL_part 3 = .ok (.iload_n 1, 1) := by decide +kernel
theorem dL_part_4 : decode cL_part 4 = .ok (.iload_n 2, 1) := by decide +kernel
theorem dL_part_5 : decode cL_part 5 = .ok (.invokevirtual 51, 3) := by decide +kernel
theorem dL_part_8 : decode cL_part 8 = .ok (.i2l, 1) := by decide +kernel
theorem dL_part_9 : decode cL_part 9 = .ok (.lastore, 1) := by decide +kernel
theorem dL_part_10 : decode cL_part 10 = .ok (.goto 11, 3) := by decide +kernel
theorem dL_part_13 : decode cL_part 13 = .ok (.astore 4, 2) := by decide +kernel
theorem dL_part_15 : decode cL_part 15 = .ok (.iconst 1, 1) := by decide +kernel
theorem dL_part_16 : decode cL_part 16 = .ok (.ireturn, 1) := by decide +kernel
theorem dL_part_17 : decode cL_part 17 = .ok (.astore 4, 2) := by decide +kernel
theorem dL_part_19 : decode cL_part 19 = .ok (.iconst 2, 1) := by decide +kernel
theorem dL_part_20 : decode cL_part 20 = .ok (.ireturn, 1) := by decide +kernel
theorem dL_part_21 : decode cL_part 21 = .ok (.iconst 0, 1) := by decide +kernel
theorem dL_part_22 : decode cL_part 22 = .ok (.ireturn, 1) := by decide +kernel
theorem dL_weight_0 : decode cL_weight 0 = .ok (.aload 4, 2) := by decide +kernel
theorem dL_weight_2 : decode cL_weight 2 = .ok (.iconst 0, 1) := by decide +kernel
theorem dL_weight_3 : decode cL_weight 3 = .ok (.aload_n 0, 1) := by decide +kernel
theorem dL_weight_4 : decode cL_weight 4 = .ok (.iload_n 1, 1) := by decide +kernel
theorem dL_weight_5 : decode cL_weight 5 = .ok (.iload_n 2, 1) := by decide +kernel
theorem dL_weight_6 : decode cL_weight 6 = .ok (.iload_n 3, 1) := by decide +kernel
theorem dL_weight_7 : decode cL_weight 7 = .ok (.invokevirtual 55, 3) := by decide +kernel
theorem dL_weight_10 : decode cL_weight 10 = .ok (.i2l, 1) := by decide +kernel
theorem dL_weight_11 : decode cL_weight 11 = .ok (.lastore, 1) := by decide +kernel
theorem dL_weight_12 : decode cL_weight 12 = .ok (.goto 7, 3) := by decide +kernel
theorem dL_weight_15 : decode cL_weight 15 = .ok (.astore 5, 2) := by decide +kernel
theorem dL_weight_17 : decode cL_weight 17 = .ok (.iconst 1, 1) := by decide +kernel
theorem dL_weight_18 : decode cL_weight 18 = .ok (.ireturn, 1) := by decide +kernel
theorem dL_weight_19 : decode cL_weight 19 = .ok (.iconst 0, 1) := by decide +kernel
theorem dL_weight_20 : decode cL_weight 20 = .ok (.ireturn, 1) := by decide +kernel
theorem dL_ways_0 : decode cL_ways 0 = .ok (.aload_n 3, 1) := by decide +kernel
theorem dL_ways_1 : decode cL_ways 1 = .ok (.iconst 0, 1) := by decide +kernel
theorem dL_ways_2 : decode cL_ways 2 = .ok (.aload_n 0, 1) := by decide +kernel
theorem dL_ways_3 : decode cL_ways 3 = .ok (.iload_n 1, 1) := by decide +kernel
theorem dL_ways_4 : decode cL_ways 4 = .ok (.iload_n 2, 1) := by decide +kernel
theorem dL_ways_5 : decode cL_ways 5 = .ok (.invokevirtual 59, 3) := by decide +kernel
theorem dL_ways_8 : decode cL_ways 8 = .ok (.lastore, 1) := by decide +kernel
theorem dL_ways_9 : decode cL_ways 9 = .ok (.goto 7, 3) := by decide +kernel
theorem dL_ways_12 : decode cL_ways 12 = .ok (.astore 4, 2) := by decide +kernel
theorem dL_ways_14 : decode cL_ways 14 = .ok (.iconst 1, 1) := by decide +kernel
theorem dL_ways_15 : decode cL_ways 15 = .ok (.ireturn, 1) := by decide +kernel
theorem dL_ways_16 : decode cL_ways 16 = .ok (.iconst 0, 1) := by decide +kernel
theorem dL_ways_17 : decode cL_ways 17 = .ok (.ireturn, 1) := by decide +kernel
theorem dL_likeliest_0 : decode cL_likeliest 0 = .ok (.aload_n 2, 1) := by decide +kernel
theorem dL_likeliest_1 : decode cL_likeliest 1 = .ok (.iconst 0, 1) := by decide +kernel
theorem dL_likeliest_2 : decode cL_likeliest 2 = .ok (.aload_n 0, 1) := by decide +kernel
theorem dL_likeliest_3 : decode cL_likeliest 3 = .ok (.iload_n 1, 1) := by decide +kernel
theorem dL_likeliest_4 : decode cL_likeliest 4 = .ok (.invokevirtual 63, 3) := by decide +kernel
theorem dL_likeliest_7 : decode cL_likeliest 7 = .ok (.i2l, 1) := by decide +kernel
theorem dL_likeliest_8 : decode cL_likeliest 8 = .ok (.lastore, 1) := by decide +kernel
theorem dL_likeliest_9 : decode cL_likeliest 9 = .ok (.goto 6, 3) := by decide +kernel
theorem dL_likeliest_12 : decode cL_likeliest 12 = .ok (.astore_n 3, 1) := by decide +kernel
theorem dL_likeliest_13 : decode cL_likeliest 13 = .ok (.iconst 1, 1) := by decide +kernel
theorem dL_likeliest_14 : decode cL_likeliest 14 = .ok (.ireturn, 1) := by decide +kernel
theorem dL_likeliest_15 : decode cL_likeliest 15 = .ok (.iconst 0, 1) := by decide +kernel
theorem dL_likeliest_16 : decode cL_likeliest 16 = .ok (.ireturn, 1) := by decide +kernel
theorem dL_count_0 : decode cL_count 0 = .ok (.aload_n 2, 1) := by decide +kernel
theorem dL_count_1 : decode cL_count 1 = .ok (.iconst 0, 1) := by decide +kernel
theorem dL_count_2 : decode cL_count 2 = .ok (.aload_n 0, 1) := by decide +kernel
theorem dL_count_3 : decode cL_count 3 = .ok (.iload_n 1, 1) := by decide +kernel
theorem dL_count_4 : decode cL_count 4 = .ok (.invokevirtual 66, 3) := by decide +kernel
theorem dL_count_7 : decode cL_count 7 = .ok (.i2l, 1) := by decide +kernel
theorem dL_count_8 : decode cL_count 8 = .ok (.lastore, 1) := by decide +kernel
theorem dL_count_9 : decode cL_count 9 = .ok (.goto 6, 3) := by decide +kernel
theorem dL_count_12 : decode cL_count 12 = .ok (.astore_n 3, 1) := by decide +kernel
theorem dL_count_13 : decode cL_count 13 = .ok (.iconst 1, 1) := by decide +kernel
theorem dL_count_14 : decode cL_count 14 = .ok (.ireturn, 1) := by decide +kernel
theorem dL_count_15 : decode cL_count 15 = .ok (.iconst 0, 1) := by decide +kernel
theorem dL_count_16 : decode cL_count 16 = .ok (.ireturn, 1) := by decide +kernel
theorem dL_measure_0 : decode cL_measure 0 = .ok (.aload_n 2, 1) := by decide +kernel
theorem dL_measure_1 : decode cL_measure 1 = .ok (.iconst 0, 1) := by decide +kernel
theorem dL_measure_2 : decode cL_measure 2 = .ok (.aload_n 0, 1) := by decide +kernel
theorem dL_measure_3 : decode cL_measure 3 = .ok (.iload_n 1, 1) := by decide +kernel
theorem dL_measure_4 : decode cL_measure 4 = .ok (.invokevirtual 69, 3) := by decide +kernel
theorem dL_measure_7 : decode cL_measure 7 = .ok (.dastore, 1) := by decide +kernel
theorem dL_measure_8 : decode cL_measure 8 = .ok (.goto 6, 3) := by decide +kernel
theorem dL_measure_11 : decode cL_measure 11 = .ok (.astore_n 3, 1) := by decide +kernel
theorem dL_measure_12 : decode cL_measure 12 = .ok (.iconst 1, 1) := by decide +kernel
theorem dL_measure_13 : decode cL_measure 13 = .ok (.ireturn, 1) := by decide +kernel
theorem dL_measure_14 : decode cL_measure 14 = .ok (.iconst 0, 1) := by decide +kernel
theorem dL_measure_15 : decode cL_measure 15 = .ok (.ireturn, 1) := by decide +kernel
theorem dL_ifLimit_0 : decode cL_ifLimit 0 = .ok (.aload_n 2, 1) := by decide +kernel
theorem dL_ifLimit_1 : decode cL_ifLimit 1 = .ok (.iconst 0, 1) := by decide +kernel
theorem dL_ifLimit_2 : decode cL_ifLimit 2 = .ok (.aload_n 0, 1) := by decide +kernel
theorem dL_ifLimit_3 : decode cL_ifLimit 3 = .ok (.iload_n 1, 1) := by decide +kernel
theorem dL_ifLimit_4 : decode cL_ifLimit 4 = .ok (.invokevirtual 73, 3) := by decide +kernel
theorem dL_ifLimit_7 : decode cL_ifLimit 7 = .ok (.dastore, 1) := by decide +kernel
theorem dL_ifLimit_8 : decode cL_ifLimit 8 = .ok (.goto 6, 3) := by decide +kernel
theorem dL_ifLimit_11 : decode cL_ifLimit 11 = .ok (.astore_n 3, 1) := by decide +kernel
theorem dL_ifLimit_12 : decode cL_ifLimit 12 = .ok (.iconst 1, 1) := by decide +kernel
theorem dL_ifLimit_13 : decode cL_ifLimit 13 = .ok (.ireturn, 1) := by decide +kernel
theorem dL_ifLimit_14 : decode cL_ifLimit 14 = .ok (.iconst 0, 1) := by decide +kernel
theorem dL_ifLimit_15 : decode cL_ifLimit 15 = .ok (.ireturn, 1) := by decide +kernel
theorem dL_limitFor_0 : decode cL_limitFor 0 = .ok (.aload_n 2, 1) := by decide +kernel
theorem dL_limitFor_1 : decode cL_limitFor 1 = .ok (.iconst 0, 1) := by decide +kernel
theorem dL_limitFor_2 : decode cL_limitFor 2 = .ok (.aload_n 0, 1) := by decide +kernel
theorem dL_limitFor_3 : decode cL_limitFor 3 = .ok (.iload_n 1, 1) := by decide +kernel
theorem dL_limitFor_4 : decode cL_limitFor 4 = .ok (.invokevirtual 76, 3) := by decide +kernel
theorem dL_limitFor_7 : decode cL_limitFor 7 = .ok (.i2l, 1) := by decide +kernel
theorem dL_limitFor_8 : decode cL_limitFor 8 = .ok (.lastore, 1) := by decide +kernel
theorem dL_limitFor_9 : decode cL_limitFor 9 = .ok (.goto 6, 3) := by decide +kernel
theorem dL_limitFor_12 : decode cL_limitFor 12 = .ok (.astore_n 3, 1) := by decide +kernel
theorem dL_limitFor_13 : decode cL_limitFor 13 = .ok (.iconst 1, 1) := by decide +kernel
theorem dL_limitFor_14 : decode cL_limitFor 14 = .ok (.ireturn, 1) := by decide +kernel
theorem dL_limitFor_15 : decode cL_limitFor 15 = .ok (.iconst 0, 1) := by decide +kernel
theorem dL_limitFor_16 : decode cL_limitFor 16 = .ok (.ireturn, 1) := by decide +kernel
theorem dL_law_0 : decode cL_law 0 = .ok (.new 8, 3) := by decide +kernel
theorem dL_law_3 : decode cL_law 3 = .ok (.dup, 1) := by decide +kernel
theorem dL_law_4 : decode cL_law 4 = .ok (.invokespecial 79, 3) := by decide +kernel
theorem dL_law_7 : decode cL_law 7 = .ok (.astore_n 1, 1) := by decide +kernel
theorem dL_law_8 : decode cL_law 8 = .ok (.new 80, 3) := by decide +kernel
theorem dL_law_11 : decode cL_law 11 = .ok (.dup, 1) := by decide +kernel
theorem dL_law_12 : decode cL_law 12 = .ok (.invokespecial 82, 3) := by decide +kernel
theorem dL_law_15 : decode cL_law 15 = .ok (.astore_n 2, 1) := by decide +kernel
theorem dL_law_16 : decode cL_law 16 = .ok (.iconst 1, 1) := by decide +kernel
theorem dL_law_17 : decode cL_law 17 = .ok (.newarray .long, 2) := by decide +kernel
theorem dL_law_19 : decode cL_law 19 = .ok (.astore_n 3, 1) := by decide +kernel
theorem dL_law_20 : decode cL_law 20 = .ok (.iconst 1, 1) := by decide +kernel
theorem dL_law_21 : decode cL_law 21 = .ok (.newarray .double, 2) := by decide +kernel
theorem dL_law_23 : decode cL_law 23 = .ok (.astore 4, 2) := by decide +kernel
theorem dL_law_25 : decode cL_law 25 = .ok (.iconst 0, 1) := by decide +kernel
theorem dL_law_26 : decode cL_law 26 = .ok (.istore 5, 2) := by decide +kernel
theorem dL_law_28 : decode cL_law 28 = .ok (.iload 5, 2) := by decide +kernel
theorem dL_law_30 : decode cL_law 30 = .ok (.aload_n 0, 1) := by decide +kernel
theorem dL_law_31 : decode cL_law 31 = .ok (.arraylength, 1) := by decide +kernel
theorem dL_law_32 : decode cL_law 32 = .ok (.iconst 4, 1) := by decide +kernel
theorem dL_law_33 : decode cL_law 33 = .ok (.isub, 1) := by decide +kernel
theorem dL_law_34 : decode cL_law 34 = .ok (.if_icmp .gt 1476, 3) := by decide +kernel
theorem dL_law_37 : decode cL_law 37 = .ok (.aload_n 0, 1) := by decide +kernel
theorem dL_law_38 : decode cL_law 38 = .ok (.iload 5, 2) := by decide +kernel
theorem dL_law_40 : decode cL_law 40 = .ok (.iaload, 1) := by decide +kernel
theorem dL_law_41 : decode cL_law 41 = .ok (.bipush 31, 2) := by decide +kernel
theorem dL_law_43 : decode cL_law 43 = .ok (.iand, 1) := by decide +kernel
theorem dL_law_44 : decode cL_law 44 = .ok (.tableswitch 1460 0 24 #[116, 172, 228, 308, 388, 444, 500, 556, 612, 625, 681, 694, 707, 751, 795, 863, 959, 1042, 1098, 1154, 1231, 1308, 1364, 1433, 1446], 116) := by decide +kernel
theorem dL_law_160 : decode cL_law 160 = .ok (.aload_n 1, 1) := by decide +kernel
theorem dL_law_161 : decode cL_law 161 = .ok (.aload_n 0, 1) := by decide +kernel
theorem dL_law_162 : decode cL_law 162 = .ok (.iload 5, 2) := by decide +kernel
theorem dL_law_164 : decode cL_law 164 = .ok (.iconst 1, 1) := by decide +kernel
theorem dL_law_165 : decode cL_law 165 = .ok (.iadd, 1) := by decide +kernel
theorem dL_law_166 : decode cL_law 166 = .ok (.iaload, 1) := by decide +kernel
theorem dL_law_167 : decode cL_law 167 = .ok (.aload_n 3, 1) := by decide +kernel
theorem dL_law_168 : decode cL_law 168 = .ok (.invokestatic 83, 3) := by decide +kernel
theorem dL_law_171 : decode cL_law 171 = .ok (.istore 6, 2) := by decide +kernel
theorem dL_law_173 : decode cL_law 173 = .ok (.aload_n 2, 1) := by decide +kernel
theorem dL_law_174 : decode cL_law 174 = .ok (.aload_n 0, 1) := by decide +kernel
theorem dL_law_175 : decode cL_law 175 = .ok (.iload 5, 2) := by decide +kernel
theorem dL_law_177 : decode cL_law 177 = .ok (.iconst 1, 1) := by decide +kernel
theorem dL_law_178 : decode cL_law 178 = .ok (.iadd, 1) := by decide +kernel
theorem dL_law_179 : decode cL_law 179 = .ok (.iaload, 1) := by decide +kernel
theorem dL_law_180 : decode cL_law 180 = .ok (.invokevirtual 88, 3) := by decide +kernel
theorem dL_law_183 : decode cL_law 183 = .ok (.istore 7, 2) := by decide +kernel
theorem dL_law_185 : decode cL_law 185 = .ok (.aload_n 2, 1) := by decide +kernel
theorem dL_law_186 : decode cL_law 186 = .ok (.invokevirtual 89, 3) := by decide +kernel
theorem dL_law_189 : decode cL_law 189 = .ok (.iload 6, 2) := by decide +kernel
theorem dL_law_191 : decode cL_law 191 = .ok (.if_icmp .eq 5, 3) := by decide +kernel
theorem dL_law_194 : decode cL_law 194 = .ok (.iconst 0, 1) := by decide +kernel
theorem dL_law_195 : decode cL_law 195 = .ok (.ireturn, 1) := by decide +kernel
theorem dL_law_196 : decode cL_law 196 = .ok (.iload 6, 2) := by decide +kernel
theorem dL_law_198 : decode cL_law 198 = .ok (.ifCond .ne 15, 3) := by decide +kernel
theorem dL_law_201 : decode cL_law 201 = .ok (.aload_n 3, 1) := by decide +kernel
theorem dL_law_202 : decode cL_law 202 = .ok (.iconst 0, 1) := by decide +kernel
theorem dL_law_203 : decode cL_law 203 = .ok (.laload, 1) := by decide +kernel
theorem dL_law_204 : decode cL_law 204 = .ok (.iload 7, 2) := by decide +kernel
theorem dL_law_206 : decode cL_law 206 = .ok (.i2l, 1) := by decide +kernel
theorem dL_law_207 : decode cL_law 207 = .ok (.lcmp, 1) := by decide +kernel
theorem dL_law_208 : decode cL_law 208 = .ok (.ifCond .eq 5, 3) := by decide +kernel
theorem dL_law_211 : decode cL_law 211 = .ok (.iconst 0, 1) := by decide +kernel
theorem dL_law_212 : decode cL_law 212 = .ok (.ireturn, 1) := by decide +kernel
theorem dL_law_213 : decode cL_law 213 = .ok (.goto 1291, 3) := by decide +kernel
theorem dL_law_216 : decode cL_law 216 = .ok (.aload_n 1, 1) := by decide +kernel
theorem dL_law_217 : decode cL_law 217 = .ok (.aload_n 0, 1) := by decide +kernel
theorem dL_law_218 : decode cL_law 218 = .ok (.iload 5, 2) := by decide +kernel
theorem dL_law_220 : decode cL_law 220 = .ok (.iconst 1, 1) := by decide +kernel
theorem dL_law_221 : decode cL_law 221 = .ok (.iadd, 1) := by decide +kernel
theorem dL_law_222 : decode cL_law 222 = .ok (.iaload, 1) := by decide +kernel
theorem dL_law_223 : decode cL_law 223 = .ok (.aload_n 3, 1) := by decide +kernel
theorem dL_law_224 : decode cL_law 224 = .ok (.invokestatic 92, 3) := by decide +kernel
theorem dL_law_227 : decode cL_law 227 = .ok (.istore 6, 2) := by decide +kernel
theorem dL_law_229 : decode cL_law 229 = .ok (.aload_n 2, 1) := by decide +kernel
theorem dL_law_230 : decode cL_law 230 = .ok (.aload_n 0, 1) := by decide +kernel
theorem dL_law_231 : decode cL_law 231 = .ok (.iload 5, 2) := by decide +kernel
theorem dL_law_233 : decode cL_law 233 = .ok (.iconst 1, 1) := by decide +kernel
theorem dL_law_234 : decode cL_law 234 = .ok (.iadd, 1) := by decide +kernel
theorem dL_law_235 : decode cL_law 235 = .ok (.iaload, 1) := by decide +kernel
theorem dL_law_236 : decode cL_law 236 = .ok (.invokevirtual 94, 3) := by decide +kernel
theorem dL_law_239 : decode cL_law 239 = .ok (.istore 7, 2) := by decide +kernel
theorem dL_law_241 : decode cL_law 241 = .ok (.aload_n 2, 1) := by decide +kernel
theorem dL_law_242 : decode cL_law 242 = .ok (.invokevirtual 89, 3) := by decide +kernel
theorem dL_law_245 : decode cL_law 245 = .ok (.iload 6, 2) := by decide +kernel
theorem dL_law_247 : decode cL_law 247 = .ok (.if_icmp .eq 5, 3) := by decide +kernel
theorem dL_law_250 : decode cL_law 250 = .ok (.iconst 0, 1) := by decide +kernel
theorem dL_law_251 : decode cL_law 251 = .ok (.ireturn, 1) := by decide +kernel
theorem dL_law_252 : decode cL_law 252 = .ok (.iload 6, 2) := by decide +kernel
theorem dL_law_254 : decode cL_law 254 = .ok (.ifCond .ne 15, 3) := by decide +kernel
theorem dL_law_257 : decode cL_law 257 = .ok (.aload_n 3, 1) := by decide +kernel
theorem dL_law_258 : decode cL_law 258 = .ok (.iconst 0, 1) := by decide +kernel
theorem dL_law_259 : decode cL_law 259 = .ok (.laload, 1) := by decide +kernel
theorem dL_law_260 : decode cL_law 260 = .ok (.iload 7, 2) := by decide +kernel
theorem dL_law_262 : decode cL_law 262 = .ok (.i2l, 1) := by decide +kernel
theorem dL_law_263 : decode cL_law 263 = .ok (.lcmp, 1) := by decide +kernel
theorem dL_law_264 : decode cL_law 264 = .ok (.ifCond .eq 5, 3) := by decide +kernel
theorem dL_law_267 : decode cL_law 267 = .ok (.iconst 0, 1) := by decide +kernel
theorem dL_law_268 : decode cL_law 268 = .ok (.ireturn, 1) := by decide +kernel
theorem dL_law_269 : decode cL_law 269 = .ok (.goto 1235, 3) := by decide +kernel
theorem dL_law_272 : decode cL_law 272 = .ok (.aload_n 1, 1) := by decide +kernel
theorem dL_law_273 : decode cL_law 273 = .ok (.aload_n 0, 1) := by decide +kernel
theorem dL_law_274 : decode cL_law 274 = .ok (.iload 5, 2) := by decide +kernel
theorem dL_law_276 : decode cL_law 276 = .ok (.iconst 1, 1) := by decide +kernel
theorem dL_law_277 : decode cL_law 277 = .ok (.iadd, 1) := by decide +kernel
theorem dL_law_278 : decode cL_law 278 = .ok (.iaload, 1) := by decide +kernel
theorem dL_law_279 : decode cL_law 279 = .ok (.aload_n 0, 1) := by decide +kernel
theorem dL_law_280 : decode cL_law 280 = .ok (.iload 5, 2) := by decide +kernel
theorem dL_law_282 : decode cL_law 282 = .ok (.iconst 2, 1) := by decide +kernel
theorem dL_law_283 : decode cL_law 283 = .ok (.iadd, 1) := by decide +kernel
theorem dL_law_284 : decode cL_law 284 = .ok (.iaload, 1) := by decide +kernel
theorem dL_law_285 : decode cL_law 285 = .ok (.aload_n 0, 1) := by decide +kernel
theorem dL_law_286 : decode cL_law 286 = .ok (.iload 5, 2) := by decide +kernel
theorem dL_law_288 : decode cL_law 288 = .ok (.iconst 3, 1) := by decide +kernel
theorem dL_law_289 : decode cL_law 289 = .ok (.iadd, 1) := by decide +kernel
theorem dL_law_290 : decode cL_law 290 = .ok (.iaload, 1) := by decide +kernel
theorem dL_law_291 : decode cL_law 291 = .ok (.aload_n 3, 1) := by decide +kernel
theorem dL_law_292 : decode cL_law 292 = .ok (.invokestatic 95, 3) := by decide +kernel
theorem dL_law_295 : decode cL_law 295 = .ok (.istore 6, 2) := by decide +kernel
theorem dL_law_297 : decode cL_law 297 = .ok (.aload_n 2, 1) := by decide +kernel
theorem dL_law_298 : decode cL_law 298 = .ok (.aload_n 0, 1) := by decide +kernel
theorem dL_law_299 : decode cL_law 299 = .ok (.iload 5, 2) := by decide +kernel
theorem dL_law_301 : decode cL_law 301 = .ok (.iconst 1, 1) := by decide +kernel
theorem dL_law_302 : decode cL_law 302 = .ok (.iadd, 1) := by decide +kernel
theorem dL_law_303 : decode cL_law 303 = .ok (.iaload, 1) := by decide +kernel
theorem dL_law_304 : decode cL_law 304 = .ok (.aload_n 0, 1) := by decide +kernel
theorem dL_law_305 : decode cL_law 305 = .ok (.iload 5, 2) := by decide +kernel
theorem dL_law_307 : decode cL_law 307 = .ok (.iconst 2, 1) := by decide +kernel
theorem dL_law_308 : decode cL_law 308 = .ok (.iadd, 1) := by decide +kernel
theorem dL_law_309 : decode cL_law 309 = .ok (.iaload, 1) := by decide +kernel
theorem dL_law_310 : decode cL_law 310 = .ok (.aload_n 0, 1) := by decide +kernel
theorem dL_law_311 : decode cL_law 311 = .ok (.iload 5, 2) := by decide +kernel
theorem dL_law_313 : decode cL_law 313 = .ok (.iconst 3, 1) := by decide +kernel
theorem dL_law_314 : decode cL_law 314 = .ok (.iadd, 1) := by decide +kernel
theorem dL_law_315 : decode cL_law 315 = .ok (.iaload, 1) := by decide +kernel
theorem dL_law_316 : decode cL_law 316 = .ok (.invokevirtual 98, 3) := by decide +kernel
theorem dL_law_319 : decode cL_law 319 = .ok (.istore 7, 2) := by decide +kernel
theorem dL_law_321 : decode cL_law 321 = .ok (.aload_n 2, 1) := by decide +kernel
theorem dL_law_322 : decode cL_law 322 = .ok (.invokevirtual 89, 3) := by decide +kernel
theorem dL_law_325 : decode cL_law 325 = .ok (.iload 6, 2) := by decide +kernel
theorem dL_law_327 : decode cL_law 327 = .ok (.if_icmp .eq 5, 3) := by decide +kernel
theorem dL_law_330 : decode cL_law 330 = .ok (.iconst 0, 1) := by decide +kernel
theorem dL_law_331 : decode cL_law 331 = .ok (.ireturn, 1) := by decide +kernel
theorem dL_law_332 : decode cL_law 332 = .ok (.iload 6, 2) := by decide +kernel
theorem dL_law_334 : decode cL_law 334 = .ok (.ifCond .ne 15, 3) := by decide +kernel
theorem dL_law_337 : decode cL_law 337 = .ok (.aload_n 3, 1) := by decide +kernel
theorem dL_law_338 : decode cL_law 338 = .ok (.iconst 0, 1) := by decide +kernel
theorem dL_law_339 : decode cL_law 339 = .ok (.laload, 1) := by decide +kernel
theorem dL_law_340 : decode cL_law 340 = .ok (.iload 7, 2) := by decide +kernel
theorem dL_law_342 : decode cL_law 342 = .ok (.i2l, 1) := by decide +kernel
theorem dL_law_343 : decode cL_law 343 = .ok (.lcmp, 1) := by decide +kernel
theorem dL_law_344 : decode cL_law 344 = .ok (.ifCond .eq 5, 3) := by decide +kernel
theorem dL_law_347 : decode cL_law 347 = .ok (.iconst 0, 1) := by decide +kernel
theorem dL_law_348 : decode cL_law 348 = .ok (.ireturn, 1) := by decide +kernel
theorem dL_law_349 : decode cL_law 349 = .ok (.goto 1155, 3) := by decide +kernel
theorem dL_law_352 : decode cL_law 352 = .ok (.aload_n 1, 1) := by decide +kernel
theorem dL_law_353 : decode cL_law 353 = .ok (.aload_n 0, 1) := by decide +kernel
theorem dL_law_354 : decode cL_law 354 = .ok (.iload 5, 2) := by decide +kernel
theorem dL_law_356 : decode cL_law 356 = .ok (.iconst 1, 1) := by decide +kernel
theorem dL_law_357 : decode cL_law 357 = .ok (.iadd, 1) := by decide +kernel
theorem dL_law_358 : decode cL_law 358 = .ok (.iaload, 1) := by decide +kernel
theorem dL_law_359 : decode cL_law 359 = .ok (.aload_n 0, 1) := by decide +kernel
theorem dL_law_360 : decode cL_law 360 = .ok (.iload 5, 2) := by decide +kernel
theorem dL_law_362 : decode cL_law 362 = .ok (.iconst 2, 1) := by decide +kernel
theorem dL_law_363 : decode cL_law 363 = .ok (.iadd, 1) := by decide +kernel
theorem dL_law_364 : decode cL_law 364 = .ok (.iaload, 1) := by decide +kernel
theorem dL_law_365 : decode cL_law 365 = .ok (.aload_n 0, 1) := by decide +kernel
theorem dL_law_366 : decode cL_law 366 = .ok (.iload 5, 2) := by decide +kernel
theorem dL_law_368 : decode cL_law 368 = .ok (.iconst 3, 1) := by decide +kernel
theorem dL_law_369 : decode cL_law 369 = .ok (.iadd, 1) := by decide +kernel
theorem dL_law_370 : decode cL_law 370 = .ok (.iaload, 1) := by decide +kernel
theorem dL_law_371 : decode cL_law 371 = .ok (.aload_n 3, 1) := by decide +kernel
theorem dL_law_372 : decode cL_law 372 = .ok (.invokestatic 99, 3) := by decide +kernel
theorem dL_law_375 : decode cL_law 375 = .ok (.istore 6, 2) := by decide +kernel
theorem dL_law_377 : decode cL_law 377 = .ok (.aload_n 2, 1) := by decide +kernel
theorem dL_law_378 : decode cL_law 378 = .ok (.aload_n 0, 1) := by decide +kernel
theorem dL_law_379 : decode cL_law 379 = .ok (.iload 5, 2) := by decide +kernel
theorem dL_law_381 : decode cL_law 381 = .ok (.iconst 1, 1) := by decide +kernel
theorem dL_law_382 : decode cL_law 382 = .ok (.iadd, 1) := by decide +kernel
theorem dL_law_383 : decode cL_law 383 = .ok (.iaload, 1) := by decide +kernel
theorem dL_law_384 : decode cL_law 384 = .ok (.aload_n 0, 1) := by decide +kernel
theorem dL_law_385 : decode cL_law 385 = .ok (.iload 5, 2) := by decide +kernel
theorem dL_law_387 : decode cL_law 387 = .ok (.iconst 2, 1) := by decide +kernel
theorem dL_law_388 : decode cL_law 388 = .ok (.iadd, 1) := by decide +kernel
theorem dL_law_389 : decode cL_law 389 = .ok (.iaload, 1) := by decide +kernel
theorem dL_law_390 : decode cL_law 390 = .ok (.aload_n 0, 1) := by decide +kernel
theorem dL_law_391 : decode cL_law 391 = .ok (.iload 5, 2) := by decide +kernel
theorem dL_law_393 : decode cL_law 393 = .ok (.iconst 3, 1) := by decide +kernel
theorem dL_law_394 : decode cL_law 394 = .ok (.iadd, 1) := by decide +kernel
theorem dL_law_395 : decode cL_law 395 = .ok (.iaload, 1) := by decide +kernel
theorem dL_law_396 : decode cL_law 396 = .ok (.invokevirtual 101, 3) := by decide +kernel
theorem dL_law_399 : decode cL_law 399 = .ok (.istore 7, 2) := by decide +kernel
theorem dL_law_401 : decode cL_law 401 = .ok (.aload_n 2, 1) := by decide +kernel
theorem dL_law_402 : decode cL_law 402 = .ok (.invokevirtual 89, 3) := by decide +kernel
theorem dL_law_405 : decode cL_law 405 = .ok (.iload 6, 2) := by decide +kernel
theorem dL_law_407 : decode cL_law 407 = .ok (.if_icmp .eq 5, 3) := by decide +kernel
theorem dL_law_410 : decode cL_law 410 = .ok (.iconst 0, 1) := by decide +kernel
theorem dL_law_411 : decode cL_law 411 = .ok (.ireturn, 1) := by decide +kernel
theorem dL_law_412 : decode cL_law 412 = .ok (.iload 6, 2) := by decide +kernel
theorem dL_law_414 : decode cL_law 414 = .ok (.ifCond .ne 15, 3) := by decide +kernel
theorem dL_law_417 : decode cL_law 417 = .ok (.aload_n 3, 1) := by decide +kernel
theorem dL_law_418 : decode cL_law 418 = .ok (.iconst 0, 1) := by decide +kernel
theorem dL_law_419 : decode cL_law 419 = .ok (.laload, 1) := by decide +kernel
theorem dL_law_420 : decode cL_law 420 = .ok (.iload 7, 2) := by decide +kernel
theorem dL_law_422 : decode cL_law 422 = .ok (.i2l, 1) := by decide +kernel
theorem dL_law_423 : decode cL_law 423 = .ok (.lcmp, 1) := by decide +kernel
theorem dL_law_424 : decode cL_law 424 = .ok (.ifCond .eq 5, 3) := by decide +kernel
theorem dL_law_427 : decode cL_law 427 = .ok (.iconst 0, 1) := by decide +kernel
theorem dL_law_428 : decode cL_law 428 = .ok (.ireturn, 1) := by decide +kernel
theorem dL_law_429 : decode cL_law 429 = .ok (.goto 1075, 3) := by decide +kernel
theorem dL_law_432 : decode cL_law 432 = .ok (.aload_n 1, 1) := by decide +kernel
theorem dL_law_433 : decode cL_law 433 = .ok (.aload_n 0, 1) := by decide +kernel
theorem dL_law_434 : decode cL_law 434 = .ok (.iload 5, 2) := by decide +kernel
theorem dL_law_436 : decode cL_law 436 = .ok (.iconst 1, 1) := by decide +kernel
theorem dL_law_437 : decode cL_law 437 = .ok (.iadd, 1) := by decide +kernel
theorem dL_law_438 : decode cL_law 438 = .ok (.iaload, 1) := by decide +kernel
theorem dL_law_439 : decode cL_law 439 = .ok (.aload_n 3, 1) := by decide +kernel
theorem dL_law_440 : decode cL_law 440 = .ok (.invokestatic 102, 3) := by decide +kernel
theorem dL_law_443 : decode cL_law 443 = .ok (.istore 6, 2) := by decide +kernel
theorem dL_law_445 : decode cL_law 445 = .ok (.aload_n 2, 1) := by decide +kernel
theorem dL_law_446 : decode cL_law 446 = .ok (.aload_n 0, 1) := by decide +kernel
theorem dL_law_447 : decode cL_law 447 = .ok (.iload 5, 2) := by decide +kernel
theorem dL_law_449 : decode cL_law 449 = .ok (.iconst 1, 1) := by decide +kernel
theorem dL_law_450 : decode cL_law 450 = .ok (.iadd, 1) := by decide +kernel
theorem dL_law_451 : decode cL_law 451 = .ok (.iaload, 1) := by decide +kernel
theorem dL_law_452 : decode cL_law 452 = .ok (.invokevirtual 104, 3) := by decide +kernel
theorem dL_law_455 : decode cL_law 455 = .ok (.istore 7, 2) := by decide +kernel
theorem dL_law_457 : decode cL_law 457 = .ok (.aload_n 2, 1) := by decide +kernel
theorem dL_law_458 : decode cL_law 458 = .ok (.invokevirtual 89, 3) := by decide +kernel
theorem dL_law_461 : decode cL_law 461 = .ok (.iload 6, 2) := by decide +kernel
theorem dL_law_463 : decode cL_law 463 = .ok (.if_icmp .eq 5, 3) := by decide +kernel
theorem dL_law_466 : decode cL_law 466 = .ok (.iconst 0, 1) := by decide +kernel
theorem dL_law_467 : decode cL_law 467 = .ok (.ireturn, 1) := by decide +kernel
theorem dL_law_468 : decode cL_law 468 = .ok (.iload 6, 2) := by decide +kernel
theorem dL_law_470 : decode cL_law 470 = .ok (.ifCond .ne 15, 3) := by decide +kernel
theorem dL_law_473 : decode cL_law 473 = .ok (.aload_n 3, 1) := by decide +kernel
theorem dL_law_474 : decode cL_law 474 = .ok (.iconst 0, 1) := by decide +kernel
theorem dL_law_475 : decode cL_law 475 = .ok (.laload, 1) := by decide +kernel
theorem dL_law_476 : decode cL_law 476 = .ok (.iload 7, 2) := by decide +kernel
theorem dL_law_478 : decode cL_law 478 = .ok (.i2l, 1) := by decide +kernel
theorem dL_law_479 : decode cL_law 479 = .ok (.lcmp, 1) := by decide +kernel
theorem dL_law_480 : decode cL_law 480 = .ok (.ifCond .eq 5, 3) := by decide +kernel
theorem dL_law_483 : decode cL_law 483 = .ok (.iconst 0, 1) := by decide +kernel
theorem dL_law_484 : decode cL_law 484 = .ok (.ireturn, 1) := by decide +kernel
theorem dL_law_485 : decode cL_law 485 = .ok (.goto 1019, 3) := by decide +kernel
theorem dL_law_488 : decode cL_law 488 = .ok (.aload_n 1, 1) := by decide +kernel
theorem dL_law_489 : decode cL_law 489 = .ok (.aload_n 0, 1) := by decide +kernel
theorem dL_law_490 : decode cL_law 490 = .ok (.iload 5, 2) := by decide +kernel
theorem dL_law_492 : decode cL_law 492 = .ok (.iconst 1, 1) := by decide +kernel
theorem dL_law_493 : decode cL_law 493 = .ok (.iadd, 1) := by decide +kernel
theorem dL_law_494 : decode cL_law 494 = .ok (.iaload, 1) := by decide +kernel
theorem dL_law_495 : decode cL_law 495 = .ok (.aload_n 3, 1) := by decide +kernel
theorem dL_law_496 : decode cL_law 496 = .ok (.invokestatic 105, 3) := by decide +kernel
theorem dL_law_499 : decode cL_law 499 = .ok (.istore 6, 2) := by decide +kernel
theorem dL_law_501 : decode cL_law 501 = .ok (.aload_n 2, 1) := by decide +kernel
theorem dL_law_502 : decode cL_law 502 = .ok (.aload_n 0, 1) := by decide +kernel
theorem dL_law_503 : decode cL_law 503 = .ok (.iload 5, 2) := by decide +kernel
theorem dL_law_505 : decode cL_law 505 = .ok (.iconst 1, 1) := by decide +kernel
theorem dL_law_506 : decode cL_law 506 = .ok (.iadd, 1) := by decide +kernel
theorem dL_law_507 : decode cL_law 507 = .ok (.iaload, 1) := by decide +kernel
theorem dL_law_508 : decode cL_law 508 = .ok (.invokevirtual 107, 3) := by decide +kernel
theorem dL_law_511 : decode cL_law 511 = .ok (.istore 7, 2) := by decide +kernel
theorem dL_law_513 : decode cL_law 513 = .ok (.aload_n 2, 1) := by decide +kernel
theorem dL_law_514 : decode cL_law 514 = .ok (.invokevirtual 89, 3) := by decide +kernel
theorem dL_law_517 : decode cL_law 517 = .ok (.iload 6, 2) := by decide +kernel
theorem dL_law_519 : decode cL_law 519 = .ok (.if_icmp .eq 5, 3) := by decide +kernel
theorem dL_law_522 : decode cL_law 522 = .ok (.iconst 0, 1) := by decide +kernel
theorem dL_law_523 : decode cL_law 523 = .ok (.ireturn, 1) := by decide +kernel
theorem dL_law_524 : decode cL_law 524 = .ok (.iload 6, 2) := by decide +kernel
theorem dL_law_526 : decode cL_law 526 = .ok (.ifCond .ne 15, 3) := by decide +kernel
theorem dL_law_529 : decode cL_law 529 = .ok (.aload_n 3, 1) := by decide +kernel
theorem dL_law_530 : decode cL_law 530 = .ok (.iconst 0, 1) := by decide +kernel
theorem dL_law_531 : decode cL_law 531 = .ok (.laload, 1) := by decide +kernel
theorem dL_law_532 : decode cL_law 532 = .ok (.iload 7, 2) := by decide +kernel
theorem dL_law_534 : decode cL_law 534 = .ok (.i2l, 1) := by decide +kernel
theorem dL_law_535 : decode cL_law 535 = .ok (.lcmp, 1) := by decide +kernel
theorem dL_law_536 : decode cL_law 536 = .ok (.ifCond .eq 5, 3) := by decide +kernel
theorem dL_law_539 : decode cL_law 539 = .ok (.iconst 0, 1) := by decide +kernel
theorem dL_law_540 : decode cL_law 540 = .ok (.ireturn, 1) := by decide +kernel
theorem dL_law_541 : decode cL_law 541 = .ok (.goto 963, 3) := by decide +kernel
theorem dL_law_544 : decode cL_law 544 = .ok (.aload_n 1, 1) := by decide +kernel
theorem dL_law_545 : decode cL_law 545 = .ok (.aload_n 0, 1) := by decide +kernel
theorem dL_law_546 : decode cL_law 546 = .ok (.iload 5, 2) := by decide +kernel
theorem dL_law_548 : decode cL_law 548 = .ok (.iconst 1, 1) := by decide +kernel
theorem dL_law_549 : decode cL_law 549 = .ok (.iadd, 1) := by decide +kernel
theorem dL_law_550 : decode cL_law 550 = .ok (.iaload, 1) := by decide +kernel
theorem dL_law_551 : decode cL_law 551 = .ok (.aload_n 3, 1) := by decide +kernel
theorem dL_law_552 : decode cL_law 552 = .ok (.invokestatic 108, 3) := by decide +kernel
theorem dL_law_555 : decode cL_law 555 = .ok (.istore 6, 2) := by decide +kernel
theorem dL_law_557 : decode cL_law 557 = .ok (.aload_n 2, 1) := by decide +kernel
theorem dL_law_558 : decode cL_law 558 = .ok (.aload_n 0, 1) := by decide +kernel
theorem dL_law_559 : decode cL_law 559 = .ok (.iload 5, 2) := by decide +kernel
theorem dL_law_561 : decode cL_law 561 = .ok (.iconst 1, 1) := by decide +kernel
theorem dL_law_562 : decode cL_law 562 = .ok (.iadd, 1) := by decide +kernel
theorem dL_law_563 : decode cL_law 563 = .ok (.iaload, 1) := by decide +kernel
theorem dL_law_564 : decode cL_law 564 = .ok (.invokevirtual 110, 3) := by decide +kernel
theorem dL_law_567 : decode cL_law 567 = .ok (.istore 7, 2) := by decide +kernel
theorem dL_law_569 : decode cL_law 569 = .ok (.aload_n 2, 1) := by decide +kernel
theorem dL_law_570 : decode cL_law 570 = .ok (.invokevirtual 89, 3) := by decide +kernel
theorem dL_law_573 : decode cL_law 573 = .ok (.iload 6, 2) := by decide +kernel
theorem dL_law_575 : decode cL_law 575 = .ok (.if_icmp .eq 5, 3) := by decide +kernel
theorem dL_law_578 : decode cL_law 578 = .ok (.iconst 0, 1) := by decide +kernel
theorem dL_law_579 : decode cL_law 579 = .ok (.ireturn, 1) := by decide +kernel
theorem dL_law_580 : decode cL_law 580 = .ok (.iload 6, 2) := by decide +kernel
theorem dL_law_582 : decode cL_law 582 = .ok (.ifCond .ne 15, 3) := by decide +kernel
theorem dL_law_585 : decode cL_law 585 = .ok (.aload_n 3, 1) := by decide +kernel
theorem dL_law_586 : decode cL_law 586 = .ok (.iconst 0, 1) := by decide +kernel
theorem dL_law_587 : decode cL_law 587 = .ok (.laload, 1) := by decide +kernel
theorem dL_law_588 : decode cL_law 588 = .ok (.iload 7, 2) := by decide +kernel
theorem dL_law_590 : decode cL_law 590 = .ok (.i2l, 1) := by decide +kernel
theorem dL_law_591 : decode cL_law 591 = .ok (.lcmp, 1) := by decide +kernel
theorem dL_law_592 : decode cL_law 592 = .ok (.ifCond .eq 5, 3) := by decide +kernel
theorem dL_law_595 : decode cL_law 595 = .ok (.iconst 0, 1) := by decide +kernel
theorem dL_law_596 : decode cL_law 596 = .ok (.ireturn, 1) := by decide +kernel
theorem dL_law_597 : decode cL_law 597 = .ok (.goto 907, 3) := by decide +kernel
theorem dL_law_600 : decode cL_law 600 = .ok (.aload_n 1, 1) := by decide +kernel
theorem dL_law_601 : decode cL_law 601 = .ok (.aload_n 0, 1) := by decide +kernel
theorem dL_law_602 : decode cL_law 602 = .ok (.iload 5, 2) := by decide +kernel
theorem dL_law_604 : decode cL_law 604 = .ok (.iconst 1, 1) := by decide +kernel
theorem dL_law_605 : decode cL_law 605 = .ok (.iadd, 1) := by decide +kernel
theorem dL_law_606 : decode cL_law 606 = .ok (.iaload, 1) := by decide +kernel
theorem dL_law_607 : decode cL_law 607 = .ok (.aload_n 3, 1) := by decide +kernel
theorem dL_law_608 : decode cL_law 608 = .ok (.invokestatic 111, 3) := by decide +kernel
theorem dL_law_611 : decode cL_law 611 = .ok (.istore 6, 2) := by decide +kernel
theorem dL_law_613 : decode cL_law 613 = .ok (.aload_n 2, 1) := by decide +kernel
theorem dL_law_614 : decode cL_law 614 = .ok (.aload_n 0, 1) := by decide +kernel
theorem dL_law_615 : decode cL_law 615 = .ok (.iload 5, 2) := by decide +kernel
theorem dL_law_617 : decode cL_law 617 = .ok (.iconst 1, 1) := by decide +kernel
theorem dL_law_618 : decode cL_law 618 = .ok (.iadd, 1) := by decide +kernel
theorem dL_law_619 : decode cL_law 619 = .ok (.iaload, 1) := by decide +kernel
theorem dL_law_620 : decode cL_law 620 = .ok (.invokevirtual 113, 3) := by decide +kernel
theorem dL_law_623 : decode cL_law 623 = .ok (.istore 7, 2) := by decide +kernel
theorem dL_law_625 : decode cL_law 625 = .ok (.aload_n 2, 1) := by decide +kernel
theorem dL_law_626 : decode cL_law 626 = .ok (.invokevirtual 89, 3) := by decide +kernel
theorem dL_law_629 : decode cL_law 629 = .ok (.iload 6, 2) := by decide +kernel
theorem dL_law_631 : decode cL_law 631 = .ok (.if_icmp .eq 5, 3) := by decide +kernel
theorem dL_law_634 : decode cL_law 634 = .ok (.iconst 0, 1) := by decide +kernel
theorem dL_law_635 : decode cL_law 635 = .ok (.ireturn, 1) := by decide +kernel
theorem dL_law_636 : decode cL_law 636 = .ok (.iload 6, 2) := by decide +kernel
theorem dL_law_638 : decode cL_law 638 = .ok (.ifCond .ne 15, 3) := by decide +kernel
theorem dL_law_641 : decode cL_law 641 = .ok (.aload_n 3, 1) := by decide +kernel
theorem dL_law_642 : decode cL_law 642 = .ok (.iconst 0, 1) := by decide +kernel
theorem dL_law_643 : decode cL_law 643 = .ok (.laload, 1) := by decide +kernel
theorem dL_law_644 : decode cL_law 644 = .ok (.iload 7, 2) := by decide +kernel
theorem dL_law_646 : decode cL_law 646 = .ok (.i2l, 1) := by decide +kernel
theorem dL_law_647 : decode cL_law 647 = .ok (.lcmp, 1) := by decide +kernel
theorem dL_law_648 : decode cL_law 648 = .ok (.ifCond .eq 5, 3) := by decide +kernel
theorem dL_law_651 : decode cL_law 651 = .ok (.iconst 0, 1) := by decide +kernel
theorem dL_law_652 : decode cL_law 652 = .ok (.ireturn, 1) := by decide +kernel
theorem dL_law_653 : decode cL_law 653 = .ok (.goto 851, 3) := by decide +kernel
theorem dL_law_656 : decode cL_law 656 = .ok (.aload_n 1, 1) := by decide +kernel
theorem dL_law_657 : decode cL_law 657 = .ok (.invokevirtual 114, 3) := by decide +kernel
theorem dL_law_660 : decode cL_law 660 = .ok (.aload_n 2, 1) := by decide +kernel
theorem dL_law_661 : decode cL_law 661 = .ok (.invokevirtual 117, 3) := by decide +kernel
theorem dL_law_664 : decode cL_law 664 = .ok (.if_icmp .eq 840, 3) := by decide +kernel
theorem dL_law_667 : decode cL_law 667 = .ok (.iconst 0, 1) := by decide +kernel
theorem dL_law_668 : decode cL_law 668 = .ok (.ireturn, 1) := by decide +kernel
theorem dL_law_669 : decode cL_law 669 = .ok (.aload_n 1, 1) := by decide +kernel
theorem dL_law_670 : decode cL_law 670 = .ok (.aload_n 0, 1) := by decide +kernel
theorem dL_law_671 : decode cL_law 671 = .ok (.iload 5, 2) := by decide +kernel
theorem dL_law_673 : decode cL_law 673 = .ok (.iconst 1, 1) := by decide +kernel
theorem dL_law_674 : decode cL_law 674 = .ok (.iadd, 1) := by decide +kernel
theorem dL_law_675 : decode cL_law 675 = .ok (.iaload, 1) := by decide +kernel
theorem dL_law_676 : decode cL_law 676 = .ok (.aload_n 3, 1) := by decide +kernel
theorem dL_law_677 : decode cL_law 677 = .ok (.invokestatic 118, 3) := by decide +kernel
theorem dL_law_680 : decode cL_law 680 = .ok (.istore 6, 2) := by decide +kernel
theorem dL_law_682 : decode cL_law 682 = .ok (.aload_n 2, 1) := by decide +kernel
theorem dL_law_683 : decode cL_law 683 = .ok (.aload_n 0, 1) := by decide +kernel
theorem dL_law_684 : decode cL_law 684 = .ok (.iload 5, 2) := by decide +kernel
theorem dL_law_686 : decode cL_law 686 = .ok (.iconst 1, 1) := by decide +kernel
theorem dL_law_687 : decode cL_law 687 = .ok (.iadd, 1) := by decide +kernel
theorem dL_law_688 : decode cL_law 688 = .ok (.iaload, 1) := by decide +kernel
theorem dL_law_689 : decode cL_law 689 = .ok (.invokevirtual 120, 3) := by decide +kernel
theorem dL_law_692 : decode cL_law 692 = .ok (.istore 7, 2) := by decide +kernel
theorem dL_law_694 : decode cL_law 694 = .ok (.aload_n 2, 1) := by decide +kernel
theorem dL_law_695 : decode cL_law 695 = .ok (.invokevirtual 89, 3) := by decide +kernel
theorem dL_law_698 : decode cL_law 698 = .ok (.iload 6, 2) := by decide +kernel
theorem dL_law_700 : decode cL_law 700 = .ok (.if_icmp .eq 5, 3) := by decide +kernel
theorem dL_law_703 : decode cL_law 703 = .ok (.iconst 0, 1) := by decide +kernel
theorem dL_law_704 : decode cL_law 704 = .ok (.ireturn, 1) := by decide +kernel
theorem dL_law_705 : decode cL_law 705 = .ok (.iload 6, 2) := by decide +kernel
theorem dL_law_707 : decode cL_law 707 = .ok (.ifCond .ne 15, 3) := by decide +kernel
theorem dL_law_710 : decode cL_law 710 = .ok (.aload_n 3, 1) := by decide +kernel
theorem dL_law_711 : decode cL_law 711 = .ok (.iconst 0, 1) := by decide +kernel
theorem dL_law_712 : decode cL_law 712 = .ok (.laload, 1) := by decide +kernel
theorem dL_law_713 : decode cL_law 713 = .ok (.iload 7, 2) := by decide +kernel
theorem dL_law_715 : decode cL_law 715 = .ok (.i2l, 1) := by decide +kernel
theorem dL_law_716 : decode cL_law 716 = .ok (.lcmp, 1) := by decide +kernel
theorem dL_law_717 : decode cL_law 717 = .ok (.ifCond .eq 5, 3) := by decide +kernel
theorem dL_law_720 : decode cL_law 720 = .ok (.iconst 0, 1) := by decide +kernel
theorem dL_law_721 : decode cL_law 721 = .ok (.ireturn, 1) := by decide +kernel
theorem dL_law_722 : decode cL_law 722 = .ok (.goto 782, 3) := by decide +kernel
theorem dL_law_725 : decode cL_law 725 = .ok (.aload_n 1, 1) := by decide +kernel
theorem dL_law_726 : decode cL_law 726 = .ok (.invokevirtual 121, 3) := by decide +kernel
theorem dL_law_729 : decode cL_law 729 = .ok (.aload_n 2, 1) := by decide +kernel
theorem dL_law_730 : decode cL_law 730 = .ok (.invokevirtual 124, 3) := by decide +kernel
theorem dL_law_733 : decode cL_law 733 = .ok (.if_icmp .eq 771, 3) := by decide +kernel
theorem dL_law_736 : decode cL_law 736 = .ok (.iconst 0, 1) := by decide +kernel
theorem dL_law_737 : decode cL_law 737 = .ok (.ireturn, 1) := by decide +kernel
theorem dL_law_738 : decode cL_law 738 = .ok (.aload_n 1, 1) := by decide +kernel
theorem dL_law_739 : decode cL_law 739 = .ok (.invokevirtual 125, 3) := by decide +kernel
theorem dL_law_742 : decode cL_law 742 = .ok (.aload_n 2, 1) := by decide +kernel
theorem dL_law_743 : decode cL_law 743 = .ok (.invokevirtual 128, 3) := by decide +kernel
theorem dL_law_746 : decode cL_law 746 = .ok (.if_icmp .eq 758, 3) := by decide +kernel
theorem dL_law_749 : decode cL_law 749 = .ok (.iconst 0, 1) := by decide +kernel
theorem dL_law_750 : decode cL_law 750 = .ok (.ireturn, 1) := by decide +kernel
theorem dL_law_751 : decode cL_law 751 = .ok (.aload_n 1, 1) := by decide +kernel
theorem dL_law_752 : decode cL_law 752 = .ok (.aload_n 3, 1) := by decide +kernel
theorem dL_law_753 : decode cL_law 753 = .ok (.invokestatic 129, 3) := by decide +kernel
theorem dL_law_756 : decode cL_law 756 = .ok (.istore 6, 2) := by decide +kernel
theorem dL_law_758 : decode cL_law 758 = .ok (.aload_n 2, 1) := by decide +kernel
theorem dL_law_759 : decode cL_law 759 = .ok (.invokevirtual 132, 3) := by decide +kernel
theorem dL_law_762 : decode cL_law 762 = .ok (.istore 7, 2) := by decide +kernel
theorem dL_law_764 : decode cL_law 764 = .ok (.aload_n 2, 1) := by decide +kernel
theorem dL_law_765 : decode cL_law 765 = .ok (.invokevirtual 89, 3) := by decide +kernel
theorem dL_law_768 : decode cL_law 768 = .ok (.iload 6, 2) := by decide +kernel
theorem dL_law_770 : decode cL_law 770 = .ok (.if_icmp .eq 5, 3) := by decide +kernel
theorem dL_law_773 : decode cL_law 773 = .ok (.iconst 0, 1) := by decide +kernel
theorem dL_law_774 : decode cL_law 774 = .ok (.ireturn, 1) := by decide +kernel
theorem dL_law_775 : decode cL_law 775 = .ok (.iload 6, 2) := by decide +kernel
theorem dL_law_777 : decode cL_law 777 = .ok (.ifCond .ne 15, 3) := by decide +kernel
theorem dL_law_780 : decode cL_law 780 = .ok (.aload_n 3, 1) := by decide +kernel
theorem dL_law_781 : decode cL_law 781 = .ok (.iconst 0, 1) := by decide +kernel
theorem dL_law_782 : decode cL_law 782 = .ok (.laload, 1) := by decide +kernel
theorem dL_law_783 : decode cL_law 783 = .ok (.iload 7, 2) := by decide +kernel
theorem dL_law_785 : decode cL_law 785 = .ok (.i2l, 1) := by decide +kernel
theorem dL_law_786 : decode cL_law 786 = .ok (.lcmp, 1) := by decide +kernel
theorem dL_law_787 : decode cL_law 787 = .ok (.ifCond .eq 5, 3) := by decide +kernel
theorem dL_law_790 : decode cL_law 790 = .ok (.iconst 0, 1) := by decide +kernel
theorem dL_law_791 : decode cL_law 791 = .ok (.ireturn, 1) := by decide +kernel
theorem dL_law_792 : decode cL_law 792 = .ok (.goto 712, 3) := by decide +kernel
theorem dL_law_795 : decode cL_law 795 = .ok (.aload_n 1, 1) := by decide +kernel
theorem dL_law_796 : decode cL_law 796 = .ok (.aload_n 3, 1) := by decide +kernel
theorem dL_law_797 : decode cL_law 797 = .ok (.invokestatic 133, 3) := by decide +kernel
theorem dL_law_800 : decode cL_law 800 = .ok (.istore 6, 2) := by decide +kernel
theorem dL_law_802 : decode cL_law 802 = .ok (.aload_n 2, 1) := by decide +kernel
theorem dL_law_803 : decode cL_law 803 = .ok (.invokevirtual 135, 3) := by decide +kernel
theorem dL_law_806 : decode cL_law 806 = .ok (.istore 7, 2) := by decide +kernel
theorem dL_law_808 : decode cL_law 808 = .ok (.aload_n 2, 1) := by decide +kernel
theorem dL_law_809 : decode cL_law 809 = .ok (.invokevirtual 89, 3) := by decide +kernel
theorem dL_law_812 : decode cL_law 812 = .ok (.iload 6, 2) := by decide +kernel
theorem dL_law_814 : decode cL_law 814 = .ok (.if_icmp .eq 5, 3) := by decide +kernel
theorem dL_law_817 : decode cL_law 817 = .ok (.iconst 0, 1) := by decide +kernel
theorem dL_law_818 : decode cL_law 818 = .ok (.ireturn, 1) := by decide +kernel
theorem dL_law_819 : decode cL_law 819 = .ok (.iload 6, 2) := by decide +kernel
theorem dL_law_821 : decode cL_law 821 = .ok (.ifCond .ne 15, 3) := by decide +kernel
theorem dL_law_824 : decode cL_law 824 = .ok (.aload_n 3, 1) := by decide +kernel
theorem dL_law_825 : decode cL_law 825 = .ok (.iconst 0, 1) := by decide +kernel
theorem dL_law_826 : decode cL_law 826 = .ok (.laload, 1) := by decide +kernel
theorem dL_law_827 : decode cL_law 827 = .ok (.iload 7, 2) := by decide +kernel
theorem dL_law_829 : decode cL_law 829 = .ok (.i2l, 1) := by decide +kernel
theorem dL_law_830 : decode cL_law 830 = .ok (.lcmp, 1) := by decide +kernel
theorem dL_law_831 : decode cL_law 831 = .ok (.ifCond .eq 5, 3) := by decide +kernel
theorem dL_law_834 : decode cL_law 834 = .ok (.iconst 0, 1) := by decide +kernel
theorem dL_law_835 : decode cL_law 835 = .ok (.ireturn, 1) := by decide +kernel
theorem dL_law_836 : decode cL_law 836 = .ok (.goto 668, 3) := by decide +kernel
theorem dL_law_839 : decode cL_law 839 = .ok (.aload_n 1, 1) := by decide +kernel
theorem dL_law_840 : decode cL_law 840 = .ok (.aload_n 0, 1) := by decide +kernel
theorem dL_law_841 : decode cL_law 841 = .ok (.iload 5, 2) := by decide +kernel
theorem dL_law_843 : decode cL_law 843 = .ok (.iconst 1, 1) := by decide +kernel
theorem dL_law_844 : decode cL_law 844 = .ok (.iadd, 1) := by decide +kernel
theorem dL_law_845 : decode cL_law 845 = .ok (.iaload, 1) := by decide +kernel
theorem dL_law_846 : decode cL_law 846 = .ok (.aload_n 0, 1) := by decide +kernel
theorem dL_law_847 : decode cL_law 847 = .ok (.iload 5, 2) := by decide +kernel
theorem dL_law_849 : decode cL_law 849 = .ok (.iconst 2, 1) := by decide +kernel
theorem dL_law_850 : decode cL_law 850 = .ok (.iadd, 1) := by decide +kernel
theorem dL_law_851 : decode cL_law 851 = .ok (.iaload, 1) := by decide +kernel
theorem dL_law_852 : decode cL_law 852 = .ok (.aload_n 3, 1) := by decide +kernel
theorem dL_law_853 : decode cL_law 853 = .ok (.invokestatic 136, 3) := by decide +kernel
theorem dL_law_856 : decode cL_law 856 = .ok (.istore 6, 2) := by decide +kernel
theorem dL_law_858 : decode cL_law 858 = .ok (.aload_n 2, 1) := by decide +kernel
theorem dL_law_859 : decode cL_law 859 = .ok (.aload_n 0, 1) := by decide +kernel
theorem dL_law_860 : decode cL_law 860 = .ok (.iload 5, 2) := by decide +kernel
theorem dL_law_862 : decode cL_law 862 = .ok (.iconst 1, 1) := by decide +kernel
theorem dL_law_863 : decode cL_law 863 = .ok (.iadd, 1) := by decide +kernel
theorem dL_law_864 : decode cL_law 864 = .ok (.iaload, 1) := by decide +kernel
theorem dL_law_865 : decode cL_law 865 = .ok (.aload_n 0, 1) := by decide +kernel
theorem dL_law_866 : decode cL_law 866 = .ok (.iload 5, 2) := by decide +kernel
theorem dL_law_868 : decode cL_law 868 = .ok (.iconst 2, 1) := by decide +kernel
theorem dL_law_869 : decode cL_law 869 = .ok (.iadd, 1) := by decide +kernel
theorem dL_law_870 : decode cL_law 870 = .ok (.iaload, 1) := by decide +kernel
theorem dL_law_871 : decode cL_law 871 = .ok (.invokevirtual 139, 3) := by decide +kernel
theorem dL_law_874 : decode cL_law 874 = .ok (.istore 7, 2) := by decide +kernel
theorem dL_law_876 : decode cL_law 876 = .ok (.aload_n 2, 1) := by decide +kernel
theorem dL_law_877 : decode cL_law 877 = .ok (.invokevirtual 89, 3) := by decide +kernel
theorem dL_law_880 : decode cL_law 880 = .ok (.iload 6, 2) := by decide +kernel
theorem dL_law_882 : decode cL_law 882 = .ok (.if_icmp .eq 5, 3) := by decide +kernel
theorem dL_law_885 : decode cL_law 885 = .ok (.iconst 0, 1) := by decide +kernel
theorem dL_law_886 : decode cL_law 886 = .ok (.ireturn, 1) := by decide +kernel
theorem dL_law_887 : decode cL_law 887 = .ok (.iload 6, 2) := by decide +kernel
theorem dL_law_889 : decode cL_law 889 = .ok (.ifCond .ne 15, 3) := by decide +kernel
theorem dL_law_892 : decode cL_law 892 = .ok (.aload_n 3, 1) := by decide +kernel
theorem dL_law_893 : decode cL_law 893 = .ok (.iconst 0, 1) := by decide +kernel
theorem dL_law_894 : decode cL_law 894 = .ok (.laload, 1) := by decide +kernel
theorem dL_law_895 : decode cL_law 895 = .ok (.iload 7, 2) := by decide +kernel
theorem dL_law_897 : decode cL_law 897 = .ok (.i2l, 1) := by decide +kernel
theorem dL_law_898 : decode cL_law 898 = .ok (.lcmp, 1) := by decide +kernel
theorem dL_law_899 : decode cL_law 899 = .ok (.ifCond .eq 5, 3) := by decide +kernel
theorem dL_law_902 : decode cL_law 902 = .ok (.iconst 0, 1) := by decide +kernel
theorem dL_law_903 : decode cL_law 903 = .ok (.ireturn, 1) := by decide +kernel
theorem dL_law_904 : decode cL_law 904 = .ok (.goto 600, 3) := by decide +kernel
theorem dL_law_907 : decode cL_law 907 = .ok (.aload_n 1, 1) := by decide +kernel
theorem dL_law_908 : decode cL_law 908 = .ok (.aload_n 0, 1) := by decide +kernel
theorem dL_law_909 : decode cL_law 909 = .ok (.iload 5, 2) := by decide +kernel
theorem dL_law_911 : decode cL_law 911 = .ok (.iconst 1, 1) := by decide +kernel
theorem dL_law_912 : decode cL_law 912 = .ok (.iadd, 1) := by decide +kernel
theorem dL_law_913 : decode cL_law 913 = .ok (.iaload, 1) := by decide +kernel
theorem dL_law_914 : decode cL_law 914 = .ok (.aload_n 0, 1) := by decide +kernel
theorem dL_law_915 : decode cL_law 915 = .ok (.iload 5, 2) := by decide +kernel
theorem dL_law_917 : decode cL_law 917 = .ok (.iconst 2, 1) := by decide +kernel
theorem dL_law_918 : decode cL_law 918 = .ok (.iadd, 1) := by decide +kernel
theorem dL_law_919 : decode cL_law 919 = .ok (.iaload, 1) := by decide +kernel
theorem dL_law_920 : decode cL_law 920 = .ok (.aload_n 0, 1) := by decide +kernel
theorem dL_law_921 : decode cL_law 921 = .ok (.iload 5, 2) := by decide +kernel
theorem dL_law_923 : decode cL_law 923 = .ok (.iconst 3, 1) := by decide +kernel
theorem dL_law_924 : decode cL_law 924 = .ok (.iadd, 1) := by decide +kernel
theorem dL_law_925 : decode cL_law 925 = .ok (.iaload, 1) := by decide +kernel
theorem dL_law_926 : decode cL_law 926 = .ok (.ifCond .eq 7, 3) := by decide +kernel
theorem dL_law_929 : decode cL_law 929 = .ok (.iconst 1, 1) := by decide +kernel
theorem dL_law_930 : decode cL_law 930 = .ok (.goto 4, 3) := by decide +kernel
theorem dL_law_933 : decode cL_law 933 = .ok (.iconst 0, 1) := by decide +kernel
theorem dL_law_934 : decode cL_law 934 = .ok (.aload_n 3, 1) := by decide +kernel
theorem dL_law_935 : decode cL_law 935 = .ok (.invokestatic 140, 3) := by decide +kernel
theorem dL_law_938 : decode cL_law 938 = .ok (.istore 6, 2) := by decide +kernel
theorem dL_law_940 : decode cL_law 940 = .ok (.aload_n 2, 1) := by decide +kernel
theorem dL_law_941 : decode cL_law 941 = .ok (.aload_n 0, 1) := by decide +kernel
theorem dL_law_942 : decode cL_law 942 = .ok (.iload 5, 2) := by decide +kernel
theorem dL_law_944 : decode cL_law 944 = .ok (.iconst 1, 1) := by decide +kernel
theorem dL_law_945 : decode cL_law 945 = .ok (.iadd, 1) := by decide +kernel
theorem dL_law_946 : decode cL_law 946 = .ok (.iaload, 1) := by decide +kernel
theorem dL_law_947 : decode cL_law 947 = .ok (.aload_n 0, 1) := by decide +kernel
theorem dL_law_948 : decode cL_law 948 = .ok (.iload 5, 2) := by decide +kernel
theorem dL_law_950 : decode cL_law 950 = .ok (.iconst 2, 1) := by decide +kernel
theorem dL_law_951 : decode cL_law 951 = .ok (.iadd, 1) := by decide +kernel
theorem dL_law_952 : decode cL_law 952 = .ok (.iaload, 1) := by decide +kernel
theorem dL_law_953 : decode cL_law 953 = .ok (.aload_n 0, 1) := by decide +kernel
theorem dL_law_954 : decode cL_law 954 = .ok (.iload 5, 2) := by decide +kernel
theorem dL_law_956 : decode cL_law 956 = .ok (.iconst 3, 1) := by decide +kernel
theorem dL_law_957 : decode cL_law 957 = .ok (.iadd, 1) := by decide +kernel
theorem dL_law_958 : decode cL_law 958 = .ok (.iaload, 1) := by decide +kernel
theorem dL_law_959 : decode cL_law 959 = .ok (.ifCond .eq 7, 3) := by decide +kernel
theorem dL_law_962 : decode cL_law 962 = .ok (.iconst 1, 1) := by decide +kernel
theorem dL_law_963 : decode cL_law 963 = .ok (.goto 4, 3) := by decide +kernel
theorem dL_law_966 : decode cL_law 966 = .ok (.iconst 0, 1) := by decide +kernel
theorem dL_law_967 : decode cL_law 967 = .ok (.invokevirtual 143, 3) := by decide +kernel
theorem dL_law_970 : decode cL_law 970 = .ok (.istore 7, 2) := by decide +kernel
theorem dL_law_972 : decode cL_law 972 = .ok (.aload_n 2, 1) := by decide +kernel
theorem dL_law_973 : decode cL_law 973 = .ok (.invokevirtual 89, 3) := by decide +kernel
theorem dL_law_976 : decode cL_law 976 = .ok (.iload 6, 2) := by decide +kernel
theorem dL_law_978 : decode cL_law 978 = .ok (.if_icmp .eq 5, 3) := by decide +kernel
theorem dL_law_981 : decode cL_law 981 = .ok (.iconst 0, 1) := by decide +kernel
theorem dL_law_982 : decode cL_law 982 = .ok (.ireturn, 1) := by decide +kernel
theorem dL_law_983 : decode cL_law 983 = .ok (.iload 6, 2) := by decide +kernel
theorem dL_law_985 : decode cL_law 985 = .ok (.ifCond .ne 15, 3) := by decide +kernel
theorem dL_law_988 : decode cL_law 988 = .ok (.aload_n 3, 1) := by decide +kernel
theorem dL_law_989 : decode cL_law 989 = .ok (.iconst 0, 1) := by decide +kernel
theorem dL_law_990 : decode cL_law 990 = .ok (.laload, 1) := by decide +kernel
theorem dL_law_991 : decode cL_law 991 = .ok (.iload 7, 2) := by decide +kernel
theorem dL_law_993 : decode cL_law 993 = .ok (.i2l, 1) := by decide +kernel
theorem dL_law_994 : decode cL_law 994 = .ok (.lcmp, 1) := by decide +kernel
theorem dL_law_995 : decode cL_law 995 = .ok (.ifCond .eq 5, 3) := by decide +kernel
theorem dL_law_998 : decode cL_law 998 = .ok (.iconst 0, 1) := by decide +kernel
theorem dL_law_999 : decode cL_law 999 = .ok (.ireturn, 1) := by decide +kernel
theorem dL_law_1000 : decode cL_law 1000 = .ok (.goto 504, 3) := by decide +kernel
theorem dL_law_1003 : decode cL_law 1003 = .ok (.aload_n 1, 1) := by decide +kernel
theorem dL_law_1004 : decode cL_law 1004 = .ok (.aload_n 0, 1) := by decide +kernel
theorem dL_law_1005 : decode cL_law 1005 = .ok (.iload 5, 2) := by decide +kernel
theorem dL_law_1007 : decode cL_law 1007 = .ok (.iconst 1, 1) := by decide +kernel
theorem dL_law_1008 : decode cL_law 1008 = .ok (.iadd, 1) := by decide +kernel
theorem dL_law_1009 : decode cL_law 1009 = .ok (.iaload, 1) := by decide +kernel
theorem dL_law_1010 : decode cL_law 1010 = .ok (.aload_n 0, 1) := by decide +kernel
theorem dL_law_1011 : decode cL_law 1011 = .ok (.iload 5, 2) := by decide +kernel
theorem dL_law_1013 : decode cL_law 1013 = .ok (.iconst 2, 1) := by decide +kernel
theorem dL_law_1014 : decode cL_law 1014 = .ok (.iadd, 1) := by decide +kernel
theorem dL_law_1015 : decode cL_law 1015 = .ok (.iaload, 1) := by decide +kernel
theorem dL_law_1016 : decode cL_law 1016 = .ok (.ifCond .eq 7, 3) := by decide +kernel
theorem dL_law_1019 : decode cL_law 1019 = .ok (.iconst 1, 1) := by decide +kernel
theorem dL_law_1020 : decode cL_law 1020 = .ok (.goto 4, 3) := by decide +kernel
theorem dL_law_1023 : decode cL_law 1023 = .ok (.iconst 0, 1) := by decide +kernel
theorem dL_law_1024 : decode cL_law 1024 = .ok (.aload_n 3, 1) := by decide +kernel
theorem dL_law_1025 : decode cL_law 1025 = .ok (.invokestatic 144, 3) := by decide +kernel
theorem dL_law_1028 : decode cL_law 1028 = .ok (.istore 6, 2) := by decide +kernel
theorem dL_law_1030 : decode cL_law 1030 = .ok (.aload_n 2, 1) := by decide +kernel
theorem dL_law_1031 : decode cL_law 1031 = .ok (.aload_n 0, 1) := by decide +kernel
theorem dL_law_1032 : decode cL_law 1032 = .ok (.iload 5, 2) := by decide +kernel
theorem dL_law_1034 : decode cL_law 1034 = .ok (.iconst 1, 1) := by decide +kernel
theorem dL_law_1035 : decode cL_law 1035 = .ok (.iadd, 1) := by decide +kernel
theorem dL_law_1036 : decode cL_law 1036 = .ok (.iaload, 1) := by decide +kernel
theorem dL_law_1037 : decode cL_law 1037 = .ok (.aload_n 0, 1) := by decide +kernel
theorem dL_law_1038 : decode cL_law 1038 = .ok (.iload 5, 2) := by decide +kernel
theorem dL_law_1040 : decode cL_law 1040 = .ok (.iconst 2, 1) := by decide +kernel
theorem dL_law_1041 : decode cL_law 1041 = .ok (.iadd, 1) := by decide +kernel
theorem dL_law_1042 : decode cL_law 1042 = .ok (.iaload, 1) := by decide +kernel
theorem dL_law_1043 : decode cL_law 1043 = .ok (.ifCond .eq 7, 3) := by decide +kernel
theorem dL_law_1046 : decode cL_law 1046 = .ok (.iconst 1, 1) := by decide +kernel
theorem dL_law_1047 : decode cL_law 1047 = .ok (.goto 4, 3) := by decide +kernel
theorem dL_law_1050 : decode cL_law 1050 = .ok (.iconst 0, 1) := by decide +kernel
theorem dL_law_1051 : decode cL_law 1051 = .ok (.invokevirtual 147, 3) := by decide +kernel
theorem dL_law_1054 : decode cL_law 1054 = .ok (.lstore 7, 2) := by decide +kernel
theorem dL_law_1056 : decode cL_law 1056 = .ok (.aload_n 2, 1) := by decide +kernel
theorem dL_law_1057 : decode cL_law 1057 = .ok (.invokevirtual 89, 3) := by decide +kernel
theorem dL_law_1060 : decode cL_law 1060 = .ok (.iload 6, 2) := by decide +kernel
theorem dL_law_1062 : decode cL_law 1062 = .ok (.if_icmp .eq 5, 3) := by decide +kernel
theorem dL_law_1065 : decode cL_law 1065 = .ok (.iconst 0, 1) := by decide +kernel
theorem dL_law_1066 : decode cL_law 1066 = .ok (.ireturn, 1) := by decide +kernel
theorem dL_law_1067 : decode cL_law 1067 = .ok (.iload 6, 2) := by decide +kernel
theorem dL_law_1069 : decode cL_law 1069 = .ok (.ifCond .ne 14, 3) := by decide +kernel
theorem dL_law_1072 : decode cL_law 1072 = .ok (.aload_n 3, 1) := by decide +kernel
theorem dL_law_1073 : decode cL_law 1073 = .ok (.iconst 0, 1) := by decide +kernel
theorem dL_law_1074 : decode cL_law 1074 = .ok (.laload, 1) := by decide +kernel
theorem dL_law_1075 : decode cL_law 1075 = .ok (.lload 7, 2) := by decide +kernel
theorem dL_law_1077 : decode cL_law 1077 = .ok (.lcmp, 1) := by decide +kernel
theorem dL_law_1078 : decode cL_law 1078 = .ok (.ifCond .eq 5, 3) := by decide +kernel
theorem dL_law_1081 : decode cL_law 1081 = .ok (.iconst 0, 1) := by decide +kernel
theorem dL_law_1082 : decode cL_law 1082 = .ok (.ireturn, 1) := by decide +kernel
theorem dL_law_1083 : decode cL_law 1083 = .ok (.goto 421, 3) := by decide +kernel
theorem dL_law_1086 : decode cL_law 1086 = .ok (.aload_n 1, 1) := by decide +kernel
theorem dL_law_1087 : decode cL_law 1087 = .ok (.aload_n 0, 1) := by decide +kernel
theorem dL_law_1088 : decode cL_law 1088 = .ok (.iload 5, 2) := by decide +kernel
theorem dL_law_1090 : decode cL_law 1090 = .ok (.iconst 1, 1) := by decide +kernel
theorem dL_law_1091 : decode cL_law 1091 = .ok (.iadd, 1) := by decide +kernel
theorem dL_law_1092 : decode cL_law 1092 = .ok (.iaload, 1) := by decide +kernel
theorem dL_law_1093 : decode cL_law 1093 = .ok (.aload_n 3, 1) := by decide +kernel
theorem dL_law_1094 : decode cL_law 1094 = .ok (.invokestatic 148, 3) := by decide +kernel
theorem dL_law_1097 : decode cL_law 1097 = .ok (.istore 6, 2) := by decide +kernel
theorem dL_law_1099 : decode cL_law 1099 = .ok (.aload_n 2, 1) := by decide +kernel
theorem dL_law_1100 : decode cL_law 1100 = .ok (.aload_n 0, 1) := by decide +kernel
theorem dL_law_1101 : decode cL_law 1101 = .ok (.iload 5, 2) := by decide +kernel
theorem dL_law_1103 : decode cL_law 1103 = .ok (.iconst 1, 1) := by decide +kernel
theorem dL_law_1104 : decode cL_law 1104 = .ok (.iadd, 1) := by decide +kernel
theorem dL_law_1105 : decode cL_law 1105 = .ok (.iaload, 1) := by decide +kernel
theorem dL_law_1106 : decode cL_law 1106 = .ok (.invokevirtual 150, 3) := by decide +kernel
theorem dL_law_1109 : decode cL_law 1109 = .ok (.istore 7, 2) := by decide +kernel
theorem dL_law_1111 : decode cL_law 1111 = .ok (.aload_n 2, 1) := by decide +kernel
theorem dL_law_1112 : decode cL_law 1112 = .ok (.invokevirtual 89, 3) := by decide +kernel
theorem dL_law_1115 : decode cL_law 1115 = .ok (.iload 6, 2) := by decide +kernel
theorem dL_law_1117 : decode cL_law 1117 = .ok (.if_icmp .eq 5, 3) := by decide +kernel
theorem dL_law_1120 : decode cL_law 1120 = .ok (.iconst 0, 1) := by decide +kernel
theorem dL_law_1121 : decode cL_law 1121 = .ok (.ireturn, 1) := by decide +kernel
theorem dL_law_1122 : decode cL_law 1122 = .ok (.iload 6, 2) := by decide +kernel
theorem dL_law_1124 : decode cL_law 1124 = .ok (.ifCond .ne 15, 3) := by decide +kernel
theorem dL_law_1127 : decode cL_law 1127 = .ok (.aload_n 3, 1) := by decide +kernel
theorem dL_law_1128 : decode cL_law 1128 = .ok (.iconst 0, 1) := by decide +kernel
theorem dL_law_1129 : decode cL_law 1129 = .ok (.laload, 1) := by decide +kernel
theorem dL_law_1130 : decode cL_law 1130 = .ok (.iload 7, 2) := by decide +kernel
theorem dL_law_1132 : decode cL_law 1132 = .ok (.i2l, 1) := by decide +kernel
theorem dL_law_1133 : decode cL_law 1133 = .ok (.lcmp, 1) := by decide +kernel
theorem dL_law_1134 : decode cL_law 1134 = .ok (.ifCond .eq 5, 3) := by decide +kernel
theorem dL_law_1137 : decode cL_law 1137 = .ok (.iconst 0, 1) := by decide +kernel
theorem dL_law_1138 : decode cL_law 1138 = .ok (.ireturn, 1) := by decide +kernel
theorem dL_law_1139 : decode cL_law 1139 = .ok (.goto 365, 3) := by decide +kernel
theorem dL_law_1142 : decode cL_law 1142 = .ok (.aload_n 1, 1) := by decide +kernel
theorem dL_law_1143 : decode cL_law 1143 = .ok (.aload_n 0, 1) := by decide +kernel
theorem dL_law_1144 : decode cL_law 1144 = .ok (.iload 5, 2) := by decide +kernel
theorem dL_law_1146 : decode cL_law 1146 = .ok (.iconst 1, 1) := by decide +kernel
theorem dL_law_1147 : decode cL_law 1147 = .ok (.iadd, 1) := by decide +kernel
theorem dL_law_1148 : decode cL_law 1148 = .ok (.iaload, 1) := by decide +kernel
theorem dL_law_1149 : decode cL_law 1149 = .ok (.aload_n 3, 1) := by decide +kernel
theorem dL_law_1150 : decode cL_law 1150 = .ok (.invokestatic 151, 3) := by decide +kernel
theorem dL_law_1153 : decode cL_law 1153 = .ok (.istore 6, 2) := by decide +kernel
theorem dL_law_1155 : decode cL_law 1155 = .ok (.aload_n 2, 1) := by decide +kernel
theorem dL_law_1156 : decode cL_law 1156 = .ok (.aload_n 0, 1) := by decide +kernel
theorem dL_law_1157 : decode cL_law 1157 = .ok (.iload 5, 2) := by decide +kernel
theorem dL_law_1159 : decode cL_law 1159 = .ok (.iconst 1, 1) := by decide +kernel
theorem dL_law_1160 : decode cL_law 1160 = .ok (.iadd, 1) := by decide +kernel
theorem dL_law_1161 : decode cL_law 1161 = .ok (.iaload, 1) := by decide +kernel
theorem dL_law_1162 : decode cL_law 1162 = .ok (.invokevirtual 153, 3) := by decide +kernel
theorem dL_law_1165 : decode cL_law 1165 = .ok (.istore 7, 2) := by decide +kernel
theorem dL_law_1167 : decode cL_law 1167 = .ok (.aload_n 2, 1) := by decide +kernel
theorem dL_law_1168 : decode cL_law 1168 = .ok (.invokevirtual 89, 3) := by decide +kernel
theorem dL_law_1171 : decode cL_law 1171 = .ok (.iload 6, 2) := by decide +kernel
theorem dL_law_1173 : decode cL_law 1173 = .ok (.if_icmp .eq 5, 3) := by decide +kernel
theorem dL_law_1176 : decode cL_law 1176 = .ok (.iconst 0, 1) := by decide +kernel
theorem dL_law_1177 : decode cL_law 1177 = .ok (.ireturn, 1) := by decide +kernel
theorem dL_law_1178 : decode cL_law 1178 = .ok (.iload 6, 2) := by decide +kernel
theorem dL_law_1180 : decode cL_law 1180 = .ok (.ifCond .ne 15, 3) := by decide +kernel
theorem dL_law_1183 : decode cL_law 1183 = .ok (.aload_n 3, 1) := by decide +kernel
theorem dL_law_1184 : decode cL_law 1184 = .ok (.iconst 0, 1) := by decide +kernel
theorem dL_law_1185 : decode cL_law 1185 = .ok (.laload, 1) := by decide +kernel
theorem dL_law_1186 : decode cL_law 1186 = .ok (.iload 7, 2) := by decide +kernel
theorem dL_law_1188 : decode cL_law 1188 = .ok (.i2l, 1) := by decide +kernel
theorem dL_law_1189 : decode cL_law 1189 = .ok (.lcmp, 1) := by decide +kernel
theorem dL_law_1190 : decode cL_law 1190 = .ok (.ifCond .eq 5, 3) := by decide +kernel
theorem dL_law_1193 : decode cL_law 1193 = .ok (.iconst 0, 1) := by decide +kernel
theorem dL_law_1194 : decode cL_law 1194 = .ok (.ireturn, 1) := by decide +kernel
theorem dL_law_1195 : decode cL_law 1195 = .ok (.goto 309, 3) := by decide +kernel
theorem dL_law_1198 : decode cL_law 1198 = .ok (.aload_n 1, 1) := by decide +kernel
theorem dL_law_1199 : decode cL_law 1199 = .ok (.aload_n 0, 1) := by decide +kernel
theorem dL_law_1200 : decode cL_law 1200 = .ok (.iload 5, 2) := by decide +kernel
theorem dL_law_1202 : decode cL_law 1202 = .ok (.iconst 1, 1) := by decide +kernel
theorem dL_law_1203 : decode cL_law 1203 = .ok (.iadd, 1) := by decide +kernel
theorem dL_law_1204 : decode cL_law 1204 = .ok (.iaload, 1) := by decide +kernel
theorem dL_law_1205 : decode cL_law 1205 = .ok (.aload 4, 2) := by decide +kernel
theorem dL_law_1207 : decode cL_law 1207 = .ok (.invokestatic 154, 3) := by decide +kernel
theorem dL_law_1210 : decode cL_law 1210 = .ok (.istore 6, 2) := by decide +kernel
theorem dL_law_1212 : decode cL_law 1212 = .ok (.aload_n 2, 1) := by decide +kernel
theorem dL_law_1213 : decode cL_law 1213 = .ok (.aload_n 0, 1) := by decide +kernel
theorem dL_law_1214 : decode cL_law 1214 = .ok (.iload 5, 2) := by decide +kernel
theorem dL_law_1216 : decode cL_law 1216 = .ok (.iconst 1, 1) := by decide +kernel
theorem dL_law_1217 : decode cL_law 1217 = .ok (.iadd, 1) := by decide +kernel
theorem dL_law_1218 : decode cL_law 1218 = .ok (.iaload, 1) := by decide +kernel
theorem dL_law_1219 : decode cL_law 1219 = .ok (.invokevirtual 157, 3) := by decide +kernel
theorem dL_law_1222 : decode cL_law 1222 = .ok (.dstore 7, 2) := by decide +kernel
theorem dL_law_1224 : decode cL_law 1224 = .ok (.aload_n 2, 1) := by decide +kernel
theorem dL_law_1225 : decode cL_law 1225 = .ok (.invokevirtual 89, 3) := by decide +kernel
theorem dL_law_1228 : decode cL_law 1228 = .ok (.iload 6, 2) := by decide +kernel
theorem dL_law_1230 : decode cL_law 1230 = .ok (.if_icmp .eq 5, 3) := by decide +kernel
theorem dL_law_1233 : decode cL_law 1233 = .ok (.iconst 0, 1) := by decide +kernel
theorem dL_law_1234 : decode cL_law 1234 = .ok (.ireturn, 1) := by decide +kernel
theorem dL_law_1235 : decode cL_law 1235 = .ok (.iload 6, 2) := by decide +kernel
theorem dL_law_1237 : decode cL_law 1237 = .ok (.ifCond .ne 35, 3) := by decide +kernel
theorem dL_law_1240 : decode cL_law 1240 = .ok (.aload 4, 2) := by decide +kernel
theorem dL_law_1242 : decode cL_law 1242 = .ok (.iconst 0, 1) := by decide +kernel
theorem dL_law_1243 : decode cL_law 1243 = .ok (.daload, 1) := by decide +kernel
theorem dL_law_1244 : decode cL_law 1244 = .ok (.dload 7, 2) := by decide +kernel
theorem dL_law_1246 : decode cL_law 1246 = .ok (.dcmp .l, 1) := by decide +kernel
theorem dL_law_1247 : decode cL_law 1247 = .ok (.ifCond .eq 25, 3) := by decide +kernel
theorem dL_law_1250 : decode cL_law 1250 = .ok (.aload 4, 2) := by decide +kernel
theorem dL_law_1252 : decode cL_law 1252 = .ok (.iconst 0, 1) := by decide +kernel
theorem dL_law_1253 : decode cL_law 1253 = .ok (.daload, 1) := by decide +kernel
theorem dL_law_1254 : decode cL_law 1254 = .ok (.aload 4, 2) := by decide +kernel
theorem dL_law_1256 : decode cL_law 1256 = .ok (.iconst 0, 1) := by decide +kernel
theorem dL_law_1257 : decode cL_law 1257 = .ok (.daload, 1) := by decide +kernel
theorem dL_law_1258 : decode cL_law 1258 = .ok (.dcmp .l, 1) := by decide +kernel
theorem dL_law_1259 : decode cL_law 1259 = .ok (.ifCond .eq 11, 3) := by decide +kernel
theorem dL_law_1262 : decode cL_law 1262 = .ok (.dload 7, 2) := by decide +kernel
theorem dL_law_1264 : decode cL_law 1264 = .ok (.dload 7, 2) := by decide +kernel
theorem dL_law_1266 : decode cL_law 1266 = .ok (.dcmp .l, 1) := by decide +kernel
theorem dL_law_1267 : decode cL_law 1267 = .ok (.ifCond .ne 5, 3) := by decide +kernel
theorem dL_law_1270 : decode cL_law 1270 = .ok (.iconst 0, 1) := by decide +kernel
theorem dL_law_1271 : decode cL_law 1271 = .ok (.ireturn, 1) := by decide +kernel
theorem dL_law_1272 : decode cL_law 1272 = .ok (.goto 232, 3) := by decide +kernel
theorem dL_law_1275 : decode cL_law 1275 = .ok (.aload_n 1, 1) := by decide +kernel
theorem dL_law_1276 : decode cL_law 1276 = .ok (.aload_n 0, 1) := by decide +kernel
theorem dL_law_1277 : decode cL_law 1277 = .ok (.iload 5, 2) := by decide +kernel
theorem dL_law_1279 : decode cL_law 1279 = .ok (.iconst 1, 1) := by decide +kernel
theorem dL_law_1280 : decode cL_law 1280 = .ok (.iadd, 1) := by decide +kernel
theorem dL_law_1281 : decode cL_law 1281 = .ok (.iaload, 1) := by decide +kernel
theorem dL_law_1282 : decode cL_law 1282 = .ok (.aload 4, 2) := by decide +kernel
theorem dL_law_1284 : decode cL_law 1284 = .ok (.invokestatic 158, 3) := by decide +kernel
theorem dL_law_1287 : decode cL_law 1287 = .ok (.istore 6, 2) := by decide +kernel
theorem dL_law_1289 : decode cL_law 1289 = .ok (.aload_n 2, 1) := by decide +kernel
theorem dL_law_1290 : decode cL_law 1290 = .ok (.aload_n 0, 1) := by decide +kernel
theorem dL_law_1291 : decode cL_law 1291 = .ok (.iload 5, 2) := by decide +kernel
theorem dL_law_1293 : decode cL_law 1293 = .ok (.iconst 1, 1) := by decide +kernel
theorem dL_law_1294 : decode cL_law 1294 = .ok (.iadd, 1) := by decide +kernel
theorem dL_law_1295 : decode cL_law 1295 = .ok (.iaload, 1) := by decide +kernel
theorem dL_law_1296 : decode cL_law 1296 = .ok (.invokevirtual 160, 3) := by decide +kernel
theorem dL_law_1299 : decode cL_law 1299 = .ok (.dstore 7, 2) := by decide +kernel
theorem dL_law_1301 : decode cL_law 1301 = .ok (.aload_n 2, 1) := by decide +kernel
theorem dL_law_1302 : decode cL_law 1302 = .ok (.invokevirtual 89, 3) := by decide +kernel
theorem dL_law_1305 : decode cL_law 1305 = .ok (.iload 6, 2) := by decide +kernel
theorem dL_law_1307 : decode cL_law 1307 = .ok (.if_icmp .eq 5, 3) := by decide +kernel
theorem dL_law_1310 : decode cL_law 1310 = .ok (.iconst 0, 1) := by decide +kernel
theorem dL_law_1311 : decode cL_law 1311 = .ok (.ireturn, 1) := by decide +kernel
theorem dL_law_1312 : decode cL_law 1312 = .ok (.iload 6, 2) := by decide +kernel
theorem dL_law_1314 : decode cL_law 1314 = .ok (.ifCond .ne 35, 3) := by decide +kernel
theorem dL_law_1317 : decode cL_law 1317 = .ok (.aload 4, 2) := by decide +kernel
theorem dL_law_1319 : decode cL_law 1319 = .ok (.iconst 0, 1) := by decide +kernel
theorem dL_law_1320 : decode cL_law 1320 = .ok (.daload, 1) := by decide +kernel
theorem dL_law_1321 : decode cL_law 1321 = .ok (.dload 7, 2) := by decide +kernel
theorem dL_law_1323 : decode cL_law 1323 = .ok (.dcmp .l, 1) := by decide +kernel
theorem dL_law_1324 : decode cL_law 1324 = .ok (.ifCond .eq 25, 3) := by decide +kernel
theorem dL_law_1327 : decode cL_law 1327 = .ok (.aload 4, 2) := by decide +kernel
theorem dL_law_1329 : decode cL_law 1329 = .ok (.iconst 0, 1) := by decide +kernel
theorem dL_law_1330 : decode cL_law 1330 = .ok (.daload, 1) := by decide +kernel
theorem dL_law_1331 : decode cL_law 1331 = .ok (.aload 4, 2) := by decide +kernel
theorem dL_law_1333 : decode cL_law 1333 = .ok (.iconst 0, 1) := by decide +kernel
theorem dL_law_1334 : decode cL_law 1334 = .ok (.daload, 1) := by decide +kernel
theorem dL_law_1335 : decode cL_law 1335 = .ok (.dcmp .l, 1) := by decide +kernel
theorem dL_law_1336 : decode cL_law 1336 = .ok (.ifCond .eq 11, 3) := by decide +kernel
theorem dL_law_1339 : decode cL_law 1339 = .ok (.dload 7, 2) := by decide +kernel
theorem dL_law_1341 : decode cL_law 1341 = .ok (.dload 7, 2) := by decide +kernel
theorem dL_law_1343 : decode cL_law 1343 = .ok (.dcmp .l, 1) := by decide +kernel
theorem dL_law_1344 : decode cL_law 1344 = .ok (.ifCond .ne 5, 3) := by decide +kernel
theorem dL_law_1347 : decode cL_law 1347 = .ok (.iconst 0, 1) := by decide +kernel
theorem dL_law_1348 : decode cL_law 1348 = .ok (.ireturn, 1) := by decide +kernel
theorem dL_law_1349 : decode cL_law 1349 = .ok (.goto 155, 3) := by decide +kernel
theorem dL_law_1352 : decode cL_law 1352 = .ok (.aload_n 1, 1) := by decide +kernel
theorem dL_law_1353 : decode cL_law 1353 = .ok (.aload_n 0, 1) := by decide +kernel
theorem dL_law_1354 : decode cL_law 1354 = .ok (.iload 5, 2) := by decide +kernel
theorem dL_law_1356 : decode cL_law 1356 = .ok (.iconst 1, 1) := by decide +kernel
theorem dL_law_1357 : decode cL_law 1357 = .ok (.iadd, 1) := by decide +kernel
theorem dL_law_1358 : decode cL_law 1358 = .ok (.iaload, 1) := by decide +kernel
theorem dL_law_1359 : decode cL_law 1359 = .ok (.aload_n 3, 1) := by decide +kernel
theorem dL_law_1360 : decode cL_law 1360 = .ok (.invokestatic 161, 3) := by decide +kernel
theorem dL_law_1363 : decode cL_law 1363 = .ok (.istore 6, 2) := by decide +kernel
theorem dL_law_1365 : decode cL_law 1365 = .ok (.aload_n 2, 1) := by decide +kernel
theorem dL_law_1366 : decode cL_law 1366 = .ok (.aload_n 0, 1) := by decide +kernel
theorem dL_law_1367 : decode cL_law 1367 = .ok (.iload 5, 2) := by decide +kernel
theorem dL_law_1369 : decode cL_law 1369 = .ok (.iconst 1, 1) := by decide +kernel
theorem dL_law_1370 : decode cL_law 1370 = .ok (.iadd, 1) := by decide +kernel
theorem dL_law_1371 : decode cL_law 1371 = .ok (.iaload, 1) := by decide +kernel
theorem dL_law_1372 : decode cL_law 1372 = .ok (.invokevirtual 163, 3) := by decide +kernel
theorem dL_law_1375 : decode cL_law 1375 = .ok (.istore 7, 2) := by decide +kernel
theorem dL_law_1377 : decode cL_law 1377 = .ok (.aload_n 2, 1) := by decide +kernel
theorem dL_law_1378 : decode cL_law 1378 = .ok (.invokevirtual 89, 3) := by decide +kernel
theorem dL_law_1381 : decode cL_law 1381 = .ok (.iload 6, 2) := by decide +kernel
theorem dL_law_1383 : decode cL_law 1383 = .ok (.if_icmp .eq 5, 3) := by decide +kernel
theorem dL_law_1386 : decode cL_law 1386 = .ok (.iconst 0, 1) := by decide +kernel
theorem dL_law_1387 : decode cL_law 1387 = .ok (.ireturn, 1) := by decide +kernel
theorem dL_law_1388 : decode cL_law 1388 = .ok (.iload 6, 2) := by decide +kernel
theorem dL_law_1390 : decode cL_law 1390 = .ok (.ifCond .ne 15, 3) := by decide +kernel
theorem dL_law_1393 : decode cL_law 1393 = .ok (.aload_n 3, 1) := by decide +kernel
theorem dL_law_1394 : decode cL_law 1394 = .ok (.iconst 0, 1) := by decide +kernel
theorem dL_law_1395 : decode cL_law 1395 = .ok (.laload, 1) := by decide +kernel
theorem dL_law_1396 : decode cL_law 1396 = .ok (.iload 7, 2) := by decide +kernel
theorem dL_law_1398 : decode cL_law 1398 = .ok (.i2l, 1) := by decide +kernel
theorem dL_law_1399 : decode cL_law 1399 = .ok (.lcmp, 1) := by decide +kernel
theorem dL_law_1400 : decode cL_law 1400 = .ok (.ifCond .eq 5, 3) := by decide +kernel
theorem dL_law_1403 : decode cL_law 1403 = .ok (.iconst 0, 1) := by decide +kernel
theorem dL_law_1404 : decode cL_law 1404 = .ok (.ireturn, 1) := by decide +kernel
theorem dL_law_1405 : decode cL_law 1405 = .ok (.goto 99, 3) := by decide +kernel
theorem dL_law_1408 : decode cL_law 1408 = .ok (.aload_n 1, 1) := by decide +kernel
theorem dL_law_1409 : decode cL_law 1409 = .ok (.aload_n 0, 1) := by decide +kernel
theorem dL_law_1410 : decode cL_law 1410 = .ok (.iload 5, 2) := by decide +kernel
theorem dL_law_1412 : decode cL_law 1412 = .ok (.iconst 1, 1) := by decide +kernel
theorem dL_law_1413 : decode cL_law 1413 = .ok (.iadd, 1) := by decide +kernel
theorem dL_law_1414 : decode cL_law 1414 = .ok (.iaload, 1) := by decide +kernel
theorem dL_law_1415 : decode cL_law 1415 = .ok (.ifCond .eq 7, 3) := by decide +kernel
theorem dL_law_1418 : decode cL_law 1418 = .ok (.iconst 1, 1) := by decide +kernel
theorem dL_law_1419 : decode cL_law 1419 = .ok (.goto 4, 3) := by decide +kernel
theorem dL_law_1422 : decode cL_law 1422 = .ok (.iconst 0, 1) := by decide +kernel
theorem dL_law_1423 : decode cL_law 1423 = .ok (.invokevirtual 164, 3) := by decide +kernel
theorem dL_law_1426 : decode cL_law 1426 = .ok (.dstore 6, 2) := by decide +kernel
theorem dL_law_1428 : decode cL_law 1428 = .ok (.aload_n 2, 1) := by decide +kernel
theorem dL_law_1429 : decode cL_law 1429 = .ok (.aload_n 0, 1) := by decide +kernel
theorem dL_law_1430 : decode cL_law 1430 = .ok (.iload 5, 2) := by decide +kernel
theorem dL_law_1432 : decode cL_law 1432 = .ok (.iconst 1, 1) := by decide +kernel
theorem dL_law_1433 : decode cL_law 1433 = .ok (.iadd, 1) := by decide +kernel
theorem dL_law_1434 : decode cL_law 1434 = .ok (.iaload, 1) := by decide +kernel
theorem dL_law_1435 : decode cL_law 1435 = .ok (.ifCond .eq 7, 3) := by decide +kernel
theorem dL_law_1438 : decode cL_law 1438 = .ok (.iconst 1, 1) := by decide +kernel
theorem dL_law_1439 : decode cL_law 1439 = .ok (.goto 4, 3) := by decide +kernel
theorem dL_law_1442 : decode cL_law 1442 = .ok (.iconst 0, 1) := by decide +kernel
theorem dL_law_1443 : decode cL_law 1443 = .ok (.invokevirtual 168, 3) := by decide +kernel
theorem dL_law_1446 : decode cL_law 1446 = .ok (.dstore 8, 2) := by decide +kernel
theorem dL_law_1448 : decode cL_law 1448 = .ok (.dload 6, 2) := by decide +kernel
theorem dL_law_1450 : decode cL_law 1450 = .ok (.dload 8, 2) := by decide +kernel
theorem dL_law_1452 : decode cL_law 1452 = .ok (.dcmp .l, 1) := by decide +kernel
theorem dL_law_1453 : decode cL_law 1453 = .ok (.ifCond .eq 21, 3) := by decide +kernel
theorem dL_law_1456 : decode cL_law 1456 = .ok (.dload 6, 2) := by decide +kernel
theorem dL_law_1458 : decode cL_law 1458 = .ok (.dload 6, 2) := by decide +kernel
theorem dL_law_1460 : decode cL_law 1460 = .ok (.dcmp .l, 1) := by decide +kernel
theorem dL_law_1461 : decode cL_law 1461 = .ok (.ifCond .eq 11, 3) := by decide +kernel
theorem dL_law_1464 : decode cL_law 1464 = .ok (.dload 8, 2) := by decide +kernel
theorem dL_law_1466 : decode cL_law 1466 = .ok (.dload 8, 2) := by decide +kernel
theorem dL_law_1468 : decode cL_law 1468 = .ok (.dcmp .l, 1) := by decide +kernel
theorem dL_law_1469 : decode cL_law 1469 = .ok (.ifCond .ne 5, 3) := by decide +kernel
theorem dL_law_1472 : decode cL_law 1472 = .ok (.iconst 0, 1) := by decide +kernel
theorem dL_law_1473 : decode cL_law 1473 = .ok (.ireturn, 1) := by decide +kernel
theorem dL_law_1474 : decode cL_law 1474 = .ok (.goto 30, 3) := by decide +kernel
theorem dL_law_1477 : decode cL_law 1477 = .ok (.aload_n 1, 1) := by decide +kernel
theorem dL_law_1478 : decode cL_law 1478 = .ok (.invokevirtual 169, 3) := by decide +kernel
theorem dL_law_1481 : decode cL_law 1481 = .ok (.aload_n 2, 1) := by decide +kernel
theorem dL_law_1482 : decode cL_law 1482 = .ok (.invokevirtual 172, 3) := by decide +kernel
theorem dL_law_1485 : decode cL_law 1485 = .ok (.if_icmp .eq 19, 3) := by decide +kernel
theorem dL_law_1488 : decode cL_law 1488 = .ok (.iconst 0, 1) := by decide +kernel
theorem dL_law_1489 : decode cL_law 1489 = .ok (.ireturn, 1) := by decide +kernel
theorem dL_law_1490 : decode cL_law 1490 = .ok (.aload_n 1, 1) := by decide +kernel
theorem dL_law_1491 : decode cL_law 1491 = .ok (.invokevirtual 173, 3) := by decide +kernel
theorem dL_law_1494 : decode cL_law 1494 = .ok (.aload_n 2, 1) := by decide +kernel
theorem dL_law_1495 : decode cL_law 1495 = .ok (.invokevirtual 177, 3) := by decide +kernel
theorem dL_law_1498 : decode cL_law 1498 = .ok (.lcmp, 1) := by decide +kernel
theorem dL_law_1499 : decode cL_law 1499 = .ok (.ifCond .eq 5, 3) := by decide +kernel
theorem dL_law_1502 : decode cL_law 1502 = .ok (.iconst 0, 1) := by decide +kernel
theorem dL_law_1503 : decode cL_law 1503 = .ok (.ireturn, 1) := by decide +kernel
theorem dL_law_1504 : decode cL_law 1504 = .ok (.iinc 5 4, 3) := by decide +kernel
theorem dL_law_1507 : decode cL_law 1507 = .ok (.goto (-1479), 3) := by decide +kernel
theorem dL_law_1510 : decode cL_law 1510 = .ok (.iconst 1, 1) := by decide +kernel
theorem dL_law_1511 : decode cL_law 1511 = .ok (.ireturn, 1) := by decide +kernel
